set_option maxRecDepth 20000 in
theorem ggX0_init_X2_init : GoodIn wsX0_init wsX2_init := goodIn_r _ [17, 18, 2, 3, 5, 19, 20, 21, 32, 33, 34] (by decide +kernel) (by decide +kernel)
set_option maxRecDepth 20000 in
theorem gX0_init_X2_init : GoodIn wsX0_init (wsX2_init) := ggX0_init_X2_init
theorem dX0_init_0 : decode cX0_init 0 = .ok (.aload_n 0, 1) := by decide +kernel
theorem dX0_init_1 : decode cX0_init 1 = .ok (.invokespecial 3, 3) := by decide +kernel
theorem dX0_init_4 : decode cX0_init 4 = .ok (.aload_n 0, 1) := by decide +kernel
theorem dX0_init_5 : decode cX0_init 5 = .ok (.bipush 8, 2) := by decide +kernel
theorem dX0_init_7 : decode cX0_init 7 = .ok (.bipush 16, 2) := by decide +kernel
theorem dX0_init_9 : decode cX0_init 9 = .ok (.multianewarray 9 2, 4) := by decide +kernel
theorem dX0_init_13 : decode cX0_init 13 = .ok (.putfield 11, 3) := by decide +kernel
theorem dX0_init_16 : decode cX0_init 16 = .ok (.iconst 0, 1) := by decide +kernel
theorem dX0_init_17 : decode cX0_init 17 = .ok (.istore_n 1, 1) := by decide +kernel
theorem dX0_init_18 : decode cX0_init 18 = .ok (.iload_n 1, 1) := by decide +kernel
theorem dX0_init_19 : decode cX0_init 19 = .ok (.bipush 16, 2) := by decide +kernel
theorem dX0_init_21 : decode cX0_init 21 = .ok (.if_icmp .ge 36, 3) := by decide +kernel
theorem dX0_init_24 : decode cX0_init 24 = .ok (.aload_n 0, 1) := by decide +kernel
theorem dX0_init_25 : decode cX0_init 25 = .ok (.getfield 11, 3) := by decide +kernel
theorem dX0_init_28 : decode cX0_init 28 = .ok (.iconst 0, 1) := by decide +kernel
theorem dX0_init_29 : decode cX0_init 29 = .ok (.aaload, 1) := by decide +kernel
theorem dX0_init_30 : decode cX0_init 30 = .ok (.iload_n 1, 1) := by decide +kernel
theorem dX0_init_31 : decode cX0_init 31 = .ok (.iconst (-1), 1) := by decide +kernel
theorem dX0_init_32 : decode cX0_init 32 = .ok (.iastore, 1) := by decide +kernel
theorem dX0_init_33 : decode cX0_init 33 = .ok (.aload_n 0, 1) := by decide +kernel
theorem dX0_init_34 : decode cX0_init 34 = .ok (.getfield 11, 3) := by decide +kernel
theorem dX0_init_37 : decode cX0_init 37 = .ok (.iconst 2, 1) := by decide +kernel
theorem dX0_init_38 : decode cX0_init 38 = .ok (.aaload, 1) := by decide +kernel
theorem dX0_init_39 : decode cX0_init 39 = .ok (.iload_n 1, 1) := by decide +kernel
theorem dX0_init_40 : decode cX0_init 40 = .ok (.iconst (-1), 1) := by decide +kernel
theorem dX0_init_41 : decode cX0_init 41 = .ok (.iastore, 1) := by decide +kernel
theorem dX0_init_42 : decode cX0_init 42 = .ok (.aload_n 0, 1) := by decide +kernel
theorem dX0_init_43 : decode cX0_init 43 = .ok (.getfield 11, 3) := by decide +kernel
theorem dX0_init_46 : decode cX0_init 46 = .ok (.iconst 3, 1) := by decide +kernel
theorem dX0_init_47 : decode cX0_init 47 = .ok (.aaload, 1) := by decide +kernel
theorem dX0_init_48 : decode cX0_init 48 = .ok (.iload_n 1, 1) := by decide +kernel
theorem dX0_init_49 : decode cX0_init 49 = .ok (.iconst (-1), 1) := by decide +kernel
theorem dX0_init_50 : decode cX0_init 50 = .ok (.iastore, 1) := by decide +kernel
theorem dX0_init_51 : decode cX0_init 51 = .ok (.iinc 1 1, 3) := by decide +kernel
theorem dX0_init_54 : decode cX0_init 54 = .ok (.goto (-36), 3) := by decide +kernel
theorem dX0_init_57 : decode cX0_init 57 = .ok (.aload_n 0, 1) := by decide +kernel
theorem dX0_init_58 : decode cX0_init 58 = .ok (.iconst 3, 1) := by decide +kernel
theorem dX0_init_59 : decode cX0_init 59 = .ok (.bipush 24, 2) := by decide +kernel
theorem dX0_init_61 : decode cX0_init 61 = .ok (.multianewarray 9 2, 4) := by decide +kernel
theorem dX0_init_65 : decode cX0_init 65 = .ok (.putfield 16, 3) := by decide +kernel
theorem dX0_init_68 : decode cX0_init 68 = .ok (.iconst 0, 1) := by decide +kernel
theorem dX0_init_69 : decode cX0_init 69 = .ok (.istore_n 1, 1) := by decide +kernel
theorem dX0_init_70 : decode cX0_init 70 = .ok (.iload_n 1, 1) := by decide +kernel
theorem dX0_init_71 : decode cX0_init 71 = .ok (.bipush 24, 2) := by decide +kernel
theorem dX0_init_73 : decode cX0_init 73 = .ok (.if_icmp .ge 36, 3) := by decide +kernel
theorem dX0_init_76 : decode cX0_init 76 = .ok (.aload_n 0, 1) := by decide +kernel
theorem dX0_init_77 : decode cX0_init 77 = .ok (.getfield 16, 3) := by decide +kernel
theorem dX0_init_80 : decode cX0_init 80 = .ok (.iconst 0, 1) := by decide +kernel
theorem dX0_init_81 : decode cX0_init 81 = .ok (.aaload, 1) := by decide +kernel
theorem dX0_init_82 : decode cX0_init 82 = .ok (.iload_n 1, 1) := by decide +kernel
theorem dX0_init_83 : decode cX0_init 83 = .ok (.iconst (-1), 1) := by decide +kernel
theorem dX0_init_84 : decode cX0_init 84 = .ok (.iastore, 1) := by decide +kernel
theorem dX0_init_85 : decode cX0_init 85 = .ok (.aload_n 0, 1) := by decide +kernel
theorem dX0_init_86 : decode cX0_init 86 = .ok (.getfield 16, 3) := by decide +kernel
theorem dX0_init_89 : decode cX0_init 89 = .ok (.iconst 1, 1) := by decide +kernel
theorem dX0_init_90 : decode cX0_init 90 = .ok (.aaload, 1) := by decide +kernel
theorem dX0_init_91 : decode cX0_init 91 = .ok (.iload_n 1, 1) := by decide +kernel
theorem dX0_init_92 : decode cX0_init 92 = .ok (.iconst (-1), 1) := by decide +kernel
theorem dX0_init_93 : decode cX0_init 93 = .ok (.iastore, 1) := by decide +kernel
theorem dX0_init_94 : decode cX0_init 94 = .ok (.aload_n 0, 1) := by decide +kernel
theorem dX0_init_95 : decode cX0_init 95 = .ok (.getfield 16, 3) := by decide +kernel
theorem dX0_init_98 : decode cX0_init 98 = .ok (.iconst 2, 1) := by decide +kernel
theorem dX0_init_99 : decode cX0_init 99 = .ok (.aaload, 1) := by decide +kernel
theorem dX0_init_100 : decode cX0_init 100 = .ok (.iload_n 1, 1) := by decide +kernel
theorem dX0_init_101 : decode cX0_init 101 = .ok (.iconst 1, 1) := by decide +kernel
theorem dX0_init_102 : decode cX0_init 102 = .ok (.iastore, 1) := by decide +kernel
theorem dX0_init_103 : decode cX0_init 103 = .ok (.iinc 1 1, 3) := by decide +kernel
theorem dX0_init_106 : decode cX0_init 106 = .ok (.goto (-36), 3) := by decide +kernel
theorem dX0_init_109 : decode cX0_init 109 = .ok (.aload_n 0, 1) := by decide +kernel
theorem dX0_init_110 : decode cX0_init 110 = .ok (.iconst 2, 1) := by decide +kernel
theorem dX0_init_111 : decode cX0_init 111 = .ok (.newarray .int, 2) := by decide +kernel
theorem dX0_init_113 : decode cX0_init 113 = .ok (.putfield 19, 3) := by decide +kernel
theorem dX0_init_116 : decode cX0_init 116 = .ok (.aload_n 0, 1) := by decide +kernel
theorem dX0_init_117 : decode cX0_init 117 = .ok (.getfield 19, 3) := by decide +kernel
theorem dX0_init_120 : decode cX0_init 120 = .ok (.iconst 0, 1) := by decide +kernel
theorem dX0_init_121 : decode cX0_init 121 = .ok (.sipush 1080, 3) := by decide +kernel
theorem dX0_init_124 : decode cX0_init 124 = .ok (.iastore, 1) := by decide +kernel
theorem dX0_init_125 : decode cX0_init 125 = .ok (.aload_n 0, 1) := by decide +kernel
theorem dX0_init_126 : decode cX0_init 126 = .ok (.getfield 19, 3) := by decide +kernel
theorem dX0_init_129 : decode cX0_init 129 = .ok (.iconst 1, 1) := by decide +kernel
theorem dX0_init_130 : decode cX0_init 130 = .ok (.bipush 6, 2) := by decide +kernel
theorem dX0_init_132 : decode cX0_init 132 = .ok (.iastore, 1) := by decide +kernel
theorem dX0_init_133 : decode cX0_init 133 = .ok (.aload_n 0, 1) := by decide +kernel
theorem dX0_init_134 : decode cX0_init 134 = .ok (.iconst 4, 1) := by decide +kernel
theorem dX0_init_135 : decode cX0_init 135 = .ok (.newarray .int, 2) := by decide +kernel
theorem dX0_init_137 : decode cX0_init 137 = .ok (.putfield 23, 3) := by decide +kernel
theorem dX0_init_140 : decode cX0_init 140 = .ok (.aload_n 0, 1) := by decide +kernel
theorem dX0_init_141 : decode cX0_init 141 = .ok (.iconst 2, 1) := by decide +kernel
theorem dX0_init_142 : decode cX0_init 142 = .ok (.newarray .int, 2) := by decide +kernel
theorem dX0_init_144 : decode cX0_init 144 = .ok (.putfield 26, 3) := by decide +kernel
theorem dX0_init_147 : decode cX0_init 147 = .ok (.aload_n 0, 1) := by decide +kernel
theorem dX0_init_148 : decode cX0_init 148 = .ok (.getfield 26, 3) := by decide +kernel
theorem dX0_init_151 : decode cX0_init 151 = .ok (.iconst 0, 1) := by decide +kernel
theorem dX0_init_152 : decode cX0_init 152 = .ok (.iconst (-1), 1) := by decide +kernel
theorem dX0_init_153 : decode cX0_init 153 = .ok (.iastore, 1) := by decide +kernel
theorem dX0_init_154 : decode cX0_init 154 = .ok (.aload_n 0, 1) := by decide +kernel
theorem dX0_init_155 : decode cX0_init 155 = .ok (.getfield 26, 3) := by decide +kernel
theorem dX0_init_158 : decode cX0_init 158 = .ok (.iconst 1, 1) := by decide +kernel
theorem dX0_init_159 : decode cX0_init 159 = .ok (.iconst (-1), 1) := by decide +kernel
theorem dX0_init_160 : decode cX0_init 160 = .ok (.iastore, 1) := by decide +kernel
theorem dX0_init_161 : decode cX0_init 161 = .ok (.aload_n 0, 1) := by decide +kernel
theorem dX0_init_162 : decode cX0_init 162 = .ok (.new 29, 3) := by decide +kernel
theorem dX0_init_165 : decode cX0_init 165 = .ok (.dup, 1) := by decide +kernel
theorem dX0_init_166 : decode cX0_init 166 = .ok (.invokespecial 31, 3) := by decide +kernel
theorem dX0_init_169 : decode cX0_init 169 = .ok (.putfield 32, 3) := by decide +kernel
theorem dX0_init_172 : decode cX0_init 172 = .ok (.return_, 1) := by decide +kernel
set_option maxRecDepth 20000 in
theorem ggX0_copyFrom_X2_copyFrom : GoodIn wsX0_copyFrom wsX2_copyFrom := goodIn_r _ [19, 20, 21, 3, 4, 5, 22, 23, 34, 35, 36] (by decide +kernel) (by decide +kernel)
set_option maxRecDepth 20000 in
theorem gX0_copyFrom_X2_copyFrom : GoodIn wsX0_copyFrom (wsV RX0 42 RX2 yX2_copyFrom wsX2_copyFrom) := goodIn_app (goodIn_of _ (by decide +kernel)) ggX0_copyFrom_X2_copyFrom
theorem dX0_copyFrom_0 : decode cX0_copyFrom 0 = .ok (.iconst 0, 1) := by decide +kernel
theorem dX0_copyFrom_1 : decode cX0_copyFrom 1 = .ok (.istore_n 2, 1) := by decide +kernel
theorem dX0_copyFrom_2 : decode cX0_copyFrom 2 = .ok (.iload_n 2, 1) := by decide +kernel
theorem dX0_copyFrom_3 : decode cX0_copyFrom 3 = .ok (.bipush 8, 2) := by decide +kernel
theorem dX0_copyFrom_5 : decode cX0_copyFrom 5 = .ok (.if_icmp .ge 28, 3) := by decide +kernel
theorem dX0_copyFrom_8 : decode cX0_copyFrom 8 = .ok (.aload_n 1, 1) := by decide +kernel
theorem dX0_copyFrom_9 : decode cX0_copyFrom 9 = .ok (.getfield 11, 3) := by decide +kernel
theorem dX0_copyFrom_12 : decode cX0_copyFrom 12 = .ok (.iload_n 2, 1) := by decide +kernel
theorem dX0_copyFrom_13 : decode cX0_copyFrom 13 = .ok (.aaload, 1) := by decide +kernel
theorem dX0_copyFrom_14 : decode cX0_copyFrom 14 = .ok (.iconst 0, 1) := by decide +kernel
theorem dX0_copyFrom_15 : decode cX0_copyFrom 15 = .ok (.aload_n 0, 1) := by decide +kernel
theorem dX0_copyFrom_16 : decode cX0_copyFrom 16 = .ok (.getfield 11, 3) := by decide +kernel
theorem dX0_copyFrom_19 : decode cX0_copyFrom 19 = .ok (.iload_n 2, 1) := by decide +kernel
theorem dX0_copyFrom_20 : decode cX0_copyFrom 20 = .ok (.aaload, 1) := by decide +kernel
theorem dX0_copyFrom_21 : decode cX0_copyFrom 21 = .ok (.iconst 0, 1) := by decide +kernel
theorem dX0_copyFrom_22 : decode cX0_copyFrom 22 = .ok (.bipush 16, 2) := by decide +kernel
theorem dX0_copyFrom_24 : decode cX0_copyFrom 24 = .ok (.invokestatic 36, 3) := by decide +kernel
theorem dX0_copyFrom_27 : decode cX0_copyFrom 27 = .ok (.iinc 2 1, 3) := by decide +kernel
theorem dX0_copyFrom_30 : decode cX0_copyFrom 30 = .ok (.goto (-28), 3) := by decide +kernel
theorem dX0_copyFrom_33 : decode cX0_copyFrom 33 = .ok (.iconst 0, 1) := by decide +kernel
theorem dX0_copyFrom_34 : decode cX0_copyFrom 34 = .ok (.istore_n 2, 1) := by decide +kernel
theorem dX0_copyFrom_35 : decode cX0_copyFrom 35 = .ok (.iload_n 2, 1) := by decide +kernel
theorem dX0_copyFrom_36 : decode cX0_copyFrom 36 = .ok (.iconst 3, 1) := by decide +kernel
theorem dX0_copyFrom_37 : decode cX0_copyFrom 37 = .ok (.if_icmp .ge 28, 3) := by decide +kernel
theorem dX0_copyFrom_40 : decode cX0_copyFrom 40 = .ok (.aload_n 1, 1) := by decide +kernel
theorem dX0_copyFrom_41 : decode cX0_copyFrom 41 = .ok (.getfield 16, 3) := by decide +kernel
theorem dX0_copyFrom_44 : decode cX0_copyFrom 44 = .ok (.iload_n 2, 1) := by decide +kernel
theorem dX0_copyFrom_45 : decode cX0_copyFrom 45 = .ok (.aaload, 1) := by decide +kernel
theorem dX0_copyFrom_46 : decode cX0_copyFrom 46 = .ok (.iconst 0, 1) := by decide +kernel
theorem dX0_copyFrom_47 : decode cX0_copyFrom 47 = .ok (.aload_n 0, 1) := by decide +kernel
theorem dX0_copyFrom_48 : decode cX0_copyFrom 48 = .ok (.getfield 16, 3) := by decide +kernel
theorem dX0_copyFrom_51 : decode cX0_copyFrom 51 = .ok (.iload_n 2, 1) := by decide +kernel
theorem dX0_copyFrom_52 : decode cX0_copyFrom 52 = .ok (.aaload, 1) := by decide +kernel
theorem dX0_copyFrom_53 : decode cX0_copyFrom 53 = .ok (.iconst 0, 1) := by decide +kernel
theorem dX0_copyFrom_54 : decode cX0_copyFrom 54 = .ok (.bipush 24, 2) := by decide +kernel
theorem dX0_copyFrom_56 : decode cX0_copyFrom 56 = .ok (.invokestatic 36, 3) := by decide +kernel
theorem dX0_copyFrom_59 : decode cX0_copyFrom 59 = .ok (.iinc 2 1, 3) := by decide +kernel
theorem dX0_copyFrom_62 : decode cX0_copyFrom 62 = .ok (.goto (-27), 3) := by decide +kernel
theorem dX0_copyFrom_65 : decode cX0_copyFrom 65 = .ok (.aload_n 1, 1) := by decide +kernel
theorem dX0_copyFrom_66 : decode cX0_copyFrom 66 = .ok (.getfield 19, 3) := by decide +kernel
theorem dX0_copyFrom_69 : decode cX0_copyFrom 69 = .ok (.iconst 0, 1) := by decide +kernel
theorem dX0_copyFrom_70 : decode cX0_copyFrom 70 = .ok (.aload_n 0, 1) := by decide +kernel
theorem dX0_copyFrom_71 : decode cX0_copyFrom 71 = .ok (.getfield 19, 3) := by decide +kernel
theorem dX0_copyFrom_74 : decode cX0_copyFrom 74 = .ok (.iconst 0, 1) := by decide +kernel
theorem dX0_copyFrom_75 : decode cX0_copyFrom 75 = .ok (.iconst 2, 1) := by decide +kernel
theorem dX0_copyFrom_76 : decode cX0_copyFrom 76 = .ok (.invokestatic 36, 3) := by decide +kernel
theorem dX0_copyFrom_79 : decode cX0_copyFrom 79 = .ok (.aload_n 1, 1) := by decide +kernel
theorem dX0_copyFrom_80 : decode cX0_copyFrom 80 = .ok (.getfield 23, 3) := by decide +kernel
theorem dX0_copyFrom_83 : decode cX0_copyFrom 83 = .ok (.iconst 0, 1) := by decide +kernel
theorem dX0_copyFrom_84 : decode cX0_copyFrom 84 = .ok (.aload_n 0, 1) := by decide +kernel
theorem dX0_copyFrom_85 : decode cX0_copyFrom 85 = .ok (.getfield 23, 3) := by decide +kernel
theorem dX0_copyFrom_88 : decode cX0_copyFrom 88 = .ok (.iconst 0, 1) := by decide +kernel
theorem dX0_copyFrom_89 : decode cX0_copyFrom 89 = .ok (.iconst 4, 1) := by decide +kernel
theorem dX0_copyFrom_90 : decode cX0_copyFrom 90 = .ok (.invokestatic 36, 3) := by decide +kernel
theorem dX0_copyFrom_93 : decode cX0_copyFrom 93 = .ok (.aload_n 1, 1) := by decide +kernel
theorem dX0_copyFrom_94 : decode cX0_copyFrom 94 = .ok (.getfield 26, 3) := by decide +kernel
theorem dX0_copyFrom_97 : decode cX0_copyFrom 97 = .ok (.iconst 0, 1) := by decide +kernel
theorem dX0_copyFrom_98 : decode cX0_copyFrom 98 = .ok (.aload_n 0, 1) := by decide +kernel
theorem dX0_copyFrom_99 : decode cX0_copyFrom 99 = .ok (.getfield 26, 3) := by decide +kernel
theorem dX0_copyFrom_102 : decode cX0_copyFrom 102 = .ok (.iconst 0, 1) := by decide +kernel
theorem dX0_copyFrom_103 : decode cX0_copyFrom 103 = .ok (.iconst 2, 1) := by decide +kernel
theorem dX0_copyFrom_104 : decode cX0_copyFrom 104 = .ok (.invokestatic 36, 3) := by decide +kernel
theorem dX0_copyFrom_107 : decode cX0_copyFrom 107 = .ok (.aload_n 0, 1) := by decide +kernel
theorem dX0_copyFrom_108 : decode cX0_copyFrom 108 = .ok (.getfield 32, 3) := by decide +kernel
theorem dX0_copyFrom_111 : decode cX0_copyFrom 111 = .ok (.aload_n 1, 1) := by decide +kernel
theorem dX0_copyFrom_112 : decode cX0_copyFrom 112 = .ok (.getfield 32, 3) := by decide +kernel
theorem dX0_copyFrom_115 : decode cX0_copyFrom 115 = .ok (.invokevirtual 42, 3) := by decide +kernel
theorem dX0_copyFrom_118 : decode cX0_copyFrom 118 = .ok (.aload_n 0, 1) := by decide +kernel
theorem dX0_copyFrom_119 : decode cX0_copyFrom 119 = .ok (.aload_n 1, 1) := by decide +kernel
theorem dX0_copyFrom_120 : decode cX0_copyFrom 120 = .ok (.getfield 46, 3) := by decide +kernel
theorem dX0_copyFrom_123 : decode cX0_copyFrom 123 = .ok (.putfield 46, 3) := by decide +kernel
theorem dX0_copyFrom_126 : decode cX0_copyFrom 126 = .ok (.aload_n 0, 1) := by decide +kernel
theorem dX0_copyFrom_127 : decode cX0_copyFrom 127 = .ok (.aload_n 1, 1) := by decide +kernel
theorem dX0_copyFrom_128 : decode cX0_copyFrom 128 = .ok (.getfield 50, 3) := by decide +kernel
theorem dX0_copyFrom_131 : decode cX0_copyFrom 131 = .ok (.putfield 50, 3) := by decide +kernel
theorem dX0_copyFrom_134 : decode cX0_copyFrom 134 = .ok (.aload_n 0, 1) := by decide +kernel
theorem dX0_copyFrom_135 : decode cX0_copyFrom 135 = .ok (.aload_n 1, 1) := by decide +kernel
theorem dX0_copyFrom_136 : decode cX0_copyFrom 136 = .ok (.getfield 53, 3) := by decide +kernel
theorem dX0_copyFrom_139 : decode cX0_copyFrom 139 = .ok (.putfield 53, 3) := by decide +kernel
theorem dX0_copyFrom_142 : decode cX0_copyFrom 142 = .ok (.aload_n 0, 1) := by decide +kernel
theorem dX0_copyFrom_143 : decode cX0_copyFrom 143 = .ok (.aload_n 1, 1) := by decide +kernel
theorem dX0_copyFrom_144 : decode cX0_copyFrom 144 = .ok (.getfield 56, 3) := by decide +kernel
theorem dX0_copyFrom_147 : decode cX0_copyFrom 147 = .ok (.putfield 56, 3) := by decide +kernel
theorem dX0_copyFrom_150 : decode cX0_copyFrom 150 = .ok (.return_, 1) := by decide +kernel
theorem dX0_exists_0 : decode cX0_exists 0 = .ok (.iload_n 1, 1) := by decide +kernel
theorem dX0_exists_1 : decode cX0_exists 1 = .ok (.ifCond .lt 25, 3) := by decide +kernel
theorem dX0_exists_4 : decode cX0_exists 4 = .ok (.iload_n 1, 1) := by decide +kernel
theorem dX0_exists_5 : decode cX0_exists 5 = .ok (.bipush 16, 2) := by decide +kernel
theorem dX0_exists_7 : decode cX0_exists 7 = .ok (.if_icmp .ge 19, 3) := by decide +kernel
theorem dX0_exists_10 : decode cX0_exists 10 = .ok (.aload_n 0, 1) := by decide +kernel
theorem dX0_exists_11 : decode cX0_exists 11 = .ok (.getfield 11, 3) := by decide +kernel
theorem dX0_exists_14 : decode cX0_exists 14 = .ok (.iconst 0, 1) := by decide +kernel
theorem dX0_exists_15 : decode cX0_exists 15 = .ok (.aaload, 1) := by decide +kernel
theorem dX0_exists_16 : decode cX0_exists 16 = .ok (.iload_n 1, 1) := by decide +kernel
theorem dX0_exists_17 : decode cX0_exists 17 = .ok (.iaload, 1) := by decide +kernel
theorem dX0_exists_18 : decode cX0_exists 18 = .ok (.iconst (-1), 1) := by decide +kernel
theorem dX0_exists_19 : decode cX0_exists 19 = .ok (.if_icmp .eq 7, 3) := by decide +kernel
theorem dX0_exists_22 : decode cX0_exists 22 = .ok (.iconst 1, 1) := by decide +kernel
theorem dX0_exists_23 : decode cX0_exists 23 = .ok (.goto 4, 3) := by decide +kernel
theorem dX0_exists_26 : decode cX0_exists 26 = .ok (.iconst 0, 1) := by decide +kernel
theorem dX0_exists_27 : decode cX0_exists 27 = .ok (.ireturn, 1) := by decide +kernel
set_option maxRecDepth 20000 in
theorem ggX0_isOpen_X3_isHole : GoodIn wsX0_isOpen wsX3_isHole := goodIn_r _ [4] (by decide +kernel) (by decide +kernel)
set_option maxRecDepth 20000 in
theorem gX0_isOpen_X3_isHole_n59 : GoodIn wsX0_isOpen (wsX3_isHole) := ggX0_isOpen_X3_isHole
theorem dX0_isOpen_0 : decode cX0_isOpen 0 = .ok (.iload_n 1, 1) := by decide +kernel
theorem dX0_isOpen_1 : decode cX0_isOpen 1 = .ok (.invokestatic 59, 3) := by decide +kernel
theorem dX0_isOpen_4 : decode cX0_isOpen 4 = .ok (.ifCond .eq 19, 3) := by decide +kernel
theorem dX0_isOpen_7 : decode cX0_isOpen 7 = .ok (.aload_n 0, 1) := by decide +kernel
theorem dX0_isOpen_8 : decode cX0_isOpen 8 = .ok (.getfield 16, 3) := by decide +kernel
theorem dX0_isOpen_11 : decode cX0_isOpen 11 = .ok (.iconst 2, 1) := by decide +kernel
theorem dX0_isOpen_12 : decode cX0_isOpen 12 = .ok (.aaload, 1) := by decide +kernel
theorem dX0_isOpen_13 : decode cX0_isOpen 13 = .ok (.iload_n 1, 1) := by decide +kernel
theorem dX0_isOpen_14 : decode cX0_isOpen 14 = .ok (.iaload, 1) := by decide +kernel
theorem dX0_isOpen_15 : decode cX0_isOpen 15 = .ok (.iconst 1, 1) := by decide +kernel
theorem dX0_isOpen_16 : decode cX0_isOpen 16 = .ok (.if_icmp .ne 7, 3) := by decide +kernel
theorem dX0_isOpen_19 : decode cX0_isOpen 19 = .ok (.iconst 1, 1) := by decide +kernel
theorem dX0_isOpen_20 : decode cX0_isOpen 20 = .ok (.goto 4, 3) := by decide +kernel
theorem dX0_isOpen_23 : decode cX0_isOpen 23 = .ok (.iconst 0, 1) := by decide +kernel
theorem dX0_isOpen_24 : decode cX0_isOpen 24 = .ok (.ireturn, 1) := by decide +kernel
set_option maxRecDepth 20000 in
theorem ggX0_isFree_X3_isHole : GoodIn wsX0_isFree wsX3_isHole := goodIn_r _ [4] (by decide +kernel) (by decide +kernel)
set_option maxRecDepth 20000 in
theorem gX0_isFree_X3_isHole_n59 : GoodIn wsX0_isFree (wsX3_isHole) := ggX0_isFree_X3_isHole
theorem dX0_isFree_0 : decode cX0_isFree 0 = .ok (.iload_n 1, 1) := by decide +kernel
theorem dX0_isFree_1 : decode cX0_isFree 1 = .ok (.invokestatic 59, 3) := by decide +kernel
theorem dX0_isFree_4 : decode cX0_isFree 4 = .ok (.ifCond .eq 31, 3) := by decide +kernel
theorem dX0_isFree_7 : decode cX0_isFree 7 = .ok (.aload_n 0, 1) := by decide +kernel
theorem dX0_isFree_8 : decode cX0_isFree 8 = .ok (.getfield 16, 3) := by decide +kernel
theorem dX0_isFree_11 : decode cX0_isFree 11 = .ok (.iconst 2, 1) := by decide +kernel
theorem dX0_isFree_12 : decode cX0_isFree 12 = .ok (.aaload, 1) := by decide +kernel
theorem dX0_isFree_13 : decode cX0_isFree 13 = .ok (.iload_n 1, 1) := by decide +kernel
theorem dX0_isFree_14 : decode cX0_isFree 14 = .ok (.iaload, 1) := by decide +kernel
theorem dX0_isFree_15 : decode cX0_isFree 15 = .ok (.iconst 1, 1) := by decide +kernel
theorem dX0_isFree_16 : decode cX0_isFree 16 = .ok (.if_icmp .ne 19, 3) := by decide +kernel
theorem dX0_isFree_19 : decode cX0_isFree 19 = .ok (.aload_n 0, 1) := by decide +kernel
theorem dX0_isFree_20 : decode cX0_isFree 20 = .ok (.getfield 16, 3) := by decide +kernel
theorem dX0_isFree_23 : decode cX0_isFree 23 = .ok (.iconst 0, 1) := by decide +kernel
theorem dX0_isFree_24 : decode cX0_isFree 24 = .ok (.aaload, 1) := by decide +kernel
theorem dX0_isFree_25 : decode cX0_isFree 25 = .ok (.iload_n 1, 1) := by decide +kernel
theorem dX0_isFree_26 : decode cX0_isFree 26 = .ok (.iaload, 1) := by decide +kernel
theorem dX0_isFree_27 : decode cX0_isFree 27 = .ok (.iconst (-1), 1) := by decide +kernel
theorem dX0_isFree_28 : decode cX0_isFree 28 = .ok (.if_icmp .ne 7, 3) := by decide +kernel
theorem dX0_isFree_31 : decode cX0_isFree 31 = .ok (.iconst 1, 1) := by decide +kernel
theorem dX0_isFree_32 : decode cX0_isFree 32 = .ok (.goto 4, 3) := by decide +kernel
theorem dX0_isFree_35 : decode cX0_isFree 35 = .ok (.iconst 0, 1) := by decide +kernel
theorem dX0_isFree_36 : decode cX0_isFree 36 = .ok (.ireturn, 1) := by decide +kernel
set_option maxRecDepth 20000 in
theorem ggX0_numberOf_X0_doveCount : GoodIn wsX0_numberOf wsX0_doveCount := goodIn_r _ [11, 12, 13, 14, 10, 15, 16, 45, 46, 47, 48, 49, 50, 51, 52, 53, 54] (by decide +kernel) (by decide +kernel)
set_option maxRecDepth 20000 in
theorem gX0_numberOf_X0_doveCount : GoodIn wsX0_numberOf (wsV RX0 63 RX0 yX0_doveCount wsX0_doveCount) := goodIn_app (goodIn_of _ (by decide +kernel)) ggX0_numberOf_X0_doveCount
set_option maxRecDepth 20000 in
theorem ggX0_numberOf_X0_sittingByDoves : GoodIn wsX0_numberOf wsX0_sittingByDoves := goodIn_r _ [20, 7, 8, 9, 10, 11, 12, 13, 14, 15, 16, 21, 22, 23, 24, 45, 46, 47, 48, 49, 50, 51, 52, 53, 54] (by decide +kernel) (by decide +kernel)
set_option maxRecDepth 20000 in
theorem gX0_numberOf_X0_sittingByDoves : GoodIn wsX0_numberOf (wsV RX0 67 RX0 yX0_sittingByDoves wsX0_sittingByDoves) := goodIn_app (goodIn_of _ (by decide +kernel)) ggX0_numberOf_X0_sittingByDoves
set_option maxRecDepth 20000 in
theorem ggX0_numberOf_X0_sittingByHoles : GoodIn wsX0_numberOf wsX0_sittingByHoles := goodIn_r _ [28, 29, 45, 46, 47, 48, 49, 50, 51, 52, 53, 54] (by decide +kernel) (by decide +kernel)
set_option maxRecDepth 20000 in
theorem gX0_numberOf_X0_sittingByHoles : GoodIn wsX0_numberOf (wsV RX0 70 RX0 yX0_sittingByHoles wsX0_sittingByHoles) := goodIn_app (goodIn_of _ (by decide +kernel)) ggX0_numberOf_X0_sittingByHoles
set_option maxRecDepth 20000 in
theorem ggX0_numberOf_X0_placedAt : GoodIn wsX0_numberOf wsX0_placedAt := goodIn_r _ [24, 16, 12, 13, 14, 10, 15, 45, 46, 47, 48, 49, 50, 51, 52, 53, 54] (by decide +kernel) (by decide +kernel)
set_option maxRecDepth 20000 in
theorem gX0_numberOf_X0_placedAt : GoodIn wsX0_numberOf (wsV RX0 73 RX0 yX0_placedAt wsX0_placedAt) := goodIn_app (goodIn_of _ (by decide +kernel)) ggX0_numberOf_X0_placedAt
set_option maxRecDepth 20000 in
theorem ggX0_numberOf_X0_openHoles : GoodIn wsX0_numberOf wsX0_openHoles := goodIn_r _ [33, 34, 35, 36, 10, 37, 29, 38, 39, 40, 45, 46, 47, 48, 49, 50, 51, 52, 53, 54] (by decide +kernel) (by decide +kernel)
set_option maxRecDepth 20000 in
theorem gX0_numberOf_X0_openHoles : GoodIn wsX0_numberOf (wsV RX0 77 RX0 yX0_openHoles wsX0_openHoles) := goodIn_app (goodIn_of _ (by decide +kernel)) ggX0_numberOf_X0_openHoles
set_option maxRecDepth 20000 in
theorem ggX0_numberOf_X0_pairs : GoodIn wsX0_numberOf wsX0_pairs := goodIn_r _ [44, 16, 12, 13, 14, 10, 15, 45, 46, 47, 48, 49, 50, 51, 52, 53, 54] (by decide +kernel) (by decide +kernel)
set_option maxRecDepth 20000 in
theorem gX0_numberOf_X0_pairs : GoodIn wsX0_numberOf (wsV RX0 80 RX0 yX0_pairs wsX0_pairs) := goodIn_app (goodIn_of _ (by decide +kernel)) ggX0_numberOf_X0_pairs
theorem dX0_numberOf_0 : decode cX0_numberOf 0 = .ok (.iload_n 1, 1) := by decide +kernel
theorem dX0_numberOf_1 : decode cX0_numberOf 1 = .ok (.tableswitch 172 0 15 #[79, 84, 89, 94, 99, 104, 111, 117, 122, 127, 132, 137, 144, 151, 158, 165], 79) := by decide +kernel
theorem dX0_numberOf_80 : decode cX0_numberOf 80 = .ok (.aload_n 0, 1) := by decide +kernel
theorem dX0_numberOf_81 : decode cX0_numberOf 81 = .ok (.getfield 46, 3) := by decide +kernel
theorem dX0_numberOf_84 : decode cX0_numberOf 84 = .ok (.ireturn, 1) := by decide +kernel
theorem dX0_numberOf_85 : decode cX0_numberOf 85 = .ok (.aload_n 0, 1) := by decide +kernel
theorem dX0_numberOf_86 : decode cX0_numberOf 86 = .ok (.getfield 50, 3) := by decide +kernel
theorem dX0_numberOf_89 : decode cX0_numberOf 89 = .ok (.ireturn, 1) := by decide +kernel
theorem dX0_numberOf_90 : decode cX0_numberOf 90 = .ok (.aload_n 0, 1) := by decide +kernel
theorem dX0_numberOf_91 : decode cX0_numberOf 91 = .ok (.invokevirtual 63, 3) := by decide +kernel
theorem dX0_numberOf_94 : decode cX0_numberOf 94 = .ok (.ireturn, 1) := by decide +kernel
theorem dX0_numberOf_95 : decode cX0_numberOf 95 = .ok (.aload_n 0, 1) := by decide +kernel
theorem dX0_numberOf_96 : decode cX0_numberOf 96 = .ok (.invokevirtual 67, 3) := by decide +kernel
theorem dX0_numberOf_99 : decode cX0_numberOf 99 = .ok (.ireturn, 1) := by decide +kernel
theorem dX0_numberOf_100 : decode cX0_numberOf 100 = .ok (.aload_n 0, 1) := by decide +kernel
theorem dX0_numberOf_101 : decode cX0_numberOf 101 = .ok (.invokevirtual 70, 3) := by decide +kernel
theorem dX0_numberOf_104 : decode cX0_numberOf 104 = .ok (.ireturn, 1) := by decide +kernel
theorem dX0_numberOf_105 : decode cX0_numberOf 105 = .ok (.aload_n 0, 1) := by decide +kernel
theorem dX0_numberOf_106 : decode cX0_numberOf 106 = .ok (.bipush 24, 2) := by decide +kernel
theorem dX0_numberOf_108 : decode cX0_numberOf 108 = .ok (.invokevirtual 73, 3) := by decide +kernel
theorem dX0_numberOf_111 : decode cX0_numberOf 111 = .ok (.ireturn, 1) := by decide +kernel
theorem dX0_numberOf_112 : decode cX0_numberOf 112 = .ok (.aload_n 0, 1) := by decide +kernel
theorem dX0_numberOf_113 : decode cX0_numberOf 113 = .ok (.iconst (-1), 1) := by decide +kernel
theorem dX0_numberOf_114 : decode cX0_numberOf 114 = .ok (.invokevirtual 73, 3) := by decide +kernel
theorem dX0_numberOf_117 : decode cX0_numberOf 117 = .ok (.ireturn, 1) := by decide +kernel
theorem dX0_numberOf_118 : decode cX0_numberOf 118 = .ok (.aload_n 0, 1) := by decide +kernel
theorem dX0_numberOf_119 : decode cX0_numberOf 119 = .ok (.invokevirtual 77, 3) := by decide +kernel
theorem dX0_numberOf_122 : decode cX0_numberOf 122 = .ok (.ireturn, 1) := by decide +kernel
theorem dX0_numberOf_123 : decode cX0_numberOf 123 = .ok (.aload_n 0, 1) := by decide +kernel
theorem dX0_numberOf_124 : decode cX0_numberOf 124 = .ok (.invokevirtual 80, 3) := by decide +kernel
theorem dX0_numberOf_127 : decode cX0_numberOf 127 = .ok (.ireturn, 1) := by decide +kernel
theorem dX0_numberOf_128 : decode cX0_numberOf 128 = .ok (.aload_n 0, 1) := by decide +kernel
theorem dX0_numberOf_129 : decode cX0_numberOf 129 = .ok (.getfield 53, 3) := by decide +kernel
theorem dX0_numberOf_132 : decode cX0_numberOf 132 = .ok (.ireturn, 1) := by decide +kernel
theorem dX0_numberOf_133 : decode cX0_numberOf 133 = .ok (.aload_n 0, 1) := by decide +kernel
theorem dX0_numberOf_134 : decode cX0_numberOf 134 = .ok (.getfield 56, 3) := by decide +kernel
theorem dX0_numberOf_137 : decode cX0_numberOf 137 = .ok (.ireturn, 1) := by decide +kernel
theorem dX0_numberOf_138 : decode cX0_numberOf 138 = .ok (.aload_n 0, 1) := by decide +kernel
theorem dX0_numberOf_139 : decode cX0_numberOf 139 = .ok (.getfield 23, 3) := by decide +kernel
theorem dX0_numberOf_142 : decode cX0_numberOf 142 = .ok (.iconst 0, 1) := by decide +kernel
theorem dX0_numberOf_143 : decode cX0_numberOf 143 = .ok (.iaload, 1) := by decide +kernel
theorem dX0_numberOf_144 : decode cX0_numberOf 144 = .ok (.ireturn, 1) := by decide +kernel
theorem dX0_numberOf_145 : decode cX0_numberOf 145 = .ok (.aload_n 0, 1) := by decide +kernel
theorem dX0_numberOf_146 : decode cX0_numberOf 146 = .ok (.getfield 23, 3) := by decide +kernel
theorem dX0_numberOf_149 : decode cX0_numberOf 149 = .ok (.iconst 1, 1) := by decide +kernel
theorem dX0_numberOf_150 : decode cX0_numberOf 150 = .ok (.iaload, 1) := by decide +kernel
theorem dX0_numberOf_151 : decode cX0_numberOf 151 = .ok (.ireturn, 1) := by decide +kernel
theorem dX0_numberOf_152 : decode cX0_numberOf 152 = .ok (.aload_n 0, 1) := by decide +kernel
theorem dX0_numberOf_153 : decode cX0_numberOf 153 = .ok (.getfield 23, 3) := by decide +kernel
theorem dX0_numberOf_156 : decode cX0_numberOf 156 = .ok (.iconst 2, 1) := by decide +kernel
theorem dX0_numberOf_157 : decode cX0_numberOf 157 = .ok (.iaload, 1) := by decide +kernel
theorem dX0_numberOf_158 : decode cX0_numberOf 158 = .ok (.ireturn, 1) := by decide +kernel
theorem dX0_numberOf_159 : decode cX0_numberOf 159 = .ok (.aload_n 0, 1) := by decide +kernel
theorem dX0_numberOf_160 : decode cX0_numberOf 160 = .ok (.getfield 23, 3) := by decide +kernel
theorem dX0_numberOf_163 : decode cX0_numberOf 163 = .ok (.iconst 3, 1) := by decide +kernel
theorem dX0_numberOf_164 : decode cX0_numberOf 164 = .ok (.iaload, 1) := by decide +kernel
theorem dX0_numberOf_165 : decode cX0_numberOf 165 = .ok (.ireturn, 1) := by decide +kernel
theorem dX0_numberOf_166 : decode cX0_numberOf 166 = .ok (.aload_n 0, 1) := by decide +kernel
theorem dX0_numberOf_167 : decode cX0_numberOf 167 = .ok (.getfield 19, 3) := by decide +kernel
theorem dX0_numberOf_170 : decode cX0_numberOf 170 = .ok (.iconst 0, 1) := by decide +kernel
theorem dX0_numberOf_171 : decode cX0_numberOf 171 = .ok (.iaload, 1) := by decide +kernel
theorem dX0_numberOf_172 : decode cX0_numberOf 172 = .ok (.ireturn, 1) := by decide +kernel
theorem dX0_numberOf_173 : decode cX0_numberOf 173 = .ok (.aload_n 0, 1) := by decide +kernel
theorem dX0_numberOf_174 : decode cX0_numberOf 174 = .ok (.getfield 19, 3) := by decide +kernel
theorem dX0_numberOf_177 : decode cX0_numberOf 177 = .ok (.iconst 1, 1) := by decide +kernel
theorem dX0_numberOf_178 : decode cX0_numberOf 178 = .ok (.iaload, 1) := by decide +kernel
theorem dX0_numberOf_179 : decode cX0_numberOf 179 = .ok (.ireturn, 1) := by decide +kernel
set_option maxRecDepth 20000 in
theorem ggX0_doveCount_X0_exists : GoodIn wsX0_doveCount wsX0_exists := goodIn_r _ [5, 6, 7, 8, 9, 10, 11, 12, 13, 14, 15, 16] (by decide +kernel) (by decide +kernel)
set_option maxRecDepth 20000 in
theorem gX0_doveCount_X0_exists : GoodIn wsX0_doveCount (wsV RX0 83 RX0 yX0_exists wsX0_exists) := goodIn_app (goodIn_of _ (by decide +kernel)) ggX0_doveCount_X0_exists
theorem dX0_doveCount_0 : decode cX0_doveCount 0 = .ok (.iconst 0, 1) := by decide +kernel
theorem dX0_doveCount_1 : decode cX0_doveCount 1 = .ok (.istore_n 1, 1) := by decide +kernel
theorem dX0_doveCount_2 : decode cX0_doveCount 2 = .ok (.iconst 0, 1) := by decide +kernel
theorem dX0_doveCount_3 : decode cX0_doveCount 3 = .ok (.istore_n 2, 1) := by decide +kernel
theorem dX0_doveCount_4 : decode cX0_doveCount 4 = .ok (.iload_n 2, 1) := by decide +kernel
theorem dX0_doveCount_5 : decode cX0_doveCount 5 = .ok (.bipush 16, 2) := by decide +kernel
theorem dX0_doveCount_7 : decode cX0_doveCount 7 = .ok (.if_icmp .ge 20, 3) := by decide +kernel
theorem dX0_doveCount_10 : decode cX0_doveCount 10 = .ok (.aload_n 0, 1) := by decide +kernel
theorem dX0_doveCount_11 : decode cX0_doveCount 11 = .ok (.iload_n 2, 1) := by decide +kernel
theorem dX0_doveCount_12 : decode cX0_doveCount 12 = .ok (.invokevirtual 83, 3) := by decide +kernel
theorem dX0_doveCount_15 : decode cX0_doveCount 15 = .ok (.ifCond .eq 6, 3) := by decide +kernel
theorem dX0_doveCount_18 : decode cX0_doveCount 18 = .ok (.iinc 1 1, 3) := by decide +kernel
theorem dX0_doveCount_21 : decode cX0_doveCount 21 = .ok (.iinc 2 1, 3) := by decide +kernel
theorem dX0_doveCount_24 : decode cX0_doveCount 24 = .ok (.goto (-20), 3) := by decide +kernel
theorem dX0_doveCount_27 : decode cX0_doveCount 27 = .ok (.iload_n 1, 1) := by decide +kernel
theorem dX0_doveCount_28 : decode cX0_doveCount 28 = .ok (.ireturn, 1) := by decide +kernel
set_option maxRecDepth 20000 in
theorem ggX0_sittingByDoves_X0_doveCount : GoodIn wsX0_sittingByDoves wsX0_doveCount := goodIn_r _ [5, 6, 7, 8, 4, 9, 10, 15, 16, 17, 18, 19, 20, 21, 22, 23, 24] (by decide +kernel) (by decide +kernel)
set_option maxRecDepth 20000 in
theorem gX0_sittingByDoves_X0_doveCount : GoodIn wsX0_sittingByDoves (wsV RX0 63 RX0 yX0_doveCount wsX0_doveCount) := goodIn_app (goodIn_of _ (by decide +kernel)) ggX0_sittingByDoves_X0_doveCount
set_option maxRecDepth 20000 in
theorem ggX0_sittingByDoves_X0_placedAt : GoodIn wsX0_sittingByDoves wsX0_placedAt := goodIn_r _ [14, 10, 6, 7, 8, 4, 9, 15, 16, 17, 18, 19, 20, 21, 22, 23, 24] (by decide +kernel) (by decide +kernel)
set_option maxRecDepth 20000 in
theorem gX0_sittingByDoves_X0_placedAt : GoodIn wsX0_sittingByDoves (wsV RX0 73 RX0 yX0_placedAt wsX0_placedAt) := goodIn_app (goodIn_of _ (by decide +kernel)) ggX0_sittingByDoves_X0_placedAt
theorem dX0_sittingByDoves_0 : decode cX0_sittingByDoves 0 = .ok (.aload_n 0, 1) := by decide +kernel
theorem dX0_sittingByDoves_1 : decode cX0_sittingByDoves 1 = .ok (.invokevirtual 63, 3) := by decide +kernel
theorem dX0_sittingByDoves_4 : decode cX0_sittingByDoves 4 = .ok (.aload_n 0, 1) := by decide +kernel
theorem dX0_sittingByDoves_5 : decode cX0_sittingByDoves 5 = .ok (.bipush 24, 2) := by decide +kernel
theorem dX0_sittingByDoves_7 : decode cX0_sittingByDoves 7 = .ok (.invokevirtual 73, 3) := by decide +kernel
theorem dX0_sittingByDoves_10 : decode cX0_sittingByDoves 10 = .ok (.isub, 1) := by decide +kernel
theorem dX0_sittingByDoves_11 : decode cX0_sittingByDoves 11 = .ok (.aload_n 0, 1) := by decide +kernel
theorem dX0_sittingByDoves_12 : decode cX0_sittingByDoves 12 = .ok (.iconst (-1), 1) := by decide +kernel
theorem dX0_sittingByDoves_13 : decode cX0_sittingByDoves 13 = .ok (.invokevirtual 73, 3) := by decide +kernel
theorem dX0_sittingByDoves_16 : decode cX0_sittingByDoves 16 = .ok (.isub, 1) := by decide +kernel
theorem dX0_sittingByDoves_17 : decode cX0_sittingByDoves 17 = .ok (.ireturn, 1) := by decide +kernel
theorem dX0_sittingByHoles_0 : decode cX0_sittingByHoles 0 = .ok (.iconst 0, 1) := by decide +kernel
theorem dX0_sittingByHoles_1 : decode cX0_sittingByHoles 1 = .ok (.istore_n 1, 1) := by decide +kernel
theorem dX0_sittingByHoles_2 : decode cX0_sittingByHoles 2 = .ok (.iconst 0, 1) := by decide +kernel
theorem dX0_sittingByHoles_3 : decode cX0_sittingByHoles 3 = .ok (.istore_n 2, 1) := by decide +kernel
theorem dX0_sittingByHoles_4 : decode cX0_sittingByHoles 4 = .ok (.iload_n 2, 1) := by decide +kernel
theorem dX0_sittingByHoles_5 : decode cX0_sittingByHoles 5 = .ok (.bipush 24, 2) := by decide +kernel
theorem dX0_sittingByHoles_7 : decode cX0_sittingByHoles 7 = .ok (.if_icmp .ge 24, 3) := by decide +kernel
theorem dX0_sittingByHoles_10 : decode cX0_sittingByHoles 10 = .ok (.aload_n 0, 1) := by decide +kernel
theorem dX0_sittingByHoles_11 : decode cX0_sittingByHoles 11 = .ok (.getfield 16, 3) := by decide +kernel
theorem dX0_sittingByHoles_14 : decode cX0_sittingByHoles 14 = .ok (.iconst 0, 1) := by decide +kernel
theorem dX0_sittingByHoles_15 : decode cX0_sittingByHoles 15 = .ok (.aaload, 1) := by decide +kernel
theorem dX0_sittingByHoles_16 : decode cX0_sittingByHoles 16 = .ok (.iload_n 2, 1) := by decide +kernel
theorem dX0_sittingByHoles_17 : decode cX0_sittingByHoles 17 = .ok (.iaload, 1) := by decide +kernel
theorem dX0_sittingByHoles_18 : decode cX0_sittingByHoles 18 = .ok (.iconst (-1), 1) := by decide +kernel
theorem dX0_sittingByHoles_19 : decode cX0_sittingByHoles 19 = .ok (.if_icmp .eq 6, 3) := by decide +kernel
theorem dX0_sittingByHoles_22 : decode cX0_sittingByHoles 22 = .ok (.iinc 1 1, 3) := by decide +kernel
theorem dX0_sittingByHoles_25 : decode cX0_sittingByHoles 25 = .ok (.iinc 2 1, 3) := by decide +kernel
theorem dX0_sittingByHoles_28 : decode cX0_sittingByHoles 28 = .ok (.goto (-24), 3) := by decide +kernel
theorem dX0_sittingByHoles_31 : decode cX0_sittingByHoles 31 = .ok (.iload_n 1, 1) := by decide +kernel
theorem dX0_sittingByHoles_32 : decode cX0_sittingByHoles 32 = .ok (.ireturn, 1) := by decide +kernel
set_option maxRecDepth 20000 in
theorem ggX0_placedAt_X0_exists : GoodIn wsX0_placedAt wsX0_exists := goodIn_r _ [6, 1, 7, 8, 9, 10, 11, 12, 13, 14, 15, 16] (by decide +kernel) (by decide +kernel)
set_option maxRecDepth 20000 in
theorem gX0_placedAt_X0_exists : GoodIn wsX0_placedAt (wsV RX0 83 RX0 yX0_exists wsX0_exists) := goodIn_app (goodIn_of _ (by decide +kernel)) ggX0_placedAt_X0_exists
theorem dX0_placedAt_0 : decode cX0_placedAt 0 = .ok (.iconst 0, 1) := by decide +kernel
theorem dX0_placedAt_1 : decode cX0_placedAt 1 = .ok (.istore_n 2, 1) := by decide +kernel
theorem dX0_placedAt_2 : decode cX0_placedAt 2 = .ok (.iconst 0, 1) := by decide +kernel
theorem dX0_placedAt_3 : decode cX0_placedAt 3 = .ok (.istore_n 3, 1) := by decide +kernel
theorem dX0_placedAt_4 : decode cX0_placedAt 4 = .ok (.iload_n 3, 1) := by decide +kernel
theorem dX0_placedAt_5 : decode cX0_placedAt 5 = .ok (.bipush 16, 2) := by decide +kernel
theorem dX0_placedAt_7 : decode cX0_placedAt 7 = .ok (.if_icmp .ge 32, 3) := by decide +kernel
theorem dX0_placedAt_10 : decode cX0_placedAt 10 = .ok (.aload_n 0, 1) := by decide +kernel
theorem dX0_placedAt_11 : decode cX0_placedAt 11 = .ok (.iload_n 3, 1) := by decide +kernel
theorem dX0_placedAt_12 : decode cX0_placedAt 12 = .ok (.invokevirtual 83, 3) := by decide +kernel
theorem dX0_placedAt_15 : decode cX0_placedAt 15 = .ok (.ifCond .eq 18, 3) := by decide +kernel
theorem dX0_placedAt_18 : decode cX0_placedAt 18 = .ok (.aload_n 0, 1) := by decide +kernel
theorem dX0_placedAt_19 : decode cX0_placedAt 19 = .ok (.getfield 11, 3) := by decide +kernel
theorem dX0_placedAt_22 : decode cX0_placedAt 22 = .ok (.iconst 2, 1) := by decide +kernel
theorem dX0_placedAt_23 : decode cX0_placedAt 23 = .ok (.aaload, 1) := by decide +kernel
theorem dX0_placedAt_24 : decode cX0_placedAt 24 = .ok (.iload_n 3, 1) := by decide +kernel
theorem dX0_placedAt_25 : decode cX0_placedAt 25 = .ok (.iaload, 1) := by decide +kernel
theorem dX0_placedAt_26 : decode cX0_placedAt 26 = .ok (.iload_n 1, 1) := by decide +kernel
theorem dX0_placedAt_27 : decode cX0_placedAt 27 = .ok (.if_icmp .ne 6, 3) := by decide +kernel
theorem dX0_placedAt_30 : decode cX0_placedAt 30 = .ok (.iinc 2 1, 3) := by decide +kernel
theorem dX0_placedAt_33 : decode cX0_placedAt 33 = .ok (.iinc 3 1, 3) := by decide +kernel
theorem dX0_placedAt_36 : decode cX0_placedAt 36 = .ok (.goto (-32), 3) := by decide +kernel
theorem dX0_placedAt_39 : decode cX0_placedAt 39 = .ok (.iload_n 2, 1) := by decide +kernel
theorem dX0_placedAt_40 : decode cX0_placedAt 40 = .ok (.ireturn, 1) := by decide +kernel
set_option maxRecDepth 20000 in
theorem ggX0_inOwnHoles_X0_exists : GoodIn wsX0_inOwnHoles wsX0_exists := goodIn_r _ [6, 1, 7, 8, 9, 10, 11, 12, 13, 14, 15, 16] (by decide +kernel) (by decide +kernel)
set_option maxRecDepth 20000 in
theorem gX0_inOwnHoles_X0_exists : GoodIn wsX0_inOwnHoles (wsV RX0 83 RX0 yX0_exists wsX0_exists) := goodIn_app (goodIn_of _ (by decide +kernel)) ggX0_inOwnHoles_X0_exists
theorem dX0_inOwnHoles_0 : decode cX0_inOwnHoles 0 = .ok (.iconst 0, 1) := by decide +kernel
theorem dX0_inOwnHoles_1 : decode cX0_inOwnHoles 1 = .ok (.istore_n 1, 1) := by decide +kernel
theorem dX0_inOwnHoles_2 : decode cX0_inOwnHoles 2 = .ok (.iconst 0, 1) := by decide +kernel
theorem dX0_inOwnHoles_3 : decode cX0_inOwnHoles 3 = .ok (.istore_n 2, 1) := by decide +kernel
theorem dX0_inOwnHoles_4 : decode cX0_inOwnHoles 4 = .ok (.iload_n 2, 1) := by decide +kernel
theorem dX0_inOwnHoles_5 : decode cX0_inOwnHoles 5 = .ok (.bipush 16, 2) := by decide +kernel
theorem dX0_inOwnHoles_7 : decode cX0_inOwnHoles 7 = .ok (.if_icmp .ge 39, 3) := by decide +kernel
theorem dX0_inOwnHoles_10 : decode cX0_inOwnHoles 10 = .ok (.aload_n 0, 1) := by decide +kernel
theorem dX0_inOwnHoles_11 : decode cX0_inOwnHoles 11 = .ok (.iload_n 2, 1) := by decide +kernel
theorem dX0_inOwnHoles_12 : decode cX0_inOwnHoles 12 = .ok (.invokevirtual 83, 3) := by decide +kernel
theorem dX0_inOwnHoles_15 : decode cX0_inOwnHoles 15 = .ok (.ifCond .eq 25, 3) := by decide +kernel
theorem dX0_inOwnHoles_18 : decode cX0_inOwnHoles 18 = .ok (.aload_n 0, 1) := by decide +kernel
theorem dX0_inOwnHoles_19 : decode cX0_inOwnHoles 19 = .ok (.getfield 11, 3) := by decide +kernel
theorem dX0_inOwnHoles_22 : decode cX0_inOwnHoles 22 = .ok (.iconst 2, 1) := by decide +kernel
theorem dX0_inOwnHoles_23 : decode cX0_inOwnHoles 23 = .ok (.aaload, 1) := by decide +kernel
theorem dX0_inOwnHoles_24 : decode cX0_inOwnHoles 24 = .ok (.iload_n 2, 1) := by decide +kernel
theorem dX0_inOwnHoles_25 : decode cX0_inOwnHoles 25 = .ok (.iaload, 1) := by decide +kernel
theorem dX0_inOwnHoles_26 : decode cX0_inOwnHoles 26 = .ok (.aload_n 0, 1) := by decide +kernel
theorem dX0_inOwnHoles_27 : decode cX0_inOwnHoles 27 = .ok (.getfield 11, 3) := by decide +kernel
theorem dX0_inOwnHoles_30 : decode cX0_inOwnHoles 30 = .ok (.iconst 0, 1) := by decide +kernel
theorem dX0_inOwnHoles_31 : decode cX0_inOwnHoles 31 = .ok (.aaload, 1) := by decide +kernel
theorem dX0_inOwnHoles_32 : decode cX0_inOwnHoles 32 = .ok (.iload_n 2, 1) := by decide +kernel
theorem dX0_inOwnHoles_33 : decode cX0_inOwnHoles 33 = .ok (.iaload, 1) := by decide +kernel
theorem dX0_inOwnHoles_34 : decode cX0_inOwnHoles 34 = .ok (.if_icmp .ne 6, 3) := by decide +kernel
theorem dX0_inOwnHoles_37 : decode cX0_inOwnHoles 37 = .ok (.iinc 1 1, 3) := by decide +kernel
theorem dX0_inOwnHoles_40 : decode cX0_inOwnHoles 40 = .ok (.iinc 2 1, 3) := by decide +kernel
theorem dX0_inOwnHoles_43 : decode cX0_inOwnHoles 43 = .ok (.goto (-39), 3) := by decide +kernel
theorem dX0_inOwnHoles_46 : decode cX0_inOwnHoles 46 = .ok (.iload_n 1, 1) := by decide +kernel
theorem dX0_inOwnHoles_47 : decode cX0_inOwnHoles 47 = .ok (.ireturn, 1) := by decide +kernel
set_option maxRecDepth 20000 in
theorem ggX0_openHoles_X0_isOpen : GoodIn wsX0_openHoles wsX0_isOpen := goodIn_r _ [5, 6, 7, 8, 9, 10, 11, 12, 13, 14, 15, 16, 17, 18, 19] (by decide +kernel) (by decide +kernel)
set_option maxRecDepth 20000 in
theorem gX0_openHoles_X0_isOpen : GoodIn wsX0_openHoles (wsV RX0 86 RX0 yX0_isOpen wsX0_isOpen) := goodIn_app (goodIn_of _ (by decide +kernel)) ggX0_openHoles_X0_isOpen
theorem dX0_openHoles_0 : decode cX0_openHoles 0 = .ok (.iconst 0, 1) := by decide +kernel
theorem dX0_openHoles_1 : decode cX0_openHoles 1 = .ok (.istore_n 1, 1) := by decide +kernel
theorem dX0_openHoles_2 : decode cX0_openHoles 2 = .ok (.iconst 0, 1) := by decide +kernel
theorem dX0_openHoles_3 : decode cX0_openHoles 3 = .ok (.istore_n 2, 1) := by decide +kernel
theorem dX0_openHoles_4 : decode cX0_openHoles 4 = .ok (.iload_n 2, 1) := by decide +kernel
theorem dX0_openHoles_5 : decode cX0_openHoles 5 = .ok (.bipush 24, 2) := by decide +kernel
theorem dX0_openHoles_7 : decode cX0_openHoles 7 = .ok (.if_icmp .ge 20, 3) := by decide +kernel
theorem dX0_openHoles_10 : decode cX0_openHoles 10 = .ok (.aload_n 0, 1) := by decide +kernel
theorem dX0_openHoles_11 : decode cX0_openHoles 11 = .ok (.iload_n 2, 1) := by decide +kernel
theorem dX0_openHoles_12 : decode cX0_openHoles 12 = .ok (.invokevirtual 86, 3) := by decide +kernel
theorem dX0_openHoles_15 : decode cX0_openHoles 15 = .ok (.ifCond .eq 6, 3) := by decide +kernel
theorem dX0_openHoles_18 : decode cX0_openHoles 18 = .ok (.iinc 1 1, 3) := by decide +kernel
theorem dX0_openHoles_21 : decode cX0_openHoles 21 = .ok (.iinc 2 1, 3) := by decide +kernel
theorem dX0_openHoles_24 : decode cX0_openHoles 24 = .ok (.goto (-20), 3) := by decide +kernel
theorem dX0_openHoles_27 : decode cX0_openHoles 27 = .ok (.iload_n 1, 1) := by decide +kernel
theorem dX0_openHoles_28 : decode cX0_openHoles 28 = .ok (.ireturn, 1) := by decide +kernel
set_option maxRecDepth 20000 in
theorem ggX0_pairs_X0_exists : GoodIn wsX0_pairs wsX0_exists := goodIn_r _ [6, 1, 7, 8, 9, 10, 11, 12, 13, 14, 15, 16] (by decide +kernel) (by decide +kernel)
set_option maxRecDepth 20000 in
theorem gX0_pairs_X0_exists : GoodIn wsX0_pairs (wsV RX0 83 RX0 yX0_exists wsX0_exists) := goodIn_app (goodIn_of _ (by decide +kernel)) ggX0_pairs_X0_exists
theorem dX0_pairs_0 : decode cX0_pairs 0 = .ok (.iconst 0, 1) := by decide +kernel
theorem dX0_pairs_1 : decode cX0_pairs 1 = .ok (.istore_n 1, 1) := by decide +kernel
theorem dX0_pairs_2 : decode cX0_pairs 2 = .ok (.iconst 0, 1) := by decide +kernel
theorem dX0_pairs_3 : decode cX0_pairs 3 = .ok (.istore_n 2, 1) := by decide +kernel
theorem dX0_pairs_4 : decode cX0_pairs 4 = .ok (.iload_n 2, 1) := by decide +kernel
theorem dX0_pairs_5 : decode cX0_pairs 5 = .ok (.bipush 16, 2) := by decide +kernel
theorem dX0_pairs_7 : decode cX0_pairs 7 = .ok (.if_icmp .ge 32, 3) := by decide +kernel
theorem dX0_pairs_10 : decode cX0_pairs 10 = .ok (.aload_n 0, 1) := by decide +kernel
theorem dX0_pairs_11 : decode cX0_pairs 11 = .ok (.iload_n 2, 1) := by decide +kernel
theorem dX0_pairs_12 : decode cX0_pairs 12 = .ok (.invokevirtual 83, 3) := by decide +kernel
theorem dX0_pairs_15 : decode cX0_pairs 15 = .ok (.ifCond .eq 18, 3) := by decide +kernel
theorem dX0_pairs_18 : decode cX0_pairs 18 = .ok (.aload_n 0, 1) := by decide +kernel
theorem dX0_pairs_19 : decode cX0_pairs 19 = .ok (.getfield 11, 3) := by decide +kernel
theorem dX0_pairs_22 : decode cX0_pairs 22 = .ok (.iconst 3, 1) := by decide +kernel
theorem dX0_pairs_23 : decode cX0_pairs 23 = .ok (.aaload, 1) := by decide +kernel
theorem dX0_pairs_24 : decode cX0_pairs 24 = .ok (.iload_n 2, 1) := by decide +kernel
theorem dX0_pairs_25 : decode cX0_pairs 25 = .ok (.iaload, 1) := by decide +kernel
theorem dX0_pairs_26 : decode cX0_pairs 26 = .ok (.iconst (-1), 1) := by decide +kernel
theorem dX0_pairs_27 : decode cX0_pairs 27 = .ok (.if_icmp .eq 6, 3) := by decide +kernel
theorem dX0_pairs_30 : decode cX0_pairs 30 = .ok (.iinc 1 1, 3) := by decide +kernel
theorem dX0_pairs_33 : decode cX0_pairs 33 = .ok (.iinc 2 1, 3) := by decide +kernel
theorem dX0_pairs_36 : decode cX0_pairs 36 = .ok (.goto (-32), 3) := by decide +kernel
theorem dX0_pairs_39 : decode cX0_pairs 39 = .ok (.iload_n 1, 1) := by decide +kernel
theorem dX0_pairs_40 : decode cX0_pairs 40 = .ok (.iconst 2, 1) := by decide +kernel
theorem dX0_pairs_41 : decode cX0_pairs 41 = .ok (.idiv, 1) := by decide +kernel
theorem dX0_pairs_42 : decode cX0_pairs 42 = .ok (.ireturn, 1) := by decide +kernel
theorem dX0_reasonNotHome_0 : decode cX0_reasonNotHome 0 = .ok (.aload_n 0, 1) := by decide +kernel
theorem dX0_reasonNotHome_1 : decode cX0_reasonNotHome 1 = .ok (.getfield 11, 3) := by decide +kernel
theorem dX0_reasonNotHome_4 : decode cX0_reasonNotHome 4 = .ok (.iconst 2, 1) := by decide +kernel
theorem dX0_reasonNotHome_5 : decode cX0_reasonNotHome 5 = .ok (.aaload, 1) := by decide +kernel
theorem dX0_reasonNotHome_6 : decode cX0_reasonNotHome 6 = .ok (.iload_n 1, 1) := by decide +kernel
theorem dX0_reasonNotHome_7 : decode cX0_reasonNotHome 7 = .ok (.iaload, 1) := by decide +kernel
theorem dX0_reasonNotHome_8 : decode cX0_reasonNotHome 8 = .ok (.iconst (-1), 1) := by decide +kernel
theorem dX0_reasonNotHome_9 : decode cX0_reasonNotHome 9 = .ok (.if_icmp .eq 5, 3) := by decide +kernel
theorem dX0_reasonNotHome_12 : decode cX0_reasonNotHome 12 = .ok (.iconst 1, 1) := by decide +kernel
theorem dX0_reasonNotHome_13 : decode cX0_reasonNotHome 13 = .ok (.ireturn, 1) := by decide +kernel
theorem dX0_reasonNotHome_14 : decode cX0_reasonNotHome 14 = .ok (.iload_n 2, 1) := by decide +kernel
theorem dX0_reasonNotHome_15 : decode cX0_reasonNotHome 15 = .ok (.aload_n 0, 1) := by decide +kernel
theorem dX0_reasonNotHome_16 : decode cX0_reasonNotHome 16 = .ok (.getfield 50, 3) := by decide +kernel
theorem dX0_reasonNotHome_19 : decode cX0_reasonNotHome 19 = .ok (.if_icmp .ge 7, 3) := by decide +kernel
theorem dX0_reasonNotHome_22 : decode cX0_reasonNotHome 22 = .ok (.iconst 2, 1) := by decide +kernel
theorem dX0_reasonNotHome_23 : decode cX0_reasonNotHome 23 = .ok (.goto 4, 3) := by decide +kernel
theorem dX0_reasonNotHome_26 : decode cX0_reasonNotHome 26 = .ok (.iconst 0, 1) := by decide +kernel
theorem dX0_reasonNotHome_27 : decode cX0_reasonNotHome 27 = .ok (.ireturn, 1) := by decide +kernel
set_option maxRecDepth 20000 in
theorem ggX0_reasonNotToShut_X3_isHole : GoodIn wsX0_reasonNotToShut wsX3_isHole := goodIn_r _ [4] (by decide +kernel) (by decide +kernel)
set_option maxRecDepth 20000 in
theorem gX0_reasonNotToShut_X3_isHole_n59 : GoodIn wsX0_reasonNotToShut (wsX3_isHole) := ggX0_reasonNotToShut_X3_isHole
set_option maxRecDepth 20000 in
theorem ggX0_reasonNotToShut_X0_isOpen : GoodIn wsX0_reasonNotToShut wsX0_isOpen := goodIn_r _ [9, 1, 2, 3, 4, 10, 11, 12, 13, 14, 15, 16, 17, 18, 19] (by decide +kernel) (by decide +kernel)
set_option maxRecDepth 20000 in
theorem gX0_reasonNotToShut_X0_isOpen : GoodIn wsX0_reasonNotToShut (wsV RX0 86 RX0 yX0_isOpen wsX0_isOpen) := goodIn_app (goodIn_of _ (by decide +kernel)) ggX0_reasonNotToShut_X0_isOpen
theorem dX0_reasonNotToShut_0 : decode cX0_reasonNotToShut 0 = .ok (.iload_n 1, 1) := by decide +kernel
theorem dX0_reasonNotToShut_1 : decode cX0_reasonNotToShut 1 = .ok (.invokestatic 59, 3) := by decide +kernel
theorem dX0_reasonNotToShut_4 : decode cX0_reasonNotToShut 4 = .ok (.ifCond .eq 17, 3) := by decide +kernel
theorem dX0_reasonNotToShut_7 : decode cX0_reasonNotToShut 7 = .ok (.aload_n 0, 1) := by decide +kernel
theorem dX0_reasonNotToShut_8 : decode cX0_reasonNotToShut 8 = .ok (.getfield 16, 3) := by decide +kernel
theorem dX0_reasonNotToShut_11 : decode cX0_reasonNotToShut 11 = .ok (.iconst 0, 1) := by decide +kernel
theorem dX0_reasonNotToShut_12 : decode cX0_reasonNotToShut 12 = .ok (.aaload, 1) := by decide +kernel
theorem dX0_reasonNotToShut_13 : decode cX0_reasonNotToShut 13 = .ok (.iload_n 1, 1) := by decide +kernel
theorem dX0_reasonNotToShut_14 : decode cX0_reasonNotToShut 14 = .ok (.iaload, 1) := by decide +kernel
theorem dX0_reasonNotToShut_15 : decode cX0_reasonNotToShut 15 = .ok (.iconst (-1), 1) := by decide +kernel
theorem dX0_reasonNotToShut_16 : decode cX0_reasonNotToShut 16 = .ok (.if_icmp .eq 5, 3) := by decide +kernel
theorem dX0_reasonNotToShut_19 : decode cX0_reasonNotToShut 19 = .ok (.iconst 3, 1) := by decide +kernel
theorem dX0_reasonNotToShut_20 : decode cX0_reasonNotToShut 20 = .ok (.ireturn, 1) := by decide +kernel
theorem dX0_reasonNotToShut_21 : decode cX0_reasonNotToShut 21 = .ok (.aload_n 0, 1) := by decide +kernel
theorem dX0_reasonNotToShut_22 : decode cX0_reasonNotToShut 22 = .ok (.iload_n 1, 1) := by decide +kernel
theorem dX0_reasonNotToShut_23 : decode cX0_reasonNotToShut 23 = .ok (.invokevirtual 86, 3) := by decide +kernel
theorem dX0_reasonNotToShut_26 : decode cX0_reasonNotToShut 26 = .ok (.ifCond .eq 7, 3) := by decide +kernel
theorem dX0_reasonNotToShut_29 : decode cX0_reasonNotToShut 29 = .ok (.iconst 0, 1) := by decide +kernel
theorem dX0_reasonNotToShut_30 : decode cX0_reasonNotToShut 30 = .ok (.goto 4, 3) := by decide +kernel
theorem dX0_reasonNotToShut_33 : decode cX0_reasonNotToShut 33 = .ok (.iconst 4, 1) := by decide +kernel
theorem dX0_reasonNotToShut_34 : decode cX0_reasonNotToShut 34 = .ok (.ireturn, 1) := by decide +kernel
set_option maxRecDepth 20000 in
theorem ggX0_reasonNotToBuy_X0_doveCount : GoodIn wsX0_reasonNotToBuy wsX0_doveCount := goodIn_r _ [6, 7, 8, 9, 5, 10, 11, 19, 20, 21, 22, 23, 24, 25, 26, 27, 28] (by decide +kernel) (by decide +kernel)
set_option maxRecDepth 20000 in
theorem gX0_reasonNotToBuy_X0_doveCount : GoodIn wsX0_reasonNotToBuy (wsV RX0 63 RX0 yX0_doveCount wsX0_doveCount) := goodIn_app (goodIn_of _ (by decide +kernel)) ggX0_reasonNotToBuy_X0_doveCount
set_option maxRecDepth 20000 in
theorem ggX0_reasonNotToBuy_X3_isHole : GoodIn wsX0_reasonNotToBuy wsX3_isHole := goodIn_r _ [14] (by decide +kernel) (by decide +kernel)
set_option maxRecDepth 20000 in
theorem gX0_reasonNotToBuy_X3_isHole_n59 : GoodIn wsX0_reasonNotToBuy (wsX3_isHole) := ggX0_reasonNotToBuy_X3_isHole
set_option maxRecDepth 20000 in
theorem ggX0_reasonNotToBuy_X0_isOpen : GoodIn wsX0_reasonNotToBuy wsX0_isOpen := goodIn_r _ [18, 1, 12, 13, 14, 19, 20, 21, 22, 23, 24, 25, 26, 27, 28] (by decide +kernel) (by decide +kernel)
set_option maxRecDepth 20000 in
theorem gX0_reasonNotToBuy_X0_isOpen : GoodIn wsX0_reasonNotToBuy (wsV RX0 86 RX0 yX0_isOpen wsX0_isOpen) := goodIn_app (goodIn_of _ (by decide +kernel)) ggX0_reasonNotToBuy_X0_isOpen
theorem dX0_reasonNotToBuy_0 : decode cX0_reasonNotToBuy 0 = .ok (.aload_n 0, 1) := by decide +kernel
theorem dX0_reasonNotToBuy_1 : decode cX0_reasonNotToBuy 1 = .ok (.invokevirtual 63, 3) := by decide +kernel
theorem dX0_reasonNotToBuy_4 : decode cX0_reasonNotToBuy 4 = .ok (.bipush 16, 2) := by decide +kernel
theorem dX0_reasonNotToBuy_6 : decode cX0_reasonNotToBuy 6 = .ok (.if_icmp .lt 5, 3) := by decide +kernel
theorem dX0_reasonNotToBuy_9 : decode cX0_reasonNotToBuy 9 = .ok (.iconst 5, 1) := by decide +kernel
theorem dX0_reasonNotToBuy_10 : decode cX0_reasonNotToBuy 10 = .ok (.ireturn, 1) := by decide +kernel
theorem dX0_reasonNotToBuy_11 : decode cX0_reasonNotToBuy 11 = .ok (.iload_n 1, 1) := by decide +kernel
theorem dX0_reasonNotToBuy_12 : decode cX0_reasonNotToBuy 12 = .ok (.invokestatic 59, 3) := by decide +kernel
theorem dX0_reasonNotToBuy_15 : decode cX0_reasonNotToBuy 15 = .ok (.ifCond .eq 18, 3) := by decide +kernel
theorem dX0_reasonNotToBuy_18 : decode cX0_reasonNotToBuy 18 = .ok (.aload_n 0, 1) := by decide +kernel
theorem dX0_reasonNotToBuy_19 : decode cX0_reasonNotToBuy 19 = .ok (.getfield 16, 3) := by decide +kernel
theorem dX0_reasonNotToBuy_22 : decode cX0_reasonNotToBuy 22 = .ok (.iconst 1, 1) := by decide +kernel
theorem dX0_reasonNotToBuy_23 : decode cX0_reasonNotToBuy 23 = .ok (.aaload, 1) := by decide +kernel
theorem dX0_reasonNotToBuy_24 : decode cX0_reasonNotToBuy 24 = .ok (.iload_n 1, 1) := by decide +kernel
theorem dX0_reasonNotToBuy_25 : decode cX0_reasonNotToBuy 25 = .ok (.iaload, 1) := by decide +kernel
theorem dX0_reasonNotToBuy_26 : decode cX0_reasonNotToBuy 26 = .ok (.iconst (-1), 1) := by decide +kernel
theorem dX0_reasonNotToBuy_27 : decode cX0_reasonNotToBuy 27 = .ok (.if_icmp .eq 6, 3) := by decide +kernel
theorem dX0_reasonNotToBuy_30 : decode cX0_reasonNotToBuy 30 = .ok (.bipush 6, 2) := by decide +kernel
theorem dX0_reasonNotToBuy_32 : decode cX0_reasonNotToBuy 32 = .ok (.ireturn, 1) := by decide +kernel
theorem dX0_reasonNotToBuy_33 : decode cX0_reasonNotToBuy 33 = .ok (.aload_n 0, 1) := by decide +kernel
theorem dX0_reasonNotToBuy_34 : decode cX0_reasonNotToBuy 34 = .ok (.iload_n 1, 1) := by decide +kernel
theorem dX0_reasonNotToBuy_35 : decode cX0_reasonNotToBuy 35 = .ok (.invokevirtual 86, 3) := by decide +kernel
theorem dX0_reasonNotToBuy_38 : decode cX0_reasonNotToBuy 38 = .ok (.ifCond .eq 7, 3) := by decide +kernel
theorem dX0_reasonNotToBuy_41 : decode cX0_reasonNotToBuy 41 = .ok (.iconst 0, 1) := by decide +kernel
theorem dX0_reasonNotToBuy_42 : decode cX0_reasonNotToBuy 42 = .ok (.goto 5, 3) := by decide +kernel
theorem dX0_reasonNotToBuy_45 : decode cX0_reasonNotToBuy 45 = .ok (.bipush 7, 2) := by decide +kernel
theorem dX0_reasonNotToBuy_47 : decode cX0_reasonNotToBuy 47 = .ok (.ireturn, 1) := by decide +kernel
theorem dX0_reasonNotToPair_0 : decode cX0_reasonNotToPair 0 = .ok (.iload_n 1, 1) := by decide +kernel
theorem dX0_reasonNotToPair_1 : decode cX0_reasonNotToPair 1 = .ok (.iload_n 2, 1) := by decide +kernel
theorem dX0_reasonNotToPair_2 : decode cX0_reasonNotToPair 2 = .ok (.if_icmp .ne 6, 3) := by decide +kernel
theorem dX0_reasonNotToPair_5 : decode cX0_reasonNotToPair 5 = .ok (.bipush 8, 2) := by decide +kernel
theorem dX0_reasonNotToPair_7 : decode cX0_reasonNotToPair 7 = .ok (.ireturn, 1) := by decide +kernel
theorem dX0_reasonNotToPair_8 : decode cX0_reasonNotToPair 8 = .ok (.aload_n 0, 1) := by decide +kernel
theorem dX0_reasonNotToPair_9 : decode cX0_reasonNotToPair 9 = .ok (.getfield 11, 3) := by decide +kernel
theorem dX0_reasonNotToPair_12 : decode cX0_reasonNotToPair 12 = .ok (.iconst 3, 1) := by decide +kernel
theorem dX0_reasonNotToPair_13 : decode cX0_reasonNotToPair 13 = .ok (.aaload, 1) := by decide +kernel
theorem dX0_reasonNotToPair_14 : decode cX0_reasonNotToPair 14 = .ok (.iload_n 1, 1) := by decide +kernel
theorem dX0_reasonNotToPair_15 : decode cX0_reasonNotToPair 15 = .ok (.iaload, 1) := by decide +kernel
theorem dX0_reasonNotToPair_16 : decode cX0_reasonNotToPair 16 = .ok (.iconst (-1), 1) := by decide +kernel
theorem dX0_reasonNotToPair_17 : decode cX0_reasonNotToPair 17 = .ok (.if_icmp .ne 15, 3) := by decide +kernel
theorem dX0_reasonNotToPair_20 : decode cX0_reasonNotToPair 20 = .ok (.aload_n 0, 1) := by decide +kernel
theorem dX0_reasonNotToPair_21 : decode cX0_reasonNotToPair 21 = .ok (.getfield 11, 3) := by decide +kernel
theorem dX0_reasonNotToPair_24 : decode cX0_reasonNotToPair 24 = .ok (.iconst 3, 1) := by decide +kernel
theorem dX0_reasonNotToPair_25 : decode cX0_reasonNotToPair 25 = .ok (.aaload, 1) := by decide +kernel
theorem dX0_reasonNotToPair_26 : decode cX0_reasonNotToPair 26 = .ok (.iload_n 2, 1) := by decide +kernel
theorem dX0_reasonNotToPair_27 : decode cX0_reasonNotToPair 27 = .ok (.iaload, 1) := by decide +kernel
theorem dX0_reasonNotToPair_28 : decode cX0_reasonNotToPair 28 = .ok (.iconst (-1), 1) := by decide +kernel
theorem dX0_reasonNotToPair_29 : decode cX0_reasonNotToPair 29 = .ok (.if_icmp .eq 7, 3) := by decide +kernel
theorem dX0_reasonNotToPair_32 : decode cX0_reasonNotToPair 32 = .ok (.iconst 1, 1) := by decide +kernel
theorem dX0_reasonNotToPair_33 : decode cX0_reasonNotToPair 33 = .ok (.goto 4, 3) := by decide +kernel
theorem dX0_reasonNotToPair_36 : decode cX0_reasonNotToPair 36 = .ok (.iconst 0, 1) := by decide +kernel
theorem dX0_reasonNotToPair_37 : decode cX0_reasonNotToPair 37 = .ok (.istore_n 3, 1) := by decide +kernel
theorem dX0_reasonNotToPair_38 : decode cX0_reasonNotToPair 38 = .ok (.iload_n 3, 1) := by decide +kernel
theorem dX0_reasonNotToPair_39 : decode cX0_reasonNotToPair 39 = .ok (.ifCond .eq 8, 3) := by decide +kernel
theorem dX0_reasonNotToPair_42 : decode cX0_reasonNotToPair 42 = .ok (.bipush 9, 2) := by decide +kernel
theorem dX0_reasonNotToPair_44 : decode cX0_reasonNotToPair 44 = .ok (.goto 4, 3) := by decide +kernel
theorem dX0_reasonNotToPair_47 : decode cX0_reasonNotToPair 47 = .ok (.iconst 0, 1) := by decide +kernel
theorem dX0_reasonNotToPair_48 : decode cX0_reasonNotToPair 48 = .ok (.ireturn, 1) := by decide +kernel
set_option maxRecDepth 20000 in
theorem ggX0_addDove_X0_exists : GoodIn wsX0_addDove wsX0_exists := goodIn_r _ [7, 1, 8, 9, 10, 11, 12, 13, 14, 15, 16, 17] (by decide +kernel) (by decide +kernel)
set_option maxRecDepth 20000 in
theorem gX0_addDove_X0_exists : GoodIn wsX0_addDove (wsV RX0 83 RX0 yX0_exists wsX0_exists) := goodIn_app (goodIn_of _ (by decide +kernel)) ggX0_addDove_X0_exists
theorem dX0_addDove_0 : decode cX0_addDove 0 = .ok (.iconst 0, 1) := by decide +kernel
theorem dX0_addDove_1 : decode cX0_addDove 1 = .ok (.istore_n 3, 1) := by decide +kernel
theorem dX0_addDove_2 : decode cX0_addDove 2 = .ok (.iload_n 3, 1) := by decide +kernel
theorem dX0_addDove_3 : decode cX0_addDove 3 = .ok (.bipush 16, 2) := by decide +kernel
theorem dX0_addDove_5 : decode cX0_addDove 5 = .ok (.if_icmp .ge 46, 3) := by decide +kernel
theorem dX0_addDove_8 : decode cX0_addDove 8 = .ok (.aload_n 0, 1) := by decide +kernel
theorem dX0_addDove_9 : decode cX0_addDove 9 = .ok (.iload_n 3, 1) := by decide +kernel
theorem dX0_addDove_10 : decode cX0_addDove 10 = .ok (.invokevirtual 83, 3) := by decide +kernel
theorem dX0_addDove_13 : decode cX0_addDove 13 = .ok (.ifCond .ne 32, 3) := by decide +kernel
theorem dX0_addDove_16 : decode cX0_addDove 16 = .ok (.aload_n 0, 1) := by decide +kernel
theorem dX0_addDove_17 : decode cX0_addDove 17 = .ok (.getfield 11, 3) := by decide +kernel
theorem dX0_addDove_20 : decode cX0_addDove 20 = .ok (.iconst 0, 1) := by decide +kernel
theorem dX0_addDove_21 : decode cX0_addDove 21 = .ok (.aaload, 1) := by decide +kernel
theorem dX0_addDove_22 : decode cX0_addDove 22 = .ok (.iload_n 3, 1) := by decide +kernel
theorem dX0_addDove_23 : decode cX0_addDove 23 = .ok (.iload_n 1, 1) := by decide +kernel
theorem dX0_addDove_24 : decode cX0_addDove 24 = .ok (.iastore, 1) := by decide +kernel
theorem dX0_addDove_25 : decode cX0_addDove 25 = .ok (.aload_n 0, 1) := by decide +kernel
theorem dX0_addDove_26 : decode cX0_addDove 26 = .ok (.getfield 11, 3) := by decide +kernel
theorem dX0_addDove_29 : decode cX0_addDove 29 = .ok (.iconst 1, 1) := by decide +kernel
theorem dX0_addDove_30 : decode cX0_addDove 30 = .ok (.aaload, 1) := by decide +kernel
theorem dX0_addDove_31 : decode cX0_addDove 31 = .ok (.iload_n 3, 1) := by decide +kernel
theorem dX0_addDove_32 : decode cX0_addDove 32 = .ok (.iload_n 2, 1) := by decide +kernel
theorem dX0_addDove_33 : decode cX0_addDove 33 = .ok (.iastore, 1) := by decide +kernel
theorem dX0_addDove_34 : decode cX0_addDove 34 = .ok (.aload_n 0, 1) := by decide +kernel
theorem dX0_addDove_35 : decode cX0_addDove 35 = .ok (.getfield 16, 3) := by decide +kernel
theorem dX0_addDove_38 : decode cX0_addDove 38 = .ok (.iconst 1, 1) := by decide +kernel
theorem dX0_addDove_39 : decode cX0_addDove 39 = .ok (.aaload, 1) := by decide +kernel
theorem dX0_addDove_40 : decode cX0_addDove 40 = .ok (.iload_n 1, 1) := by decide +kernel
theorem dX0_addDove_41 : decode cX0_addDove 41 = .ok (.iload_n 3, 1) := by decide +kernel
theorem dX0_addDove_42 : decode cX0_addDove 42 = .ok (.iastore, 1) := by decide +kernel
theorem dX0_addDove_43 : decode cX0_addDove 43 = .ok (.iload_n 3, 1) := by decide +kernel
theorem dX0_addDove_44 : decode cX0_addDove 44 = .ok (.ireturn, 1) := by decide +kernel
theorem dX0_addDove_45 : decode cX0_addDove 45 = .ok (.iinc 3 1, 3) := by decide +kernel
theorem dX0_addDove_48 : decode cX0_addDove 48 = .ok (.goto (-46), 3) := by decide +kernel
theorem dX0_addDove_51 : decode cX0_addDove 51 = .ok (.iconst (-1), 1) := by decide +kernel
theorem dX0_addDove_52 : decode cX0_addDove 52 = .ok (.ireturn, 1) := by decide +kernel
set_option maxRecDepth 20000 in
theorem ggX0_removeDove_X3_isHole : GoodIn wsX0_removeDove wsX3_isHole := goodIn_r _ [5] (by decide +kernel) (by decide +kernel)
set_option maxRecDepth 20000 in
theorem gX0_removeDove_X3_isHole_n59 : GoodIn wsX0_removeDove (wsX3_isHole) := ggX0_removeDove_X3_isHole
set_option maxRecDepth 20000 in
theorem ggX0_removeDove_X0_exists : GoodIn wsX0_removeDove wsX0_exists := goodIn_r _ [10, 1, 11, 12, 13, 14, 15, 16, 17, 18, 19, 20] (by decide +kernel) (by decide +kernel)
set_option maxRecDepth 20000 in
theorem gX0_removeDove_X0_exists : GoodIn wsX0_removeDove (wsV RX0 83 RX0 yX0_exists wsX0_exists) := goodIn_app (goodIn_of _ (by decide +kernel)) ggX0_removeDove_X0_exists
theorem dX0_removeDove_0 : decode cX0_removeDove 0 = .ok (.aload_n 0, 1) := by decide +kernel
theorem dX0_removeDove_1 : decode cX0_removeDove 1 = .ok (.getfield 11, 3) := by decide +kernel
theorem dX0_removeDove_4 : decode cX0_removeDove 4 = .ok (.iconst 0, 1) := by decide +kernel
theorem dX0_removeDove_5 : decode cX0_removeDove 5 = .ok (.aaload, 1) := by decide +kernel
theorem dX0_removeDove_6 : decode cX0_removeDove 6 = .ok (.iload_n 1, 1) := by decide +kernel
theorem dX0_removeDove_7 : decode cX0_removeDove 7 = .ok (.iaload, 1) := by decide +kernel
theorem dX0_removeDove_8 : decode cX0_removeDove 8 = .ok (.istore_n 2, 1) := by decide +kernel
theorem dX0_removeDove_9 : decode cX0_removeDove 9 = .ok (.aload_n 0, 1) := by decide +kernel
theorem dX0_removeDove_10 : decode cX0_removeDove 10 = .ok (.getfield 11, 3) := by decide +kernel
theorem dX0_removeDove_13 : decode cX0_removeDove 13 = .ok (.iconst 2, 1) := by decide +kernel
theorem dX0_removeDove_14 : decode cX0_removeDove 14 = .ok (.aaload, 1) := by decide +kernel
theorem dX0_removeDove_15 : decode cX0_removeDove 15 = .ok (.iload_n 1, 1) := by decide +kernel
theorem dX0_removeDove_16 : decode cX0_removeDove 16 = .ok (.iaload, 1) := by decide +kernel
theorem dX0_removeDove_17 : decode cX0_removeDove 17 = .ok (.istore_n 3, 1) := by decide +kernel
theorem dX0_removeDove_18 : decode cX0_removeDove 18 = .ok (.aload_n 0, 1) := by decide +kernel
theorem dX0_removeDove_19 : decode cX0_removeDove 19 = .ok (.getfield 11, 3) := by decide +kernel
theorem dX0_removeDove_22 : decode cX0_removeDove 22 = .ok (.iconst 3, 1) := by decide +kernel
theorem dX0_removeDove_23 : decode cX0_removeDove 23 = .ok (.aaload, 1) := by decide +kernel
theorem dX0_removeDove_24 : decode cX0_removeDove 24 = .ok (.iload_n 1, 1) := by decide +kernel
theorem dX0_removeDove_25 : decode cX0_removeDove 25 = .ok (.iaload, 1) := by decide +kernel
theorem dX0_removeDove_26 : decode cX0_removeDove 26 = .ok (.istore 4, 2) := by decide +kernel
theorem dX0_removeDove_28 : decode cX0_removeDove 28 = .ok (.iload_n 2, 1) := by decide +kernel
theorem dX0_removeDove_29 : decode cX0_removeDove 29 = .ok (.invokestatic 59, 3) := by decide +kernel
theorem dX0_removeDove_32 : decode cX0_removeDove 32 = .ok (.ifCond .eq 12, 3) := by decide +kernel
theorem dX0_removeDove_35 : decode cX0_removeDove 35 = .ok (.aload_n 0, 1) := by decide +kernel
theorem dX0_removeDove_36 : decode cX0_removeDove 36 = .ok (.getfield 16, 3) := by decide +kernel
theorem dX0_removeDove_39 : decode cX0_removeDove 39 = .ok (.iconst 1, 1) := by decide +kernel
theorem dX0_removeDove_40 : decode cX0_removeDove 40 = .ok (.aaload, 1) := by decide +kernel
theorem dX0_removeDove_41 : decode cX0_removeDove 41 = .ok (.iload_n 2, 1) := by decide +kernel
theorem dX0_removeDove_42 : decode cX0_removeDove 42 = .ok (.iconst (-1), 1) := by decide +kernel
theorem dX0_removeDove_43 : decode cX0_removeDove 43 = .ok (.iastore, 1) := by decide +kernel
theorem dX0_removeDove_44 : decode cX0_removeDove 44 = .ok (.iload_n 3, 1) := by decide +kernel
theorem dX0_removeDove_45 : decode cX0_removeDove 45 = .ok (.invokestatic 59, 3) := by decide +kernel
theorem dX0_removeDove_48 : decode cX0_removeDove 48 = .ok (.ifCond .eq 12, 3) := by decide +kernel
theorem dX0_removeDove_51 : decode cX0_removeDove 51 = .ok (.aload_n 0, 1) := by decide +kernel
theorem dX0_removeDove_52 : decode cX0_removeDove 52 = .ok (.getfield 16, 3) := by decide +kernel
theorem dX0_removeDove_55 : decode cX0_removeDove 55 = .ok (.iconst 0, 1) := by decide +kernel
theorem dX0_removeDove_56 : decode cX0_removeDove 56 = .ok (.aaload, 1) := by decide +kernel
theorem dX0_removeDove_57 : decode cX0_removeDove 57 = .ok (.iload_n 3, 1) := by decide +kernel
theorem dX0_removeDove_58 : decode cX0_removeDove 58 = .ok (.iconst (-1), 1) := by decide +kernel
theorem dX0_removeDove_59 : decode cX0_removeDove 59 = .ok (.iastore, 1) := by decide +kernel
theorem dX0_removeDove_60 : decode cX0_removeDove 60 = .ok (.aload_n 0, 1) := by decide +kernel
theorem dX0_removeDove_61 : decode cX0_removeDove 61 = .ok (.iload 4, 2) := by decide +kernel
theorem dX0_removeDove_63 : decode cX0_removeDove 63 = .ok (.invokevirtual 83, 3) := by decide +kernel
theorem dX0_removeDove_66 : decode cX0_removeDove 66 = .ok (.ifCond .eq 13, 3) := by decide +kernel
theorem dX0_removeDove_69 : decode cX0_removeDove 69 = .ok (.aload_n 0, 1) := by decide +kernel
theorem dX0_removeDove_70 : decode cX0_removeDove 70 = .ok (.getfield 11, 3) := by decide +kernel
theorem dX0_removeDove_73 : decode cX0_removeDove 73 = .ok (.iconst 3, 1) := by decide +kernel
theorem dX0_removeDove_74 : decode cX0_removeDove 74 = .ok (.aaload, 1) := by decide +kernel
theorem dX0_removeDove_75 : decode cX0_removeDove 75 = .ok (.iload 4, 2) := by decide +kernel
theorem dX0_removeDove_77 : decode cX0_removeDove 77 = .ok (.iconst (-1), 1) := by decide +kernel
theorem dX0_removeDove_78 : decode cX0_removeDove 78 = .ok (.iastore, 1) := by decide +kernel
theorem dX0_removeDove_79 : decode cX0_removeDove 79 = .ok (.iconst 0, 1) := by decide +kernel
theorem dX0_removeDove_80 : decode cX0_removeDove 80 = .ok (.istore 5, 2) := by decide +kernel
theorem dX0_removeDove_82 : decode cX0_removeDove 82 = .ok (.iload 5, 2) := by decide +kernel
theorem dX0_removeDove_84 : decode cX0_removeDove 84 = .ok (.bipush 8, 2) := by decide +kernel
theorem dX0_removeDove_86 : decode cX0_removeDove 86 = .ok (.if_icmp .ge 19, 3) := by decide +kernel
theorem dX0_removeDove_89 : decode cX0_removeDove 89 = .ok (.aload_n 0, 1) := by decide +kernel
theorem dX0_removeDove_90 : decode cX0_removeDove 90 = .ok (.getfield 11, 3) := by decide +kernel
theorem dX0_removeDove_93 : decode cX0_removeDove 93 = .ok (.iload 5, 2) := by decide +kernel
theorem dX0_removeDove_95 : decode cX0_removeDove 95 = .ok (.aaload, 1) := by decide +kernel
theorem dX0_removeDove_96 : decode cX0_removeDove 96 = .ok (.iload_n 1, 1) := by decide +kernel
theorem dX0_removeDove_97 : decode cX0_removeDove 97 = .ok (.iconst 0, 1) := by decide +kernel
theorem dX0_removeDove_98 : decode cX0_removeDove 98 = .ok (.iastore, 1) := by decide +kernel
theorem dX0_removeDove_99 : decode cX0_removeDove 99 = .ok (.iinc 5 1, 3) := by decide +kernel
theorem dX0_removeDove_102 : decode cX0_removeDove 102 = .ok (.goto (-20), 3) := by decide +kernel
theorem dX0_removeDove_105 : decode cX0_removeDove 105 = .ok (.aload_n 0, 1) := by decide +kernel
theorem dX0_removeDove_106 : decode cX0_removeDove 106 = .ok (.getfield 11, 3) := by decide +kernel
theorem dX0_removeDove_109 : decode cX0_removeDove 109 = .ok (.iconst 0, 1) := by decide +kernel
theorem dX0_removeDove_110 : decode cX0_removeDove 110 = .ok (.aaload, 1) := by decide +kernel
theorem dX0_removeDove_111 : decode cX0_removeDove 111 = .ok (.iload_n 1, 1) := by decide +kernel
theorem dX0_removeDove_112 : decode cX0_removeDove 112 = .ok (.iconst (-1), 1) := by decide +kernel
theorem dX0_removeDove_113 : decode cX0_removeDove 113 = .ok (.iastore, 1) := by decide +kernel
theorem dX0_removeDove_114 : decode cX0_removeDove 114 = .ok (.aload_n 0, 1) := by decide +kernel
theorem dX0_removeDove_115 : decode cX0_removeDove 115 = .ok (.getfield 11, 3) := by decide +kernel
theorem dX0_removeDove_118 : decode cX0_removeDove 118 = .ok (.iconst 2, 1) := by decide +kernel
theorem dX0_removeDove_119 : decode cX0_removeDove 119 = .ok (.aaload, 1) := by decide +kernel
theorem dX0_removeDove_120 : decode cX0_removeDove 120 = .ok (.iload_n 1, 1) := by decide +kernel
theorem dX0_removeDove_121 : decode cX0_removeDove 121 = .ok (.iconst (-1), 1) := by decide +kernel
theorem dX0_removeDove_122 : decode cX0_removeDove 122 = .ok (.iastore, 1) := by decide +kernel
theorem dX0_removeDove_123 : decode cX0_removeDove 123 = .ok (.aload_n 0, 1) := by decide +kernel
theorem dX0_removeDove_124 : decode cX0_removeDove 124 = .ok (.getfield 11, 3) := by decide +kernel
theorem dX0_removeDove_127 : decode cX0_removeDove 127 = .ok (.iconst 3, 1) := by decide +kernel
theorem dX0_removeDove_128 : decode cX0_removeDove 128 = .ok (.aaload, 1) := by decide +kernel
theorem dX0_removeDove_129 : decode cX0_removeDove 129 = .ok (.iload_n 1, 1) := by decide +kernel
theorem dX0_removeDove_130 : decode cX0_removeDove 130 = .ok (.iconst (-1), 1) := by decide +kernel
theorem dX0_removeDove_131 : decode cX0_removeDove 131 = .ok (.iastore, 1) := by decide +kernel
theorem dX0_removeDove_132 : decode cX0_removeDove 132 = .ok (.iload_n 3, 1) := by decide +kernel
theorem dX0_removeDove_133 : decode cX0_removeDove 133 = .ok (.ireturn, 1) := by decide +kernel
theorem dX0_pair_0 : decode cX0_pair 0 = .ok (.aload_n 0, 1) := by decide +kernel
theorem dX0_pair_1 : decode cX0_pair 1 = .ok (.getfield 11, 3) := by decide +kernel
theorem dX0_pair_4 : decode cX0_pair 4 = .ok (.iconst 3, 1) := by decide +kernel
theorem dX0_pair_5 : decode cX0_pair 5 = .ok (.aaload, 1) := by decide +kernel
theorem dX0_pair_6 : decode cX0_pair 6 = .ok (.iload_n 1, 1) := by decide +kernel
theorem dX0_pair_7 : decode cX0_pair 7 = .ok (.iload_n 2, 1) := by decide +kernel
theorem dX0_pair_8 : decode cX0_pair 8 = .ok (.iastore, 1) := by decide +kernel
theorem dX0_pair_9 : decode cX0_pair 9 = .ok (.aload_n 0, 1) := by decide +kernel
theorem dX0_pair_10 : decode cX0_pair 10 = .ok (.getfield 11, 3) := by decide +kernel
theorem dX0_pair_13 : decode cX0_pair 13 = .ok (.iconst 3, 1) := by decide +kernel
theorem dX0_pair_14 : decode cX0_pair 14 = .ok (.aaload, 1) := by decide +kernel
theorem dX0_pair_15 : decode cX0_pair 15 = .ok (.iload_n 2, 1) := by decide +kernel
theorem dX0_pair_16 : decode cX0_pair 16 = .ok (.iload_n 1, 1) := by decide +kernel
theorem dX0_pair_17 : decode cX0_pair 17 = .ok (.iastore, 1) := by decide +kernel
theorem dX0_pair_18 : decode cX0_pair 18 = .ok (.return_, 1) := by decide +kernel
set_option maxRecDepth 20000 in
theorem ggX0_setOpen_X3_isHole : GoodIn wsX0_setOpen wsX3_isHole := goodIn_r _ [4] (by decide +kernel) (by decide +kernel)
set_option maxRecDepth 20000 in
theorem gX0_setOpen_X3_isHole_n59 : GoodIn wsX0_setOpen (wsX3_isHole) := ggX0_setOpen_X3_isHole
theorem dX0_setOpen_0 : decode cX0_setOpen 0 = .ok (.iload_n 1, 1) := by decide +kernel
theorem dX0_setOpen_1 : decode cX0_setOpen 1 = .ok (.invokestatic 59, 3) := by decide +kernel
theorem dX0_setOpen_4 : decode cX0_setOpen 4 = .ok (.ifCond .eq 12, 3) := by decide +kernel
theorem dX0_setOpen_7 : decode cX0_setOpen 7 = .ok (.aload_n 0, 1) := by decide +kernel
theorem dX0_setOpen_8 : decode cX0_setOpen 8 = .ok (.getfield 16, 3) := by decide +kernel
theorem dX0_setOpen_11 : decode cX0_setOpen 11 = .ok (.iconst 2, 1) := by decide +kernel
theorem dX0_setOpen_12 : decode cX0_setOpen 12 = .ok (.aaload, 1) := by decide +kernel
theorem dX0_setOpen_13 : decode cX0_setOpen 13 = .ok (.iload_n 1, 1) := by decide +kernel
theorem dX0_setOpen_14 : decode cX0_setOpen 14 = .ok (.iload_n 2, 1) := by decide +kernel
theorem dX0_setOpen_15 : decode cX0_setOpen 15 = .ok (.iastore, 1) := by decide +kernel
theorem dX0_setOpen_16 : decode cX0_setOpen 16 = .ok (.return_, 1) := by decide +kernel
set_option maxRecDepth 20000 in
theorem ggX0_comeHome_X0_isOpen : GoodIn wsX0_comeHome wsX0_isOpen := goodIn_r _ [10, 11, 12, 13, 14, 52, 53, 54, 55, 56, 57, 58, 59, 60, 61] (by decide +kernel) (by decide +kernel)
set_option maxRecDepth 20000 in
theorem gX0_comeHome_X0_isOpen : GoodIn wsX0_comeHome (wsV RX0 86 RX0 yX0_isOpen wsX0_isOpen) := goodIn_app (goodIn_of _ (by decide +kernel)) ggX0_comeHome_X0_isOpen
set_option maxRecDepth 20000 in
theorem ggX0_comeHome_X0_enterOwnHole : GoodIn wsX0_comeHome wsX0_enterOwnHole := goodIn_r _ [18, 5, 11, 19, 20, 21, 9, 22, 23, 24, 25, 26, 3, 27, 28, 29, 30, 31, 2, 12, 13, 14, 32, 33, 34, 35, 36, 37, 38, 39, 52, 53, 54, 55, 56, 57, 58, 59, 60, 61, 62, 63, 64] (by decide +kernel) (by decide +kernel)
set_option maxRecDepth 20000 in
theorem gX0_comeHome_X0_enterOwnHole : GoodIn wsX0_comeHome (wsV RX0 92 RX0 yX0_enterOwnHole wsX0_enterOwnHole) := goodIn_app (goodIn_of _ (by decide +kernel)) ggX0_comeHome_X0_enterOwnHole
set_option maxRecDepth 20000 in
theorem ggX0_comeHome_X0_exists : GoodIn wsX0_comeHome wsX0_exists := goodIn_r _ [22, 5, 52, 53, 54, 55, 56, 57, 58, 59, 60, 61] (by decide +kernel) (by decide +kernel)
set_option maxRecDepth 20000 in
theorem gX0_comeHome_X0_exists : GoodIn wsX0_comeHome (wsV RX0 83 RX0 yX0_exists wsX0_exists) := goodIn_app (goodIn_of _ (by decide +kernel)) ggX0_comeHome_X0_exists
set_option maxRecDepth 20000 in
theorem ggX0_comeHome_X0_settle : GoodIn wsX0_comeHome wsX0_settle := goodIn_r _ [43, 5, 11, 44, 45, 46, 9, 47, 19, 20, 21, 22, 12, 13, 14, 48, 49, 50, 51, 28, 29, 30, 31, 2, 32, 33, 34, 35, 36, 37, 38, 39, 6, 7, 8, 10, 23, 24, 25, 26, 3, 27, 52, 53, 54, 55, 56, 57, 58, 59, 60, 61, 62, 63, 64] (by decide +kernel) (by decide +kernel)
set_option maxRecDepth 20000 in
theorem gX0_comeHome_X0_settle : GoodIn wsX0_comeHome (wsV RX0 96 RX0 yX0_settle wsX0_settle) := goodIn_app (goodIn_of _ (by decide +kernel)) ggX0_comeHome_X0_settle
theorem dX0_comeHome_0 : decode cX0_comeHome 0 = .ok (.aload_n 0, 1) := by decide +kernel
theorem dX0_comeHome_1 : decode cX0_comeHome 1 = .ok (.iload_n 2, 1) := by decide +kernel
theorem dX0_comeHome_2 : decode cX0_comeHome 2 = .ok (.putfield 50, 3) := by decide +kernel
theorem dX0_comeHome_5 : decode cX0_comeHome 5 = .ok (.aload_n 0, 1) := by decide +kernel
theorem dX0_comeHome_6 : decode cX0_comeHome 6 = .ok (.getfield 32, 3) := by decide +kernel
theorem dX0_comeHome_9 : decode cX0_comeHome 9 = .ok (.iconst 0, 1) := by decide +kernel
theorem dX0_comeHome_10 : decode cX0_comeHome 10 = .ok (.putfield 89, 3) := by decide +kernel
theorem dX0_comeHome_13 : decode cX0_comeHome 13 = .ok (.aload_n 0, 1) := by decide +kernel
theorem dX0_comeHome_14 : decode cX0_comeHome 14 = .ok (.getfield 53, 3) := by decide +kernel
theorem dX0_comeHome_17 : decode cX0_comeHome 17 = .ok (.istore_n 3, 1) := by decide +kernel
theorem dX0_comeHome_18 : decode cX0_comeHome 18 = .ok (.aload_n 0, 1) := by decide +kernel
theorem dX0_comeHome_19 : decode cX0_comeHome 19 = .ok (.getfield 53, 3) := by decide +kernel
theorem dX0_comeHome_22 : decode cX0_comeHome 22 = .ok (.aload_n 0, 1) := by decide +kernel
theorem dX0_comeHome_23 : decode cX0_comeHome 23 = .ok (.getfield 19, 3) := by decide +kernel
theorem dX0_comeHome_26 : decode cX0_comeHome 26 = .ok (.iconst 1, 1) := by decide +kernel
theorem dX0_comeHome_27 : decode cX0_comeHome 27 = .ok (.iaload, 1) := by decide +kernel
theorem dX0_comeHome_28 : decode cX0_comeHome 28 = .ok (.iadd, 1) := by decide +kernel
theorem dX0_comeHome_29 : decode cX0_comeHome 29 = .ok (.istore 4, 2) := by decide +kernel
theorem dX0_comeHome_31 : decode cX0_comeHome 31 = .ok (.iload_n 2, 1) := by decide +kernel
theorem dX0_comeHome_32 : decode cX0_comeHome 32 = .ok (.aload_n 0, 1) := by decide +kernel
theorem dX0_comeHome_33 : decode cX0_comeHome 33 = .ok (.getfield 19, 3) := by decide +kernel
theorem dX0_comeHome_36 : decode cX0_comeHome 36 = .ok (.iconst 0, 1) := by decide +kernel
theorem dX0_comeHome_37 : decode cX0_comeHome 37 = .ok (.iaload, 1) := by decide +kernel
theorem dX0_comeHome_38 : decode cX0_comeHome 38 = .ok (.if_icmp .le 7, 3) := by decide +kernel
theorem dX0_comeHome_41 : decode cX0_comeHome 41 = .ok (.iconst 1, 1) := by decide +kernel
theorem dX0_comeHome_42 : decode cX0_comeHome 42 = .ok (.goto 4, 3) := by decide +kernel
theorem dX0_comeHome_45 : decode cX0_comeHome 45 = .ok (.iconst 0, 1) := by decide +kernel
theorem dX0_comeHome_46 : decode cX0_comeHome 46 = .ok (.istore 5, 2) := by decide +kernel
theorem dX0_comeHome_48 : decode cX0_comeHome 48 = .ok (.iload 5, 2) := by decide +kernel
theorem dX0_comeHome_50 : decode cX0_comeHome 50 = .ok (.ifCond .eq 15, 3) := by decide +kernel
theorem dX0_comeHome_53 : decode cX0_comeHome 53 = .ok (.aload_n 0, 1) := by decide +kernel
theorem dX0_comeHome_54 : decode cX0_comeHome 54 = .ok (.getfield 11, 3) := by decide +kernel
theorem dX0_comeHome_57 : decode cX0_comeHome 57 = .ok (.iconst 4, 1) := by decide +kernel
theorem dX0_comeHome_58 : decode cX0_comeHome 58 = .ok (.aaload, 1) := by decide +kernel
theorem dX0_comeHome_59 : decode cX0_comeHome 59 = .ok (.iload_n 1, 1) := by decide +kernel
theorem dX0_comeHome_60 : decode cX0_comeHome 60 = .ok (.dup2, 1) := by decide +kernel
theorem dX0_comeHome_61 : decode cX0_comeHome 61 = .ok (.iaload, 1) := by decide +kernel
theorem dX0_comeHome_62 : decode cX0_comeHome 62 = .ok (.iconst 1, 1) := by decide +kernel
theorem dX0_comeHome_63 : decode cX0_comeHome 63 = .ok (.iadd, 1) := by decide +kernel
theorem dX0_comeHome_64 : decode cX0_comeHome 64 = .ok (.iastore, 1) := by decide +kernel
theorem dX0_comeHome_65 : decode cX0_comeHome 65 = .ok (.iload_n 1, 1) := by decide +kernel
theorem dX0_comeHome_66 : decode cX0_comeHome 66 = .ok (.istore 6, 2) := by decide +kernel
theorem dX0_comeHome_68 : decode cX0_comeHome 68 = .ok (.iload 5, 2) := by decide +kernel
theorem dX0_comeHome_70 : decode cX0_comeHome 70 = .ok (.ifCond .ne 39, 3) := by decide +kernel
theorem dX0_comeHome_73 : decode cX0_comeHome 73 = .ok (.aload_n 0, 1) := by decide +kernel
theorem dX0_comeHome_74 : decode cX0_comeHome 74 = .ok (.aload_n 0, 1) := by decide +kernel
theorem dX0_comeHome_75 : decode cX0_comeHome 75 = .ok (.getfield 11, 3) := by decide +kernel
theorem dX0_comeHome_78 : decode cX0_comeHome 78 = .ok (.iconst 0, 1) := by decide +kernel
theorem dX0_comeHome_79 : decode cX0_comeHome 79 = .ok (.aaload, 1) := by decide +kernel
theorem dX0_comeHome_80 : decode cX0_comeHome 80 = .ok (.iload_n 1, 1) := by decide +kernel
theorem dX0_comeHome_81 : decode cX0_comeHome 81 = .ok (.iaload, 1) := by decide +kernel
theorem dX0_comeHome_82 : decode cX0_comeHome 82 = .ok (.invokevirtual 86, 3) := by decide +kernel
theorem dX0_comeHome_85 : decode cX0_comeHome 85 = .ok (.ifCond .eq 24, 3) := by decide +kernel
theorem dX0_comeHome_88 : decode cX0_comeHome 88 = .ok (.aload_n 0, 1) := by decide +kernel
theorem dX0_comeHome_89 : decode cX0_comeHome 89 = .ok (.iload_n 1, 1) := by decide +kernel
theorem dX0_comeHome_90 : decode cX0_comeHome 90 = .ok (.aload_n 0, 1) := by decide +kernel
theorem dX0_comeHome_91 : decode cX0_comeHome 91 = .ok (.getfield 53, 3) := by decide +kernel
theorem dX0_comeHome_94 : decode cX0_comeHome 94 = .ok (.iload 4, 2) := by decide +kernel
theorem dX0_comeHome_96 : decode cX0_comeHome 96 = .ok (.if_icmp .ge 7, 3) := by decide +kernel
theorem dX0_comeHome_99 : decode cX0_comeHome 99 = .ok (.iconst 1, 1) := by decide +kernel
theorem dX0_comeHome_100 : decode cX0_comeHome 100 = .ok (.goto 4, 3) := by decide +kernel
theorem dX0_comeHome_103 : decode cX0_comeHome 103 = .ok (.iconst 0, 1) := by decide +kernel
theorem dX0_comeHome_104 : decode cX0_comeHome 104 = .ok (.invokevirtual 92, 3) := by decide +kernel
theorem dX0_comeHome_107 : decode cX0_comeHome 107 = .ok (.istore 6, 2) := by decide +kernel
theorem dX0_comeHome_109 : decode cX0_comeHome 109 = .ok (.iconst 0, 1) := by decide +kernel
theorem dX0_comeHome_110 : decode cX0_comeHome 110 = .ok (.istore 7, 2) := by decide +kernel
theorem dX0_comeHome_112 : decode cX0_comeHome 112 = .ok (.iload 7, 2) := by decide +kernel
theorem dX0_comeHome_114 : decode cX0_comeHome 114 = .ok (.bipush 24, 2) := by decide +kernel
theorem dX0_comeHome_116 : decode cX0_comeHome 116 = .ok (.if_icmp .gt 40, 3) := by decide +kernel
theorem dX0_comeHome_119 : decode cX0_comeHome 119 = .ok (.aload_n 0, 1) := by decide +kernel
theorem dX0_comeHome_120 : decode cX0_comeHome 120 = .ok (.iload 6, 2) := by decide +kernel
theorem dX0_comeHome_122 : decode cX0_comeHome 122 = .ok (.invokevirtual 83, 3) := by decide +kernel
theorem dX0_comeHome_125 : decode cX0_comeHome 125 = .ok (.ifCond .eq 31, 3) := by decide +kernel
theorem dX0_comeHome_128 : decode cX0_comeHome 128 = .ok (.aload_n 0, 1) := by decide +kernel
theorem dX0_comeHome_129 : decode cX0_comeHome 129 = .ok (.iload 6, 2) := by decide +kernel
theorem dX0_comeHome_131 : decode cX0_comeHome 131 = .ok (.aload_n 0, 1) := by decide +kernel
theorem dX0_comeHome_132 : decode cX0_comeHome 132 = .ok (.getfield 53, 3) := by decide +kernel
theorem dX0_comeHome_135 : decode cX0_comeHome 135 = .ok (.iload 4, 2) := by decide +kernel
theorem dX0_comeHome_137 : decode cX0_comeHome 137 = .ok (.if_icmp .ge 7, 3) := by decide +kernel
theorem dX0_comeHome_140 : decode cX0_comeHome 140 = .ok (.iconst 1, 1) := by decide +kernel
theorem dX0_comeHome_141 : decode cX0_comeHome 141 = .ok (.goto 4, 3) := by decide +kernel
theorem dX0_comeHome_144 : decode cX0_comeHome 144 = .ok (.iconst 0, 1) := by decide +kernel
theorem dX0_comeHome_145 : decode cX0_comeHome 145 = .ok (.invokevirtual 96, 3) := by decide +kernel
theorem dX0_comeHome_148 : decode cX0_comeHome 148 = .ok (.istore 6, 2) := by decide +kernel
theorem dX0_comeHome_150 : decode cX0_comeHome 150 = .ok (.iinc 7 1, 3) := by decide +kernel
theorem dX0_comeHome_153 : decode cX0_comeHome 153 = .ok (.goto (-41), 3) := by decide +kernel
theorem dX0_comeHome_156 : decode cX0_comeHome 156 = .ok (.aload_n 0, 1) := by decide +kernel
theorem dX0_comeHome_157 : decode cX0_comeHome 157 = .ok (.getfield 53, 3) := by decide +kernel
theorem dX0_comeHome_160 : decode cX0_comeHome 160 = .ok (.iload_n 3, 1) := by decide +kernel
theorem dX0_comeHome_161 : decode cX0_comeHome 161 = .ok (.isub, 1) := by decide +kernel
theorem dX0_comeHome_162 : decode cX0_comeHome 162 = .ok (.ireturn, 1) := by decide +kernel
set_option maxRecDepth 20000 in
theorem ggX0_enterOwnHole_X0_exists : GoodIn wsX0_enterOwnHole wsX0_exists := goodIn_r _ [7, 1, 30, 31, 32, 33, 34, 35, 36, 37, 38, 39] (by decide +kernel) (by decide +kernel)
set_option maxRecDepth 20000 in
theorem gX0_enterOwnHole_X0_exists : GoodIn wsX0_enterOwnHole (wsV RX0 83 RX0 yX0_exists wsX0_exists) := goodIn_app (goodIn_of _ (by decide +kernel)) ggX0_enterOwnHole_X0_exists
set_option maxRecDepth 20000 in
theorem ggX0_enterOwnHole_X0_shiftFrom : GoodIn wsX0_enterOwnHole wsX0_shiftFrom := goodIn_r _ [11, 2, 12, 1, 13, 14, 15, 16, 6, 17, 18, 19, 20, 21, 22, 23, 24, 25, 26, 27, 28, 29, 30, 31, 32, 33, 34, 35, 36, 37, 38, 39, 40, 41, 42] (by decide +kernel) (by decide +kernel)
set_option maxRecDepth 20000 in
theorem gX0_enterOwnHole_X0_shiftFrom : GoodIn wsX0_enterOwnHole (wsV RX0 99 RX0 yX0_shiftFrom wsX0_shiftFrom) := goodIn_app (goodIn_of _ (by decide +kernel)) ggX0_enterOwnHole_X0_shiftFrom
set_option maxRecDepth 20000 in
theorem ggX0_enterOwnHole_X0_sit : GoodIn wsX0_enterOwnHole wsX0_sit := goodIn_r _ [17, 1, 2, 18, 19, 20, 21, 22, 23, 24, 25, 26, 27, 28, 29, 30, 31, 32, 33, 34, 35, 36, 37, 38, 39, 40, 41, 42] (by decide +kernel) (by decide +kernel)
set_option maxRecDepth 20000 in
theorem gX0_enterOwnHole_X0_sit : GoodIn wsX0_enterOwnHole (wsV RX0 103 RX0 yX0_sit wsX0_sit) := goodIn_app (goodIn_of _ (by decide +kernel)) ggX0_enterOwnHole_X0_sit
theorem dX0_enterOwnHole_0 : decode cX0_enterOwnHole 0 = .ok (.aload_n 0, 1) := by decide +kernel
theorem dX0_enterOwnHole_1 : decode cX0_enterOwnHole 1 = .ok (.getfield 11, 3) := by decide +kernel
theorem dX0_enterOwnHole_4 : decode cX0_enterOwnHole 4 = .ok (.iconst 0, 1) := by decide +kernel
theorem dX0_enterOwnHole_5 : decode cX0_enterOwnHole 5 = .ok (.aaload, 1) := by decide +kernel
theorem dX0_enterOwnHole_6 : decode cX0_enterOwnHole 6 = .ok (.iload_n 1, 1) := by decide +kernel
theorem dX0_enterOwnHole_7 : decode cX0_enterOwnHole 7 = .ok (.iaload, 1) := by decide +kernel
theorem dX0_enterOwnHole_8 : decode cX0_enterOwnHole 8 = .ok (.istore_n 3, 1) := by decide +kernel
theorem dX0_enterOwnHole_9 : decode cX0_enterOwnHole 9 = .ok (.aload_n 0, 1) := by decide +kernel
theorem dX0_enterOwnHole_10 : decode cX0_enterOwnHole 10 = .ok (.getfield 16, 3) := by decide +kernel
theorem dX0_enterOwnHole_13 : decode cX0_enterOwnHole 13 = .ok (.iconst 0, 1) := by decide +kernel
theorem dX0_enterOwnHole_14 : decode cX0_enterOwnHole 14 = .ok (.aaload, 1) := by decide +kernel
theorem dX0_enterOwnHole_15 : decode cX0_enterOwnHole 15 = .ok (.iload_n 3, 1) := by decide +kernel
theorem dX0_enterOwnHole_16 : decode cX0_enterOwnHole 16 = .ok (.iaload, 1) := by decide +kernel
theorem dX0_enterOwnHole_17 : decode cX0_enterOwnHole 17 = .ok (.istore 4, 2) := by decide +kernel
theorem dX0_enterOwnHole_19 : decode cX0_enterOwnHole 19 = .ok (.aload_n 0, 1) := by decide +kernel
theorem dX0_enterOwnHole_20 : decode cX0_enterOwnHole 20 = .ok (.iload 4, 2) := by decide +kernel
theorem dX0_enterOwnHole_22 : decode cX0_enterOwnHole 22 = .ok (.invokevirtual 83, 3) := by decide +kernel
theorem dX0_enterOwnHole_25 : decode cX0_enterOwnHole 25 = .ok (.ifCond .eq 25, 3) := by decide +kernel
theorem dX0_enterOwnHole_28 : decode cX0_enterOwnHole 28 = .ok (.iload_n 2, 1) := by decide +kernel
theorem dX0_enterOwnHole_29 : decode cX0_enterOwnHole 29 = .ok (.ifCond .eq 10, 3) := by decide +kernel
theorem dX0_enterOwnHole_32 : decode cX0_enterOwnHole 32 = .ok (.aload_n 0, 1) := by decide +kernel
theorem dX0_enterOwnHole_33 : decode cX0_enterOwnHole 33 = .ok (.iload_n 3, 1) := by decide +kernel
theorem dX0_enterOwnHole_34 : decode cX0_enterOwnHole 34 = .ok (.iload_n 1, 1) := by decide +kernel
theorem dX0_enterOwnHole_35 : decode cX0_enterOwnHole 35 = .ok (.invokevirtual 99, 3) := by decide +kernel
theorem dX0_enterOwnHole_38 : decode cX0_enterOwnHole 38 = .ok (.ireturn, 1) := by decide +kernel
theorem dX0_enterOwnHole_39 : decode cX0_enterOwnHole 39 = .ok (.aload_n 0, 1) := by decide +kernel
theorem dX0_enterOwnHole_40 : decode cX0_enterOwnHole 40 = .ok (.getfield 11, 3) := by decide +kernel
theorem dX0_enterOwnHole_43 : decode cX0_enterOwnHole 43 = .ok (.iconst 2, 1) := by decide +kernel
theorem dX0_enterOwnHole_44 : decode cX0_enterOwnHole 44 = .ok (.aaload, 1) := by decide +kernel
theorem dX0_enterOwnHole_45 : decode cX0_enterOwnHole 45 = .ok (.iload 4, 2) := by decide +kernel
theorem dX0_enterOwnHole_47 : decode cX0_enterOwnHole 47 = .ok (.bipush 24, 2) := by decide +kernel
theorem dX0_enterOwnHole_49 : decode cX0_enterOwnHole 49 = .ok (.iastore, 1) := by decide +kernel
theorem dX0_enterOwnHole_50 : decode cX0_enterOwnHole 50 = .ok (.aload_n 0, 1) := by decide +kernel
theorem dX0_enterOwnHole_51 : decode cX0_enterOwnHole 51 = .ok (.iload_n 1, 1) := by decide +kernel
theorem dX0_enterOwnHole_52 : decode cX0_enterOwnHole 52 = .ok (.iload_n 3, 1) := by decide +kernel
theorem dX0_enterOwnHole_53 : decode cX0_enterOwnHole 53 = .ok (.invokevirtual 103, 3) := by decide +kernel
theorem dX0_enterOwnHole_56 : decode cX0_enterOwnHole 56 = .ok (.iconst (-1), 1) := by decide +kernel
theorem dX0_enterOwnHole_57 : decode cX0_enterOwnHole 57 = .ok (.ireturn, 1) := by decide +kernel
set_option maxRecDepth 20000 in
theorem ggX0_settle_X0_firstFreeFor : GoodIn wsX0_settle wsX0_firstFreeFor := goodIn_r _ [7, 1, 8, 9, 10, 6, 11, 12, 13, 14, 15, 16, 17, 18, 2, 42, 43, 44, 45, 46, 47, 48, 49, 50, 51] (by decide +kernel) (by decide +kernel)
set_option maxRecDepth 20000 in
theorem gX0_settle_X0_firstFreeFor : GoodIn wsX0_settle (wsV RX0 107 RX0 yX0_firstFreeFor wsX0_firstFreeFor) := goodIn_app (goodIn_of _ (by decide +kernel)) ggX0_settle_X0_firstFreeFor
set_option maxRecDepth 20000 in
theorem ggX0_settle_X0_sit : GoodIn wsX0_settle wsX0_sit := goodIn_r _ [22, 1, 2, 23, 12, 13, 14, 24, 25, 26, 27, 28, 29, 30, 31, 42, 43, 44, 45, 46, 47, 48, 49, 50, 51, 52, 53, 54] (by decide +kernel) (by decide +kernel)
set_option maxRecDepth 20000 in
theorem gX0_settle_X0_sit : GoodIn wsX0_settle (wsV RX0 103 RX0 yX0_sit wsX0_sit) := goodIn_app (goodIn_of _ (by decide +kernel)) ggX0_settle_X0_sit
set_option maxRecDepth 20000 in
theorem ggX0_settle_X0_isOpen : GoodIn wsX0_settle wsX0_isOpen := goodIn_r _ [35, 2, 12, 13, 14, 42, 43, 44, 45, 46, 47, 48, 49, 50, 51] (by decide +kernel) (by decide +kernel)
set_option maxRecDepth 20000 in
theorem gX0_settle_X0_isOpen : GoodIn wsX0_settle (wsV RX0 86 RX0 yX0_isOpen wsX0_isOpen) := goodIn_app (goodIn_of _ (by decide +kernel)) ggX0_settle_X0_isOpen
set_option maxRecDepth 20000 in
theorem ggX0_settle_X0_exists : GoodIn wsX0_settle wsX0_exists := goodIn_r _ [11, 1, 42, 43, 44, 45, 46, 47, 48, 49, 50, 51] (by decide +kernel) (by decide +kernel)
set_option maxRecDepth 20000 in
theorem gX0_settle_X0_exists : GoodIn wsX0_settle (wsV RX0 83 RX0 yX0_exists wsX0_exists) := goodIn_app (goodIn_of _ (by decide +kernel)) ggX0_settle_X0_exists
set_option maxRecDepth 20000 in
theorem ggX0_settle_X0_shiftFrom : GoodIn wsX0_settle wsX0_shiftFrom := goodIn_r _ [39, 2, 40, 1, 41, 19, 20, 21, 6, 22, 23, 12, 13, 14, 24, 25, 26, 27, 28, 29, 30, 31, 42, 43, 44, 45, 46, 47, 48, 49, 50, 51, 52, 53, 54] (by decide +kernel) (by decide +kernel)
set_option maxRecDepth 20000 in
theorem gX0_settle_X0_shiftFrom : GoodIn wsX0_settle (wsV RX0 99 RX0 yX0_shiftFrom wsX0_shiftFrom) := goodIn_app (goodIn_of _ (by decide +kernel)) ggX0_settle_X0_shiftFrom
theorem dX0_settle_0 : decode cX0_settle 0 = .ok (.aload_n 0, 1) := by decide +kernel
theorem dX0_settle_1 : decode cX0_settle 1 = .ok (.iload_n 1, 1) := by decide +kernel
theorem dX0_settle_2 : decode cX0_settle 2 = .ok (.invokevirtual 107, 3) := by decide +kernel
theorem dX0_settle_5 : decode cX0_settle 5 = .ok (.istore_n 3, 1) := by decide +kernel
theorem dX0_settle_6 : decode cX0_settle 6 = .ok (.iload_n 3, 1) := by decide +kernel
theorem dX0_settle_7 : decode cX0_settle 7 = .ok (.iconst (-1), 1) := by decide +kernel
theorem dX0_settle_8 : decode cX0_settle 8 = .ok (.if_icmp .eq 11, 3) := by decide +kernel
theorem dX0_settle_11 : decode cX0_settle 11 = .ok (.aload_n 0, 1) := by decide +kernel
theorem dX0_settle_12 : decode cX0_settle 12 = .ok (.iload_n 1, 1) := by decide +kernel
theorem dX0_settle_13 : decode cX0_settle 13 = .ok (.iload_n 3, 1) := by decide +kernel
theorem dX0_settle_14 : decode cX0_settle 14 = .ok (.invokevirtual 103, 3) := by decide +kernel
theorem dX0_settle_17 : decode cX0_settle 17 = .ok (.iconst (-1), 1) := by decide +kernel
theorem dX0_settle_18 : decode cX0_settle 18 = .ok (.ireturn, 1) := by decide +kernel
theorem dX0_settle_19 : decode cX0_settle 19 = .ok (.aload_n 0, 1) := by decide +kernel
theorem dX0_settle_20 : decode cX0_settle 20 = .ok (.getfield 11, 3) := by decide +kernel
theorem dX0_settle_23 : decode cX0_settle 23 = .ok (.iconst 0, 1) := by decide +kernel
theorem dX0_settle_24 : decode cX0_settle 24 = .ok (.aaload, 1) := by decide +kernel
theorem dX0_settle_25 : decode cX0_settle 25 = .ok (.iload_n 1, 1) := by decide +kernel
theorem dX0_settle_26 : decode cX0_settle 26 = .ok (.iaload, 1) := by decide +kernel
theorem dX0_settle_27 : decode cX0_settle 27 = .ok (.iconst 1, 1) := by decide +kernel
theorem dX0_settle_28 : decode cX0_settle 28 = .ok (.iadd, 1) := by decide +kernel
theorem dX0_settle_29 : decode cX0_settle 29 = .ok (.bipush 24, 2) := by decide +kernel
theorem dX0_settle_31 : decode cX0_settle 31 = .ok (.irem, 1) := by decide +kernel
theorem dX0_settle_32 : decode cX0_settle 32 = .ok (.istore 4, 2) := by decide +kernel
theorem dX0_settle_34 : decode cX0_settle 34 = .ok (.iload_n 2, 1) := by decide +kernel
theorem dX0_settle_35 : decode cX0_settle 35 = .ok (.ifCond .eq 60, 3) := by decide +kernel
theorem dX0_settle_38 : decode cX0_settle 38 = .ok (.aload_n 0, 1) := by decide +kernel
theorem dX0_settle_39 : decode cX0_settle 39 = .ok (.iload 4, 2) := by decide +kernel
theorem dX0_settle_41 : decode cX0_settle 41 = .ok (.invokevirtual 86, 3) := by decide +kernel
theorem dX0_settle_44 : decode cX0_settle 44 = .ok (.ifCond .eq 51, 3) := by decide +kernel
theorem dX0_settle_47 : decode cX0_settle 47 = .ok (.aload_n 0, 1) := by decide +kernel
theorem dX0_settle_48 : decode cX0_settle 48 = .ok (.getfield 16, 3) := by decide +kernel
theorem dX0_settle_51 : decode cX0_settle 51 = .ok (.iconst 0, 1) := by decide +kernel
theorem dX0_settle_52 : decode cX0_settle 52 = .ok (.aaload, 1) := by decide +kernel
theorem dX0_settle_53 : decode cX0_settle 53 = .ok (.iload 4, 2) := by decide +kernel
theorem dX0_settle_55 : decode cX0_settle 55 = .ok (.iaload, 1) := by decide +kernel
theorem dX0_settle_56 : decode cX0_settle 56 = .ok (.istore 5, 2) := by decide +kernel
theorem dX0_settle_58 : decode cX0_settle 58 = .ok (.aload_n 0, 1) := by decide +kernel
theorem dX0_settle_59 : decode cX0_settle 59 = .ok (.iload 5, 2) := by decide +kernel
theorem dX0_settle_61 : decode cX0_settle 61 = .ok (.invokevirtual 83, 3) := by decide +kernel
theorem dX0_settle_64 : decode cX0_settle 64 = .ok (.ifCond .eq 31, 3) := by decide +kernel
theorem dX0_settle_67 : decode cX0_settle 67 = .ok (.aload_n 0, 1) := by decide +kernel
theorem dX0_settle_68 : decode cX0_settle 68 = .ok (.getfield 11, 3) := by decide +kernel
theorem dX0_settle_71 : decode cX0_settle 71 = .ok (.iconst 1, 1) := by decide +kernel
theorem dX0_settle_72 : decode cX0_settle 72 = .ok (.aaload, 1) := by decide +kernel
theorem dX0_settle_73 : decode cX0_settle 73 = .ok (.iload 5, 2) := by decide +kernel
theorem dX0_settle_75 : decode cX0_settle 75 = .ok (.iaload, 1) := by decide +kernel
theorem dX0_settle_76 : decode cX0_settle 76 = .ok (.aload_n 0, 1) := by decide +kernel
theorem dX0_settle_77 : decode cX0_settle 77 = .ok (.getfield 11, 3) := by decide +kernel
theorem dX0_settle_80 : decode cX0_settle 80 = .ok (.iconst 1, 1) := by decide +kernel
theorem dX0_settle_81 : decode cX0_settle 81 = .ok (.aaload, 1) := by decide +kernel
theorem dX0_settle_82 : decode cX0_settle 82 = .ok (.iload_n 1, 1) := by decide +kernel
theorem dX0_settle_83 : decode cX0_settle 83 = .ok (.iaload, 1) := by decide +kernel
theorem dX0_settle_84 : decode cX0_settle 84 = .ok (.if_icmp .ge 11, 3) := by decide +kernel
theorem dX0_settle_87 : decode cX0_settle 87 = .ok (.aload_n 0, 1) := by decide +kernel
theorem dX0_settle_88 : decode cX0_settle 88 = .ok (.iload 4, 2) := by decide +kernel
theorem dX0_settle_90 : decode cX0_settle 90 = .ok (.iload_n 1, 1) := by decide +kernel
theorem dX0_settle_91 : decode cX0_settle 91 = .ok (.invokevirtual 99, 3) := by decide +kernel
theorem dX0_settle_94 : decode cX0_settle 94 = .ok (.ireturn, 1) := by decide +kernel
theorem dX0_settle_95 : decode cX0_settle 95 = .ok (.aload_n 0, 1) := by decide +kernel
theorem dX0_settle_96 : decode cX0_settle 96 = .ok (.iload_n 1, 1) := by decide +kernel
theorem dX0_settle_97 : decode cX0_settle 97 = .ok (.bipush 24, 2) := by decide +kernel
theorem dX0_settle_99 : decode cX0_settle 99 = .ok (.invokevirtual 103, 3) := by decide +kernel
theorem dX0_settle_102 : decode cX0_settle 102 = .ok (.iconst (-1), 1) := by decide +kernel
theorem dX0_settle_103 : decode cX0_settle 103 = .ok (.ireturn, 1) := by decide +kernel
set_option maxRecDepth 20000 in
theorem ggX0_firstFreeFor_X0_exists : GoodIn wsX0_firstFreeFor wsX0_exists := goodIn_r _ [6, 1, 15, 16, 17, 18, 19, 20, 21, 22, 23, 24] (by decide +kernel) (by decide +kernel)
set_option maxRecDepth 20000 in
theorem gX0_firstFreeFor_X0_exists : GoodIn wsX0_firstFreeFor (wsV RX0 83 RX0 yX0_exists wsX0_exists) := goodIn_app (goodIn_of _ (by decide +kernel)) ggX0_firstFreeFor_X0_exists
set_option maxRecDepth 20000 in
theorem ggX0_firstFreeFor_X3_isHole : GoodIn wsX0_firstFreeFor wsX3_isHole := goodIn_r _ [9] (by decide +kernel) (by decide +kernel)
set_option maxRecDepth 20000 in
theorem gX0_firstFreeFor_X3_isHole_n59 : GoodIn wsX0_firstFreeFor (wsX3_isHole) := ggX0_firstFreeFor_X3_isHole
set_option maxRecDepth 20000 in
theorem ggX0_firstFreeFor_X0_isFree : GoodIn wsX0_firstFreeFor wsX0_isFree := goodIn_r _ [13, 14, 7, 8, 9, 15, 16, 17, 18, 19, 20, 21, 22, 23, 24] (by decide +kernel) (by decide +kernel)
set_option maxRecDepth 20000 in
theorem gX0_firstFreeFor_X0_isFree : GoodIn wsX0_firstFreeFor (wsV RX0 110 RX0 yX0_isFree wsX0_isFree) := goodIn_app (goodIn_of _ (by decide +kernel)) ggX0_firstFreeFor_X0_isFree
theorem dX0_firstFreeFor_0 : decode cX0_firstFreeFor 0 = .ok (.aload_n 0, 1) := by decide +kernel
theorem dX0_firstFreeFor_1 : decode cX0_firstFreeFor 1 = .ok (.getfield 11, 3) := by decide +kernel
theorem dX0_firstFreeFor_4 : decode cX0_firstFreeFor 4 = .ok (.iconst 3, 1) := by decide +kernel
theorem dX0_firstFreeFor_5 : decode cX0_firstFreeFor 5 = .ok (.aaload, 1) := by decide +kernel
theorem dX0_firstFreeFor_6 : decode cX0_firstFreeFor 6 = .ok (.iload_n 1, 1) := by decide +kernel
theorem dX0_firstFreeFor_7 : decode cX0_firstFreeFor 7 = .ok (.iaload, 1) := by decide +kernel
theorem dX0_firstFreeFor_8 : decode cX0_firstFreeFor 8 = .ok (.istore_n 2, 1) := by decide +kernel
theorem dX0_firstFreeFor_9 : decode cX0_firstFreeFor 9 = .ok (.aload_n 0, 1) := by decide +kernel
theorem dX0_firstFreeFor_10 : decode cX0_firstFreeFor 10 = .ok (.iload_n 2, 1) := by decide +kernel
theorem dX0_firstFreeFor_11 : decode cX0_firstFreeFor 11 = .ok (.invokevirtual 83, 3) := by decide +kernel
theorem dX0_firstFreeFor_14 : decode cX0_firstFreeFor 14 = .ok (.ifCond .eq 14, 3) := by decide +kernel
theorem dX0_firstFreeFor_17 : decode cX0_firstFreeFor 17 = .ok (.aload_n 0, 1) := by decide +kernel
theorem dX0_firstFreeFor_18 : decode cX0_firstFreeFor 18 = .ok (.getfield 11, 3) := by decide +kernel
theorem dX0_firstFreeFor_21 : decode cX0_firstFreeFor 21 = .ok (.iconst 2, 1) := by decide +kernel
theorem dX0_firstFreeFor_22 : decode cX0_firstFreeFor 22 = .ok (.aaload, 1) := by decide +kernel
theorem dX0_firstFreeFor_23 : decode cX0_firstFreeFor 23 = .ok (.iload_n 2, 1) := by decide +kernel
theorem dX0_firstFreeFor_24 : decode cX0_firstFreeFor 24 = .ok (.iaload, 1) := by decide +kernel
theorem dX0_firstFreeFor_25 : decode cX0_firstFreeFor 25 = .ok (.goto 4, 3) := by decide +kernel
theorem dX0_firstFreeFor_28 : decode cX0_firstFreeFor 28 = .ok (.iconst (-1), 1) := by decide +kernel
theorem dX0_firstFreeFor_29 : decode cX0_firstFreeFor 29 = .ok (.istore_n 3, 1) := by decide +kernel
theorem dX0_firstFreeFor_30 : decode cX0_firstFreeFor 30 = .ok (.iload_n 3, 1) := by decide +kernel
theorem dX0_firstFreeFor_31 : decode cX0_firstFreeFor 31 = .ok (.invokestatic 59, 3) := by decide +kernel
theorem dX0_firstFreeFor_34 : decode cX0_firstFreeFor 34 = .ok (.ifCond .eq 31, 3) := by decide +kernel
theorem dX0_firstFreeFor_37 : decode cX0_firstFreeFor 37 = .ok (.aload_n 0, 1) := by decide +kernel
theorem dX0_firstFreeFor_38 : decode cX0_firstFreeFor 38 = .ok (.iload_n 3, 1) := by decide +kernel
theorem dX0_firstFreeFor_39 : decode cX0_firstFreeFor 39 = .ok (.iconst 1, 1) := by decide +kernel
theorem dX0_firstFreeFor_40 : decode cX0_firstFreeFor 40 = .ok (.isub, 1) := by decide +kernel
theorem dX0_firstFreeFor_41 : decode cX0_firstFreeFor 41 = .ok (.invokevirtual 110, 3) := by decide +kernel
theorem dX0_firstFreeFor_44 : decode cX0_firstFreeFor 44 = .ok (.ifCond .eq 7, 3) := by decide +kernel
theorem dX0_firstFreeFor_47 : decode cX0_firstFreeFor 47 = .ok (.iload_n 3, 1) := by decide +kernel
theorem dX0_firstFreeFor_48 : decode cX0_firstFreeFor 48 = .ok (.iconst 1, 1) := by decide +kernel
theorem dX0_firstFreeFor_49 : decode cX0_firstFreeFor 49 = .ok (.isub, 1) := by decide +kernel
theorem dX0_firstFreeFor_50 : decode cX0_firstFreeFor 50 = .ok (.ireturn, 1) := by decide +kernel
theorem dX0_firstFreeFor_51 : decode cX0_firstFreeFor 51 = .ok (.aload_n 0, 1) := by decide +kernel
theorem dX0_firstFreeFor_52 : decode cX0_firstFreeFor 52 = .ok (.iload_n 3, 1) := by decide +kernel
theorem dX0_firstFreeFor_53 : decode cX0_firstFreeFor 53 = .ok (.iconst 1, 1) := by decide +kernel
theorem dX0_firstFreeFor_54 : decode cX0_firstFreeFor 54 = .ok (.iadd, 1) := by decide +kernel
theorem dX0_firstFreeFor_55 : decode cX0_firstFreeFor 55 = .ok (.invokevirtual 110, 3) := by decide +kernel
theorem dX0_firstFreeFor_58 : decode cX0_firstFreeFor 58 = .ok (.ifCond .eq 7, 3) := by decide +kernel
theorem dX0_firstFreeFor_61 : decode cX0_firstFreeFor 61 = .ok (.iload_n 3, 1) := by decide +kernel
theorem dX0_firstFreeFor_62 : decode cX0_firstFreeFor 62 = .ok (.iconst 1, 1) := by decide +kernel
theorem dX0_firstFreeFor_63 : decode cX0_firstFreeFor 63 = .ok (.iadd, 1) := by decide +kernel
theorem dX0_firstFreeFor_64 : decode cX0_firstFreeFor 64 = .ok (.ireturn, 1) := by decide +kernel
theorem dX0_firstFreeFor_65 : decode cX0_firstFreeFor 65 = .ok (.iconst 0, 1) := by decide +kernel
theorem dX0_firstFreeFor_66 : decode cX0_firstFreeFor 66 = .ok (.istore 4, 2) := by decide +kernel
theorem dX0_firstFreeFor_68 : decode cX0_firstFreeFor 68 = .ok (.iload 4, 2) := by decide +kernel
theorem dX0_firstFreeFor_70 : decode cX0_firstFreeFor 70 = .ok (.bipush 24, 2) := by decide +kernel
theorem dX0_firstFreeFor_72 : decode cX0_firstFreeFor 72 = .ok (.if_icmp .ge 37, 3) := by decide +kernel
theorem dX0_firstFreeFor_75 : decode cX0_firstFreeFor 75 = .ok (.aload_n 0, 1) := by decide +kernel
theorem dX0_firstFreeFor_76 : decode cX0_firstFreeFor 76 = .ok (.getfield 11, 3) := by decide +kernel
theorem dX0_firstFreeFor_79 : decode cX0_firstFreeFor 79 = .ok (.iconst 0, 1) := by decide +kernel
theorem dX0_firstFreeFor_80 : decode cX0_firstFreeFor 80 = .ok (.aaload, 1) := by decide +kernel
theorem dX0_firstFreeFor_81 : decode cX0_firstFreeFor 81 = .ok (.iload_n 1, 1) := by decide +kernel
theorem dX0_firstFreeFor_82 : decode cX0_firstFreeFor 82 = .ok (.iaload, 1) := by decide +kernel
theorem dX0_firstFreeFor_83 : decode cX0_firstFreeFor 83 = .ok (.iload 4, 2) := by decide +kernel
theorem dX0_firstFreeFor_85 : decode cX0_firstFreeFor 85 = .ok (.iadd, 1) := by decide +kernel
theorem dX0_firstFreeFor_86 : decode cX0_firstFreeFor 86 = .ok (.bipush 24, 2) := by decide +kernel
theorem dX0_firstFreeFor_88 : decode cX0_firstFreeFor 88 = .ok (.irem, 1) := by decide +kernel
theorem dX0_firstFreeFor_89 : decode cX0_firstFreeFor 89 = .ok (.istore 5, 2) := by decide +kernel
theorem dX0_firstFreeFor_91 : decode cX0_firstFreeFor 91 = .ok (.aload_n 0, 1) := by decide +kernel
theorem dX0_firstFreeFor_92 : decode cX0_firstFreeFor 92 = .ok (.iload 5, 2) := by decide +kernel
theorem dX0_firstFreeFor_94 : decode cX0_firstFreeFor 94 = .ok (.invokevirtual 110, 3) := by decide +kernel
theorem dX0_firstFreeFor_97 : decode cX0_firstFreeFor 97 = .ok (.ifCond .eq 6, 3) := by decide +kernel
theorem dX0_firstFreeFor_100 : decode cX0_firstFreeFor 100 = .ok (.iload 5, 2) := by decide +kernel
theorem dX0_firstFreeFor_102 : decode cX0_firstFreeFor 102 = .ok (.ireturn, 1) := by decide +kernel
theorem dX0_firstFreeFor_103 : decode cX0_firstFreeFor 103 = .ok (.iinc 4 1, 3) := by decide +kernel
theorem dX0_firstFreeFor_106 : decode cX0_firstFreeFor 106 = .ok (.goto (-38), 3) := by decide +kernel
theorem dX0_firstFreeFor_109 : decode cX0_firstFreeFor 109 = .ok (.iconst (-1), 1) := by decide +kernel
theorem dX0_firstFreeFor_110 : decode cX0_firstFreeFor 110 = .ok (.ireturn, 1) := by decide +kernel
set_option maxRecDepth 20000 in
theorem ggX0_shiftFrom_X0_sit : GoodIn wsX0_shiftFrom wsX0_sit := goodIn_r _ [9, 3, 1, 10, 11, 12, 13, 14, 15, 16, 17, 18, 19, 20, 21, 22, 23, 24, 25, 26, 27, 28, 29, 30, 31, 32, 33, 34] (by decide +kernel) (by decide +kernel)
set_option maxRecDepth 20000 in
theorem gX0_shiftFrom_X0_sit : GoodIn wsX0_shiftFrom (wsV RX0 103 RX0 yX0_sit wsX0_sit) := goodIn_app (goodIn_of _ (by decide +kernel)) ggX0_shiftFrom_X0_sit
theorem dX0_shiftFrom_0 : decode cX0_shiftFrom 0 = .ok (.aload_n 0, 1) := by decide +kernel
theorem dX0_shiftFrom_1 : decode cX0_shiftFrom 1 = .ok (.getfield 16, 3) := by decide +kernel
theorem dX0_shiftFrom_4 : decode cX0_shiftFrom 4 = .ok (.iconst 0, 1) := by decide +kernel
theorem dX0_shiftFrom_5 : decode cX0_shiftFrom 5 = .ok (.aaload, 1) := by decide +kernel
theorem dX0_shiftFrom_6 : decode cX0_shiftFrom 6 = .ok (.iload_n 1, 1) := by decide +kernel
theorem dX0_shiftFrom_7 : decode cX0_shiftFrom 7 = .ok (.iaload, 1) := by decide +kernel
theorem dX0_shiftFrom_8 : decode cX0_shiftFrom 8 = .ok (.istore_n 3, 1) := by decide +kernel
theorem dX0_shiftFrom_9 : decode cX0_shiftFrom 9 = .ok (.aload_n 0, 1) := by decide +kernel
theorem dX0_shiftFrom_10 : decode cX0_shiftFrom 10 = .ok (.dup, 1) := by decide +kernel
theorem dX0_shiftFrom_11 : decode cX0_shiftFrom 11 = .ok (.getfield 53, 3) := by decide +kernel
theorem dX0_shiftFrom_14 : decode cX0_shiftFrom 14 = .ok (.iconst 1, 1) := by decide +kernel
theorem dX0_shiftFrom_15 : decode cX0_shiftFrom 15 = .ok (.iadd, 1) := by decide +kernel
theorem dX0_shiftFrom_16 : decode cX0_shiftFrom 16 = .ok (.putfield 53, 3) := by decide +kernel
theorem dX0_shiftFrom_19 : decode cX0_shiftFrom 19 = .ok (.aload_n 0, 1) := by decide +kernel
theorem dX0_shiftFrom_20 : decode cX0_shiftFrom 20 = .ok (.getfield 11, 3) := by decide +kernel
theorem dX0_shiftFrom_23 : decode cX0_shiftFrom 23 = .ok (.iconst 3, 1) := by decide +kernel
theorem dX0_shiftFrom_24 : decode cX0_shiftFrom 24 = .ok (.aaload, 1) := by decide +kernel
theorem dX0_shiftFrom_25 : decode cX0_shiftFrom 25 = .ok (.iload_n 2, 1) := by decide +kernel
theorem dX0_shiftFrom_26 : decode cX0_shiftFrom 26 = .ok (.iaload, 1) := by decide +kernel
theorem dX0_shiftFrom_27 : decode cX0_shiftFrom 27 = .ok (.iload_n 3, 1) := by decide +kernel
theorem dX0_shiftFrom_28 : decode cX0_shiftFrom 28 = .ok (.if_icmp .eq 13, 3) := by decide +kernel
theorem dX0_shiftFrom_31 : decode cX0_shiftFrom 31 = .ok (.aload_n 0, 1) := by decide +kernel
theorem dX0_shiftFrom_32 : decode cX0_shiftFrom 32 = .ok (.dup, 1) := by decide +kernel
theorem dX0_shiftFrom_33 : decode cX0_shiftFrom 33 = .ok (.getfield 56, 3) := by decide +kernel
theorem dX0_shiftFrom_36 : decode cX0_shiftFrom 36 = .ok (.iconst 1, 1) := by decide +kernel
theorem dX0_shiftFrom_37 : decode cX0_shiftFrom 37 = .ok (.iadd, 1) := by decide +kernel
theorem dX0_shiftFrom_38 : decode cX0_shiftFrom 38 = .ok (.putfield 56, 3) := by decide +kernel
theorem dX0_shiftFrom_41 : decode cX0_shiftFrom 41 = .ok (.aload_n 0, 1) := by decide +kernel
theorem dX0_shiftFrom_42 : decode cX0_shiftFrom 42 = .ok (.getfield 11, 3) := by decide +kernel
theorem dX0_shiftFrom_45 : decode cX0_shiftFrom 45 = .ok (.iconst 5, 1) := by decide +kernel
theorem dX0_shiftFrom_46 : decode cX0_shiftFrom 46 = .ok (.aaload, 1) := by decide +kernel
theorem dX0_shiftFrom_47 : decode cX0_shiftFrom 47 = .ok (.iload_n 3, 1) := by decide +kernel
theorem dX0_shiftFrom_48 : decode cX0_shiftFrom 48 = .ok (.dup2, 1) := by decide +kernel
theorem dX0_shiftFrom_49 : decode cX0_shiftFrom 49 = .ok (.iaload, 1) := by decide +kernel
theorem dX0_shiftFrom_50 : decode cX0_shiftFrom 50 = .ok (.iconst 1, 1) := by decide +kernel
theorem dX0_shiftFrom_51 : decode cX0_shiftFrom 51 = .ok (.iadd, 1) := by decide +kernel
theorem dX0_shiftFrom_52 : decode cX0_shiftFrom 52 = .ok (.iastore, 1) := by decide +kernel
theorem dX0_shiftFrom_53 : decode cX0_shiftFrom 53 = .ok (.aload_n 0, 1) := by decide +kernel
theorem dX0_shiftFrom_54 : decode cX0_shiftFrom 54 = .ok (.getfield 11, 3) := by decide +kernel
theorem dX0_shiftFrom_57 : decode cX0_shiftFrom 57 = .ok (.iconst 2, 1) := by decide +kernel
theorem dX0_shiftFrom_58 : decode cX0_shiftFrom 58 = .ok (.aaload, 1) := by decide +kernel
theorem dX0_shiftFrom_59 : decode cX0_shiftFrom 59 = .ok (.iload_n 3, 1) := by decide +kernel
theorem dX0_shiftFrom_60 : decode cX0_shiftFrom 60 = .ok (.iconst (-1), 1) := by decide +kernel
theorem dX0_shiftFrom_61 : decode cX0_shiftFrom 61 = .ok (.iastore, 1) := by decide +kernel
theorem dX0_shiftFrom_62 : decode cX0_shiftFrom 62 = .ok (.aload_n 0, 1) := by decide +kernel
theorem dX0_shiftFrom_63 : decode cX0_shiftFrom 63 = .ok (.iload_n 2, 1) := by decide +kernel
theorem dX0_shiftFrom_64 : decode cX0_shiftFrom 64 = .ok (.iload_n 1, 1) := by decide +kernel
theorem dX0_shiftFrom_65 : decode cX0_shiftFrom 65 = .ok (.invokevirtual 103, 3) := by decide +kernel
theorem dX0_shiftFrom_68 : decode cX0_shiftFrom 68 = .ok (.iload_n 3, 1) := by decide +kernel
theorem dX0_shiftFrom_69 : decode cX0_shiftFrom 69 = .ok (.ireturn, 1) := by decide +kernel
set_option maxRecDepth 20000 in
theorem ggX0_sit_X3_isHole : GoodIn wsX0_sit wsX3_isHole := goodIn_r _ [6] (by decide +kernel) (by decide +kernel)
set_option maxRecDepth 20000 in
theorem gX0_sit_X3_isHole_n59 : GoodIn wsX0_sit (wsX3_isHole) := ggX0_sit_X3_isHole
set_option maxRecDepth 20000 in
theorem ggX0_sit_X2_note : GoodIn wsX0_sit wsX2_note := goodIn_r _ [11, 12, 13, 14, 25, 26, 27] (by decide +kernel) (by decide +kernel)
set_option maxRecDepth 20000 in
theorem gX0_sit_X2_note : GoodIn wsX0_sit (wsV RX0 113 RX2 yX2_note wsX2_note) := goodIn_app (goodIn_of _ (by decide +kernel)) ggX0_sit_X2_note
theorem dX0_sit_0 : decode cX0_sit 0 = .ok (.aload_n 0, 1) := by decide +kernel
theorem dX0_sit_1 : decode cX0_sit 1 = .ok (.getfield 11, 3) := by decide +kernel
theorem dX0_sit_4 : decode cX0_sit 4 = .ok (.iconst 2, 1) := by decide +kernel
theorem dX0_sit_5 : decode cX0_sit 5 = .ok (.aaload, 1) := by decide +kernel
theorem dX0_sit_6 : decode cX0_sit 6 = .ok (.iload_n 1, 1) := by decide +kernel
theorem dX0_sit_7 : decode cX0_sit 7 = .ok (.iload_n 2, 1) := by decide +kernel
theorem dX0_sit_8 : decode cX0_sit 8 = .ok (.iastore, 1) := by decide +kernel
theorem dX0_sit_9 : decode cX0_sit 9 = .ok (.iload_n 2, 1) := by decide +kernel
theorem dX0_sit_10 : decode cX0_sit 10 = .ok (.invokestatic 59, 3) := by decide +kernel
theorem dX0_sit_13 : decode cX0_sit 13 = .ok (.ifCond .eq 12, 3) := by decide +kernel
theorem dX0_sit_16 : decode cX0_sit 16 = .ok (.aload_n 0, 1) := by decide +kernel
theorem dX0_sit_17 : decode cX0_sit 17 = .ok (.getfield 16, 3) := by decide +kernel
theorem dX0_sit_20 : decode cX0_sit 20 = .ok (.iconst 0, 1) := by decide +kernel
theorem dX0_sit_21 : decode cX0_sit 21 = .ok (.aaload, 1) := by decide +kernel
theorem dX0_sit_22 : decode cX0_sit 22 = .ok (.iload_n 2, 1) := by decide +kernel
theorem dX0_sit_23 : decode cX0_sit 23 = .ok (.iload_n 1, 1) := by decide +kernel
theorem dX0_sit_24 : decode cX0_sit 24 = .ok (.iastore, 1) := by decide +kernel
theorem dX0_sit_25 : decode cX0_sit 25 = .ok (.aload_n 0, 1) := by decide +kernel
theorem dX0_sit_26 : decode cX0_sit 26 = .ok (.getfield 32, 3) := by decide +kernel
theorem dX0_sit_29 : decode cX0_sit 29 = .ok (.iload_n 1, 1) := by decide +kernel
theorem dX0_sit_30 : decode cX0_sit 30 = .ok (.iload_n 2, 1) := by decide +kernel
theorem dX0_sit_31 : decode cX0_sit 31 = .ok (.invokevirtual 113, 3) := by decide +kernel
theorem dX0_sit_34 : decode cX0_sit 34 = .ok (.return_, 1) := by decide +kernel
set_option maxRecDepth 20000 in
theorem ggX0_endNight_X0_exists : GoodIn wsX0_endNight wsX0_exists := goodIn_r _ [10, 2, 15, 16, 17, 18, 19, 20, 21, 22, 23, 24] (by decide +kernel) (by decide +kernel)
set_option maxRecDepth 20000 in
theorem gX0_endNight_X0_exists : GoodIn wsX0_endNight (wsV RX0 83 RX0 yX0_exists wsX0_exists) := goodIn_app (goodIn_of _ (by decide +kernel)) ggX0_endNight_X0_exists
set_option maxRecDepth 20000 in
theorem ggX0_endNight_X0_countAtDawn : GoodIn wsX0_endNight wsX0_countAtDawn := goodIn_r _ [14, 2, 1, 15, 16, 17, 18, 19, 20, 21, 22, 23, 24] (by decide +kernel) (by decide +kernel)
set_option maxRecDepth 20000 in
theorem gX0_endNight_X0_countAtDawn : GoodIn wsX0_endNight (wsV RX0 116 RX0 yX0_countAtDawn wsX0_countAtDawn) := goodIn_app (goodIn_of _ (by decide +kernel)) ggX0_endNight_X0_countAtDawn
theorem dX0_endNight_0 : decode cX0_endNight 0 = .ok (.iconst 0, 1) := by decide +kernel
theorem dX0_endNight_1 : decode cX0_endNight 1 = .ok (.istore_n 1, 1) := by decide +kernel
theorem dX0_endNight_2 : decode cX0_endNight 2 = .ok (.iload_n 1, 1) := by decide +kernel
theorem dX0_endNight_3 : decode cX0_endNight 3 = .ok (.iconst 4, 1) := by decide +kernel
theorem dX0_endNight_4 : decode cX0_endNight 4 = .ok (.if_icmp .ge 16, 3) := by decide +kernel
theorem dX0_endNight_7 : decode cX0_endNight 7 = .ok (.aload_n 0, 1) := by decide +kernel
theorem dX0_endNight_8 : decode cX0_endNight 8 = .ok (.getfield 23, 3) := by decide +kernel
theorem dX0_endNight_11 : decode cX0_endNight 11 = .ok (.iload_n 1, 1) := by decide +kernel
theorem dX0_endNight_12 : decode cX0_endNight 12 = .ok (.iconst 0, 1) := by decide +kernel
theorem dX0_endNight_13 : decode cX0_endNight 13 = .ok (.iastore, 1) := by decide +kernel
theorem dX0_endNight_14 : decode cX0_endNight 14 = .ok (.iinc 1 1, 3) := by decide +kernel
theorem dX0_endNight_17 : decode cX0_endNight 17 = .ok (.goto (-15), 3) := by decide +kernel
theorem dX0_endNight_20 : decode cX0_endNight 20 = .ok (.iconst 0, 1) := by decide +kernel
theorem dX0_endNight_21 : decode cX0_endNight 21 = .ok (.istore_n 1, 1) := by decide +kernel
theorem dX0_endNight_22 : decode cX0_endNight 22 = .ok (.iload_n 1, 1) := by decide +kernel
theorem dX0_endNight_23 : decode cX0_endNight 23 = .ok (.bipush 16, 2) := by decide +kernel
theorem dX0_endNight_25 : decode cX0_endNight 25 = .ok (.if_icmp .ge 31, 3) := by decide +kernel
theorem dX0_endNight_28 : decode cX0_endNight 28 = .ok (.aload_n 0, 1) := by decide +kernel
theorem dX0_endNight_29 : decode cX0_endNight 29 = .ok (.iload_n 1, 1) := by decide +kernel
theorem dX0_endNight_30 : decode cX0_endNight 30 = .ok (.invokevirtual 83, 3) := by decide +kernel
theorem dX0_endNight_33 : decode cX0_endNight 33 = .ok (.ifCond .eq 17, 3) := by decide +kernel
theorem dX0_endNight_36 : decode cX0_endNight 36 = .ok (.aload_n 0, 1) := by decide +kernel
theorem dX0_endNight_37 : decode cX0_endNight 37 = .ok (.iload_n 1, 1) := by decide +kernel
theorem dX0_endNight_38 : decode cX0_endNight 38 = .ok (.invokevirtual 116, 3) := by decide +kernel
theorem dX0_endNight_41 : decode cX0_endNight 41 = .ok (.aload_n 0, 1) := by decide +kernel
theorem dX0_endNight_42 : decode cX0_endNight 42 = .ok (.getfield 11, 3) := by decide +kernel
theorem dX0_endNight_45 : decode cX0_endNight 45 = .ok (.iconst 2, 1) := by decide +kernel
theorem dX0_endNight_46 : decode cX0_endNight 46 = .ok (.aaload, 1) := by decide +kernel
theorem dX0_endNight_47 : decode cX0_endNight 47 = .ok (.iload_n 1, 1) := by decide +kernel
theorem dX0_endNight_48 : decode cX0_endNight 48 = .ok (.iconst (-1), 1) := by decide +kernel
theorem dX0_endNight_49 : decode cX0_endNight 49 = .ok (.iastore, 1) := by decide +kernel
theorem dX0_endNight_50 : decode cX0_endNight 50 = .ok (.iinc 1 1, 3) := by decide +kernel
theorem dX0_endNight_53 : decode cX0_endNight 53 = .ok (.goto (-31), 3) := by decide +kernel
theorem dX0_endNight_56 : decode cX0_endNight 56 = .ok (.iconst 0, 1) := by decide +kernel
theorem dX0_endNight_57 : decode cX0_endNight 57 = .ok (.istore_n 1, 1) := by decide +kernel
theorem dX0_endNight_58 : decode cX0_endNight 58 = .ok (.iload_n 1, 1) := by decide +kernel
theorem dX0_endNight_59 : decode cX0_endNight 59 = .ok (.bipush 24, 2) := by decide +kernel
theorem dX0_endNight_61 : decode cX0_endNight 61 = .ok (.if_icmp .ge 18, 3) := by decide +kernel
theorem dX0_endNight_64 : decode cX0_endNight 64 = .ok (.aload_n 0, 1) := by decide +kernel
theorem dX0_endNight_65 : decode cX0_endNight 65 = .ok (.getfield 16, 3) := by decide +kernel
theorem dX0_endNight_68 : decode cX0_endNight 68 = .ok (.iconst 0, 1) := by decide +kernel
theorem dX0_endNight_69 : decode cX0_endNight 69 = .ok (.aaload, 1) := by decide +kernel
theorem dX0_endNight_70 : decode cX0_endNight 70 = .ok (.iload_n 1, 1) := by decide +kernel
theorem dX0_endNight_71 : decode cX0_endNight 71 = .ok (.iconst (-1), 1) := by decide +kernel
theorem dX0_endNight_72 : decode cX0_endNight 72 = .ok (.iastore, 1) := by decide +kernel
theorem dX0_endNight_73 : decode cX0_endNight 73 = .ok (.iinc 1 1, 3) := by decide +kernel
theorem dX0_endNight_76 : decode cX0_endNight 76 = .ok (.goto (-18), 3) := by decide +kernel
theorem dX0_endNight_79 : decode cX0_endNight 79 = .ok (.aload_n 0, 1) := by decide +kernel
theorem dX0_endNight_80 : decode cX0_endNight 80 = .ok (.dup, 1) := by decide +kernel
theorem dX0_endNight_81 : decode cX0_endNight 81 = .ok (.getfield 46, 3) := by decide +kernel
theorem dX0_endNight_84 : decode cX0_endNight 84 = .ok (.iconst 1, 1) := by decide +kernel
theorem dX0_endNight_85 : decode cX0_endNight 85 = .ok (.iadd, 1) := by decide +kernel
theorem dX0_endNight_86 : decode cX0_endNight 86 = .ok (.putfield 46, 3) := by decide +kernel
theorem dX0_endNight_89 : decode cX0_endNight 89 = .ok (.aload_n 0, 1) := by decide +kernel
theorem dX0_endNight_90 : decode cX0_endNight 90 = .ok (.iconst 0, 1) := by decide +kernel
theorem dX0_endNight_91 : decode cX0_endNight 91 = .ok (.putfield 50, 3) := by decide +kernel
theorem dX0_endNight_94 : decode cX0_endNight 94 = .ok (.aload_n 0, 1) := by decide +kernel
theorem dX0_endNight_95 : decode cX0_endNight 95 = .ok (.getfield 23, 3) := by decide +kernel
theorem dX0_endNight_98 : decode cX0_endNight 98 = .ok (.iconst 0, 1) := by decide +kernel
theorem dX0_endNight_99 : decode cX0_endNight 99 = .ok (.iaload, 1) := by decide +kernel
theorem dX0_endNight_100 : decode cX0_endNight 100 = .ok (.aload_n 0, 1) := by decide +kernel
theorem dX0_endNight_101 : decode cX0_endNight 101 = .ok (.getfield 23, 3) := by decide +kernel
theorem dX0_endNight_104 : decode cX0_endNight 104 = .ok (.iconst 1, 1) := by decide +kernel
theorem dX0_endNight_105 : decode cX0_endNight 105 = .ok (.iaload, 1) := by decide +kernel
theorem dX0_endNight_106 : decode cX0_endNight 106 = .ok (.iadd, 1) := by decide +kernel
theorem dX0_endNight_107 : decode cX0_endNight 107 = .ok (.ireturn, 1) := by decide +kernel
theorem dX0_countAtDawn_0 : decode cX0_countAtDawn 0 = .ok (.aload_n 0, 1) := by decide +kernel
theorem dX0_countAtDawn_1 : decode cX0_countAtDawn 1 = .ok (.getfield 11, 3) := by decide +kernel
theorem dX0_countAtDawn_4 : decode cX0_countAtDawn 4 = .ok (.iconst 2, 1) := by decide +kernel
theorem dX0_countAtDawn_5 : decode cX0_countAtDawn 5 = .ok (.aaload, 1) := by decide +kernel
theorem dX0_countAtDawn_6 : decode cX0_countAtDawn 6 = .ok (.iload_n 1, 1) := by decide +kernel
theorem dX0_countAtDawn_7 : decode cX0_countAtDawn 7 = .ok (.iaload, 1) := by decide +kernel
theorem dX0_countAtDawn_8 : decode cX0_countAtDawn 8 = .ok (.istore_n 2, 1) := by decide +kernel
theorem dX0_countAtDawn_9 : decode cX0_countAtDawn 9 = .ok (.iload_n 2, 1) := by decide +kernel
theorem dX0_countAtDawn_10 : decode cX0_countAtDawn 10 = .ok (.iconst (-1), 1) := by decide +kernel
theorem dX0_countAtDawn_11 : decode cX0_countAtDawn 11 = .ok (.if_icmp .ne 29, 3) := by decide +kernel
theorem dX0_countAtDawn_14 : decode cX0_countAtDawn 14 = .ok (.aload_n 0, 1) := by decide +kernel
theorem dX0_countAtDawn_15 : decode cX0_countAtDawn 15 = .ok (.getfield 23, 3) := by decide +kernel
theorem dX0_countAtDawn_18 : decode cX0_countAtDawn 18 = .ok (.iconst 3, 1) := by decide +kernel
theorem dX0_countAtDawn_19 : decode cX0_countAtDawn 19 = .ok (.dup2, 1) := by decide +kernel
theorem dX0_countAtDawn_20 : decode cX0_countAtDawn 20 = .ok (.iaload, 1) := by decide +kernel
theorem dX0_countAtDawn_21 : decode cX0_countAtDawn 21 = .ok (.iconst 1, 1) := by decide +kernel
theorem dX0_countAtDawn_22 : decode cX0_countAtDawn 22 = .ok (.iadd, 1) := by decide +kernel
theorem dX0_countAtDawn_23 : decode cX0_countAtDawn 23 = .ok (.iastore, 1) := by decide +kernel
theorem dX0_countAtDawn_24 : decode cX0_countAtDawn 24 = .ok (.aload_n 0, 1) := by decide +kernel
theorem dX0_countAtDawn_25 : decode cX0_countAtDawn 25 = .ok (.getfield 11, 3) := by decide +kernel
theorem dX0_countAtDawn_28 : decode cX0_countAtDawn 28 = .ok (.bipush 6, 2) := by decide +kernel
theorem dX0_countAtDawn_30 : decode cX0_countAtDawn 30 = .ok (.aaload, 1) := by decide +kernel
theorem dX0_countAtDawn_31 : decode cX0_countAtDawn 31 = .ok (.iload_n 1, 1) := by decide +kernel
theorem dX0_countAtDawn_32 : decode cX0_countAtDawn 32 = .ok (.dup2, 1) := by decide +kernel
theorem dX0_countAtDawn_33 : decode cX0_countAtDawn 33 = .ok (.iaload, 1) := by decide +kernel
theorem dX0_countAtDawn_34 : decode cX0_countAtDawn 34 = .ok (.iconst 1, 1) := by decide +kernel
theorem dX0_countAtDawn_35 : decode cX0_countAtDawn 35 = .ok (.iadd, 1) := by decide +kernel
theorem dX0_countAtDawn_36 : decode cX0_countAtDawn 36 = .ok (.iastore, 1) := by decide +kernel
theorem dX0_countAtDawn_37 : decode cX0_countAtDawn 37 = .ok (.goto 70, 3) := by decide +kernel
theorem dX0_countAtDawn_40 : decode cX0_countAtDawn 40 = .ok (.iload_n 2, 1) := by decide +kernel
theorem dX0_countAtDawn_41 : decode cX0_countAtDawn 41 = .ok (.bipush 24, 2) := by decide +kernel
theorem dX0_countAtDawn_43 : decode cX0_countAtDawn 43 = .ok (.if_icmp .ne 16, 3) := by decide +kernel
theorem dX0_countAtDawn_46 : decode cX0_countAtDawn 46 = .ok (.aload_n 0, 1) := by decide +kernel
theorem dX0_countAtDawn_47 : decode cX0_countAtDawn 47 = .ok (.getfield 23, 3) := by decide +kernel
theorem dX0_countAtDawn_50 : decode cX0_countAtDawn 50 = .ok (.iconst 2, 1) := by decide +kernel
theorem dX0_countAtDawn_51 : decode cX0_countAtDawn 51 = .ok (.dup2, 1) := by decide +kernel
theorem dX0_countAtDawn_52 : decode cX0_countAtDawn 52 = .ok (.iaload, 1) := by decide +kernel
theorem dX0_countAtDawn_53 : decode cX0_countAtDawn 53 = .ok (.iconst 1, 1) := by decide +kernel
theorem dX0_countAtDawn_54 : decode cX0_countAtDawn 54 = .ok (.iadd, 1) := by decide +kernel
theorem dX0_countAtDawn_55 : decode cX0_countAtDawn 55 = .ok (.iastore, 1) := by decide +kernel
theorem dX0_countAtDawn_56 : decode cX0_countAtDawn 56 = .ok (.goto 51, 3) := by decide +kernel
theorem dX0_countAtDawn_59 : decode cX0_countAtDawn 59 = .ok (.iload_n 2, 1) := by decide +kernel
theorem dX0_countAtDawn_60 : decode cX0_countAtDawn 60 = .ok (.aload_n 0, 1) := by decide +kernel
theorem dX0_countAtDawn_61 : decode cX0_countAtDawn 61 = .ok (.getfield 11, 3) := by decide +kernel
theorem dX0_countAtDawn_64 : decode cX0_countAtDawn 64 = .ok (.iconst 0, 1) := by decide +kernel
theorem dX0_countAtDawn_65 : decode cX0_countAtDawn 65 = .ok (.aaload, 1) := by decide +kernel
theorem dX0_countAtDawn_66 : decode cX0_countAtDawn 66 = .ok (.iload_n 1, 1) := by decide +kernel
theorem dX0_countAtDawn_67 : decode cX0_countAtDawn 67 = .ok (.iaload, 1) := by decide +kernel
theorem dX0_countAtDawn_68 : decode cX0_countAtDawn 68 = .ok (.if_icmp .ne 29, 3) := by decide +kernel
theorem dX0_countAtDawn_71 : decode cX0_countAtDawn 71 = .ok (.aload_n 0, 1) := by decide +kernel
theorem dX0_countAtDawn_72 : decode cX0_countAtDawn 72 = .ok (.getfield 23, 3) := by decide +kernel
theorem dX0_countAtDawn_75 : decode cX0_countAtDawn 75 = .ok (.iconst 0, 1) := by decide +kernel
theorem dX0_countAtDawn_76 : decode cX0_countAtDawn 76 = .ok (.dup2, 1) := by decide +kernel
theorem dX0_countAtDawn_77 : decode cX0_countAtDawn 77 = .ok (.iaload, 1) := by decide +kernel
theorem dX0_countAtDawn_78 : decode cX0_countAtDawn 78 = .ok (.iconst 1, 1) := by decide +kernel
theorem dX0_countAtDawn_79 : decode cX0_countAtDawn 79 = .ok (.iadd, 1) := by decide +kernel
theorem dX0_countAtDawn_80 : decode cX0_countAtDawn 80 = .ok (.iastore, 1) := by decide +kernel
theorem dX0_countAtDawn_81 : decode cX0_countAtDawn 81 = .ok (.aload_n 0, 1) := by decide +kernel
theorem dX0_countAtDawn_82 : decode cX0_countAtDawn 82 = .ok (.getfield 11, 3) := by decide +kernel
theorem dX0_countAtDawn_85 : decode cX0_countAtDawn 85 = .ok (.bipush 7, 2) := by decide +kernel
theorem dX0_countAtDawn_87 : decode cX0_countAtDawn 87 = .ok (.aaload, 1) := by decide +kernel
theorem dX0_countAtDawn_88 : decode cX0_countAtDawn 88 = .ok (.iload_n 1, 1) := by decide +kernel
theorem dX0_countAtDawn_89 : decode cX0_countAtDawn 89 = .ok (.dup2, 1) := by decide +kernel
theorem dX0_countAtDawn_90 : decode cX0_countAtDawn 90 = .ok (.iaload, 1) := by decide +kernel
theorem dX0_countAtDawn_91 : decode cX0_countAtDawn 91 = .ok (.iconst 1, 1) := by decide +kernel
theorem dX0_countAtDawn_92 : decode cX0_countAtDawn 92 = .ok (.iadd, 1) := by decide +kernel
theorem dX0_countAtDawn_93 : decode cX0_countAtDawn 93 = .ok (.iastore, 1) := by decide +kernel
theorem dX0_countAtDawn_94 : decode cX0_countAtDawn 94 = .ok (.goto 13, 3) := by decide +kernel
theorem dX0_countAtDawn_97 : decode cX0_countAtDawn 97 = .ok (.aload_n 0, 1) := by decide +kernel
theorem dX0_countAtDawn_98 : decode cX0_countAtDawn 98 = .ok (.getfield 23, 3) := by decide +kernel
theorem dX0_countAtDawn_101 : decode cX0_countAtDawn 101 = .ok (.iconst 1, 1) := by decide +kernel
theorem dX0_countAtDawn_102 : decode cX0_countAtDawn 102 = .ok (.dup2, 1) := by decide +kernel
theorem dX0_countAtDawn_103 : decode cX0_countAtDawn 103 = .ok (.iaload, 1) := by decide +kernel
theorem dX0_countAtDawn_104 : decode cX0_countAtDawn 104 = .ok (.iconst 1, 1) := by decide +kernel
theorem dX0_countAtDawn_105 : decode cX0_countAtDawn 105 = .ok (.iadd, 1) := by decide +kernel
theorem dX0_countAtDawn_106 : decode cX0_countAtDawn 106 = .ok (.iastore, 1) := by decide +kernel
theorem dX0_countAtDawn_107 : decode cX0_countAtDawn 107 = .ok (.return_, 1) := by decide +kernel
