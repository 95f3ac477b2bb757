/-! the law's calls: words -/
set_option maxRecDepth 20000 in
theorem ggL_law_X4_ifHome : GoodIn wsL_law wsX4_ifHome := goodIn_r _ [683, 135, 158, 159, 160, 5, 161, 139, 140, 141, 150, 151, 152, 153, 62, 684, 685, 686, 687, 345, 346, 347, 348, 688, 689, 690, 691, 63, 389, 390, 391, 392, 349, 350, 351, 352, 175, 176, 177, 178, 162, 163, 164, 165, 265, 266, 267, 268, 353, 354, 355, 356, 357, 358, 359, 360, 361, 362, 363, 364, 136, 137, 138, 365, 366, 367, 368, 692, 693, 694, 695, 802, 803, 804, 805, 806, 807, 808, 809, 810, 811, 812, 813] (by decide +kernel) (by decide +kernel)
set_option maxRecDepth 20000 in
theorem gL_law_X4_ifHome : GoodIn wsL_law (wsV RL 155 RX4 yX4_ifHome wsX4_ifHome) := goodIn_app (goodIn_of _ (by decide +kernel)) ggL_law_X4_ifHome
set_option maxRecDepth 20000 in
theorem ggL_law_X3_freeHole : GoodIn wsL_law wsX3_freeHole := goodIn_r _ [699, 16, 700, 103, 104, 15, 105, 35, 88, 2, 89, 793, 794, 795, 796, 797, 798, 799, 800, 801, 814, 815, 816, 817, 818, 819, 820, 821, 822, 823] (by decide +kernel) (by decide +kernel)
set_option maxRecDepth 20000 in
theorem gL_law_X3_freeHole : GoodIn wsL_law (wsV RL 156 RX3 yX3_freeHole wsX3_freeHole) := goodIn_app (goodIn_of _ (by decide +kernel)) ggL_law_X3_freeHole
set_option maxRecDepth 20000 in
theorem ggL_law_X4_freeHole : GoodIn wsL_law wsX4_freeHole := goodIn_r _ [704, 135, 705, 706, 707, 5, 708, 162, 163, 164, 165, 62, 154, 155, 156, 157, 158, 159, 160, 161, 139, 140, 141, 150, 151, 152, 153, 802, 803, 804, 805, 806, 807, 808, 809, 810, 811, 812, 813] (by decide +kernel) (by decide +kernel)
set_option maxRecDepth 20000 in
theorem gL_law_X4_freeHole : GoodIn wsL_law (wsV RL 159 RX4 yX4_freeHole wsX4_freeHole) := goodIn_app (goodIn_of _ (by decide +kernel)) ggL_law_X4_freeHole
set_option maxRecDepth 20000 in
theorem ggL_law_X3_lateIsAsGood : GoodIn wsL_law wsX3_lateIsAsGood := goodIn_r _ [712, 16, 713, 714, 715, 2, 716, 17, 110, 111, 112, 15, 113, 34, 114, 115, 116, 117, 35, 36, 37, 38, 42, 118, 119, 120, 121, 122, 123, 124, 41, 125, 47, 126, 48, 49, 194, 99, 100, 101, 309, 310, 311, 312, 102, 103, 104, 105, 88, 89, 313, 314, 315, 316, 98, 317, 318, 319, 320, 321, 322, 323, 324, 325, 326, 327, 328, 329, 330, 331, 332, 333, 334, 335, 336, 337, 338, 339, 340, 717, 621, 622, 623, 94, 95, 96, 97, 624, 625, 626, 627, 793, 794, 795, 796, 797, 798, 799, 800, 801, 814, 815, 816, 817, 818, 819, 820, 821, 822, 823, 828, 829, 830] (by decide +kernel) (by decide +kernel)
set_option maxRecDepth 20000 in
theorem gL_law_X3_lateIsAsGood : GoodIn wsL_law (wsV RL 160 RX3 yX3_lateIsAsGood wsX3_lateIsAsGood) := goodIn_app (goodIn_of _ (by decide +kernel)) ggL_law_X3_lateIsAsGood
set_option maxRecDepth 20000 in
theorem ggL_law_X4_lateIsAsGood : GoodIn wsL_law wsX4_lateIsAsGood := goodIn_r _ [721, 135, 722, 723, 724, 5, 725, 62, 726, 727, 728, 729, 688, 689, 690, 691, 63, 158, 159, 160, 161, 139, 140, 141, 150, 151, 152, 153, 349, 350, 351, 352, 175, 176, 177, 178, 162, 163, 164, 165, 265, 266, 267, 268, 353, 354, 355, 356, 357, 358, 359, 360, 361, 362, 363, 364, 136, 137, 138, 365, 366, 367, 368, 389, 390, 391, 392, 692, 693, 694, 695, 802, 803, 804, 805, 806, 807, 808, 809, 810, 811, 812, 813] (by decide +kernel) (by decide +kernel)
set_option maxRecDepth 20000 in
theorem gL_law_X4_lateIsAsGood : GoodIn wsL_law (wsV RL 163 RX4 yX4_lateIsAsGood wsX4_lateIsAsGood) := goodIn_app (goodIn_of _ (by decide +kernel)) ggL_law_X4_lateIsAsGood
set_option maxRecDepth 20000 in
theorem ggL_law_X3_homeShare : GoodIn wsL_law wsX3_homeShare := goodIn_r _ [733, 16, 734, 95, 96, 15, 97, 98, 99, 100, 101, 34, 735, 736, 737, 738, 793, 794, 795, 796, 797, 798, 799, 800, 801, 814, 815, 816, 817, 818, 819, 820, 821, 822, 823] (by decide +kernel) (by decide +kernel)
set_option maxRecDepth 20000 in
theorem gL_law_X3_homeShare : GoodIn wsL_law (wsV RL 164 RX3 yX3_homeShare wsX3_homeShare) := goodIn_app (goodIn_of _ (by decide +kernel)) ggL_law_X3_homeShare
set_option maxRecDepth 20000 in
theorem ggL_law_X4_homeShare : GoodIn wsL_law wsX4_homeShare := goodIn_r _ [742, 135, 743, 744, 745, 5, 746, 158, 159, 160, 161, 139, 140, 141, 150, 151, 152, 153, 62, 146, 147, 148, 149, 802, 803, 804, 805, 806, 807, 808, 809, 810, 811, 812, 813] (by decide +kernel) (by decide +kernel)
set_option maxRecDepth 20000 in
theorem gL_law_X4_homeShare : GoodIn wsL_law (wsV RL 168 RX4 yX4_homeShare wsX4_homeShare) := goodIn_app (goodIn_of _ (by decide +kernel)) ggL_law_X4_homeShare
set_option maxRecDepth 20000 in
theorem ggL_law_X3_digest : GoodIn wsL_law wsX3_digest := goodIn_ca (goodIn_r _ [750, 751, 16, 24, 23, 752, 613, 614, 2, 615, 78, 79, 21, 616, 617, 618, 15, 619, 118, 119, 120, 121, 37, 36, 94, 95, 96, 97, 98, 99, 100, 101, 34, 620, 621, 622, 623, 624, 625, 626, 627, 628, 629, 630, 631, 35, 632, 254, 255, 256, 102, 103, 104, 105, 88, 89, 633, 219, 220, 221, 753, 754, 755, 756, 194, 757, 758, 759, 760, 761, 305, 306, 307, 308, 671, 672, 673, 674, 17, 110, 111, 112, 113, 114, 115, 116, 117, 38, 42, 122, 123, 124, 41, 125, 47, 126, 48, 49, 309, 310, 311, 312, 313, 314, 315, 316, 317, 318, 319, 320, 321, 322, 323, 324, 325, 326, 327, 328, 329, 330, 331, 332, 333, 334, 335, 336, 337, 338, 339, 340, 675, 676, 677, 678, 679, 762, 763, 764, 765, 766, 697, 698, 699, 700, 767, 710, 711, 712, 713, 714, 715, 716, 717, 768, 731, 732, 733, 734, 735, 736, 737, 738, 769, 770, 771, 772, 773, 774, 793, 794, 795, 796, 797, 798, 799, 800, 801, 814, 815, 816, 817, 818, 819, 820, 821, 822, 823, 828, 829, 830] (by decide +kernel) (by decide +kernel)) (goodIn_sub (fun _ h => List.mem_append_left _ (List.mem_append_left _ (List.mem_append_right _ h))) (by decide +kernel))
set_option maxRecDepth 20000 in
theorem gL_law_X3_digest : GoodIn wsL_law (wsV RL 169 RX3 yX3_digest wsX3_digest) := goodIn_app (goodIn_of _ (by decide +kernel)) ggL_law_X3_digest
