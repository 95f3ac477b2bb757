/-! the law's calls: words -/
set_option maxRecDepth 20000 in
theorem ggL_law_X3_dawn : GoodIn wsL_law wsX3_dawn := goodIn_r _ [372, 16, 106, 107, 108, 2, 109, 21, 20, 110, 111, 112, 15, 113, 34, 114, 115, 116, 117, 35, 36, 37, 38, 42, 118, 119, 120, 121, 122, 123, 124, 41, 125, 47, 126, 48, 49, 373, 374, 375, 376, 98, 99, 100, 101, 377, 378, 379, 380, 793, 794, 795, 796, 797, 798, 799, 800, 801, 814, 815, 816, 817, 818, 819, 820, 821, 822, 823, 828, 829, 830] (by decide +kernel) (by decide +kernel)
set_option maxRecDepth 20000 in
theorem gL_law_X3_dawn : GoodIn wsL_law (wsV RL 105 RX3 yX3_dawn wsX3_dawn) := goodIn_app (goodIn_of _ (by decide +kernel)) ggL_law_X3_dawn
set_option maxRecDepth 20000 in
theorem ggL_law_X4_dawn : GoodIn wsL_law wsX4_dawn := goodIn_r _ [384, 135, 166, 167, 168, 5, 169, 170, 64, 62, 385, 386, 387, 388, 389, 390, 391, 392, 158, 159, 160, 161, 139, 140, 141, 150, 151, 152, 153, 175, 176, 177, 178, 802, 803, 804, 805, 806, 807, 808, 809, 810, 811, 812, 813] (by decide +kernel) (by decide +kernel)
set_option maxRecDepth 20000 in
theorem gL_law_X4_dawn : GoodIn wsL_law (wsV RL 108 RX4 yX4_dawn wsX4_dawn) := goodIn_app (goodIn_of _ (by decide +kernel)) ggL_law_X4_dawn
set_option maxRecDepth 20000 in
theorem ggL_law_L_append : GoodIn wsL_law wsL_append := goodIn_ca (goodIn_ca (goodIn_r _ [395, 72, 73, 396, 397, 398, 2, 399, 78, 79, 80, 81, 24, 23, 793, 794, 795, 796, 797, 798, 799, 800, 801] (by decide +kernel) (by decide +kernel)) (goodIn_sub (fun _ h => List.mem_append_left _ (List.mem_append_left _ (List.mem_append_right _ h))) (by decide +kernel))) (goodIn_sub (fun _ h => List.mem_append_left _ (List.mem_append_right _ h)) (by decide +kernel))
set_option maxRecDepth 20000 in
theorem gL_law_L_append : GoodIn wsL_law (va_wsS RL 109 yL_append wsL_append) := goodIn_app (goodIn_of _ (by decide +kernel)) ggL_law_L_append
set_option maxRecDepth 20000 in
theorem ggL_law_X4_append : GoodIn wsL_law wsX4_append := goodIn_r _ [403, 404, 135, 66, 139, 140, 5, 141, 802, 803, 804, 805, 806, 807, 808, 809, 810, 811, 812, 813] (by decide +kernel) (by decide +kernel)
set_option maxRecDepth 20000 in
theorem gL_law_X4_append : GoodIn wsL_law (wsV RL 111 RX4 yX4_append wsX4_append) := goodIn_app (goodIn_of _ (by decide +kernel)) ggL_law_X4_append
set_option maxRecDepth 20000 in
theorem ggL_law_X3_clearBuffer : GoodIn wsL_law wsX3_clearBuffer := goodIn_r _ [408, 24, 793, 794, 795, 796, 797, 798, 799, 800, 801] (by decide +kernel) (by decide +kernel)
set_option maxRecDepth 20000 in
theorem gL_law_X3_clearBuffer : GoodIn wsL_law (wsV RL 112 RX3 yX3_clearBuffer wsX3_clearBuffer) := goodIn_app (goodIn_of _ (by decide +kernel)) ggL_law_X3_clearBuffer
set_option maxRecDepth 20000 in
theorem ggL_law_X4_clearBuffer : GoodIn wsL_law wsX4_clearBuffer := goodIn_r _ [412, 135, 404, 802, 803, 804, 805, 806, 807, 808, 809, 810, 811, 812, 813] (by decide +kernel) (by decide +kernel)
set_option maxRecDepth 20000 in
theorem gL_law_X4_clearBuffer : GoodIn wsL_law (wsV RL 115 RX4 yX4_clearBuffer wsX4_clearBuffer) := goodIn_app (goodIn_of _ (by decide +kernel)) ggL_law_X4_clearBuffer
set_option maxRecDepth 20000 in
theorem ggL_law_X3_firstError : GoodIn wsL_law wsX3_firstError := goodIn_r _ [416, 28, 24, 23, 417, 418, 419, 27, 420, 54, 55, 56, 57, 421, 422, 423, 424, 425, 426, 427, 428, 429, 430, 431, 432, 433, 434, 435, 436, 437, 438, 439, 440, 441, 442, 443, 444, 445, 446, 447, 448, 449, 450, 451, 452, 453, 454, 455, 456, 457, 458, 459, 460, 461, 462, 463, 464, 793, 794, 795, 796, 797, 798, 799, 800, 801, 824, 825, 826, 827] (by decide +kernel) (by decide +kernel)
set_option maxRecDepth 20000 in
theorem gL_law_X3_firstError : GoodIn wsL_law (wsV RL 116 RX3 yX3_firstError wsX3_firstError) := goodIn_app (goodIn_of _ (by decide +kernel)) ggL_law_X3_firstError
set_option maxRecDepth 20000 in
theorem ggL_law_X4_firstError : GoodIn wsL_law wsX4_firstError := goodIn_r _ [468, 135, 404, 469, 470, 471, 5, 472, 66, 473, 474, 475, 476, 477, 478, 479, 480, 481, 482, 483, 484, 485, 486, 487, 488, 489, 490, 491, 139, 140, 141, 802, 803, 804, 805, 806, 807, 808, 809, 810, 811, 812, 813] (by decide +kernel) (by decide +kernel)
set_option maxRecDepth 20000 in
theorem gL_law_X4_firstError : GoodIn wsL_law (wsV RL 119 RX4 yX4_firstError wsX4_firstError) := goodIn_app (goodIn_of _ (by decide +kernel)) ggL_law_X4_firstError
set_option maxRecDepth 20000 in
theorem ggL_law_L_pass : GoodIn wsL_law wsL_pass := goodIn_ca (goodIn_r _ [494, 72, 495, 496, 497, 2, 498, 78, 79, 24, 28, 16, 23, 499, 414, 415, 416, 417, 418, 419, 27, 420, 54, 55, 56, 57, 421, 422, 423, 424, 425, 426, 427, 428, 429, 430, 431, 432, 433, 434, 435, 436, 437, 438, 439, 440, 441, 442, 443, 444, 445, 446, 447, 448, 449, 450, 451, 452, 453, 454, 455, 456, 457, 458, 459, 460, 461, 462, 463, 464, 500, 106, 107, 108, 109, 21, 20, 110, 111, 112, 15, 113, 34, 114, 115, 116, 117, 35, 36, 37, 38, 42, 118, 119, 120, 121, 122, 123, 124, 41, 125, 47, 126, 48, 49, 501, 502, 503, 504, 505, 506, 507, 508, 509, 510, 511, 512, 194, 99, 100, 101, 305, 306, 307, 308, 309, 310, 311, 312, 102, 103, 104, 105, 88, 89, 313, 314, 315, 316, 98, 317, 318, 319, 320, 321, 322, 323, 324, 325, 326, 327, 328, 329, 330, 331, 332, 333, 334, 335, 336, 337, 338, 339, 340, 513, 514, 515, 516, 90, 91, 92, 93, 94, 95, 96, 97, 127, 128, 129, 130, 517, 518, 519, 520, 210, 211, 212, 213, 214, 215, 216, 217, 521, 522, 523, 524, 245, 246, 247, 248, 249, 250, 251, 252, 373, 374, 375, 376, 377, 378, 379, 380, 793, 794, 795, 796, 797, 798, 799, 800, 801, 824, 825, 826, 827, 814, 815, 816, 817, 818, 819, 820, 821, 822, 823, 828, 829, 830] (by decide +kernel) (by decide +kernel)) (goodIn_sub (fun _ h => List.mem_append_left _ (List.mem_append_left _ (List.mem_append_right _ h))) (by decide +kernel))
set_option maxRecDepth 20000 in
theorem gL_law_L_pass : GoodIn wsL_law (va_wsS RL 120 yL_pass wsL_pass) := goodIn_app (goodIn_of _ (by decide +kernel)) ggL_law_L_pass
