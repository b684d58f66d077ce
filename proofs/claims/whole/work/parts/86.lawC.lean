/-! the law's calls, as printed -/
set_option maxRecDepth 20000 in
theorem ggL_law_X8_init : GoodIn wsL_law wsX8_init := goodIn_r _ [10, 11, 12, 13, 14, 15, 16, 17, 18, 19, 20, 21, 22, 23, 24, 25, 26, 27, 28, 29, 30, 31, 32, 33, 34, 35, 36, 37, 38, 39, 40, 41, 42, 43, 44, 45, 46, 47, 48, 49, 50, 51, 52, 53, 54, 55, 56, 57, 58, 59, 60, 61, 62, 63, 64, 65, 66, 67, 68, 69, 70, 71, 72, 73, 74, 75, 76, 77, 78, 79, 80, 81, 82, 83, 84, 85, 86, 87, 88, 89, 90, 91, 92, 93, 94, 95, 96, 97, 98, 99, 833, 834, 835, 797, 798, 799, 800, 801, 836, 837, 838, 839, 840, 841, 842, 843, 844, 845, 846, 847, 848, 849, 850, 851, 852, 853, 854, 855, 856, 857, 858, 859, 860, 861, 862, 863, 864] (by decide +kernel) (by decide +kernel)
set_option maxRecDepth 20000 in
theorem gL_law_X8_init : GoodIn wsL_law (wsX8_init) := ggL_law_X8_init
set_option maxRecDepth 20000 in
theorem ggL_law_X9_init : GoodIn wsL_law wsX9_init := goodIn_r _ [102, 103, 12, 13, 104, 49, 105, 106, 107, 108, 109, 110, 111, 112, 113, 114, 115, 116, 117, 118, 119, 120, 121, 122, 123, 124, 125, 126, 127, 128, 129, 802, 803, 804, 805, 806, 807, 808, 809, 810, 811, 812, 813, 814, 815, 816, 817, 818, 819, 820, 821, 822, 823, 824, 825, 826, 827, 828, 829, 830, 831, 832] (by decide +kernel) (by decide +kernel)
set_option maxRecDepth 20000 in
theorem gL_law_X9_init : GoodIn wsL_law (wsX9_init) := ggL_law_X9_init
set_option maxRecDepth 20000 in
theorem ggL_law_L_addBlock : GoodIn wsL_law wsL_addBlock := goodIn_ca (goodIn_r _ [133, 134, 135, 136, 137, 2, 138, 139, 140, 17, 141, 30, 797, 798, 799, 800, 801, 833, 834, 835] (by decide +kernel) (by decide +kernel)) (goodIn_sub (fun _ h => List.mem_append_left _ (List.mem_append_left _ (List.mem_append_left _ (List.mem_append_right _ h)))) (by decide +kernel))
set_option maxRecDepth 20000 in
theorem gL_law_L_addBlock : GoodIn wsL_law (va_wsS RL 92 yL_addBlock wsL_addBlock) := goodIn_app (goodIn_of _ (by decide +kernel)) ggL_law_L_addBlock
set_option maxRecDepth 20000 in
theorem ggL_law_X9_addBlock : GoodIn wsL_law wsX9_addBlock := goodIn_r _ [145, 146, 104, 105, 107, 147, 148, 149, 150, 5, 151, 802, 803, 804, 805, 806, 807, 808, 809, 810, 811, 812, 813, 814, 815, 816, 817, 818, 819, 820, 821, 822, 823, 824, 825, 826, 827, 828, 829, 830, 831, 832] (by decide +kernel) (by decide +kernel)
set_option maxRecDepth 20000 in
theorem gL_law_X9_addBlock : GoodIn wsL_law (wsV RL 97 RX9 yX9_addBlock wsX9_addBlock) := goodIn_app (goodIn_of _ (by decide +kernel)) ggL_law_X9_addBlock
set_option maxRecDepth 20000 in
theorem ggL_law_X9_thrown : GoodIn wsL_law wsX9_thrown := goodIn_r _ [155, 146, 802, 803, 804, 805, 806, 807, 808, 809, 810, 811, 812, 813, 814, 815, 816, 817, 818, 819, 820, 821, 822, 823, 824, 825, 826, 827, 828, 829, 830, 831, 832] (by decide +kernel) (by decide +kernel)
set_option maxRecDepth 20000 in
theorem gL_law_X9_thrown : GoodIn wsL_law (wsV RL 98 RX9 yX9_thrown wsX9_thrown) := goodIn_app (goodIn_of _ (by decide +kernel)) ggL_law_X9_thrown
set_option maxRecDepth 20000 in
theorem ggL_law_L_setInitial : GoodIn wsL_law wsL_setInitial := goodIn_ca (goodIn_ca (goodIn_r _ [158, 159, 160, 161, 162, 163, 2, 164, 30, 17, 165, 166, 167, 168, 169, 170, 171, 172, 173, 174, 175, 176, 177, 178, 179, 180, 181, 182, 39, 183, 50, 51, 797, 798, 799, 800, 801, 833, 834, 835, 848, 849, 850] (by decide +kernel) (by decide +kernel)) (goodIn_sub (fun _ h => List.mem_append_left _ (List.mem_append_left _ (List.mem_append_right _ h))) (by decide +kernel))) (goodIn_sub (fun _ h => List.mem_append_left _ (List.mem_append_right _ h)) (by decide +kernel))
set_option maxRecDepth 20000 in
theorem gL_law_L_setInitial : GoodIn wsL_law (va_wsS RL 101 yL_setInitial wsL_setInitial) := goodIn_app (goodIn_of _ (by decide +kernel)) ggL_law_L_setInitial
set_option maxRecDepth 20000 in
theorem ggL_law_X9_setInitial : GoodIn wsL_law wsX9_setInitial := goodIn_r _ [187, 146, 113, 114, 147, 188, 189, 5, 190, 148, 149, 150, 151, 191, 192, 193, 194, 195, 802, 803, 804, 805, 806, 807, 808, 809, 810, 811, 812, 813, 814, 815, 816, 817, 818, 819, 820, 821, 822, 823, 824, 825, 826, 827, 828, 829, 830, 831, 832] (by decide +kernel) (by decide +kernel)
set_option maxRecDepth 20000 in
theorem gL_law_X9_setInitial : GoodIn wsL_law (wsV RL 104 RX9 yX9_setInitial wsX9_setInitial) := goodIn_app (goodIn_of _ (by decide +kernel)) ggL_law_X9_setInitial
set_option maxRecDepth 20000 in
theorem ggL_law_L_input : GoodIn wsL_law wsL_input := goodIn_ca (goodIn_ca (goodIn_ca (goodIn_r _ [198, 159, 160, 134, 199, 200, 201, 2, 202, 30, 17, 203, 204, 205, 206, 207, 171, 172, 141, 168, 169, 170, 173, 174, 175, 176, 177, 178, 179, 208, 209, 210, 211, 139, 140, 212, 213, 214, 215, 43, 216, 55, 56, 57, 58, 59, 797, 798, 799, 800, 801, 833, 834, 835, 851, 852, 853, 854, 855, 856, 857, 858, 859, 860] (by decide +kernel) (by decide +kernel)) (goodIn_sub (fun _ h => List.mem_append_left _ (List.mem_append_left _ (List.mem_append_right _ h))) (by decide +kernel))) (goodIn_sub (fun _ h => List.mem_append_left _ (List.mem_append_right _ h)) (by decide +kernel))) (goodIn_sub (fun _ h => List.mem_append_left _ (List.mem_append_left _ (List.mem_append_left _ (List.mem_append_right _ h)))) (by decide +kernel))
set_option maxRecDepth 20000 in
theorem gL_law_L_input : GoodIn wsL_law (va_wsS RL 105 yL_input wsL_input) := goodIn_app (goodIn_of _ (by decide +kernel)) ggL_law_L_input
set_option maxRecDepth 20000 in
theorem ggL_law_X9_input : GoodIn wsL_law wsX9_input := goodIn_r _ [220, 146, 105, 221, 222, 223, 5, 224, 104, 188, 189, 190, 148, 149, 150, 151, 191, 192, 193, 194, 195, 225, 226, 227, 228, 106, 147, 802, 803, 804, 805, 806, 807, 808, 809, 810, 811, 812, 813, 814, 815, 816, 817, 818, 819, 820, 821, 822, 823, 824, 825, 826, 827, 828, 829, 830, 831, 832] (by decide +kernel) (by decide +kernel)
set_option maxRecDepth 20000 in
theorem gL_law_X9_input : GoodIn wsL_law (wsV RL 108 RX9 yX9_input wsX9_input) := goodIn_app (goodIn_of _ (by decide +kernel)) ggL_law_X9_input
set_option maxRecDepth 20000 in
theorem ggL_law_L_compute : GoodIn wsL_law wsL_compute := goodIn_ca (goodIn_ca (goodIn_ca (goodIn_r _ [231, 159, 160, 134, 232, 233, 234, 2, 235, 176, 177, 30, 17, 203, 204, 205, 206, 207, 171, 172, 141, 168, 169, 170, 208, 209, 210, 211, 139, 140, 212, 213, 214, 215, 43, 216, 55, 56, 57, 58, 59, 797, 798, 799, 800, 801, 833, 834, 835, 851, 852, 853, 854, 855, 856, 857, 858, 859, 860] (by decide +kernel) (by decide +kernel)) (goodIn_sub (fun _ h => List.mem_append_left _ (List.mem_append_right _ h)) (by decide +kernel))) (goodIn_sub (fun _ h => List.mem_append_left _ (List.mem_append_left _ (List.mem_append_right _ h))) (by decide +kernel))) (goodIn_sub (fun _ h => List.mem_append_left _ (List.mem_append_left _ (List.mem_append_left _ (List.mem_append_right _ h)))) (by decide +kernel))
set_option maxRecDepth 20000 in
theorem gL_law_L_compute : GoodIn wsL_law (va_wsS RL 109 yL_compute wsL_compute) := goodIn_app (goodIn_of _ (by decide +kernel)) ggL_law_L_compute
set_option maxRecDepth 20000 in
theorem ggL_law_X9_compute : GoodIn wsL_law wsX9_compute := goodIn_r _ [239, 146, 105, 221, 222, 223, 5, 224, 104, 188, 189, 190, 148, 149, 150, 151, 225, 226, 227, 228, 106, 147, 802, 803, 804, 805, 806, 807, 808, 809, 810, 811, 812, 813, 814, 815, 816, 817, 818, 819, 820, 821, 822, 823, 824, 825, 826, 827, 828, 829, 830, 831, 832] (by decide +kernel) (by decide +kernel)
set_option maxRecDepth 20000 in
theorem gL_law_X9_compute : GoodIn wsL_law (wsV RL 112 RX9 yX9_compute wsX9_compute) := goodIn_app (goodIn_of _ (by decide +kernel)) ggL_law_X9_compute
set_option maxRecDepth 20000 in
theorem ggL_law_L_jump : GoodIn wsL_law wsL_jump := goodIn_ca (goodIn_r _ [242, 159, 243, 244, 245, 2, 246, 30, 17, 203, 247, 204, 205, 206, 207, 171, 172, 141, 248, 249, 250, 43, 251, 60, 61, 797, 798, 799, 800, 801, 833, 834, 835, 851, 852, 853, 854, 855, 856, 857, 858, 859, 860] (by decide +kernel) (by decide +kernel)) (goodIn_sub (fun _ h => List.mem_append_left _ (List.mem_append_left _ (List.mem_append_right _ h))) (by decide +kernel))
set_option maxRecDepth 20000 in
theorem gL_law_L_jump : GoodIn wsL_law (va_wsS RL 113 yL_jump wsL_jump) := goodIn_app (goodIn_of _ (by decide +kernel)) ggL_law_L_jump
set_option maxRecDepth 20000 in
theorem ggL_law_X9_jump : GoodIn wsL_law wsX9_jump := goodIn_r _ [255, 146, 221, 222, 223, 5, 224, 104, 256, 257, 258, 259, 107, 108, 109, 147, 148, 149, 150, 151, 802, 803, 804, 805, 806, 807, 808, 809, 810, 811, 812, 813, 814, 815, 816, 817, 818, 819, 820, 821, 822, 823, 824, 825, 826, 827, 828, 829, 830, 831, 832] (by decide +kernel) (by decide +kernel)
set_option maxRecDepth 20000 in
theorem gL_law_X9_jump : GoodIn wsL_law (wsV RL 116 RX9 yX9_jump wsX9_jump) := goodIn_app (goodIn_of _ (by decide +kernel)) ggL_law_X9_jump
set_option maxRecDepth 20000 in
theorem ggL_law_L_branch : GoodIn wsL_law wsL_branch := goodIn_ca (goodIn_ca (goodIn_r _ [262, 159, 160, 263, 264, 265, 2, 266, 176, 177, 30, 17, 203, 247, 204, 205, 206, 207, 171, 172, 141, 168, 169, 170, 267, 268, 269, 43, 270, 60, 62, 64, 63, 61, 797, 798, 799, 800, 801, 833, 834, 835, 851, 852, 853, 854, 855, 856, 857, 858, 859, 860] (by decide +kernel) (by decide +kernel)) (goodIn_sub (fun _ h => List.mem_append_left _ (List.mem_append_right _ h)) (by decide +kernel))) (goodIn_sub (fun _ h => List.mem_append_left _ (List.mem_append_left _ (List.mem_append_right _ h))) (by decide +kernel))
set_option maxRecDepth 20000 in
theorem gL_law_L_branch : GoodIn wsL_law (va_wsS RL 117 yL_branch wsL_branch) := goodIn_app (goodIn_of _ (by decide +kernel)) ggL_law_L_branch
set_option maxRecDepth 20000 in
theorem ggL_law_X9_branch : GoodIn wsL_law wsX9_branch := goodIn_r _ [274, 146, 110, 111, 112, 221, 222, 223, 5, 224, 104, 188, 189, 190, 148, 149, 150, 151, 256, 257, 258, 259, 107, 108, 109, 147, 802, 803, 804, 805, 806, 807, 808, 809, 810, 811, 812, 813, 814, 815, 816, 817, 818, 819, 820, 821, 822, 823, 824, 825, 826, 827, 828, 829, 830, 831, 832] (by decide +kernel) (by decide +kernel)
set_option maxRecDepth 20000 in
theorem gL_law_X9_branch : GoodIn wsL_law (wsV RL 120 RX9 yX9_branch wsX9_branch) := goodIn_app (goodIn_of _ (by decide +kernel)) ggL_law_X9_branch
set_option maxRecDepth 20000 in
theorem ggL_law_L_clear : GoodIn wsL_law wsL_clear := goodIn_ca (goodIn_r _ [277, 159, 278, 279, 280, 2, 281, 30, 17, 203, 212, 204, 205, 206, 207, 171, 172, 141, 282, 283, 284, 43, 285, 55, 60, 797, 798, 799, 800, 801, 833, 834, 835, 851, 852, 853, 854, 855, 856, 857, 858, 859, 860] (by decide +kernel) (by decide +kernel)) (goodIn_sub (fun _ h => List.mem_append_left _ (List.mem_append_left _ (List.mem_append_right _ h))) (by decide +kernel))
set_option maxRecDepth 20000 in
theorem gL_law_L_clear : GoodIn wsL_law (va_wsS RL 121 yL_clear wsL_clear) := goodIn_app (goodIn_of _ (by decide +kernel)) ggL_law_L_clear
set_option maxRecDepth 20000 in
theorem ggL_law_X9_clear : GoodIn wsL_law wsX9_clear := goodIn_r _ [289, 146, 105, 221, 222, 223, 5, 224, 104, 148, 149, 150, 151, 256, 257, 258, 259, 107, 108, 109, 147, 802, 803, 804, 805, 806, 807, 808, 809, 810, 811, 812, 813, 814, 815, 816, 817, 818, 819, 820, 821, 822, 823, 824, 825, 826, 827, 828, 829, 830, 831, 832] (by decide +kernel) (by decide +kernel)
set_option maxRecDepth 20000 in
theorem gL_law_X9_clear : GoodIn wsL_law (wsV RL 124 RX9 yX9_clear wsX9_clear) := goodIn_app (goodIn_of _ (by decide +kernel)) ggL_law_X9_clear
set_option maxRecDepth 20000 in
theorem ggL_law_X8_blockCount : GoodIn wsL_law wsX8_blockCount := goodIn_r _ [293, 17, 141, 797, 798, 799, 800, 801, 833, 834, 835] (by decide +kernel) (by decide +kernel)
set_option maxRecDepth 20000 in
theorem gL_law_X8_blockCount : GoodIn wsL_law (wsV RL 125 RX8 yX8_blockCount wsX8_blockCount) := goodIn_app (goodIn_of _ (by decide +kernel)) ggL_law_X8_blockCount
set_option maxRecDepth 20000 in
theorem ggL_law_X9_blockCount : GoodIn wsL_law wsX9_blockCount := goodIn_r _ [297, 146, 104, 802, 803, 804, 805, 806, 807, 808, 809, 810, 811, 812, 813, 814, 815, 816, 817, 818, 819, 820, 821, 822, 823, 824, 825, 826, 827, 828, 829, 830, 831, 832] (by decide +kernel) (by decide +kernel)
set_option maxRecDepth 20000 in
theorem gL_law_X9_blockCount : GoodIn wsL_law (wsV RL 128 RX9 yX9_blockCount wsX9_blockCount) := goodIn_app (goodIn_of _ (by decide +kernel)) ggL_law_X9_blockCount
set_option maxRecDepth 20000 in
theorem ggL_law_L_setEffort : GoodIn wsL_law wsL_setEffort := goodIn_ca (goodIn_r _ [300, 160, 301, 302, 303, 2, 304, 176, 177, 30, 21, 305, 306, 797, 798, 799, 800, 801, 836, 837, 838, 839] (by decide +kernel) (by decide +kernel)) (goodIn_sub (fun _ h => List.mem_append_left _ (List.mem_append_right _ h)) (by decide +kernel))
set_option maxRecDepth 20000 in
theorem gL_law_L_setEffort : GoodIn wsL_law (va_wsS RL 129 yL_setEffort wsL_setEffort) := goodIn_app (goodIn_of _ (by decide +kernel)) ggL_law_L_setEffort
set_option maxRecDepth 20000 in
theorem ggL_law_X9_setEffort : GoodIn wsL_law wsX9_setEffort := goodIn_r _ [310, 146, 115, 116, 147, 148, 149, 150, 5, 151, 802, 803, 804, 805, 806, 807, 808, 809, 810, 811, 812, 813, 814, 815, 816, 817, 818, 819, 820, 821, 822, 823, 824, 825, 826, 827, 828, 829, 830, 831, 832] (by decide +kernel) (by decide +kernel)
set_option maxRecDepth 20000 in
theorem gL_law_X9_setEffort : GoodIn wsL_law (wsV RL 131 RX9 yX9_setEffort wsX9_setEffort) := goodIn_app (goodIn_of _ (by decide +kernel)) ggL_law_X9_setEffort
set_option maxRecDepth 20000 in
theorem ggL_law_L_addThreshold : GoodIn wsL_law wsL_addThreshold := goodIn_ca (goodIn_ca (goodIn_r _ [313, 160, 134, 314, 315, 316, 2, 317, 176, 177, 139, 140, 178, 179, 21, 318, 30, 319, 320, 321, 20, 322, 70, 71, 797, 798, 799, 800, 801, 836, 837, 838, 839] (by decide +kernel) (by decide +kernel)) (goodIn_sub (fun _ h => List.mem_append_left _ (List.mem_append_right _ h)) (by decide +kernel))) (goodIn_sub (fun _ h => List.mem_append_left _ (List.mem_append_left _ (List.mem_append_left _ (List.mem_append_right _ h)))) (by decide +kernel))
set_option maxRecDepth 20000 in
theorem gL_law_L_addThreshold : GoodIn wsL_law (va_wsS RL 132 yL_addThreshold wsL_addThreshold) := goodIn_app (goodIn_of _ (by decide +kernel)) ggL_law_L_addThreshold
set_option maxRecDepth 20000 in
theorem ggL_law_X9_addThreshold : GoodIn wsL_law wsX9_addThreshold := goodIn_r _ [326, 146, 194, 195, 327, 117, 147, 148, 149, 150, 5, 151, 802, 803, 804, 805, 806, 807, 808, 809, 810, 811, 812, 813, 814, 815, 816, 817, 818, 819, 820, 821, 822, 823, 824, 825, 826, 827, 828, 829, 830, 831, 832] (by decide +kernel) (by decide +kernel)
set_option maxRecDepth 20000 in
theorem gL_law_X9_addThreshold : GoodIn wsL_law (wsV RL 134 RX9 yX9_addThreshold wsX9_addThreshold) := goodIn_app (goodIn_of _ (by decide +kernel)) ggL_law_X9_addThreshold
set_option maxRecDepth 20000 in
theorem ggL_law_X8_analyze : GoodIn wsL_law wsX8_analyze := goodIn_r _ [331, 25, 17, 21, 306, 30, 332, 333, 334, 24, 335, 77, 336, 337, 338, 82, 339, 91, 88, 340, 89, 90, 341, 342, 343, 344, 345, 346, 347, 348, 349, 350, 79, 351, 80, 352, 353, 354, 355, 356, 357, 358, 359, 360, 361, 362, 363, 364, 365, 366, 39, 367, 48, 50, 368, 369, 370, 371, 51, 372, 373, 374, 375, 376, 377, 378, 379, 380, 381, 382, 383, 384, 385, 386, 20, 387, 388, 389, 390, 391, 392, 393, 394, 70, 71, 395, 396, 397, 398, 399, 400, 401, 402, 403, 404, 405, 406, 407, 408, 409, 410, 411, 412, 43, 413, 414, 55, 56, 57, 58, 59, 415, 181, 182, 183, 416, 417, 418, 419, 420, 421, 422, 423, 424, 425, 426, 427, 428, 429, 430, 431, 432, 433, 434, 435, 436, 437, 60, 62, 64, 63, 438, 439, 440, 441, 442, 443, 444, 445, 446, 447, 448, 449, 450, 451, 452, 453, 454, 455, 456, 457, 458, 459, 460, 461, 462, 463, 464, 465, 466, 467, 468, 469, 470, 471, 472, 473, 474, 475, 476, 477, 478, 479, 480, 797, 798, 799, 800, 801, 836, 837, 838, 839, 840, 841, 842, 861, 862, 863, 864, 848, 849, 850, 833, 834, 835, 851, 852, 853, 854, 855, 856, 857, 858, 859, 860] (by decide +kernel) (by decide +kernel)
set_option maxRecDepth 20000 in
theorem gL_law_X8_analyze : GoodIn wsL_law (wsV RL 135 RX8 yX8_analyze wsX8_analyze) := goodIn_app (goodIn_of _ (by decide +kernel)) ggL_law_X8_analyze
set_option maxRecDepth 20000 in
theorem ggL_law_X9_analyze : GoodIn wsL_law wsX9_analyze := goodIn_r _ [484, 146, 147, 119, 122, 104, 116, 485, 486, 487, 5, 488, 489, 120, 125, 490, 369, 370, 371, 121, 126, 491, 373, 374, 115, 492, 493, 494, 495, 107, 108, 109, 123, 113, 124, 114, 496, 497, 498, 499, 110, 111, 112, 500, 501, 502, 503, 105, 504, 505, 506, 507, 106, 508, 509, 510, 511, 512, 513, 514, 515, 516, 517, 429, 430, 518, 432, 433, 519, 520, 521, 522, 523, 524, 525, 526, 527, 528, 529, 530, 531, 532, 533, 534, 535, 536, 537, 194, 327, 117, 195, 538, 539, 540, 541, 542, 543, 544, 545, 802, 803, 804, 805, 806, 807, 808, 809, 810, 811, 812, 813, 814, 815, 816, 817, 818, 819, 820, 821, 822, 823, 824, 825, 826, 827, 828, 829, 830, 831, 832] (by decide +kernel) (by decide +kernel)
set_option maxRecDepth 20000 in
theorem gL_law_X9_analyze : GoodIn wsL_law (wsV RL 138 RX9 yX9_analyze wsX9_analyze) := goodIn_app (goodIn_of _ (by decide +kernel)) ggL_law_X9_analyze
set_option maxRecDepth 20000 in
theorem ggL_law_X8_isAnalyzed : GoodIn wsL_law wsX8_isAnalyzed := goodIn_r _ [549, 30, 797, 798, 799, 800, 801] (by decide +kernel) (by decide +kernel)
set_option maxRecDepth 20000 in
theorem gL_law_X8_isAnalyzed : GoodIn wsL_law (wsV RL 139 RX8 yX8_isAnalyzed wsX8_isAnalyzed) := goodIn_app (goodIn_of _ (by decide +kernel)) ggL_law_X8_isAnalyzed
set_option maxRecDepth 20000 in
theorem ggL_law_X9_isAnalyzed : GoodIn wsL_law wsX9_isAnalyzed := goodIn_r _ [553, 146, 147, 802, 803, 804, 805, 806, 807, 808, 809, 810, 811, 812, 813, 814, 815, 816, 817, 818, 819, 820, 821, 822, 823, 824, 825, 826, 827, 828, 829, 830, 831, 832] (by decide +kernel) (by decide +kernel)
set_option maxRecDepth 20000 in
theorem gL_law_X9_isAnalyzed : GoodIn wsL_law (wsV RL 143 RX9 yX9_isAnalyzed wsX9_isAnalyzed) := goodIn_app (goodIn_of _ (by decide +kernel)) ggL_law_X9_isAnalyzed
set_option maxRecDepth 20000 in
theorem ggL_law_L_isReachable : GoodIn wsL_law wsL_isReachable := goodIn_ca (goodIn_ca (goodIn_r _ [556, 134, 159, 557, 558, 559, 2, 560, 25, 561, 562, 563, 564, 565, 566, 567, 139, 140, 30, 204, 205, 206, 207, 171, 172, 17, 141, 797, 798, 799, 800, 801, 840, 841, 842, 861, 862, 863, 864, 848, 849, 850, 833, 834, 835] (by decide +kernel) (by decide +kernel)) (goodIn_sub (fun _ h => List.mem_append_left _ (List.mem_append_left _ (List.mem_append_left _ (List.mem_append_right _ h)))) (by decide +kernel))) (goodIn_sub (fun _ h => List.mem_append_left _ (List.mem_append_left _ (List.mem_append_right _ h))) (by decide +kernel))
set_option maxRecDepth 20000 in
theorem gL_law_L_isReachable : GoodIn wsL_law (va_wsS RL 144 yL_isReachable wsL_isReachable) := goodIn_app (goodIn_of _ (by decide +kernel)) ggL_law_L_isReachable
set_option maxRecDepth 20000 in
theorem ggL_law_X9_isReachable : GoodIn wsL_law wsX9_isReachable := goodIn_r _ [571, 147, 146, 119, 221, 222, 223, 5, 224, 104, 802, 803, 804, 805, 806, 807, 808, 809, 810, 811, 812, 813, 814, 815, 816, 817, 818, 819, 820, 821, 822, 823, 824, 825, 826, 827, 828, 829, 830, 831, 832] (by decide +kernel) (by decide +kernel)
set_option maxRecDepth 20000 in
theorem gL_law_X9_isReachable : GoodIn wsL_law (wsV RL 146 RX9 yX9_isReachable wsX9_isReachable) := goodIn_app (goodIn_of _ (by decide +kernel)) ggL_law_X9_isReachable
set_option maxRecDepth 20000 in
theorem ggL_law_L_entry : GoodIn wsL_law wsL_entry := goodIn_ca (goodIn_ca (goodIn_ca (goodIn_r _ [574, 134, 159, 575, 576, 577, 578, 2, 579, 25, 561, 562, 564, 565, 566, 567, 139, 140, 30, 204, 205, 206, 207, 171, 172, 17, 141, 168, 169, 170, 580, 581, 582, 583, 584, 563, 167, 166, 797, 798, 799, 800, 801, 840, 841, 842, 861, 862, 863, 864, 833, 834, 835, 848, 849, 850] (by decide +kernel) (by decide +kernel)) (goodIn_sub (fun _ h => List.mem_append_left _ (List.mem_append_left _ (List.mem_append_left _ (List.mem_append_right _ h)))) (by decide +kernel))) (goodIn_sub (fun _ h => List.mem_append_left _ (List.mem_append_left _ (List.mem_append_right _ h))) (by decide +kernel))) (goodIn_sub (fun _ h => List.mem_append_right _ h) (by decide +kernel))
set_option maxRecDepth 20000 in
theorem gL_law_L_entry : GoodIn wsL_law (va_wsS RL 147 yL_entry wsL_entry) := goodIn_app (goodIn_of _ (by decide +kernel)) ggL_law_L_entry
set_option maxRecDepth 20000 in
theorem ggL_law_X9_entry : GoodIn wsL_law wsX9_entry := goodIn_r _ [588, 121, 120, 589, 590, 591, 5, 592, 147, 119, 146, 221, 222, 223, 224, 104, 188, 189, 190, 802, 803, 804, 805, 806, 807, 808, 809, 810, 811, 812, 813, 814, 815, 816, 817, 818, 819, 820, 821, 822, 823, 824, 825, 826, 827, 828, 829, 830, 831, 832] (by decide +kernel) (by decide +kernel)
set_option maxRecDepth 20000 in
theorem gL_law_X9_entry : GoodIn wsL_law (wsV RL 150 RX9 yX9_entry wsX9_entry) := goodIn_app (goodIn_of _ (by decide +kernel)) ggL_law_X9_entry
set_option maxRecDepth 20000 in
theorem ggL_law_L_exit : GoodIn wsL_law wsL_exit := goodIn_ca (goodIn_ca (goodIn_ca (goodIn_r _ [595, 134, 159, 575, 596, 597, 598, 2, 599, 25, 561, 600, 564, 565, 566, 567, 139, 140, 30, 204, 205, 206, 207, 171, 172, 17, 141, 168, 169, 170, 580, 581, 582, 583, 584, 563, 167, 166, 797, 798, 799, 800, 801, 840, 841, 842, 861, 862, 863, 864, 833, 834, 835, 848, 849, 850] (by decide +kernel) (by decide +kernel)) (goodIn_sub (fun _ h => List.mem_append_left _ (List.mem_append_left _ (List.mem_append_left _ (List.mem_append_right _ h)))) (by decide +kernel))) (goodIn_sub (fun _ h => List.mem_append_left _ (List.mem_append_left _ (List.mem_append_right _ h))) (by decide +kernel))) (goodIn_sub (fun _ h => List.mem_append_right _ h) (by decide +kernel))
set_option maxRecDepth 20000 in
theorem gL_law_L_exit : GoodIn wsL_law (va_wsS RL 151 yL_exit wsL_exit) := goodIn_app (goodIn_of _ (by decide +kernel)) ggL_law_L_exit
set_option maxRecDepth 20000 in
theorem ggL_law_X9_exit : GoodIn wsL_law wsX9_exit := goodIn_r _ [604, 124, 123, 589, 590, 591, 5, 592, 147, 119, 146, 221, 222, 223, 224, 104, 188, 189, 190, 500, 501, 502, 503, 120, 121, 105, 504, 505, 506, 507, 106, 490, 369, 370, 371, 491, 373, 374, 508, 509, 510, 511, 512, 513, 514, 515, 516, 517, 429, 430, 518, 432, 433, 519, 520, 521, 522, 802, 803, 804, 805, 806, 807, 808, 809, 810, 811, 812, 813, 814, 815, 816, 817, 818, 819, 820, 821, 822, 823, 824, 825, 826, 827, 828, 829, 830, 831, 832] (by decide +kernel) (by decide +kernel)
set_option maxRecDepth 20000 in
theorem gL_law_X9_exit : GoodIn wsL_law (wsV RL 153 RX9 yX9_exit wsX9_exit) := goodIn_app (goodIn_of _ (by decide +kernel)) ggL_law_X9_exit
set_option maxRecDepth 20000 in
theorem ggL_law_L_isDead : GoodIn wsL_law wsL_isDead := goodIn_ca (goodIn_ca (goodIn_r _ [607, 134, 159, 608, 609, 610, 2, 611, 171, 172, 17, 203, 247, 25, 561, 612, 563, 564, 565, 566, 567, 139, 140, 30, 204, 205, 206, 207, 141, 797, 798, 799, 800, 801, 833, 834, 835, 851, 852, 853, 854, 855, 856, 857, 858, 859, 860, 840, 841, 842, 861, 862, 863, 864, 848, 849, 850] (by decide +kernel) (by decide +kernel)) (goodIn_sub (fun _ h => List.mem_append_left _ (List.mem_append_left _ (List.mem_append_right _ h))) (by decide +kernel))) (goodIn_sub (fun _ h => List.mem_append_left _ (List.mem_append_left _ (List.mem_append_left _ (List.mem_append_right _ h)))) (by decide +kernel))
set_option maxRecDepth 20000 in
theorem gL_law_L_isDead : GoodIn wsL_law (va_wsS RL 154 yL_isDead wsL_isDead) := goodIn_app (goodIn_of _ (by decide +kernel)) ggL_law_L_isDead
set_option maxRecDepth 20000 in
theorem ggL_law_X9_isDead : GoodIn wsL_law wsX9_isDead := goodIn_r _ [616, 147, 107, 146, 221, 222, 223, 5, 224, 104, 496, 497, 498, 499, 119, 110, 111, 112, 123, 124, 500, 501, 502, 503, 120, 121, 105, 504, 505, 506, 507, 106, 490, 369, 370, 371, 491, 373, 374, 508, 509, 510, 511, 512, 513, 514, 515, 516, 517, 429, 430, 518, 432, 433, 519, 520, 521, 522, 523, 524, 525, 526, 527, 528, 529, 802, 803, 804, 805, 806, 807, 808, 809, 810, 811, 812, 813, 814, 815, 816, 817, 818, 819, 820, 821, 822, 823, 824, 825, 826, 827, 828, 829, 830, 831, 832] (by decide +kernel) (by decide +kernel)
set_option maxRecDepth 20000 in
theorem gL_law_X9_isDead : GoodIn wsL_law (wsV RL 156 RX9 yX9_isDead wsX9_isDead) := goodIn_app (goodIn_of _ (by decide +kernel)) ggL_law_X9_isDead
set_option maxRecDepth 20000 in
theorem ggL_law_L_deadEdges : GoodIn wsL_law wsL_deadEdges := goodIn_ca (goodIn_r _ [619, 134, 620, 621, 622, 2, 623, 17, 141, 25, 561, 203, 247, 564, 565, 566, 567, 139, 140, 30, 624, 625, 626, 82, 627, 88, 340, 90, 797, 798, 799, 800, 801, 833, 834, 835, 840, 841, 842, 851, 852, 853, 854, 855, 856, 857, 858, 859, 860, 861, 862, 863, 864, 848, 849, 850] (by decide +kernel) (by decide +kernel)) (goodIn_sub (fun _ h => List.mem_append_left _ (List.mem_append_left _ (List.mem_append_left _ (List.mem_append_right _ h)))) (by decide +kernel))
set_option maxRecDepth 20000 in
theorem gL_law_L_deadEdges : GoodIn wsL_law (va_wsS RL 157 yL_deadEdges wsL_deadEdges) := goodIn_app (goodIn_of _ (by decide +kernel)) ggL_law_L_deadEdges
set_option maxRecDepth 20000 in
theorem ggL_law_X9_deadEdges : GoodIn wsL_law wsX9_deadEdges := goodIn_r _ [631, 147, 146, 104, 107, 119, 496, 497, 498, 5, 499, 110, 111, 112, 123, 124, 500, 501, 502, 503, 120, 121, 105, 504, 505, 506, 507, 106, 490, 369, 370, 371, 491, 373, 374, 508, 509, 510, 511, 512, 513, 514, 515, 516, 517, 429, 430, 518, 432, 433, 519, 520, 521, 522, 523, 524, 525, 526, 527, 528, 529, 802, 803, 804, 805, 806, 807, 808, 809, 810, 811, 812, 813, 814, 815, 816, 817, 818, 819, 820, 821, 822, 823, 824, 825, 826, 827, 828, 829, 830, 831, 832] (by decide +kernel) (by decide +kernel)
set_option maxRecDepth 20000 in
theorem gL_law_X9_deadEdges : GoodIn wsL_law (wsV RL 159 RX9 yX9_deadEdges wsX9_deadEdges) := goodIn_app (goodIn_of _ (by decide +kernel)) ggL_law_X9_deadEdges
set_option maxRecDepth 20000 in
theorem ggL_law_L_constants : GoodIn wsL_law wsL_constants := goodIn_ca (goodIn_ca (goodIn_r _ [634, 134, 159, 635, 636, 637, 2, 638, 25, 561, 600, 564, 565, 566, 567, 139, 140, 30, 204, 205, 206, 207, 171, 172, 17, 141, 639, 640, 641, 39, 642, 48, 458, 459, 460, 461, 50, 51, 797, 798, 799, 800, 801, 840, 841, 842, 861, 862, 863, 864, 833, 834, 835, 848, 849, 850] (by decide +kernel) (by decide +kernel)) (goodIn_sub (fun _ h => List.mem_append_left _ (List.mem_append_left _ (List.mem_append_left _ (List.mem_append_right _ h)))) (by decide +kernel))) (goodIn_sub (fun _ h => List.mem_append_left _ (List.mem_append_left _ (List.mem_append_right _ h))) (by decide +kernel))
set_option maxRecDepth 20000 in
theorem gL_law_L_constants : GoodIn wsL_law (va_wsS RL 160 yL_constants wsL_constants) := goodIn_app (goodIn_of _ (by decide +kernel)) ggL_law_L_constants
set_option maxRecDepth 20000 in
theorem ggL_law_X9_constants : GoodIn wsL_law wsX9_constants := goodIn_r _ [646, 147, 146, 119, 123, 124, 221, 222, 223, 5, 224, 104, 500, 501, 502, 503, 120, 121, 105, 504, 505, 506, 507, 106, 490, 369, 370, 371, 491, 373, 374, 508, 509, 510, 511, 512, 513, 514, 515, 516, 517, 429, 430, 518, 432, 433, 519, 520, 521, 522, 802, 803, 804, 805, 806, 807, 808, 809, 810, 811, 812, 813, 814, 815, 816, 817, 818, 819, 820, 821, 822, 823, 824, 825, 826, 827, 828, 829, 830, 831, 832] (by decide +kernel) (by decide +kernel)
set_option maxRecDepth 20000 in
theorem gL_law_X9_constants : GoodIn wsL_law (wsV RL 162 RX9 yX9_constants wsX9_constants) := goodIn_app (goodIn_of _ (by decide +kernel)) ggL_law_X9_constants
set_option maxRecDepth 20000 in
theorem ggL_law_L_visits : GoodIn wsL_law wsL_visits := goodIn_ca (goodIn_ca (goodIn_r _ [649, 134, 159, 650, 651, 652, 2, 653, 25, 561, 654, 564, 565, 566, 567, 139, 140, 30, 204, 205, 206, 207, 171, 172, 17, 141, 797, 798, 799, 800, 801, 840, 841, 842, 861, 862, 863, 864, 833, 834, 835] (by decide +kernel) (by decide +kernel)) (goodIn_sub (fun _ h => List.mem_append_left _ (List.mem_append_left _ (List.mem_append_left _ (List.mem_append_right _ h)))) (by decide +kernel))) (goodIn_sub (fun _ h => List.mem_append_left _ (List.mem_append_left _ (List.mem_append_right _ h))) (by decide +kernel))
set_option maxRecDepth 20000 in
theorem gL_law_L_visits : GoodIn wsL_law (va_wsS RL 163 yL_visits wsL_visits) := goodIn_app (goodIn_of _ (by decide +kernel)) ggL_law_L_visits
set_option maxRecDepth 20000 in
theorem ggL_law_X9_visits : GoodIn wsL_law wsX9_visits := goodIn_r _ [658, 147, 146, 122, 221, 222, 223, 5, 224, 104, 802, 803, 804, 805, 806, 807, 808, 809, 810, 811, 812, 813, 814, 815, 816, 817, 818, 819, 820, 821, 822, 823, 824, 825, 826, 827, 828, 829, 830, 831, 832] (by decide +kernel) (by decide +kernel)
set_option maxRecDepth 20000 in
theorem gL_law_X9_visits : GoodIn wsL_law (wsV RL 165 RX9 yX9_visits wsX9_visits) := goodIn_app (goodIn_of _ (by decide +kernel)) ggL_law_X9_visits
set_option maxRecDepth 20000 in
theorem ggL_law_L_run : GoodIn wsL_law wsL_run := goodIn_ca (goodIn_r _ [661, 160, 662, 663, 664, 2, 665, 176, 177, 29, 17, 666, 667, 668, 669, 28, 670, 99, 671, 95, 672, 673, 98, 674, 675, 676, 677, 678, 679, 680, 681, 682, 683, 684, 685, 686, 687, 688, 689, 96, 97, 690, 380, 381, 382, 691, 692, 693, 694, 695, 696, 697, 698, 699, 700, 701, 702, 703, 704, 421, 422, 423, 424, 369, 370, 371, 425, 373, 374, 426, 427, 428, 429, 430, 431, 432, 433, 705, 706, 707, 708, 709, 710, 711, 712, 713, 443, 444, 797, 798, 799, 800, 801, 843, 844, 845, 846, 847, 833, 834, 835, 848, 849, 850, 851, 852, 853, 854, 855, 856, 857, 858, 859, 860] (by decide +kernel) (by decide +kernel)) (goodIn_sub (fun _ h => List.mem_append_left _ (List.mem_append_right _ h)) (by decide +kernel))
set_option maxRecDepth 20000 in
theorem gL_law_L_run : GoodIn wsL_law (va_wsS RL 168 yL_run wsL_run) := goodIn_app (goodIn_of _ (by decide +kernel)) ggL_law_L_run
set_option maxRecDepth 20000 in
theorem ggL_law_X9_run : GoodIn wsL_law wsX9_run := goodIn_r _ [717, 146, 718, 129, 113, 114, 719, 127, 128, 105, 106, 107, 108, 109, 148, 149, 150, 5, 151, 720, 721, 722, 723, 724, 725, 726, 727, 728, 729, 490, 369, 370, 371, 491, 373, 374, 512, 513, 514, 515, 516, 517, 429, 430, 518, 432, 433, 730, 731, 732, 733, 110, 111, 112, 802, 803, 804, 805, 806, 807, 808, 809, 810, 811, 812, 813, 814, 815, 816, 817, 818, 819, 820, 821, 822, 823, 824, 825, 826, 827, 828, 829, 830, 831, 832] (by decide +kernel) (by decide +kernel)
set_option maxRecDepth 20000 in
theorem gL_law_X9_run : GoodIn wsL_law (wsV RL 171 RX9 yX9_run wsX9_run) := goodIn_app (goodIn_of _ (by decide +kernel)) ggL_law_X9_run
set_option maxRecDepth 20000 in
theorem ggL_law_L_enteredBlock : GoodIn wsL_law wsL_enteredBlock := goodIn_ca (goodIn_r _ [736, 159, 737, 738, 739, 2, 740, 29, 741, 742, 743, 744, 745, 171, 172, 666, 797, 798, 799, 800, 801, 843, 844, 845, 846, 847] (by decide +kernel) (by decide +kernel)) (goodIn_sub (fun _ h => List.mem_append_left _ (List.mem_append_left _ (List.mem_append_right _ h))) (by decide +kernel))
set_option maxRecDepth 20000 in
theorem gL_law_L_enteredBlock : GoodIn wsL_law (va_wsS RL 172 yL_enteredBlock wsL_enteredBlock) := goodIn_app (goodIn_of _ (by decide +kernel)) ggL_law_L_enteredBlock
set_option maxRecDepth 20000 in
theorem ggL_law_X9_enteredBlock : GoodIn wsL_law wsX9_enteredBlock := goodIn_r _ [749, 146, 719, 127, 148, 149, 150, 5, 151, 802, 803, 804, 805, 806, 807, 808, 809, 810, 811, 812, 813, 814, 815, 816, 817, 818, 819, 820, 821, 822, 823, 824, 825, 826, 827, 828, 829, 830, 831, 832] (by decide +kernel) (by decide +kernel)
set_option maxRecDepth 20000 in
theorem gL_law_X9_enteredBlock : GoodIn wsL_law (wsV RL 174 RX9 yX9_enteredBlock wsX9_enteredBlock) := goodIn_app (goodIn_of _ (by decide +kernel)) ggL_law_X9_enteredBlock
set_option maxRecDepth 20000 in
theorem ggL_law_L_enteredWith : GoodIn wsL_law wsL_enteredWith := goodIn_ca (goodIn_r _ [752, 159, 753, 754, 755, 2, 756, 29, 757, 742, 743, 744, 745, 171, 172, 666, 168, 169, 170, 797, 798, 799, 800, 801, 843, 844, 845, 846, 847] (by decide +kernel) (by decide +kernel)) (goodIn_sub (fun _ h => List.mem_append_left _ (List.mem_append_left _ (List.mem_append_right _ h))) (by decide +kernel))
set_option maxRecDepth 20000 in
theorem gL_law_L_enteredWith : GoodIn wsL_law (va_wsS RL 175 yL_enteredWith wsL_enteredWith) := goodIn_app (goodIn_of _ (by decide +kernel)) ggL_law_L_enteredWith
set_option maxRecDepth 20000 in
theorem ggL_law_X9_enteredWith : GoodIn wsL_law wsX9_enteredWith := goodIn_r _ [761, 146, 719, 128, 188, 189, 5, 190, 148, 149, 150, 151, 802, 803, 804, 805, 806, 807, 808, 809, 810, 811, 812, 813, 814, 815, 816, 817, 818, 819, 820, 821, 822, 823, 824, 825, 826, 827, 828, 829, 830, 831, 832] (by decide +kernel) (by decide +kernel)
set_option maxRecDepth 20000 in
theorem gL_law_X9_enteredWith : GoodIn wsL_law (wsV RL 177 RX9 yX9_enteredWith wsX9_enteredWith) := goodIn_app (goodIn_of _ (by decide +kernel)) ggL_law_X9_enteredWith
set_option maxRecDepth 20000 in
theorem ggL_law_L_result : GoodIn wsL_law wsL_result := goodIn_ca (goodIn_r _ [764, 159, 765, 766, 767, 2, 768, 29, 769, 168, 169, 170, 171, 172, 797, 798, 799, 800, 801, 843, 844, 845, 846, 847] (by decide +kernel) (by decide +kernel)) (goodIn_sub (fun _ h => List.mem_append_left _ (List.mem_append_left _ (List.mem_append_right _ h))) (by decide +kernel))
set_option maxRecDepth 20000 in
theorem gL_law_L_result : GoodIn wsL_law (va_wsS RL 178 yL_result wsL_result) := goodIn_app (goodIn_of _ (by decide +kernel)) ggL_law_L_result
set_option maxRecDepth 20000 in
theorem ggL_law_X9_result : GoodIn wsL_law wsX9_result := goodIn_r _ [773, 146, 129, 188, 189, 5, 190, 148, 149, 150, 151, 802, 803, 804, 805, 806, 807, 808, 809, 810, 811, 812, 813, 814, 815, 816, 817, 818, 819, 820, 821, 822, 823, 824, 825, 826, 827, 828, 829, 830, 831, 832] (by decide +kernel) (by decide +kernel)
set_option maxRecDepth 20000 in
theorem gL_law_X9_result : GoodIn wsL_law (wsV RL 180 RX9 yX9_result wsX9_result) := goodIn_app (goodIn_of _ (by decide +kernel)) ggL_law_X9_result
set_option maxRecDepth 20000 in
theorem ggL_law_X8_digest : GoodIn wsL_law wsX8_digest := goodIn_r _ [777, 778, 779, 21, 305, 306, 318, 30, 29, 769, 780, 781, 782, 2, 783, 17, 141, 203, 212, 247, 784, 785, 786, 787, 25, 561, 654, 562, 563, 788, 789, 790, 166, 167, 797, 798, 799, 800, 801, 836, 837, 838, 839, 843, 844, 845, 846, 847, 833, 834, 835, 851, 852, 853, 854, 855, 856, 857, 858, 859, 860, 840, 841, 842, 861, 862, 863, 864, 848, 849, 850] (by decide +kernel) (by decide +kernel)
set_option maxRecDepth 20000 in
theorem gL_law_X8_digest : GoodIn wsL_law (wsV RL 181 RX8 yX8_digest wsX8_digest) := goodIn_app (goodIn_of _ (by decide +kernel)) ggL_law_X8_digest
set_option maxRecDepth 20000 in
theorem ggL_law_X9_digest : GoodIn wsL_law wsX9_digest := goodIn_r _ [794, 146, 795, 104, 796, 105, 107, 115, 116, 327, 147, 122, 119, 120, 121, 129, 802, 803, 804, 805, 806, 807, 808, 809, 810, 811, 812, 813, 814, 815, 816, 817, 818, 819, 820, 821, 822, 823, 824, 825, 826, 827, 828, 829, 830, 831, 832] (by decide +kernel) (by decide +kernel)
set_option maxRecDepth 20000 in
theorem gL_law_X9_digest : GoodIn wsL_law (wsV RL 185 RX9 yX9_digest wsX9_digest) := goodIn_app (goodIn_of _ (by decide +kernel)) ggL_law_X9_digest
