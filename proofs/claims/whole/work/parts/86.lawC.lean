/-! the law's calls, as printed -/
set_option maxRecDepth 20000 in
theorem ggL_law_X8_init : GoodIn wsL_law wsX8_init := goodIn_r _ [10, 11, 12, 13, 14, 15, 16, 17, 18, 19, 20, 21, 22, 23, 24, 25, 26, 27, 28, 29, 30, 31, 32, 33, 34, 35, 36, 37, 38, 39, 40, 41, 42, 43, 44, 45, 46, 47, 48, 49, 50, 51, 52, 53, 54, 55, 56, 57, 58, 59, 60, 61, 62, 63, 64, 65, 66, 67, 68, 69, 70, 71, 72, 73, 74, 75, 76, 77, 78, 79, 80, 81, 82, 83, 84, 85, 86, 87, 88, 89, 90, 91, 92, 93, 94, 95, 96, 97, 98, 99, 100, 101, 102, 103, 838, 839, 840, 802, 803, 804, 805, 806, 841, 842, 843, 844, 845, 846, 847, 848, 849, 850, 851, 852, 853, 854, 855, 856, 857, 858, 859, 860, 861, 862, 863, 864, 865, 866, 867, 868, 869, 870, 871, 872] (by decide +kernel) (by decide +kernel)
set_option maxRecDepth 20000 in
theorem gL_law_X8_init : GoodIn wsL_law (wsX8_init) := ggL_law_X8_init
set_option maxRecDepth 20000 in
theorem ggL_law_X9_init : GoodIn wsL_law wsX9_init := goodIn_r _ [106, 107, 12, 13, 108, 49, 109, 110, 111, 112, 113, 114, 115, 116, 117, 118, 119, 120, 121, 122, 123, 124, 125, 126, 127, 128, 129, 130, 131, 132, 133, 807, 808, 809, 810, 811, 812, 813, 814, 815, 816, 817, 818, 819, 820, 821, 822, 823, 824, 825, 826, 827, 828, 829, 830, 831, 832, 833, 834, 835, 836, 837] (by decide +kernel) (by decide +kernel)
set_option maxRecDepth 20000 in
theorem gL_law_X9_init : GoodIn wsL_law (wsX9_init) := ggL_law_X9_init
set_option maxRecDepth 20000 in
theorem ggL_law_L_addBlock : GoodIn wsL_law wsL_addBlock := goodIn_ca (goodIn_r _ [137, 138, 139, 140, 141, 2, 142, 143, 144, 17, 145, 30, 802, 803, 804, 805, 806, 838, 839, 840] (by decide +kernel) (by decide +kernel)) (goodIn_sub (fun _ h => List.mem_append_left _ (List.mem_append_left _ (List.mem_append_left _ (List.mem_append_right _ h)))) (by decide +kernel))
set_option maxRecDepth 20000 in
theorem gL_law_L_addBlock : GoodIn wsL_law (va_wsS RL 92 yL_addBlock wsL_addBlock) := goodIn_app (goodIn_of _ (by decide +kernel)) ggL_law_L_addBlock
set_option maxRecDepth 20000 in
theorem ggL_law_X9_addBlock : GoodIn wsL_law wsX9_addBlock := goodIn_r _ [149, 150, 108, 109, 111, 151, 152, 153, 154, 5, 155, 807, 808, 809, 810, 811, 812, 813, 814, 815, 816, 817, 818, 819, 820, 821, 822, 823, 824, 825, 826, 827, 828, 829, 830, 831, 832, 833, 834, 835, 836, 837] (by decide +kernel) (by decide +kernel)
set_option maxRecDepth 20000 in
theorem gL_law_X9_addBlock : GoodIn wsL_law (wsV RL 97 RX9 yX9_addBlock wsX9_addBlock) := goodIn_app (goodIn_of _ (by decide +kernel)) ggL_law_X9_addBlock
set_option maxRecDepth 20000 in
theorem ggL_law_X9_thrown : GoodIn wsL_law wsX9_thrown := goodIn_r _ [159, 150, 807, 808, 809, 810, 811, 812, 813, 814, 815, 816, 817, 818, 819, 820, 821, 822, 823, 824, 825, 826, 827, 828, 829, 830, 831, 832, 833, 834, 835, 836, 837] (by decide +kernel) (by decide +kernel)
set_option maxRecDepth 20000 in
theorem gL_law_X9_thrown : GoodIn wsL_law (wsV RL 98 RX9 yX9_thrown wsX9_thrown) := goodIn_app (goodIn_of _ (by decide +kernel)) ggL_law_X9_thrown
set_option maxRecDepth 20000 in
theorem ggL_law_L_setInitial : GoodIn wsL_law wsL_setInitial := goodIn_ca (goodIn_ca (goodIn_r _ [162, 163, 164, 165, 166, 167, 2, 168, 30, 17, 169, 170, 171, 172, 173, 174, 175, 176, 177, 178, 179, 180, 181, 182, 183, 184, 185, 186, 39, 187, 50, 51, 802, 803, 804, 805, 806, 838, 839, 840, 856, 857, 858] (by decide +kernel) (by decide +kernel)) (goodIn_sub (fun _ h => List.mem_append_left _ (List.mem_append_left _ (List.mem_append_right _ h))) (by decide +kernel))) (goodIn_sub (fun _ h => List.mem_append_left _ (List.mem_append_right _ h)) (by decide +kernel))
set_option maxRecDepth 20000 in
theorem gL_law_L_setInitial : GoodIn wsL_law (va_wsS RL 101 yL_setInitial wsL_setInitial) := goodIn_app (goodIn_of _ (by decide +kernel)) ggL_law_L_setInitial
set_option maxRecDepth 20000 in
theorem ggL_law_X9_setInitial : GoodIn wsL_law wsX9_setInitial := goodIn_r _ [191, 150, 117, 118, 151, 192, 193, 5, 194, 152, 153, 154, 155, 195, 196, 197, 198, 199, 807, 808, 809, 810, 811, 812, 813, 814, 815, 816, 817, 818, 819, 820, 821, 822, 823, 824, 825, 826, 827, 828, 829, 830, 831, 832, 833, 834, 835, 836, 837] (by decide +kernel) (by decide +kernel)
set_option maxRecDepth 20000 in
theorem gL_law_X9_setInitial : GoodIn wsL_law (wsV RL 104 RX9 yX9_setInitial wsX9_setInitial) := goodIn_app (goodIn_of _ (by decide +kernel)) ggL_law_X9_setInitial
set_option maxRecDepth 20000 in
theorem ggL_law_L_input : GoodIn wsL_law wsL_input := goodIn_ca (goodIn_ca (goodIn_ca (goodIn_r _ [202, 163, 164, 138, 203, 204, 205, 2, 206, 30, 17, 207, 208, 209, 210, 211, 175, 176, 145, 172, 173, 174, 177, 178, 179, 180, 181, 182, 183, 212, 213, 214, 215, 143, 144, 216, 217, 218, 219, 43, 220, 55, 56, 57, 58, 59, 802, 803, 804, 805, 806, 838, 839, 840, 859, 860, 861, 862, 863, 864, 865, 866, 867, 868] (by decide +kernel) (by decide +kernel)) (goodIn_sub (fun _ h => List.mem_append_left _ (List.mem_append_left _ (List.mem_append_right _ h))) (by decide +kernel))) (goodIn_sub (fun _ h => List.mem_append_left _ (List.mem_append_right _ h)) (by decide +kernel))) (goodIn_sub (fun _ h => List.mem_append_left _ (List.mem_append_left _ (List.mem_append_left _ (List.mem_append_right _ h)))) (by decide +kernel))
set_option maxRecDepth 20000 in
theorem gL_law_L_input : GoodIn wsL_law (va_wsS RL 105 yL_input wsL_input) := goodIn_app (goodIn_of _ (by decide +kernel)) ggL_law_L_input
set_option maxRecDepth 20000 in
theorem ggL_law_X9_input : GoodIn wsL_law wsX9_input := goodIn_r _ [224, 150, 109, 225, 226, 227, 5, 228, 108, 192, 193, 194, 152, 153, 154, 155, 195, 196, 197, 198, 199, 229, 230, 231, 232, 110, 151, 807, 808, 809, 810, 811, 812, 813, 814, 815, 816, 817, 818, 819, 820, 821, 822, 823, 824, 825, 826, 827, 828, 829, 830, 831, 832, 833, 834, 835, 836, 837] (by decide +kernel) (by decide +kernel)
set_option maxRecDepth 20000 in
theorem gL_law_X9_input : GoodIn wsL_law (wsV RL 108 RX9 yX9_input wsX9_input) := goodIn_app (goodIn_of _ (by decide +kernel)) ggL_law_X9_input
set_option maxRecDepth 20000 in
theorem ggL_law_L_compute : GoodIn wsL_law wsL_compute := goodIn_ca (goodIn_ca (goodIn_ca (goodIn_r _ [235, 163, 164, 138, 236, 237, 238, 2, 239, 180, 181, 30, 17, 207, 208, 209, 210, 211, 175, 176, 145, 172, 173, 174, 212, 213, 214, 215, 143, 144, 216, 217, 218, 219, 43, 220, 55, 56, 57, 58, 59, 802, 803, 804, 805, 806, 838, 839, 840, 859, 860, 861, 862, 863, 864, 865, 866, 867, 868] (by decide +kernel) (by decide +kernel)) (goodIn_sub (fun _ h => List.mem_append_left _ (List.mem_append_right _ h)) (by decide +kernel))) (goodIn_sub (fun _ h => List.mem_append_left _ (List.mem_append_left _ (List.mem_append_right _ h))) (by decide +kernel))) (goodIn_sub (fun _ h => List.mem_append_left _ (List.mem_append_left _ (List.mem_append_left _ (List.mem_append_right _ h)))) (by decide +kernel))
set_option maxRecDepth 20000 in
theorem gL_law_L_compute : GoodIn wsL_law (va_wsS RL 109 yL_compute wsL_compute) := goodIn_app (goodIn_of _ (by decide +kernel)) ggL_law_L_compute
set_option maxRecDepth 20000 in
theorem ggL_law_X9_compute : GoodIn wsL_law wsX9_compute := goodIn_r _ [243, 150, 109, 225, 226, 227, 5, 228, 108, 192, 193, 194, 152, 153, 154, 155, 229, 230, 231, 232, 110, 151, 807, 808, 809, 810, 811, 812, 813, 814, 815, 816, 817, 818, 819, 820, 821, 822, 823, 824, 825, 826, 827, 828, 829, 830, 831, 832, 833, 834, 835, 836, 837] (by decide +kernel) (by decide +kernel)
set_option maxRecDepth 20000 in
theorem gL_law_X9_compute : GoodIn wsL_law (wsV RL 112 RX9 yX9_compute wsX9_compute) := goodIn_app (goodIn_of _ (by decide +kernel)) ggL_law_X9_compute
set_option maxRecDepth 20000 in
theorem ggL_law_L_jump : GoodIn wsL_law wsL_jump := goodIn_ca (goodIn_r _ [246, 163, 247, 248, 249, 2, 250, 30, 17, 207, 251, 208, 209, 210, 211, 175, 176, 145, 252, 253, 254, 43, 255, 60, 61, 802, 803, 804, 805, 806, 838, 839, 840, 859, 860, 861, 862, 863, 864, 865, 866, 867, 868] (by decide +kernel) (by decide +kernel)) (goodIn_sub (fun _ h => List.mem_append_left _ (List.mem_append_left _ (List.mem_append_right _ h))) (by decide +kernel))
set_option maxRecDepth 20000 in
theorem gL_law_L_jump : GoodIn wsL_law (va_wsS RL 113 yL_jump wsL_jump) := goodIn_app (goodIn_of _ (by decide +kernel)) ggL_law_L_jump
set_option maxRecDepth 20000 in
theorem ggL_law_X9_jump : GoodIn wsL_law wsX9_jump := goodIn_r _ [259, 150, 225, 226, 227, 5, 228, 108, 260, 261, 262, 263, 111, 112, 113, 151, 152, 153, 154, 155, 807, 808, 809, 810, 811, 812, 813, 814, 815, 816, 817, 818, 819, 820, 821, 822, 823, 824, 825, 826, 827, 828, 829, 830, 831, 832, 833, 834, 835, 836, 837] (by decide +kernel) (by decide +kernel)
set_option maxRecDepth 20000 in
theorem gL_law_X9_jump : GoodIn wsL_law (wsV RL 116 RX9 yX9_jump wsX9_jump) := goodIn_app (goodIn_of _ (by decide +kernel)) ggL_law_X9_jump
set_option maxRecDepth 20000 in
theorem ggL_law_L_branch : GoodIn wsL_law wsL_branch := goodIn_ca (goodIn_ca (goodIn_r _ [266, 163, 164, 267, 268, 269, 2, 270, 180, 181, 30, 17, 207, 251, 208, 209, 210, 211, 175, 176, 145, 172, 173, 174, 271, 272, 273, 43, 274, 60, 62, 64, 63, 61, 802, 803, 804, 805, 806, 838, 839, 840, 859, 860, 861, 862, 863, 864, 865, 866, 867, 868] (by decide +kernel) (by decide +kernel)) (goodIn_sub (fun _ h => List.mem_append_left _ (List.mem_append_right _ h)) (by decide +kernel))) (goodIn_sub (fun _ h => List.mem_append_left _ (List.mem_append_left _ (List.mem_append_right _ h))) (by decide +kernel))
set_option maxRecDepth 20000 in
theorem gL_law_L_branch : GoodIn wsL_law (va_wsS RL 117 yL_branch wsL_branch) := goodIn_app (goodIn_of _ (by decide +kernel)) ggL_law_L_branch
set_option maxRecDepth 20000 in
theorem ggL_law_X9_branch : GoodIn wsL_law wsX9_branch := goodIn_r _ [278, 150, 114, 115, 116, 225, 226, 227, 5, 228, 108, 192, 193, 194, 152, 153, 154, 155, 260, 261, 262, 263, 111, 112, 113, 151, 807, 808, 809, 810, 811, 812, 813, 814, 815, 816, 817, 818, 819, 820, 821, 822, 823, 824, 825, 826, 827, 828, 829, 830, 831, 832, 833, 834, 835, 836, 837] (by decide +kernel) (by decide +kernel)
set_option maxRecDepth 20000 in
theorem gL_law_X9_branch : GoodIn wsL_law (wsV RL 120 RX9 yX9_branch wsX9_branch) := goodIn_app (goodIn_of _ (by decide +kernel)) ggL_law_X9_branch
set_option maxRecDepth 20000 in
theorem ggL_law_L_clear : GoodIn wsL_law wsL_clear := goodIn_ca (goodIn_r _ [281, 163, 282, 283, 284, 2, 285, 30, 17, 207, 216, 208, 209, 210, 211, 175, 176, 145, 286, 287, 288, 43, 289, 55, 60, 802, 803, 804, 805, 806, 838, 839, 840, 859, 860, 861, 862, 863, 864, 865, 866, 867, 868] (by decide +kernel) (by decide +kernel)) (goodIn_sub (fun _ h => List.mem_append_left _ (List.mem_append_left _ (List.mem_append_right _ h))) (by decide +kernel))
set_option maxRecDepth 20000 in
theorem gL_law_L_clear : GoodIn wsL_law (va_wsS RL 121 yL_clear wsL_clear) := goodIn_app (goodIn_of _ (by decide +kernel)) ggL_law_L_clear
set_option maxRecDepth 20000 in
theorem ggL_law_X9_clear : GoodIn wsL_law wsX9_clear := goodIn_r _ [293, 150, 109, 225, 226, 227, 5, 228, 108, 152, 153, 154, 155, 260, 261, 262, 263, 111, 112, 113, 151, 807, 808, 809, 810, 811, 812, 813, 814, 815, 816, 817, 818, 819, 820, 821, 822, 823, 824, 825, 826, 827, 828, 829, 830, 831, 832, 833, 834, 835, 836, 837] (by decide +kernel) (by decide +kernel)
set_option maxRecDepth 20000 in
theorem gL_law_X9_clear : GoodIn wsL_law (wsV RL 124 RX9 yX9_clear wsX9_clear) := goodIn_app (goodIn_of _ (by decide +kernel)) ggL_law_X9_clear
set_option maxRecDepth 20000 in
theorem ggL_law_X8_blockCount : GoodIn wsL_law wsX8_blockCount := goodIn_r _ [297, 17, 145, 802, 803, 804, 805, 806, 838, 839, 840] (by decide +kernel) (by decide +kernel)
set_option maxRecDepth 20000 in
theorem gL_law_X8_blockCount : GoodIn wsL_law (wsV RL 125 RX8 yX8_blockCount wsX8_blockCount) := goodIn_app (goodIn_of _ (by decide +kernel)) ggL_law_X8_blockCount
set_option maxRecDepth 20000 in
theorem ggL_law_X9_blockCount : GoodIn wsL_law wsX9_blockCount := goodIn_r _ [301, 150, 108, 807, 808, 809, 810, 811, 812, 813, 814, 815, 816, 817, 818, 819, 820, 821, 822, 823, 824, 825, 826, 827, 828, 829, 830, 831, 832, 833, 834, 835, 836, 837] (by decide +kernel) (by decide +kernel)
set_option maxRecDepth 20000 in
theorem gL_law_X9_blockCount : GoodIn wsL_law (wsV RL 128 RX9 yX9_blockCount wsX9_blockCount) := goodIn_app (goodIn_of _ (by decide +kernel)) ggL_law_X9_blockCount
set_option maxRecDepth 20000 in
theorem ggL_law_L_setEffort : GoodIn wsL_law wsL_setEffort := goodIn_ca (goodIn_r _ [304, 164, 305, 306, 307, 2, 308, 180, 181, 30, 21, 309, 310, 802, 803, 804, 805, 806, 841, 842, 843, 844] (by decide +kernel) (by decide +kernel)) (goodIn_sub (fun _ h => List.mem_append_left _ (List.mem_append_right _ h)) (by decide +kernel))
set_option maxRecDepth 20000 in
theorem gL_law_L_setEffort : GoodIn wsL_law (va_wsS RL 129 yL_setEffort wsL_setEffort) := goodIn_app (goodIn_of _ (by decide +kernel)) ggL_law_L_setEffort
set_option maxRecDepth 20000 in
theorem ggL_law_X9_setEffort : GoodIn wsL_law wsX9_setEffort := goodIn_r _ [314, 150, 119, 120, 151, 152, 153, 154, 5, 155, 807, 808, 809, 810, 811, 812, 813, 814, 815, 816, 817, 818, 819, 820, 821, 822, 823, 824, 825, 826, 827, 828, 829, 830, 831, 832, 833, 834, 835, 836, 837] (by decide +kernel) (by decide +kernel)
set_option maxRecDepth 20000 in
theorem gL_law_X9_setEffort : GoodIn wsL_law (wsV RL 131 RX9 yX9_setEffort wsX9_setEffort) := goodIn_app (goodIn_of _ (by decide +kernel)) ggL_law_X9_setEffort
set_option maxRecDepth 20000 in
theorem ggL_law_L_addThreshold : GoodIn wsL_law wsL_addThreshold := goodIn_ca (goodIn_ca (goodIn_r _ [317, 164, 138, 318, 319, 320, 2, 321, 180, 181, 143, 144, 182, 183, 21, 322, 30, 323, 324, 325, 20, 326, 70, 71, 802, 803, 804, 805, 806, 841, 842, 843, 844] (by decide +kernel) (by decide +kernel)) (goodIn_sub (fun _ h => List.mem_append_left _ (List.mem_append_right _ h)) (by decide +kernel))) (goodIn_sub (fun _ h => List.mem_append_left _ (List.mem_append_left _ (List.mem_append_left _ (List.mem_append_right _ h)))) (by decide +kernel))
set_option maxRecDepth 20000 in
theorem gL_law_L_addThreshold : GoodIn wsL_law (va_wsS RL 132 yL_addThreshold wsL_addThreshold) := goodIn_app (goodIn_of _ (by decide +kernel)) ggL_law_L_addThreshold
set_option maxRecDepth 20000 in
theorem ggL_law_X9_addThreshold : GoodIn wsL_law wsX9_addThreshold := goodIn_r _ [330, 150, 198, 199, 331, 121, 151, 152, 153, 154, 5, 155, 807, 808, 809, 810, 811, 812, 813, 814, 815, 816, 817, 818, 819, 820, 821, 822, 823, 824, 825, 826, 827, 828, 829, 830, 831, 832, 833, 834, 835, 836, 837] (by decide +kernel) (by decide +kernel)
set_option maxRecDepth 20000 in
theorem gL_law_X9_addThreshold : GoodIn wsL_law (wsV RL 134 RX9 yX9_addThreshold wsX9_addThreshold) := goodIn_app (goodIn_of _ (by decide +kernel)) ggL_law_X9_addThreshold
set_option maxRecDepth 20000 in
theorem ggL_law_X8_analyze : GoodIn wsL_law wsX8_analyze := goodIn_r _ [335, 25, 30, 336, 337, 338, 24, 339, 77, 340, 341, 342, 84, 343, 93, 90, 344, 91, 92, 345, 346, 347, 348, 349, 81, 350, 351, 352, 353, 354, 79, 355, 80, 356, 357, 82, 358, 359, 360, 361, 362, 363, 364, 365, 366, 367, 368, 369, 370, 39, 371, 48, 50, 372, 373, 374, 375, 51, 376, 377, 378, 379, 380, 381, 382, 383, 384, 385, 386, 387, 388, 389, 390, 20, 391, 392, 393, 394, 395, 396, 397, 398, 70, 71, 399, 400, 401, 402, 403, 404, 405, 406, 407, 408, 409, 410, 411, 412, 413, 414, 415, 416, 43, 417, 418, 55, 56, 57, 58, 59, 419, 185, 186, 187, 420, 421, 422, 423, 424, 425, 426, 427, 428, 429, 430, 431, 432, 433, 434, 435, 436, 437, 438, 439, 440, 441, 60, 62, 64, 63, 442, 443, 444, 445, 446, 447, 448, 449, 450, 451, 452, 453, 454, 455, 456, 457, 458, 459, 460, 461, 462, 463, 464, 465, 466, 467, 468, 469, 470, 471, 472, 473, 474, 475, 476, 477, 478, 479, 480, 481, 482, 483, 484, 485, 802, 803, 804, 805, 806, 845, 846, 847, 848, 849, 869, 870, 871, 872, 856, 857, 858, 838, 839, 840, 841, 842, 843, 844, 859, 860, 861, 862, 863, 864, 865, 866, 867, 868] (by decide +kernel) (by decide +kernel)
set_option maxRecDepth 20000 in
theorem gL_law_X8_analyze : GoodIn wsL_law (wsV RL 135 RX8 yX8_analyze wsX8_analyze) := goodIn_app (goodIn_of _ (by decide +kernel)) ggL_law_X8_analyze
set_option maxRecDepth 20000 in
theorem ggL_law_X9_analyze : GoodIn wsL_law wsX9_analyze := goodIn_r _ [489, 150, 151, 123, 126, 108, 120, 490, 491, 492, 5, 493, 494, 124, 129, 495, 373, 374, 375, 125, 130, 496, 377, 378, 119, 497, 498, 499, 500, 111, 112, 113, 127, 117, 128, 118, 501, 502, 503, 504, 114, 115, 116, 505, 506, 507, 508, 109, 509, 510, 511, 512, 110, 513, 514, 515, 516, 517, 518, 519, 520, 521, 522, 433, 434, 523, 436, 437, 524, 525, 526, 527, 528, 529, 530, 531, 532, 533, 534, 535, 536, 537, 538, 539, 540, 541, 542, 198, 331, 121, 199, 543, 544, 545, 546, 547, 548, 549, 550, 807, 808, 809, 810, 811, 812, 813, 814, 815, 816, 817, 818, 819, 820, 821, 822, 823, 824, 825, 826, 827, 828, 829, 830, 831, 832, 833, 834, 835, 836, 837] (by decide +kernel) (by decide +kernel)
set_option maxRecDepth 20000 in
theorem gL_law_X9_analyze : GoodIn wsL_law (wsV RL 138 RX9 yX9_analyze wsX9_analyze) := goodIn_app (goodIn_of _ (by decide +kernel)) ggL_law_X9_analyze
set_option maxRecDepth 20000 in
theorem ggL_law_X8_isAnalyzed : GoodIn wsL_law wsX8_isAnalyzed := goodIn_r _ [554, 30, 802, 803, 804, 805, 806] (by decide +kernel) (by decide +kernel)
set_option maxRecDepth 20000 in
theorem gL_law_X8_isAnalyzed : GoodIn wsL_law (wsV RL 139 RX8 yX8_isAnalyzed wsX8_isAnalyzed) := goodIn_app (goodIn_of _ (by decide +kernel)) ggL_law_X8_isAnalyzed
set_option maxRecDepth 20000 in
theorem ggL_law_X9_isAnalyzed : GoodIn wsL_law wsX9_isAnalyzed := goodIn_r _ [558, 150, 151, 807, 808, 809, 810, 811, 812, 813, 814, 815, 816, 817, 818, 819, 820, 821, 822, 823, 824, 825, 826, 827, 828, 829, 830, 831, 832, 833, 834, 835, 836, 837] (by decide +kernel) (by decide +kernel)
set_option maxRecDepth 20000 in
theorem gL_law_X9_isAnalyzed : GoodIn wsL_law (wsV RL 143 RX9 yX9_isAnalyzed wsX9_isAnalyzed) := goodIn_app (goodIn_of _ (by decide +kernel)) ggL_law_X9_isAnalyzed
set_option maxRecDepth 20000 in
theorem ggL_law_L_isReachable : GoodIn wsL_law wsL_isReachable := goodIn_ca (goodIn_ca (goodIn_r _ [561, 138, 163, 562, 563, 564, 2, 565, 25, 566, 567, 568, 569, 570, 571, 572, 143, 144, 30, 208, 209, 210, 211, 175, 176, 17, 145, 802, 803, 804, 805, 806, 845, 846, 847, 848, 849, 869, 870, 871, 872, 856, 857, 858, 838, 839, 840] (by decide +kernel) (by decide +kernel)) (goodIn_sub (fun _ h => List.mem_append_left _ (List.mem_append_left _ (List.mem_append_left _ (List.mem_append_right _ h)))) (by decide +kernel))) (goodIn_sub (fun _ h => List.mem_append_left _ (List.mem_append_left _ (List.mem_append_right _ h))) (by decide +kernel))
set_option maxRecDepth 20000 in
theorem gL_law_L_isReachable : GoodIn wsL_law (va_wsS RL 144 yL_isReachable wsL_isReachable) := goodIn_app (goodIn_of _ (by decide +kernel)) ggL_law_L_isReachable
set_option maxRecDepth 20000 in
theorem ggL_law_X9_isReachable : GoodIn wsL_law wsX9_isReachable := goodIn_r _ [576, 151, 150, 123, 225, 226, 227, 5, 228, 108, 807, 808, 809, 810, 811, 812, 813, 814, 815, 816, 817, 818, 819, 820, 821, 822, 823, 824, 825, 826, 827, 828, 829, 830, 831, 832, 833, 834, 835, 836, 837] (by decide +kernel) (by decide +kernel)
set_option maxRecDepth 20000 in
theorem gL_law_X9_isReachable : GoodIn wsL_law (wsV RL 146 RX9 yX9_isReachable wsX9_isReachable) := goodIn_app (goodIn_of _ (by decide +kernel)) ggL_law_X9_isReachable
set_option maxRecDepth 20000 in
theorem ggL_law_L_entry : GoodIn wsL_law wsL_entry := goodIn_ca (goodIn_ca (goodIn_ca (goodIn_r _ [579, 138, 163, 580, 581, 582, 583, 2, 584, 25, 566, 567, 569, 570, 571, 572, 143, 144, 30, 208, 209, 210, 211, 175, 176, 17, 145, 172, 173, 174, 585, 586, 587, 588, 589, 568, 171, 170, 802, 803, 804, 805, 806, 845, 846, 847, 848, 849, 869, 870, 871, 872, 838, 839, 840, 856, 857, 858] (by decide +kernel) (by decide +kernel)) (goodIn_sub (fun _ h => List.mem_append_left _ (List.mem_append_left _ (List.mem_append_left _ (List.mem_append_right _ h)))) (by decide +kernel))) (goodIn_sub (fun _ h => List.mem_append_left _ (List.mem_append_left _ (List.mem_append_right _ h))) (by decide +kernel))) (goodIn_sub (fun _ h => List.mem_append_right _ h) (by decide +kernel))
set_option maxRecDepth 20000 in
theorem gL_law_L_entry : GoodIn wsL_law (va_wsS RL 147 yL_entry wsL_entry) := goodIn_app (goodIn_of _ (by decide +kernel)) ggL_law_L_entry
set_option maxRecDepth 20000 in
theorem ggL_law_X9_entry : GoodIn wsL_law wsX9_entry := goodIn_r _ [593, 125, 124, 594, 595, 596, 5, 597, 151, 123, 150, 225, 226, 227, 228, 108, 192, 193, 194, 807, 808, 809, 810, 811, 812, 813, 814, 815, 816, 817, 818, 819, 820, 821, 822, 823, 824, 825, 826, 827, 828, 829, 830, 831, 832, 833, 834, 835, 836, 837] (by decide +kernel) (by decide +kernel)
set_option maxRecDepth 20000 in
theorem gL_law_X9_entry : GoodIn wsL_law (wsV RL 150 RX9 yX9_entry wsX9_entry) := goodIn_app (goodIn_of _ (by decide +kernel)) ggL_law_X9_entry
set_option maxRecDepth 20000 in
theorem ggL_law_L_exit : GoodIn wsL_law wsL_exit := goodIn_ca (goodIn_ca (goodIn_ca (goodIn_r _ [600, 138, 163, 580, 601, 602, 603, 2, 604, 25, 566, 605, 569, 570, 571, 572, 143, 144, 30, 208, 209, 210, 211, 175, 176, 17, 145, 172, 173, 174, 585, 586, 587, 588, 589, 568, 171, 170, 802, 803, 804, 805, 806, 845, 846, 847, 848, 849, 869, 870, 871, 872, 838, 839, 840, 856, 857, 858] (by decide +kernel) (by decide +kernel)) (goodIn_sub (fun _ h => List.mem_append_left _ (List.mem_append_left _ (List.mem_append_left _ (List.mem_append_right _ h)))) (by decide +kernel))) (goodIn_sub (fun _ h => List.mem_append_left _ (List.mem_append_left _ (List.mem_append_right _ h))) (by decide +kernel))) (goodIn_sub (fun _ h => List.mem_append_right _ h) (by decide +kernel))
set_option maxRecDepth 20000 in
theorem gL_law_L_exit : GoodIn wsL_law (va_wsS RL 151 yL_exit wsL_exit) := goodIn_app (goodIn_of _ (by decide +kernel)) ggL_law_L_exit
set_option maxRecDepth 20000 in
theorem ggL_law_X9_exit : GoodIn wsL_law wsX9_exit := goodIn_r _ [609, 128, 127, 594, 595, 596, 5, 597, 151, 123, 150, 225, 226, 227, 228, 108, 192, 193, 194, 505, 506, 507, 508, 124, 125, 109, 509, 510, 511, 512, 110, 495, 373, 374, 375, 496, 377, 378, 513, 514, 515, 516, 517, 518, 519, 520, 521, 522, 433, 434, 523, 436, 437, 524, 525, 526, 527, 807, 808, 809, 810, 811, 812, 813, 814, 815, 816, 817, 818, 819, 820, 821, 822, 823, 824, 825, 826, 827, 828, 829, 830, 831, 832, 833, 834, 835, 836, 837] (by decide +kernel) (by decide +kernel)
set_option maxRecDepth 20000 in
theorem gL_law_X9_exit : GoodIn wsL_law (wsV RL 153 RX9 yX9_exit wsX9_exit) := goodIn_app (goodIn_of _ (by decide +kernel)) ggL_law_X9_exit
set_option maxRecDepth 20000 in
theorem ggL_law_L_isDead : GoodIn wsL_law wsL_isDead := goodIn_ca (goodIn_ca (goodIn_r _ [612, 138, 163, 613, 614, 615, 2, 616, 175, 176, 17, 207, 251, 25, 566, 617, 568, 569, 570, 571, 572, 143, 144, 30, 208, 209, 210, 211, 145, 802, 803, 804, 805, 806, 838, 839, 840, 859, 860, 861, 862, 863, 864, 865, 866, 867, 868, 845, 846, 847, 848, 849, 869, 870, 871, 872, 856, 857, 858] (by decide +kernel) (by decide +kernel)) (goodIn_sub (fun _ h => List.mem_append_left _ (List.mem_append_left _ (List.mem_append_right _ h))) (by decide +kernel))) (goodIn_sub (fun _ h => List.mem_append_left _ (List.mem_append_left _ (List.mem_append_left _ (List.mem_append_right _ h)))) (by decide +kernel))
set_option maxRecDepth 20000 in
theorem gL_law_L_isDead : GoodIn wsL_law (va_wsS RL 154 yL_isDead wsL_isDead) := goodIn_app (goodIn_of _ (by decide +kernel)) ggL_law_L_isDead
set_option maxRecDepth 20000 in
theorem ggL_law_X9_isDead : GoodIn wsL_law wsX9_isDead := goodIn_r _ [621, 151, 111, 150, 225, 226, 227, 5, 228, 108, 501, 502, 503, 504, 123, 114, 115, 116, 127, 128, 505, 506, 507, 508, 124, 125, 109, 509, 510, 511, 512, 110, 495, 373, 374, 375, 496, 377, 378, 513, 514, 515, 516, 517, 518, 519, 520, 521, 522, 433, 434, 523, 436, 437, 524, 525, 526, 527, 528, 529, 530, 531, 532, 533, 534, 807, 808, 809, 810, 811, 812, 813, 814, 815, 816, 817, 818, 819, 820, 821, 822, 823, 824, 825, 826, 827, 828, 829, 830, 831, 832, 833, 834, 835, 836, 837] (by decide +kernel) (by decide +kernel)
set_option maxRecDepth 20000 in
theorem gL_law_X9_isDead : GoodIn wsL_law (wsV RL 156 RX9 yX9_isDead wsX9_isDead) := goodIn_app (goodIn_of _ (by decide +kernel)) ggL_law_X9_isDead
set_option maxRecDepth 20000 in
theorem ggL_law_L_deadEdges : GoodIn wsL_law wsL_deadEdges := goodIn_ca (goodIn_r _ [624, 138, 625, 626, 627, 2, 628, 17, 145, 25, 566, 207, 251, 569, 570, 571, 572, 143, 144, 30, 629, 630, 631, 84, 632, 90, 344, 92, 802, 803, 804, 805, 806, 838, 839, 840, 845, 846, 847, 848, 849, 859, 860, 861, 862, 863, 864, 865, 866, 867, 868, 869, 870, 871, 872, 856, 857, 858] (by decide +kernel) (by decide +kernel)) (goodIn_sub (fun _ h => List.mem_append_left _ (List.mem_append_left _ (List.mem_append_left _ (List.mem_append_right _ h)))) (by decide +kernel))
set_option maxRecDepth 20000 in
theorem gL_law_L_deadEdges : GoodIn wsL_law (va_wsS RL 157 yL_deadEdges wsL_deadEdges) := goodIn_app (goodIn_of _ (by decide +kernel)) ggL_law_L_deadEdges
set_option maxRecDepth 20000 in
theorem ggL_law_X9_deadEdges : GoodIn wsL_law wsX9_deadEdges := goodIn_r _ [636, 151, 150, 108, 111, 123, 501, 502, 503, 5, 504, 114, 115, 116, 127, 128, 505, 506, 507, 508, 124, 125, 109, 509, 510, 511, 512, 110, 495, 373, 374, 375, 496, 377, 378, 513, 514, 515, 516, 517, 518, 519, 520, 521, 522, 433, 434, 523, 436, 437, 524, 525, 526, 527, 528, 529, 530, 531, 532, 533, 534, 807, 808, 809, 810, 811, 812, 813, 814, 815, 816, 817, 818, 819, 820, 821, 822, 823, 824, 825, 826, 827, 828, 829, 830, 831, 832, 833, 834, 835, 836, 837] (by decide +kernel) (by decide +kernel)
set_option maxRecDepth 20000 in
theorem gL_law_X9_deadEdges : GoodIn wsL_law (wsV RL 159 RX9 yX9_deadEdges wsX9_deadEdges) := goodIn_app (goodIn_of _ (by decide +kernel)) ggL_law_X9_deadEdges
set_option maxRecDepth 20000 in
theorem ggL_law_L_constants : GoodIn wsL_law wsL_constants := goodIn_ca (goodIn_ca (goodIn_r _ [639, 138, 163, 640, 641, 642, 2, 643, 25, 566, 605, 569, 570, 571, 572, 143, 144, 30, 208, 209, 210, 211, 175, 176, 17, 145, 644, 645, 646, 39, 647, 48, 462, 463, 464, 465, 50, 51, 802, 803, 804, 805, 806, 845, 846, 847, 848, 849, 869, 870, 871, 872, 838, 839, 840, 856, 857, 858] (by decide +kernel) (by decide +kernel)) (goodIn_sub (fun _ h => List.mem_append_left _ (List.mem_append_left _ (List.mem_append_left _ (List.mem_append_right _ h)))) (by decide +kernel))) (goodIn_sub (fun _ h => List.mem_append_left _ (List.mem_append_left _ (List.mem_append_right _ h))) (by decide +kernel))
set_option maxRecDepth 20000 in
theorem gL_law_L_constants : GoodIn wsL_law (va_wsS RL 160 yL_constants wsL_constants) := goodIn_app (goodIn_of _ (by decide +kernel)) ggL_law_L_constants
set_option maxRecDepth 20000 in
theorem ggL_law_X9_constants : GoodIn wsL_law wsX9_constants := goodIn_r _ [651, 151, 150, 123, 127, 128, 225, 226, 227, 5, 228, 108, 505, 506, 507, 508, 124, 125, 109, 509, 510, 511, 512, 110, 495, 373, 374, 375, 496, 377, 378, 513, 514, 515, 516, 517, 518, 519, 520, 521, 522, 433, 434, 523, 436, 437, 524, 525, 526, 527, 807, 808, 809, 810, 811, 812, 813, 814, 815, 816, 817, 818, 819, 820, 821, 822, 823, 824, 825, 826, 827, 828, 829, 830, 831, 832, 833, 834, 835, 836, 837] (by decide +kernel) (by decide +kernel)
set_option maxRecDepth 20000 in
theorem gL_law_X9_constants : GoodIn wsL_law (wsV RL 162 RX9 yX9_constants wsX9_constants) := goodIn_app (goodIn_of _ (by decide +kernel)) ggL_law_X9_constants
set_option maxRecDepth 20000 in
theorem ggL_law_L_visits : GoodIn wsL_law wsL_visits := goodIn_ca (goodIn_ca (goodIn_r _ [654, 138, 163, 655, 656, 657, 2, 658, 25, 566, 659, 569, 570, 571, 572, 143, 144, 30, 208, 209, 210, 211, 175, 176, 17, 145, 802, 803, 804, 805, 806, 845, 846, 847, 848, 849, 869, 870, 871, 872, 838, 839, 840] (by decide +kernel) (by decide +kernel)) (goodIn_sub (fun _ h => List.mem_append_left _ (List.mem_append_left _ (List.mem_append_left _ (List.mem_append_right _ h)))) (by decide +kernel))) (goodIn_sub (fun _ h => List.mem_append_left _ (List.mem_append_left _ (List.mem_append_right _ h))) (by decide +kernel))
set_option maxRecDepth 20000 in
theorem gL_law_L_visits : GoodIn wsL_law (va_wsS RL 163 yL_visits wsL_visits) := goodIn_app (goodIn_of _ (by decide +kernel)) ggL_law_L_visits
set_option maxRecDepth 20000 in
theorem ggL_law_X9_visits : GoodIn wsL_law wsX9_visits := goodIn_r _ [663, 151, 150, 126, 225, 226, 227, 5, 228, 108, 807, 808, 809, 810, 811, 812, 813, 814, 815, 816, 817, 818, 819, 820, 821, 822, 823, 824, 825, 826, 827, 828, 829, 830, 831, 832, 833, 834, 835, 836, 837] (by decide +kernel) (by decide +kernel)
set_option maxRecDepth 20000 in
theorem gL_law_X9_visits : GoodIn wsL_law (wsV RL 165 RX9 yX9_visits wsX9_visits) := goodIn_app (goodIn_of _ (by decide +kernel)) ggL_law_X9_visits
set_option maxRecDepth 20000 in
theorem ggL_law_L_run : GoodIn wsL_law wsL_run := goodIn_ca (goodIn_r _ [666, 164, 667, 668, 669, 2, 670, 180, 181, 29, 671, 672, 673, 674, 28, 675, 102, 98, 103, 676, 677, 678, 101, 679, 680, 681, 682, 683, 684, 685, 686, 687, 688, 689, 690, 691, 692, 693, 694, 99, 100, 695, 384, 385, 386, 696, 697, 698, 699, 700, 701, 702, 703, 704, 705, 706, 707, 708, 709, 425, 426, 427, 428, 373, 374, 375, 429, 377, 378, 430, 431, 432, 433, 434, 435, 436, 437, 710, 711, 712, 713, 714, 715, 716, 717, 718, 447, 448, 802, 803, 804, 805, 806, 850, 851, 852, 853, 854, 855, 838, 839, 840, 856, 857, 858, 859, 860, 861, 862, 863, 864, 865, 866, 867, 868] (by decide +kernel) (by decide +kernel)) (goodIn_sub (fun _ h => List.mem_append_left _ (List.mem_append_right _ h)) (by decide +kernel))
set_option maxRecDepth 20000 in
theorem gL_law_L_run : GoodIn wsL_law (va_wsS RL 168 yL_run wsL_run) := goodIn_app (goodIn_of _ (by decide +kernel)) ggL_law_L_run
set_option maxRecDepth 20000 in
theorem ggL_law_X9_run : GoodIn wsL_law wsX9_run := goodIn_r _ [722, 150, 723, 133, 117, 118, 724, 131, 132, 109, 110, 111, 112, 113, 152, 153, 154, 5, 155, 725, 726, 727, 728, 729, 730, 731, 732, 733, 734, 495, 373, 374, 375, 496, 377, 378, 517, 518, 519, 520, 521, 522, 433, 434, 523, 436, 437, 735, 736, 737, 738, 114, 115, 116, 807, 808, 809, 810, 811, 812, 813, 814, 815, 816, 817, 818, 819, 820, 821, 822, 823, 824, 825, 826, 827, 828, 829, 830, 831, 832, 833, 834, 835, 836, 837] (by decide +kernel) (by decide +kernel)
set_option maxRecDepth 20000 in
theorem gL_law_X9_run : GoodIn wsL_law (wsV RL 171 RX9 yX9_run wsX9_run) := goodIn_app (goodIn_of _ (by decide +kernel)) ggL_law_X9_run
set_option maxRecDepth 20000 in
theorem ggL_law_L_enteredBlock : GoodIn wsL_law wsL_enteredBlock := goodIn_ca (goodIn_r _ [741, 163, 742, 743, 744, 2, 745, 29, 746, 747, 748, 749, 750, 175, 176, 671, 802, 803, 804, 805, 806, 850, 851, 852, 853, 854, 855] (by decide +kernel) (by decide +kernel)) (goodIn_sub (fun _ h => List.mem_append_left _ (List.mem_append_left _ (List.mem_append_right _ h))) (by decide +kernel))
set_option maxRecDepth 20000 in
theorem gL_law_L_enteredBlock : GoodIn wsL_law (va_wsS RL 172 yL_enteredBlock wsL_enteredBlock) := goodIn_app (goodIn_of _ (by decide +kernel)) ggL_law_L_enteredBlock
set_option maxRecDepth 20000 in
theorem ggL_law_X9_enteredBlock : GoodIn wsL_law wsX9_enteredBlock := goodIn_r _ [754, 150, 724, 131, 152, 153, 154, 5, 155, 807, 808, 809, 810, 811, 812, 813, 814, 815, 816, 817, 818, 819, 820, 821, 822, 823, 824, 825, 826, 827, 828, 829, 830, 831, 832, 833, 834, 835, 836, 837] (by decide +kernel) (by decide +kernel)
set_option maxRecDepth 20000 in
theorem gL_law_X9_enteredBlock : GoodIn wsL_law (wsV RL 174 RX9 yX9_enteredBlock wsX9_enteredBlock) := goodIn_app (goodIn_of _ (by decide +kernel)) ggL_law_X9_enteredBlock
set_option maxRecDepth 20000 in
theorem ggL_law_L_enteredWith : GoodIn wsL_law wsL_enteredWith := goodIn_ca (goodIn_r _ [757, 163, 758, 759, 760, 2, 761, 29, 762, 747, 748, 749, 750, 175, 176, 671, 172, 173, 174, 802, 803, 804, 805, 806, 850, 851, 852, 853, 854, 855] (by decide +kernel) (by decide +kernel)) (goodIn_sub (fun _ h => List.mem_append_left _ (List.mem_append_left _ (List.mem_append_right _ h))) (by decide +kernel))
set_option maxRecDepth 20000 in
theorem gL_law_L_enteredWith : GoodIn wsL_law (va_wsS RL 175 yL_enteredWith wsL_enteredWith) := goodIn_app (goodIn_of _ (by decide +kernel)) ggL_law_L_enteredWith
set_option maxRecDepth 20000 in
theorem ggL_law_X9_enteredWith : GoodIn wsL_law wsX9_enteredWith := goodIn_r _ [766, 150, 724, 132, 192, 193, 5, 194, 152, 153, 154, 155, 807, 808, 809, 810, 811, 812, 813, 814, 815, 816, 817, 818, 819, 820, 821, 822, 823, 824, 825, 826, 827, 828, 829, 830, 831, 832, 833, 834, 835, 836, 837] (by decide +kernel) (by decide +kernel)
set_option maxRecDepth 20000 in
theorem gL_law_X9_enteredWith : GoodIn wsL_law (wsV RL 177 RX9 yX9_enteredWith wsX9_enteredWith) := goodIn_app (goodIn_of _ (by decide +kernel)) ggL_law_X9_enteredWith
set_option maxRecDepth 20000 in
theorem ggL_law_L_result : GoodIn wsL_law wsL_result := goodIn_ca (goodIn_r _ [769, 163, 770, 771, 772, 2, 773, 29, 774, 172, 173, 174, 175, 176, 802, 803, 804, 805, 806, 850, 851, 852, 853, 854, 855] (by decide +kernel) (by decide +kernel)) (goodIn_sub (fun _ h => List.mem_append_left _ (List.mem_append_left _ (List.mem_append_right _ h))) (by decide +kernel))
set_option maxRecDepth 20000 in
theorem gL_law_L_result : GoodIn wsL_law (va_wsS RL 178 yL_result wsL_result) := goodIn_app (goodIn_of _ (by decide +kernel)) ggL_law_L_result
set_option maxRecDepth 20000 in
theorem ggL_law_X9_result : GoodIn wsL_law wsX9_result := goodIn_r _ [778, 150, 133, 192, 193, 5, 194, 152, 153, 154, 155, 807, 808, 809, 810, 811, 812, 813, 814, 815, 816, 817, 818, 819, 820, 821, 822, 823, 824, 825, 826, 827, 828, 829, 830, 831, 832, 833, 834, 835, 836, 837] (by decide +kernel) (by decide +kernel)
set_option maxRecDepth 20000 in
theorem gL_law_X9_result : GoodIn wsL_law (wsV RL 180 RX9 yX9_result wsX9_result) := goodIn_app (goodIn_of _ (by decide +kernel)) ggL_law_X9_result
set_option maxRecDepth 20000 in
theorem ggL_law_X8_digest : GoodIn wsL_law wsX8_digest := goodIn_r _ [782, 783, 784, 21, 309, 310, 322, 30, 29, 774, 785, 786, 787, 2, 788, 17, 145, 207, 216, 251, 789, 790, 791, 792, 25, 566, 659, 567, 568, 793, 794, 795, 170, 171, 802, 803, 804, 805, 806, 841, 842, 843, 844, 850, 851, 852, 853, 854, 855, 838, 839, 840, 859, 860, 861, 862, 863, 864, 865, 866, 867, 868, 845, 846, 847, 848, 849, 869, 870, 871, 872, 856, 857, 858] (by decide +kernel) (by decide +kernel)
set_option maxRecDepth 20000 in
theorem gL_law_X8_digest : GoodIn wsL_law (wsV RL 181 RX8 yX8_digest wsX8_digest) := goodIn_app (goodIn_of _ (by decide +kernel)) ggL_law_X8_digest
set_option maxRecDepth 20000 in
theorem ggL_law_X9_digest : GoodIn wsL_law wsX9_digest := goodIn_r _ [799, 150, 800, 108, 801, 109, 111, 119, 120, 331, 151, 126, 123, 124, 125, 133, 807, 808, 809, 810, 811, 812, 813, 814, 815, 816, 817, 818, 819, 820, 821, 822, 823, 824, 825, 826, 827, 828, 829, 830, 831, 832, 833, 834, 835, 836, 837] (by decide +kernel) (by decide +kernel)
set_option maxRecDepth 20000 in
theorem gL_law_X9_digest : GoodIn wsL_law (wsV RL 185 RX9 yX9_digest wsX9_digest) := goodIn_app (goodIn_of _ (by decide +kernel)) ggL_law_X9_digest
