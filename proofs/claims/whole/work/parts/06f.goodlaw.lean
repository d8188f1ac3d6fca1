set_option maxRecDepth 20000 in
theorem ggL_law_X5_init : GoodIn wsL_law wsX5_init := goodIn_r _ [8, 9, 10, 11, 12, 13, 14, 15, 16, 17, 18, 19, 20, 21, 22, 23, 24, 25, 26, 27, 28, 29, 30, 31, 32, 33, 34, 35, 36, 37, 38, 39, 40, 41, 42, 43, 44, 45, 46, 47, 48, 49, 50, 51, 52, 53, 54, 55, 56, 57, 58, 59, 60, 61, 62, 63, 64, 65, 66, 67, 68, 69, 70, 71, 72, 73, 74, 75, 76, 77, 78, 79, 80, 81, 82, 83, 84, 85, 86, 87, 88, 89, 90, 91, 92, 776, 777, 778, 779, 780, 781, 782, 783, 784, 785, 786, 787, 788, 815, 816, 817, 818, 819, 820, 821, 822, 823, 824, 825, 826, 827, 828, 829, 830, 831, 832, 833, 834, 835, 836, 837, 838, 839, 840, 841, 842] rfl (by decide +kernel)
set_option maxRecDepth 20000 in
theorem gL_law_X5_init : GoodIn wsL_law (wsX5_init) := ggL_law_X5_init
set_option maxRecDepth 20000 in
theorem ggL_law_X6_init : GoodIn wsL_law wsX6_init := goodIn_r _ [95, 96, 10, 11, 30, 97, 98, 99, 100, 101, 102, 103, 104, 105, 106, 107, 108, 109, 110, 111, 112, 113, 114, 115, 116, 5, 117, 789, 790, 791, 792, 793, 794, 795, 796, 797, 798, 799, 800, 801, 802, 803, 804, 805, 806, 807, 808, 809, 810, 811, 812, 813, 814] rfl (by decide +kernel)
set_option maxRecDepth 20000 in
theorem gL_law_X6_init : GoodIn wsL_law (wsX6_init) := ggL_law_X6_init
set_option maxRecDepth 20000 in
theorem ggL_law_X5_stone : GoodIn wsL_law wsX5_stone := goodIn_r _ [121, 14, 13, 12, 122, 123, 124, 125, 2, 126, 127, 128, 129, 130, 10, 11, 131, 132, 133, 134, 135, 776, 777, 778, 779, 780, 781, 782, 783, 784, 785, 786, 787, 788, 843, 844, 845, 846, 847] rfl (by decide +kernel)
set_option maxRecDepth 20000 in
theorem gL_law_X5_stone : GoodIn wsL_law (wsV RL 13 RX5 yX5_stone wsX5_stone) := goodIn_app (goodIn_of _ (by decide +kernel)) ggL_law_X5_stone
set_option maxRecDepth 20000 in
theorem ggL_law_X6_stone : GoodIn wsL_law wsX6_stone := goodIn_r _ [139, 140, 141, 142, 97, 98, 99, 143, 144, 5, 145, 789, 790, 791, 792, 793, 794, 795, 796, 797, 798, 799, 800, 801, 802, 803, 804, 805, 806, 807, 808, 809, 810, 811, 812, 813, 814] rfl (by decide +kernel)
set_option maxRecDepth 20000 in
theorem gL_law_X6_stone : GoodIn wsL_law (wsV RL 17 RX6 yX6_stone wsX6_stone) := goodIn_app (goodIn_of _ (by decide +kernel)) ggL_law_X6_stone
set_option maxRecDepth 20000 in
theorem ggL_law_X5_ofStone : GoodIn wsL_law wsX5_ofStone := goodIn_r _ [149, 150, 151, 152, 153, 154, 155, 156, 157, 2, 158, 14, 13, 843, 844, 845, 846, 847, 776, 777, 778, 779, 780, 781, 782, 783, 784, 785, 786, 787, 788] rfl (by decide +kernel)
set_option maxRecDepth 20000 in
theorem gL_law_X5_ofStone : GoodIn wsL_law (wsV RL 18 RX5 yX5_ofStone wsX5_ofStone) := goodIn_app (goodIn_of _ (by decide +kernel)) ggL_law_X5_ofStone
set_option maxRecDepth 20000 in
theorem ggL_law_X6_ofStone : GoodIn wsL_law wsX6_ofStone := goodIn_r _ [162, 97, 98, 99, 100, 101, 163, 164, 165, 5, 166, 142, 143, 144, 145, 789, 790, 791, 792, 793, 794, 795, 796, 797, 798, 799, 800, 801, 802, 803, 804, 805, 806, 807, 808, 809, 810, 811, 812, 813, 814] rfl (by decide +kernel)
set_option maxRecDepth 20000 in
theorem gL_law_X6_ofStone : GoodIn wsL_law (wsV RL 22 RX6 yX6_ofStone wsX6_ofStone) := goodIn_app (goodIn_of _ (by decide +kernel)) ggL_law_X6_ofStone
set_option maxRecDepth 20000 in
theorem ggL_law_X5_law : GoodIn wsL_law wsX5_law := goodIn_r _ [170, 22, 18, 171, 172, 173, 174, 2, 175, 36, 176, 177, 178, 179, 34, 180, 181, 182, 124, 125, 126, 183, 184, 185, 38, 186, 90, 91, 187, 188, 189, 190, 191, 192, 193, 194, 92, 195, 196, 197, 21, 198, 62, 63, 64, 65, 66, 60, 199, 200, 201, 202, 61, 203, 204, 205, 206, 207, 208, 209, 210, 211, 212, 213, 214, 215, 216, 217, 218, 219, 220, 221, 222, 89, 223, 224, 225, 226, 227, 228, 229, 230, 231, 232, 233, 234, 235, 236, 237, 238, 78, 79, 80, 17, 81, 42, 43, 44, 45, 46, 47, 82, 83, 84, 85, 776, 777, 778, 779, 780, 781, 782, 783, 784, 785, 786, 787, 788, 824, 825, 826, 827, 828, 829, 830, 839, 840, 841, 842, 815, 816, 817, 818, 819, 820, 821, 822, 823] rfl (by decide +kernel)
set_option maxRecDepth 20000 in
theorem gL_law_X5_law : GoodIn wsL_law (wsV RL 23 RX5 yX5_law wsX5_law) := goodIn_app (goodIn_of _ (by decide +kernel)) ggL_law_X5_law
set_option maxRecDepth 20000 in
theorem ggL_law_X6_law : GoodIn wsL_law wsX6_law := goodIn_r _ [242, 102, 103, 243, 244, 245, 246, 5, 247, 248, 108, 109, 249, 250, 251, 252, 143, 144, 145, 253, 254, 255, 256, 257, 258, 259, 260, 261, 262, 263, 264, 265, 266, 267, 268, 110, 269, 270, 271, 272, 273, 274, 275, 276, 115, 116, 117, 789, 790, 791, 792, 793, 794, 795, 796, 797, 798, 799, 800, 801, 802, 803, 804, 805, 806, 807, 808, 809, 810, 811, 812, 813, 814] rfl (by decide +kernel)
set_option maxRecDepth 20000 in
theorem gL_law_X6_law : GoodIn wsL_law (wsV RL 27 RX6 yX6_law wsX6_law) := goodIn_app (goodIn_of _ (by decide +kernel)) ggL_law_X6_law
set_option maxRecDepth 20000 in
theorem ggL_law_X5_rule : GoodIn wsL_law wsX5_rule := goodIn_r _ [280, 18, 281, 282, 283, 284, 285, 286, 776, 777, 778, 779, 780, 781, 782, 783, 784, 785, 786, 787, 788, 815, 816, 817, 818, 819, 820, 821, 822, 823] rfl (by decide +kernel)
set_option maxRecDepth 20000 in
theorem gL_law_X5_rule : GoodIn wsL_law (wsV RL 28 RX5 yX5_rule wsX5_rule) := goodIn_app (goodIn_of _ (by decide +kernel)) ggL_law_X5_rule
set_option maxRecDepth 20000 in
theorem ggL_law_X6_rule : GoodIn wsL_law wsX6_rule := goodIn_r _ [290, 291, 102, 143, 144, 5, 145, 789, 790, 791, 792, 793, 794, 795, 796, 797, 798, 799, 800, 801, 802, 803, 804, 805, 806, 807, 808, 809, 810, 811, 812, 813, 814] rfl (by decide +kernel)
set_option maxRecDepth 20000 in
theorem gL_law_X6_rule : GoodIn wsL_law (wsV RL 32 RX6 yX6_rule wsX6_rule) := goodIn_app (goodIn_of _ (by decide +kernel)) ggL_law_X6_rule
set_option maxRecDepth 20000 in
theorem ggL_law_X5_waves : GoodIn wsL_law wsX5_waves := goodIn_r _ [295, 18, 296, 297, 298, 299, 300, 2, 301, 172, 173, 174, 175, 36, 176, 177, 178, 179, 34, 180, 181, 182, 124, 125, 126, 183, 184, 185, 38, 186, 90, 91, 187, 188, 189, 190, 191, 192, 193, 194, 92, 302, 220, 221, 222, 89, 223, 224, 225, 226, 303, 304, 305, 306, 776, 777, 778, 779, 780, 781, 782, 783, 784, 785, 786, 787, 788, 815, 816, 817, 818, 819, 820, 821, 822, 823, 839, 840, 841, 842] rfl (by decide +kernel)
set_option maxRecDepth 20000 in
theorem gL_law_X5_waves : GoodIn wsL_law (wsV RL 33 RX5 yX5_waves wsX5_waves) := goodIn_app (goodIn_of _ (by decide +kernel)) ggL_law_X5_waves
set_option maxRecDepth 20000 in
theorem ggL_law_X6_waves : GoodIn wsL_law wsX6_waves := goodIn_r _ [310, 112, 104, 110, 244, 245, 246, 5, 247, 248, 108, 109, 249, 250, 251, 252, 143, 144, 145, 253, 254, 255, 256, 257, 258, 259, 260, 261, 262, 263, 264, 311, 312, 313, 314, 315, 789, 790, 791, 792, 793, 794, 795, 796, 797, 798, 799, 800, 801, 802, 803, 804, 805, 806, 807, 808, 809, 810, 811, 812, 813, 814] rfl (by decide +kernel)
set_option maxRecDepth 20000 in
theorem gL_law_X6_waves : GoodIn wsL_law (wsV RL 36 RX6 yX6_waves wsX6_waves) := goodIn_app (goodIn_of _ (by decide +kernel)) ggL_law_X6_waves
set_option maxRecDepth 20000 in
theorem ggL_law_X5_shift : GoodIn wsL_law wsX5_shift := goodIn_r _ [319, 18, 320, 124, 125, 2, 126, 776, 777, 778, 779, 780, 781, 782, 783, 784, 785, 786, 787, 788, 815, 816, 817, 818, 819, 820, 821, 822, 823] rfl (by decide +kernel)
set_option maxRecDepth 20000 in
theorem gL_law_X5_shift : GoodIn wsL_law (wsV RL 37 RX5 yX5_shift wsX5_shift) := goodIn_app (goodIn_of _ (by decide +kernel)) ggL_law_X5_shift
set_option maxRecDepth 20000 in
theorem ggL_law_X6_shift : GoodIn wsL_law wsX6_shift := goodIn_r _ [324, 325, 326, 143, 144, 5, 145, 789, 790, 791, 792, 793, 794, 795, 796, 797, 798, 799, 800, 801, 802, 803, 804, 805, 806, 807, 808, 809, 810, 811, 812, 813, 814] rfl (by decide +kernel)
set_option maxRecDepth 20000 in
theorem gL_law_X6_shift : GoodIn wsL_law (wsV RL 40 RX6 yX6_shift wsX6_shift) := goodIn_app (goodIn_of _ (by decide +kernel)) ggL_law_X6_shift
set_option maxRecDepth 20000 in
theorem ggL_law_X5_wave : GoodIn wsL_law wsX5_wave := goodIn_r _ [330, 331, 18, 320, 124, 125, 2, 126, 332, 333, 334, 17, 335, 49, 48, 776, 777, 778, 779, 780, 781, 782, 783, 784, 785, 786, 787, 788, 815, 816, 817, 818, 819, 820, 821, 822, 823] rfl (by decide +kernel)
set_option maxRecDepth 20000 in
theorem gL_law_X5_wave : GoodIn wsL_law (wsV RL 41 RX5 yX5_wave wsX5_wave) := goodIn_app (goodIn_of _ (by decide +kernel)) ggL_law_X5_wave
set_option maxRecDepth 20000 in
theorem ggL_law_X6_wave : GoodIn wsL_law wsX6_wave := goodIn_r _ [339, 340, 143, 144, 5, 145, 341, 342, 343, 344, 104, 326, 112, 789, 790, 791, 792, 793, 794, 795, 796, 797, 798, 799, 800, 801, 802, 803, 804, 805, 806, 807, 808, 809, 810, 811, 812, 813, 814] rfl (by decide +kernel)
set_option maxRecDepth 20000 in
theorem gL_law_X6_wave : GoodIn wsL_law (wsV RL 44 RX6 yX6_wave wsX6_wave) := goodIn_app (goodIn_of _ (by decide +kernel)) ggL_law_X6_wave
set_option maxRecDepth 20000 in
theorem ggL_law_X5_toss : GoodIn wsL_law wsX5_toss := goodIn_r _ [348, 26, 18, 320, 349, 155, 156, 157, 2, 158, 14, 13, 124, 125, 126, 350, 351, 352, 25, 353, 73, 74, 75, 76, 72, 77, 71, 354, 355, 356, 357, 358, 333, 334, 17, 335, 49, 48, 359, 360, 361, 362, 363, 364, 365, 366, 367, 368, 369, 370, 371, 372, 373, 374, 281, 151, 150, 375, 376, 377, 378, 70, 379, 380, 381, 382, 383, 384, 385, 386, 776, 777, 778, 779, 780, 781, 782, 783, 784, 785, 786, 787, 788, 815, 816, 817, 818, 819, 820, 821, 822, 823, 831, 832, 833, 834, 835, 836, 837, 838, 843, 844, 845, 846, 847] rfl (by decide +kernel)
set_option maxRecDepth 20000 in
theorem gL_law_X5_toss : GoodIn wsL_law (wsV RL 45 RX5 yX5_toss wsX5_toss) := goodIn_app (goodIn_of _ (by decide +kernel)) ggL_law_X5_toss
set_option maxRecDepth 20000 in
theorem ggL_law_X6_toss : GoodIn wsL_law wsX6_toss := goodIn_r _ [390, 391, 392, 106, 105, 163, 164, 165, 5, 166, 142, 143, 144, 145, 393, 394, 395, 396, 397, 398, 399, 140, 400, 401, 402, 403, 404, 405, 406, 407, 408, 409, 410, 102, 99, 341, 342, 343, 344, 104, 326, 112, 411, 412, 413, 414, 98, 97, 415, 416, 417, 789, 790, 791, 792, 793, 794, 795, 796, 797, 798, 799, 800, 801, 802, 803, 804, 805, 806, 807, 808, 809, 810, 811, 812, 813, 814] rfl (by decide +kernel)
set_option maxRecDepth 20000 in
theorem gL_law_X6_toss : GoodIn wsL_law (wsV RL 49 RX6 yX6_toss wsX6_toss) := goodIn_app (goodIn_of _ (by decide +kernel)) ggL_law_X6_toss
set_option maxRecDepth 20000 in
theorem ggL_law_X5_touch : GoodIn wsL_law wsX5_touch := goodIn_r _ [421, 26, 422, 423, 424, 2, 425, 349, 124, 125, 126, 426, 427, 428, 25, 429, 71, 70, 776, 777, 778, 779, 780, 781, 782, 783, 784, 785, 786, 787, 788, 831, 832, 833, 834, 835, 836, 837, 838] rfl (by decide +kernel)
set_option maxRecDepth 20000 in
theorem gL_law_X5_touch : GoodIn wsL_law (wsV RL 50 RX5 yX5_touch wsX5_touch) := goodIn_app (goodIn_of _ (by decide +kernel)) ggL_law_X5_touch
set_option maxRecDepth 20000 in
theorem ggL_law_X6_touch : GoodIn wsL_law wsX6_touch := goodIn_r _ [433, 434, 106, 435, 436, 437, 5, 438, 392, 143, 144, 145, 789, 790, 791, 792, 793, 794, 795, 796, 797, 798, 799, 800, 801, 802, 803, 804, 805, 806, 807, 808, 809, 810, 811, 812, 813, 814] rfl (by decide +kernel)
set_option maxRecDepth 20000 in
theorem gL_law_X6_touch : GoodIn wsL_law (wsV RL 53 RX6 yX6_touch wsX6_touch) := goodIn_app (goodIn_of _ (by decide +kernel)) ggL_law_X6_touch
set_option maxRecDepth 20000 in
theorem ggL_law_X5_judge : GoodIn wsL_law wsX5_judge := goodIn_r _ [442, 26, 349, 443, 444, 2, 445, 124, 125, 126, 446, 447, 448, 25, 449, 71, 450, 427, 428, 429, 70, 451, 452, 453, 454, 776, 777, 778, 779, 780, 781, 782, 783, 784, 785, 786, 787, 788, 831, 832, 833, 834, 835, 836, 837, 838] rfl (by decide +kernel)
set_option maxRecDepth 20000 in
theorem gL_law_X5_judge : GoodIn wsL_law (wsV RL 54 RX5 yX5_judge wsX5_judge) := goodIn_app (goodIn_of _ (by decide +kernel)) ggL_law_X5_judge
set_option maxRecDepth 20000 in
theorem ggL_law_X6_judge : GoodIn wsL_law wsX6_judge := goodIn_r _ [458, 392, 391, 105, 106, 459, 460, 5, 461, 462, 143, 144, 145, 463, 464, 465, 466, 789, 790, 791, 792, 793, 794, 795, 796, 797, 798, 799, 800, 801, 802, 803, 804, 805, 806, 807, 808, 809, 810, 811, 812, 813, 814] rfl (by decide +kernel)
set_option maxRecDepth 20000 in
theorem gL_law_X6_judge : GoodIn wsL_law (wsV RL 57 RX6 yX6_judge wsX6_judge) := goodIn_app (goodIn_of _ (by decide +kernel)) ggL_law_X6_judge
set_option maxRecDepth 20000 in
theorem ggL_law_X5_line : GoodIn wsL_law wsX5_line := goodIn_r _ [470, 18, 320, 155, 156, 157, 2, 158, 14, 13, 124, 125, 126, 332, 333, 334, 17, 335, 49, 48, 471, 373, 374, 281, 151, 150, 776, 777, 778, 779, 780, 781, 782, 783, 784, 785, 786, 787, 788, 815, 816, 817, 818, 819, 820, 821, 822, 823, 843, 844, 845, 846, 847] rfl (by decide +kernel)
set_option maxRecDepth 20000 in
theorem gL_law_X5_line : GoodIn wsL_law (wsV RL 58 RX5 yX5_line wsX5_line) := goodIn_app (goodIn_of _ (by decide +kernel)) ggL_law_X5_line
set_option maxRecDepth 20000 in
theorem ggL_law_X6_line : GoodIn wsL_law wsX6_line := goodIn_r _ [475, 163, 164, 165, 5, 166, 142, 143, 144, 145, 400, 401, 402, 403, 397, 398, 399, 140, 341, 342, 343, 344, 104, 326, 112, 411, 412, 413, 414, 98, 102, 97, 789, 790, 791, 792, 793, 794, 795, 796, 797, 798, 799, 800, 801, 802, 803, 804, 805, 806, 807, 808, 809, 810, 811, 812, 813, 814] rfl (by decide +kernel)
set_option maxRecDepth 20000 in
theorem gL_law_X6_line : GoodIn wsL_law (wsV RL 61 RX6 yX6_line wsX6_line) := goodIn_app (goodIn_of _ (by decide +kernel)) ggL_law_X6_line
set_option maxRecDepth 20000 in
theorem ggL_law_X5_best : GoodIn wsL_law wsX5_best := goodIn_r _ [479, 18, 320, 155, 156, 157, 2, 158, 14, 13, 443, 444, 445, 124, 125, 126, 480, 481, 482, 483, 484, 485, 486, 27, 487, 488, 489, 490, 28, 29, 350, 351, 352, 25, 353, 73, 74, 75, 76, 72, 77, 71, 354, 355, 356, 357, 358, 333, 334, 17, 335, 49, 48, 359, 360, 361, 362, 363, 364, 365, 366, 367, 368, 369, 370, 371, 372, 373, 374, 281, 151, 150, 375, 376, 377, 378, 70, 379, 380, 381, 382, 383, 384, 385, 386, 446, 447, 448, 449, 450, 427, 428, 429, 451, 452, 453, 454, 491, 492, 493, 776, 777, 778, 779, 780, 781, 782, 783, 784, 785, 786, 787, 788, 815, 816, 817, 818, 819, 820, 821, 822, 823, 831, 832, 833, 834, 835, 836, 837, 838, 843, 844, 845, 846, 847] rfl (by decide +kernel)
set_option maxRecDepth 20000 in
theorem gL_law_X5_best : GoodIn wsL_law (wsV RL 62 RX5 yX5_best wsX5_best) := goodIn_app (goodIn_of _ (by decide +kernel)) ggL_law_X5_best
set_option maxRecDepth 20000 in
theorem ggL_law_X6_best : GoodIn wsL_law wsX6_best := goodIn_r _ [497, 248, 113, 114, 163, 164, 165, 5, 166, 142, 143, 144, 145, 459, 460, 461, 462, 498, 499, 500, 315, 501, 393, 394, 395, 396, 400, 401, 402, 403, 407, 408, 409, 410, 391, 102, 105, 99, 341, 342, 343, 344, 104, 326, 112, 411, 412, 413, 414, 98, 97, 415, 416, 417, 463, 464, 465, 466, 789, 790, 791, 792, 793, 794, 795, 796, 797, 798, 799, 800, 801, 802, 803, 804, 805, 806, 807, 808, 809, 810, 811, 812, 813, 814] rfl (by decide +kernel)
set_option maxRecDepth 20000 in
theorem gL_law_X6_best : GoodIn wsL_law (wsV RL 66 RX6 yX6_best wsX6_best) := goodIn_app (goodIn_of _ (by decide +kernel)) ggL_law_X6_best
set_option maxRecDepth 20000 in
theorem ggL_law_X5_grid : GoodIn wsL_law wsX5_grid := goodIn_r _ [505, 28, 29, 124, 125, 2, 126, 776, 777, 778, 779, 780, 781, 782, 783, 784, 785, 786, 787, 788] rfl (by decide +kernel)
set_option maxRecDepth 20000 in
theorem gL_law_X5_grid : GoodIn wsL_law (wsV RL 67 RX5 yX5_grid wsX5_grid) := goodIn_app (goodIn_of _ (by decide +kernel)) ggL_law_X5_grid
set_option maxRecDepth 20000 in
theorem ggL_law_X6_grid : GoodIn wsL_law wsX6_grid := goodIn_r _ [509, 113, 114, 397, 398, 5, 399, 140, 143, 144, 145, 404, 405, 406, 789, 790, 791, 792, 793, 794, 795, 796, 797, 798, 799, 800, 801, 802, 803, 804, 805, 806, 807, 808, 809, 810, 811, 812, 813, 814] rfl (by decide +kernel)
set_option maxRecDepth 20000 in
theorem gL_law_X6_grid : GoodIn wsL_law (wsV RL 70 RX6 yX6_grid wsX6_grid) := goodIn_app (goodIn_of _ (by decide +kernel)) ggL_law_X6_grid
set_option maxRecDepth 20000 in
theorem ggL_law_X5_odds : GoodIn wsL_law wsX5_odds := goodIn_r _ [513, 514, 155, 156, 157, 2, 158, 14, 13, 443, 444, 445, 124, 125, 126, 480, 481, 482, 515, 516, 517, 518, 18, 320, 483, 484, 485, 486, 27, 487, 488, 489, 490, 28, 29, 350, 351, 352, 25, 353, 73, 74, 75, 76, 72, 77, 71, 354, 355, 356, 357, 358, 333, 334, 17, 335, 49, 48, 359, 360, 361, 362, 363, 364, 365, 366, 367, 368, 369, 370, 371, 372, 373, 374, 281, 151, 150, 375, 376, 377, 378, 70, 379, 380, 381, 382, 383, 384, 385, 386, 446, 447, 448, 449, 450, 427, 428, 429, 451, 452, 453, 454, 519, 520, 521, 522, 523, 524, 525, 526, 527, 776, 777, 778, 779, 780, 781, 782, 783, 784, 785, 786, 787, 788, 815, 816, 817, 818, 819, 820, 821, 822, 823, 831, 832, 833, 834, 835, 836, 837, 838, 843, 844, 845, 846, 847] rfl (by decide +kernel)
set_option maxRecDepth 20000 in
theorem gL_law_X5_odds : GoodIn wsL_law (wsV RL 71 RX5 yX5_odds wsX5_odds) := goodIn_app (goodIn_of _ (by decide +kernel)) ggL_law_X5_odds
set_option maxRecDepth 20000 in
theorem ggL_law_X6_odds : GoodIn wsL_law wsX6_odds := goodIn_r _ [531, 163, 164, 165, 5, 166, 142, 143, 144, 145, 459, 460, 461, 462, 498, 499, 500, 315, 501, 393, 394, 395, 396, 400, 401, 402, 403, 532, 533, 534, 535, 536, 537, 538, 539, 113, 114, 407, 408, 409, 410, 391, 102, 105, 99, 341, 342, 343, 344, 104, 326, 112, 411, 412, 413, 414, 98, 97, 415, 416, 417, 463, 464, 465, 466, 540, 541, 542, 789, 790, 791, 792, 793, 794, 795, 796, 797, 798, 799, 800, 801, 802, 803, 804, 805, 806, 807, 808, 809, 810, 811, 812, 813, 814] rfl (by decide +kernel)
set_option maxRecDepth 20000 in
theorem gL_law_X6_odds : GoodIn wsL_law (wsV RL 75 RX6 yX6_odds wsX6_odds) := goodIn_app (goodIn_of _ (by decide +kernel)) ggL_law_X6_odds
set_option maxRecDepth 20000 in
theorem ggL_law_X5_narrow : GoodIn wsL_law wsX5_narrow := goodIn_r _ [546, 155, 156, 157, 2, 158, 14, 13, 443, 444, 445, 124, 125, 126, 480, 481, 482, 515, 516, 517, 518, 18, 320, 483, 484, 485, 486, 27, 487, 488, 489, 490, 28, 29, 350, 351, 352, 25, 353, 73, 74, 75, 76, 72, 77, 71, 354, 355, 356, 357, 358, 333, 334, 17, 335, 49, 48, 359, 360, 361, 362, 363, 364, 365, 366, 367, 368, 369, 370, 371, 372, 373, 374, 281, 151, 150, 375, 376, 377, 378, 70, 379, 380, 381, 382, 383, 384, 385, 386, 446, 447, 448, 449, 450, 427, 428, 429, 451, 452, 453, 454, 519, 520, 521, 776, 777, 778, 779, 780, 781, 782, 783, 784, 785, 786, 787, 788, 815, 816, 817, 818, 819, 820, 821, 822, 823, 831, 832, 833, 834, 835, 836, 837, 838, 843, 844, 845, 846, 847] rfl (by decide +kernel)
set_option maxRecDepth 20000 in
theorem gL_law_X5_narrow : GoodIn wsL_law (wsV RL 76 RX5 yX5_narrow wsX5_narrow) := goodIn_app (goodIn_of _ (by decide +kernel)) ggL_law_X5_narrow
set_option maxRecDepth 20000 in
theorem ggL_law_X6_narrow : GoodIn wsL_law wsX6_narrow := goodIn_r _ [550, 163, 164, 165, 5, 166, 142, 143, 144, 145, 459, 460, 461, 462, 498, 499, 500, 315, 501, 393, 394, 395, 396, 400, 401, 402, 403, 536, 537, 538, 539, 113, 114, 407, 408, 409, 410, 391, 102, 105, 99, 341, 342, 343, 344, 104, 326, 112, 411, 412, 413, 414, 98, 97, 415, 416, 417, 463, 464, 465, 466, 789, 790, 791, 792, 793, 794, 795, 796, 797, 798, 799, 800, 801, 802, 803, 804, 805, 806, 807, 808, 809, 810, 811, 812, 813, 814] rfl (by decide +kernel)
set_option maxRecDepth 20000 in
theorem gL_law_X6_narrow : GoodIn wsL_law (wsV RL 79 RX6 yX6_narrow wsX6_narrow) := goodIn_app (goodIn_of _ (by decide +kernel)) ggL_law_X6_narrow
set_option maxRecDepth 20000 in
theorem ggL_law_X5_rings : GoodIn wsL_law wsX5_rings := goodIn_r _ [554, 555, 31, 32, 298, 299, 300, 2, 301, 172, 173, 174, 175, 36, 176, 177, 178, 179, 34, 180, 181, 182, 124, 125, 126, 183, 184, 185, 38, 186, 90, 91, 187, 188, 189, 190, 191, 192, 193, 194, 92, 302, 220, 221, 222, 89, 223, 224, 225, 226, 303, 304, 305, 306, 776, 777, 778, 779, 780, 781, 782, 783, 784, 785, 786, 787, 788, 839, 840, 841, 842] rfl (by decide +kernel)
set_option maxRecDepth 20000 in
theorem gL_law_X5_rings : GoodIn wsL_law (wsV RL 80 RX5 yX5_rings wsX5_rings) := goodIn_app (goodIn_of _ (by decide +kernel)) ggL_law_X5_rings
set_option maxRecDepth 20000 in
theorem ggL_law_X6_rings : GoodIn wsL_law wsX6_rings := goodIn_r _ [559, 560, 561, 107, 110, 244, 245, 246, 5, 247, 248, 108, 109, 249, 250, 251, 252, 143, 144, 145, 253, 254, 255, 256, 257, 258, 259, 260, 261, 262, 263, 264, 311, 312, 313, 314, 315, 789, 790, 791, 792, 793, 794, 795, 796, 797, 798, 799, 800, 801, 802, 803, 804, 805, 806, 807, 808, 809, 810, 811, 812, 813, 814] rfl (by decide +kernel)
set_option maxRecDepth 20000 in
theorem gL_law_X6_rings : GoodIn wsL_law (wsV RL 83 RX6 yX6_rings wsX6_rings) := goodIn_app (goodIn_of _ (by decide +kernel)) ggL_law_X6_rings
