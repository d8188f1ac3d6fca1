set_option maxRecDepth 20000 in
theorem ggL_law_X5_read : GoodIn wsL_law wsX5_read := goodIn_r _ [565, 32, 18, 320, 27, 31, 155, 156, 157, 2, 158, 14, 13, 480, 481, 482, 124, 125, 126, 487, 488, 489, 490, 28, 29, 350, 351, 352, 25, 353, 73, 74, 75, 76, 72, 77, 71, 354, 355, 356, 357, 358, 333, 334, 17, 335, 49, 48, 359, 360, 361, 362, 363, 364, 365, 366, 367, 368, 369, 370, 371, 372, 373, 374, 281, 151, 150, 375, 376, 377, 378, 70, 379, 380, 381, 382, 383, 384, 385, 386, 566, 567, 568, 569, 450, 427, 428, 429, 491, 492, 493, 776, 777, 778, 779, 780, 781, 782, 783, 784, 785, 786, 787, 788, 815, 816, 817, 818, 819, 820, 821, 822, 823, 831, 832, 833, 834, 835, 836, 837, 838, 843, 844, 845, 846, 847] rfl (by decide +kernel)
set_option maxRecDepth 20000 in
theorem gL_law_X5_read : GoodIn wsL_law (wsV RL 84 RX5 yX5_read wsX5_read) := goodIn_app (goodIn_of _ (by decide +kernel)) ggL_law_X5_read
set_option maxRecDepth 20000 in
theorem ggL_law_X6_read : GoodIn wsL_law wsX6_read := goodIn_r _ [573, 248, 561, 113, 114, 163, 164, 165, 5, 166, 142, 143, 144, 145, 498, 499, 500, 315, 501, 393, 394, 395, 396, 400, 401, 402, 403, 407, 408, 409, 410, 391, 102, 105, 99, 341, 342, 343, 344, 104, 326, 112, 411, 412, 413, 414, 98, 97, 415, 416, 417, 574, 575, 576, 577, 107, 789, 790, 791, 792, 793, 794, 795, 796, 797, 798, 799, 800, 801, 802, 803, 804, 805, 806, 807, 808, 809, 810, 811, 812, 813, 814] rfl (by decide +kernel)
set_option maxRecDepth 20000 in
theorem gL_law_X6_read : GoodIn wsL_law (wsV RL 88 RX6 yX6_read wsX6_read) := goodIn_app (goodIn_of _ (by decide +kernel)) ggL_law_X6_read
set_option maxRecDepth 20000 in
theorem ggL_law_X5_there : GoodIn wsL_law wsX5_there := goodIn_r _ [581, 18, 320, 155, 156, 157, 2, 158, 14, 13, 480, 481, 482, 124, 125, 126, 483, 484, 485, 486, 27, 487, 488, 489, 490, 28, 29, 350, 351, 352, 25, 353, 73, 74, 75, 76, 72, 77, 71, 354, 355, 356, 357, 358, 333, 334, 17, 335, 49, 48, 359, 360, 361, 362, 363, 364, 365, 366, 367, 368, 369, 370, 371, 372, 373, 374, 281, 151, 150, 375, 376, 377, 378, 70, 379, 380, 381, 382, 383, 384, 385, 386, 446, 447, 448, 449, 450, 427, 428, 429, 451, 452, 453, 454, 776, 777, 778, 779, 780, 781, 782, 783, 784, 785, 786, 787, 788, 815, 816, 817, 818, 819, 820, 821, 822, 823, 831, 832, 833, 834, 835, 836, 837, 838, 843, 844, 845, 846, 847] rfl (by decide +kernel)
set_option maxRecDepth 20000 in
theorem gL_law_X5_there : GoodIn wsL_law (wsV RL 89 RX5 yX5_there wsX5_there) := goodIn_app (goodIn_of _ (by decide +kernel)) ggL_law_X5_there
set_option maxRecDepth 20000 in
theorem ggL_law_X6_there : GoodIn wsL_law wsX6_there := goodIn_r _ [585, 113, 114, 163, 164, 165, 5, 166, 142, 143, 144, 145, 498, 499, 500, 315, 501, 393, 394, 395, 396, 400, 401, 402, 403, 407, 408, 409, 410, 391, 102, 105, 99, 341, 342, 343, 344, 104, 326, 112, 411, 412, 413, 414, 98, 97, 415, 416, 417, 463, 464, 465, 466, 789, 790, 791, 792, 793, 794, 795, 796, 797, 798, 799, 800, 801, 802, 803, 804, 805, 806, 807, 808, 809, 810, 811, 812, 813, 814] rfl (by decide +kernel)
set_option maxRecDepth 20000 in
theorem gL_law_X6_there : GoodIn wsL_law (wsV RL 92 RX6 yX6_there wsX6_there) := goodIn_app (goodIn_of _ (by decide +kernel)) ggL_law_X6_there
set_option maxRecDepth 20000 in
theorem ggL_law_X5_when : GoodIn wsL_law wsX5_when := goodIn_r _ [589, 18, 297, 155, 156, 157, 2, 158, 14, 13, 443, 444, 445, 124, 125, 126, 483, 484, 485, 486, 27, 487, 488, 489, 490, 28, 29, 350, 351, 352, 25, 353, 73, 74, 75, 76, 72, 77, 71, 354, 355, 356, 357, 358, 333, 334, 17, 335, 49, 48, 359, 360, 361, 362, 363, 364, 365, 366, 367, 368, 369, 370, 371, 372, 373, 374, 281, 151, 150, 375, 376, 377, 378, 70, 379, 380, 381, 382, 383, 384, 385, 386, 446, 447, 448, 449, 450, 427, 428, 429, 451, 452, 453, 454, 776, 777, 778, 779, 780, 781, 782, 783, 784, 785, 786, 787, 788, 815, 816, 817, 818, 819, 820, 821, 822, 823, 831, 832, 833, 834, 835, 836, 837, 838, 843, 844, 845, 846, 847] rfl (by decide +kernel)
set_option maxRecDepth 20000 in
theorem gL_law_X5_when : GoodIn wsL_law (wsV RL 93 RX5 yX5_when wsX5_when) := goodIn_app (goodIn_of _ (by decide +kernel)) ggL_law_X5_when
set_option maxRecDepth 20000 in
theorem ggL_law_X6_when : GoodIn wsL_law wsX6_when := goodIn_r _ [593, 326, 112, 113, 114, 163, 164, 165, 5, 166, 142, 143, 144, 145, 459, 460, 461, 462, 393, 394, 395, 396, 400, 401, 402, 403, 407, 408, 409, 410, 391, 102, 105, 99, 341, 342, 343, 344, 104, 411, 412, 413, 414, 98, 97, 415, 416, 417, 463, 464, 465, 466, 789, 790, 791, 792, 793, 794, 795, 796, 797, 798, 799, 800, 801, 802, 803, 804, 805, 806, 807, 808, 809, 810, 811, 812, 813, 814] rfl (by decide +kernel)
set_option maxRecDepth 20000 in
theorem gL_law_X6_when : GoodIn wsL_law (wsV RL 96 RX6 yX6_when wsX6_when) := goodIn_app (goodIn_of _ (by decide +kernel)) ggL_law_X6_when
set_option maxRecDepth 20000 in
theorem ggL_law_X5_beach : GoodIn wsL_law wsX5_beach := goodIn_r _ [597, 153, 154, 155, 156, 157, 2, 158, 14, 13, 124, 125, 126, 843, 844, 845, 846, 847, 776, 777, 778, 779, 780, 781, 782, 783, 784, 785, 786, 787, 788] rfl (by decide +kernel)
set_option maxRecDepth 20000 in
theorem gL_law_X5_beach : GoodIn wsL_law (wsV RL 97 RX5 yX5_beach wsX5_beach) := goodIn_app (goodIn_of _ (by decide +kernel)) ggL_law_X5_beach
set_option maxRecDepth 20000 in
theorem ggL_law_X6_beach : GoodIn wsL_law wsX6_beach := goodIn_r _ [601, 141, 140, 100, 101, 163, 164, 165, 5, 166, 142, 143, 144, 145, 789, 790, 791, 792, 793, 794, 795, 796, 797, 798, 799, 800, 801, 802, 803, 804, 805, 806, 807, 808, 809, 810, 811, 812, 813, 814] rfl (by decide +kernel)
set_option maxRecDepth 20000 in
theorem gL_law_X6_beach : GoodIn wsL_law (wsV RL 100 RX6 yX6_beach wsX6_beach) := goodIn_app (goodIn_of _ (by decide +kernel)) ggL_law_X6_beach
set_option maxRecDepth 20000 in
theorem ggL_law_X5_mean : GoodIn wsL_law wsX5_mean := goodIn_r _ [605, 514, 124, 125, 2, 126, 606, 607, 608, 609, 14, 154, 153, 155, 156, 157, 158, 13, 610, 611, 612, 613, 614, 615, 616, 522, 523, 524, 525, 526, 527, 776, 777, 778, 779, 780, 781, 782, 783, 784, 785, 786, 787, 788, 843, 844, 845, 846, 847] rfl (by decide +kernel)
set_option maxRecDepth 20000 in
theorem gL_law_X5_mean : GoodIn wsL_law (wsV RL 101 RX5 yX5_mean wsX5_mean) := goodIn_app (goodIn_of _ (by decide +kernel)) ggL_law_X5_mean
set_option maxRecDepth 20000 in
theorem ggL_law_X6_mean : GoodIn wsL_law wsX6_mean := goodIn_r _ [620, 621, 622, 623, 624, 5, 625, 142, 101, 100, 143, 144, 145, 532, 533, 534, 535, 626, 627, 628, 629, 630, 631, 632, 540, 541, 542, 789, 790, 791, 792, 793, 794, 795, 796, 797, 798, 799, 800, 801, 802, 803, 804, 805, 806, 807, 808, 809, 810, 811, 812, 813, 814] rfl (by decide +kernel)
set_option maxRecDepth 20000 in
theorem gL_law_X6_mean : GoodIn wsL_law (wsV RL 105 RX6 yX6_mean wsX6_mean) := goodIn_app (goodIn_of _ (by decide +kernel)) ggL_law_X6_mean
set_option maxRecDepth 20000 in
theorem ggL_law_X5_hours : GoodIn wsL_law wsX5_hours := goodIn_r _ [636, 124, 125, 2, 126, 606, 607, 608, 609, 14, 154, 153, 155, 156, 157, 158, 13, 614, 615, 616, 610, 611, 612, 613, 776, 777, 778, 779, 780, 781, 782, 783, 784, 785, 786, 787, 788, 843, 844, 845, 846, 847] rfl (by decide +kernel)
set_option maxRecDepth 20000 in
theorem gL_law_X5_hours : GoodIn wsL_law (wsV RL 106 RX5 yX5_hours wsX5_hours) := goodIn_app (goodIn_of _ (by decide +kernel)) ggL_law_X5_hours
set_option maxRecDepth 20000 in
theorem ggL_law_X6_hours : GoodIn wsL_law wsX6_hours := goodIn_r _ [640, 140, 622, 623, 624, 5, 625, 142, 101, 100, 143, 144, 145, 626, 627, 628, 629, 630, 631, 632, 789, 790, 791, 792, 793, 794, 795, 796, 797, 798, 799, 800, 801, 802, 803, 804, 805, 806, 807, 808, 809, 810, 811, 812, 813, 814] rfl (by decide +kernel)
set_option maxRecDepth 20000 in
theorem gL_law_X6_hours : GoodIn wsL_law (wsV RL 109 RX6 yX6_hours wsX6_hours) := goodIn_app (goodIn_of _ (by decide +kernel)) ggL_law_X6_hours
set_option maxRecDepth 20000 in
theorem ggL_law_X5_sheet : GoodIn wsL_law wsX5_sheet := goodIn_r _ [644, 36, 176, 177, 178, 2, 179, 34, 180, 181, 182, 124, 125, 126, 187, 188, 189, 190, 645, 646, 647, 38, 648, 89, 91, 92, 90, 649, 204, 205, 206, 776, 777, 778, 779, 780, 781, 782, 783, 784, 785, 786, 787, 788, 839, 840, 841, 842] rfl (by decide +kernel)
set_option maxRecDepth 20000 in
theorem gL_law_X5_sheet : GoodIn wsL_law (wsV RL 110 RX5 yX5_sheet wsX5_sheet) := goodIn_app (goodIn_of _ (by decide +kernel)) ggL_law_X5_sheet
set_option maxRecDepth 20000 in
theorem ggL_law_X6_sheet : GoodIn wsL_law wsX6_sheet := goodIn_r _ [653, 248, 108, 109, 110, 249, 250, 5, 251, 252, 143, 144, 145, 253, 254, 255, 256, 257, 258, 259, 260, 261, 789, 790, 791, 792, 793, 794, 795, 796, 797, 798, 799, 800, 801, 802, 803, 804, 805, 806, 807, 808, 809, 810, 811, 812, 813, 814] rfl (by decide +kernel)
set_option maxRecDepth 20000 in
theorem gL_law_X6_sheet : GoodIn wsL_law (wsV RL 113 RX6 yX6_sheet wsX6_sheet) := goodIn_app (goodIn_of _ (by decide +kernel)) ggL_law_X6_sheet
set_option maxRecDepth 20000 in
theorem ggL_law_X5_lose : GoodIn wsL_law wsX5_lose := goodIn_r _ [657, 658, 176, 177, 178, 2, 179, 34, 839, 840, 841, 842, 776, 777, 778, 779, 780, 781, 782, 783, 784, 785, 786, 787, 788] rfl (by decide +kernel)
set_option maxRecDepth 20000 in
theorem gL_law_X5_lose : GoodIn wsL_law (wsV RL 114 RX5 yX5_lose wsX5_lose) := goodIn_app (goodIn_of _ (by decide +kernel)) ggL_law_X5_lose
set_option maxRecDepth 20000 in
theorem ggL_law_X6_lose : GoodIn wsL_law wsX6_lose := goodIn_r _ [662, 108, 249, 250, 5, 251, 252, 143, 144, 145, 789, 790, 791, 792, 793, 794, 795, 796, 797, 798, 799, 800, 801, 802, 803, 804, 805, 806, 807, 808, 809, 810, 811, 812, 813, 814] rfl (by decide +kernel)
set_option maxRecDepth 20000 in
theorem gL_law_X6_lose : GoodIn wsL_law (wsV RL 117 RX6 yX6_lose wsX6_lose) := goodIn_app (goodIn_of _ (by decide +kernel)) ggL_law_X6_lose
set_option maxRecDepth 20000 in
theorem ggL_law_X5_put : GoodIn wsL_law wsX5_put := goodIn_r _ [666, 36, 658, 176, 177, 178, 2, 179, 34, 187, 188, 189, 190, 667, 224, 225, 38, 226, 92, 89, 668, 669, 670, 671, 91, 223, 776, 777, 778, 779, 780, 781, 782, 783, 784, 785, 786, 787, 788, 839, 840, 841, 842] rfl (by decide +kernel)
set_option maxRecDepth 20000 in
theorem gL_law_X5_put : GoodIn wsL_law (wsV RL 118 RX5 yX5_put wsX5_put) := goodIn_app (goodIn_of _ (by decide +kernel)) ggL_law_X5_put
set_option maxRecDepth 20000 in
theorem ggL_law_X6_put : GoodIn wsL_law wsX6_put := goodIn_r _ [675, 110, 109, 249, 250, 5, 251, 252, 143, 144, 145, 253, 254, 255, 256, 257, 676, 677, 678, 679, 108, 258, 259, 260, 261, 789, 790, 791, 792, 793, 794, 795, 796, 797, 798, 799, 800, 801, 802, 803, 804, 805, 806, 807, 808, 809, 810, 811, 812, 813, 814] rfl (by decide +kernel)
set_option maxRecDepth 20000 in
theorem gL_law_X6_put : GoodIn wsL_law (wsV RL 121 RX6 yX6_put wsX6_put) := goodIn_app (goodIn_of _ (by decide +kernel)) ggL_law_X6_put
set_option maxRecDepth 20000 in
theorem ggL_law_X5_cell : GoodIn wsL_law wsX5_cell := goodIn_r _ [683, 36, 514, 176, 177, 178, 2, 179, 34, 180, 181, 182, 124, 125, 126, 183, 184, 185, 38, 186, 90, 91, 667, 224, 225, 226, 92, 89, 302, 220, 221, 222, 223, 776, 777, 778, 779, 780, 781, 782, 783, 784, 785, 786, 787, 788, 839, 840, 841, 842] rfl (by decide +kernel)
set_option maxRecDepth 20000 in
theorem gL_law_X5_cell : GoodIn wsL_law (wsV RL 122 RX5 yX5_cell wsX5_cell) := goodIn_app (goodIn_of _ (by decide +kernel)) ggL_law_X5_cell
set_option maxRecDepth 20000 in
theorem ggL_law_X6_cell : GoodIn wsL_law wsX6_cell := goodIn_r _ [687, 257, 248, 108, 109, 110, 249, 250, 5, 251, 252, 143, 144, 145, 532, 533, 534, 535, 688, 689, 690, 691, 676, 677, 678, 679, 789, 790, 791, 792, 793, 794, 795, 796, 797, 798, 799, 800, 801, 802, 803, 804, 805, 806, 807, 808, 809, 810, 811, 812, 813, 814] rfl (by decide +kernel)
set_option maxRecDepth 20000 in
theorem gL_law_X6_cell : GoodIn wsL_law (wsV RL 126 RX6 yX6_cell wsX6_cell) := goodIn_app (goodIn_of _ (by decide +kernel)) ggL_law_X6_cell
set_option maxRecDepth 20000 in
theorem ggL_law_X5_copy : GoodIn wsL_law wsX5_copy := goodIn_r _ [695, 36, 658, 696, 697, 698, 200, 201, 202, 176, 177, 178, 2, 179, 34, 187, 188, 189, 190, 191, 192, 193, 38, 194, 92, 776, 777, 778, 779, 780, 781, 782, 783, 784, 785, 786, 787, 788, 839, 840, 841, 842] rfl (by decide +kernel)
set_option maxRecDepth 20000 in
theorem gL_law_X5_copy : GoodIn wsL_law (wsV RL 127 RX5 yX5_copy wsX5_copy) := goodIn_app (goodIn_of _ (by decide +kernel)) ggL_law_X5_copy
set_option maxRecDepth 20000 in
theorem ggL_law_X6_copy : GoodIn wsL_law wsX6_copy := goodIn_r _ [702, 108, 109, 111, 110, 249, 250, 5, 251, 252, 143, 144, 145, 253, 254, 255, 256, 257, 258, 259, 260, 261, 262, 263, 264, 789, 790, 791, 792, 793, 794, 795, 796, 797, 798, 799, 800, 801, 802, 803, 804, 805, 806, 807, 808, 809, 810, 811, 812, 813, 814] rfl (by decide +kernel)
set_option maxRecDepth 20000 in
theorem gL_law_X6_copy : GoodIn wsL_law (wsV RL 130 RX6 yX6_copy wsX6_copy) := goodIn_app (goodIn_of _ (by decide +kernel)) ggL_law_X6_copy
set_option maxRecDepth 20000 in
theorem ggL_law_X5_tell : GoodIn wsL_law wsX5_tell := goodIn_r _ [706, 26, 422, 423, 424, 2, 425, 349, 426, 427, 428, 25, 429, 71, 70, 707, 708, 709, 710, 711, 712, 713, 714, 35, 715, 716, 717, 718, 719, 720, 721, 722, 723, 724, 725, 726, 776, 777, 778, 779, 780, 781, 782, 783, 784, 785, 786, 787, 788, 831, 832, 833, 834, 835, 836, 837, 838] rfl (by decide +kernel)
set_option maxRecDepth 20000 in
theorem gL_law_X5_tell : GoodIn wsL_law (wsV RL 131 RX5 yX5_tell wsX5_tell) := goodIn_app (goodIn_of _ (by decide +kernel)) ggL_law_X5_tell
set_option maxRecDepth 20000 in
theorem ggL_law_X6_tell : GoodIn wsL_law wsX6_tell := goodIn_r _ [730, 106, 435, 436, 437, 5, 438, 392, 143, 144, 145, 731, 732, 733, 734, 735, 789, 790, 791, 792, 793, 794, 795, 796, 797, 798, 799, 800, 801, 802, 803, 804, 805, 806, 807, 808, 809, 810, 811, 812, 813, 814] rfl (by decide +kernel)
set_option maxRecDepth 20000 in
theorem gL_law_X6_tell : GoodIn wsL_law (wsV RL 134 RX6 yX6_tell wsX6_tell) := goodIn_app (goodIn_of _ (by decide +kernel)) ggL_law_X6_tell
set_option maxRecDepth 20000 in
theorem ggL_law_X5_hear : GoodIn wsL_law wsX5_hear := goodIn_r _ [739, 26, 422, 423, 424, 2, 425, 349, 426, 427, 428, 25, 429, 71, 70, 711, 712, 713, 714, 35, 776, 777, 778, 779, 780, 781, 782, 783, 784, 785, 786, 787, 788, 831, 832, 833, 834, 835, 836, 837, 838] rfl (by decide +kernel)
set_option maxRecDepth 20000 in
theorem gL_law_X5_hear : GoodIn wsL_law (wsV RL 135 RX5 yX5_hear wsX5_hear) := goodIn_app (goodIn_of _ (by decide +kernel)) ggL_law_X5_hear
set_option maxRecDepth 20000 in
theorem ggL_law_X6_hear : GoodIn wsL_law wsX6_hear := goodIn_r _ [743, 106, 435, 436, 437, 5, 438, 392, 143, 144, 145, 731, 732, 733, 734, 735, 789, 790, 791, 792, 793, 794, 795, 796, 797, 798, 799, 800, 801, 802, 803, 804, 805, 806, 807, 808, 809, 810, 811, 812, 813, 814] rfl (by decide +kernel)
set_option maxRecDepth 20000 in
theorem gL_law_X6_hear : GoodIn wsL_law (wsV RL 138 RX6 yX6_hear wsX6_hear) := goodIn_app (goodIn_of _ (by decide +kernel)) ggL_law_X6_hear
set_option maxRecDepth 20000 in
theorem ggL_law_X5_as : GoodIn wsL_law wsX5_as := goodIn_r _ [747, 36, 26, 422, 423, 424, 2, 425, 349, 124, 125, 126, 426, 427, 428, 25, 429, 71, 70, 187, 188, 189, 190, 776, 777, 778, 779, 780, 781, 782, 783, 784, 785, 786, 787, 788, 831, 832, 833, 834, 835, 836, 837, 838] rfl (by decide +kernel)
set_option maxRecDepth 20000 in
theorem gL_law_X5_as : GoodIn wsL_law (wsV RL 139 RX5 yX5_as wsX5_as) := goodIn_app (goodIn_of _ (by decide +kernel)) ggL_law_X5_as
set_option maxRecDepth 20000 in
theorem ggL_law_X6_as : GoodIn wsL_law wsX6_as := goodIn_r _ [751, 252, 106, 435, 436, 437, 5, 438, 392, 143, 144, 145, 253, 254, 255, 256, 257, 258, 259, 260, 261, 789, 790, 791, 792, 793, 794, 795, 796, 797, 798, 799, 800, 801, 802, 803, 804, 805, 806, 807, 808, 809, 810, 811, 812, 813, 814] rfl (by decide +kernel)
set_option maxRecDepth 20000 in
theorem gL_law_X6_as : GoodIn wsL_law (wsV RL 142 RX6 yX6_as wsX6_as) := goodIn_app (goodIn_of _ (by decide +kernel)) ggL_law_X6_as
set_option maxRecDepth 20000 in
theorem ggL_law_X5_trace : GoodIn wsL_law wsX5_trace := goodIn_r _ [755, 35, 776, 777, 778, 779, 780, 781, 782, 783, 784, 785, 786, 787, 788] rfl (by decide +kernel)
set_option maxRecDepth 20000 in
theorem gL_law_X5_trace : GoodIn wsL_law (wsV RL 143 RX5 yX5_trace wsX5_trace) := goodIn_app (goodIn_of _ (by decide +kernel)) ggL_law_X5_trace
set_option maxRecDepth 20000 in
theorem ggL_law_X6_trace : GoodIn wsL_law wsX6_trace := goodIn_r _ [759, 735, 789, 790, 791, 792, 793, 794, 795, 796, 797, 798, 799, 800, 801, 802, 803, 804, 805, 806, 807, 808, 809, 810, 811, 812, 813, 814] rfl (by decide +kernel)
set_option maxRecDepth 20000 in
theorem gL_law_X6_trace : GoodIn wsL_law (wsV RL 147 RX6 yX6_trace wsX6_trace) := goodIn_app (goodIn_of _ (by decide +kernel)) ggL_law_X6_trace
set_option maxRecDepth 20000 in
theorem ggL_law_X5_fault : GoodIn wsL_law wsX5_fault := goodIn_r _ [763, 36, 776, 777, 778, 779, 780, 781, 782, 783, 784, 785, 786, 787, 788] rfl (by decide +kernel)
set_option maxRecDepth 20000 in
theorem gL_law_X5_fault : GoodIn wsL_law (wsV RL 148 RX5 yX5_fault wsX5_fault) := goodIn_app (goodIn_of _ (by decide +kernel)) ggL_law_X5_fault
set_option maxRecDepth 20000 in
theorem ggL_law_X6_fault : GoodIn wsL_law wsX6_fault := goodIn_r _ [767, 257, 789, 790, 791, 792, 793, 794, 795, 796, 797, 798, 799, 800, 801, 802, 803, 804, 805, 806, 807, 808, 809, 810, 811, 812, 813, 814] rfl (by decide +kernel)
set_option maxRecDepth 20000 in
theorem gL_law_X6_fault : GoodIn wsL_law (wsV RL 151 RX6 yX6_fault wsX6_fault) := goodIn_app (goodIn_of _ (by decide +kernel)) ggL_law_X6_fault
set_option maxRecDepth 20000 in
theorem ggL_law_X5_many : GoodIn wsL_law wsX5_many := goodIn_r _ [771, 14, 26, 349, 18, 297, 32, 776, 777, 778, 779, 780, 781, 782, 783, 784, 785, 786, 787, 788, 831, 832, 833, 834, 835, 836, 837, 838, 815, 816, 817, 818, 819, 820, 821, 822, 823] rfl (by decide +kernel)
set_option maxRecDepth 20000 in
theorem gL_law_X5_many : GoodIn wsL_law (wsV RL 152 RX5 yX5_many wsX5_many) := goodIn_app (goodIn_of _ (by decide +kernel)) ggL_law_X5_many
set_option maxRecDepth 20000 in
theorem ggL_law_X6_many : GoodIn wsL_law wsX6_many := goodIn_r _ [775, 142, 392, 112, 561, 789, 790, 791, 792, 793, 794, 795, 796, 797, 798, 799, 800, 801, 802, 803, 804, 805, 806, 807, 808, 809, 810, 811, 812, 813, 814] rfl (by decide +kernel)
set_option maxRecDepth 20000 in
theorem gL_law_X6_many : GoodIn wsL_law (wsV RL 155 RX6 yX6_many wsX6_many) := goodIn_app (goodIn_of _ (by decide +kernel)) ggL_law_X6_many
