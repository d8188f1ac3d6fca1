theorem lw_memx {ws : List Cond} (ps : List Nat) (h : ws.map some = ps.map (fun i => lw_tbl[i]?)) : ∀ w ∈ ws, w ∈ lw_tbl := by
  intro w hw
  have h1 : some w ∈ ws.map some := List.mem_map.mpr ⟨w, hw, rfl⟩
  rw [h] at h1
  obtain ⟨i, -, hi⟩ := List.mem_map.mp h1
  exact List.mem_of_getElem? hi
set_option maxRecDepth 20000 in
theorem wsL_in_1 : ∀ w ∈ wsL_law_r1, w ∈ lw_tbl := lw_memx [56, 57, 46, 631, 632, 51, 58, 59, 60, 61, 62, 63, 64, 216, 217, 66, 67, 47, 218, 115, 116, 48, 219, 153] rfl
set_option maxRecDepth 20000 in
theorem wsL_in_2 : ∀ w ∈ wsL_law_r2, w ∈ lw_tbl := lw_memx [154, 49, 220, 221, 222, 223, 114, 224, 225, 185, 226, 227, 228, 195, 50, 69, 70, 71, 72, 74, 77, 80, 83, 86] rfl
set_option maxRecDepth 20000 in
theorem wsL_in_3 : ∀ w ∈ wsL_law_r3, w ∈ lw_tbl := lw_memx [89, 91, 93, 118, 119, 120, 123, 124, 125, 126, 127, 129, 130, 131, 132, 133, 134, 135, 136, 156, 157, 158, 159, 160] rfl
set_option maxRecDepth 20000 in
theorem wsL_in_4 : ∀ w ∈ wsL_law_r4, w ∈ lw_tbl := lw_memx [162, 163, 164, 165, 166, 167, 187, 188, 189, 190, 191, 192, 193, 194, 197, 198, 199, 200, 202, 204, 206, 633, 634, 635] rfl
set_option maxRecDepth 20000 in
theorem wsL_in_5 : ∀ w ∈ wsL_law_r5, w ∈ lw_tbl := lw_memx [636, 642, 643, 644, 645, 646, 647, 648, 651, 654, 656, 660, 661, 662, 663, 664, 650, 657, 658, 637, 638, 639, 256, 257] rfl
set_option maxRecDepth 20000 in
theorem wsL_in_6 : ∀ w ∈ wsL_law_r6, w ∈ lw_tbl := lw_memx [258, 259, 263, 52, 260, 261, 262, 264, 265, 266, 267, 275, 277, 268, 270, 272, 719, 720, 721, 722, 723, 727, 641, 724] rfl
set_option maxRecDepth 20000 in
theorem wsL_in_7 : ∀ w ∈ wsL_law_r7, w ∈ lw_tbl := lw_memx [725, 726, 290, 291, 292, 293, 269, 271, 273, 276, 278, 294, 296, 0, 297, 728, 729, 730, 731, 732, 734, 27, 735, 298] rfl
set_option maxRecDepth 20000 in
theorem wsL_in_8 : ∀ w ∈ wsL_law_r8, w ∈ lw_tbl := lw_memx [299, 300, 301, 137, 302, 304, 1, 305, 306, 308, 2, 309, 310, 311, 312, 313, 314, 315, 316, 317, 319, 3, 320, 321] rfl
set_option maxRecDepth 20000 in
theorem wsL_in_9 : ∀ w ∈ wsL_law_r9, w ∈ lw_tbl := lw_memx [322, 323, 324, 325, 326, 327, 328, 329, 331, 330, 53, 332, 333, 54, 334, 335, 337, 4, 338, 339, 341, 5, 342, 345] rfl
set_option maxRecDepth 20000 in
theorem wsL_in_10 : ∀ w ∈ wsL_law_r10, w ∈ lw_tbl := lw_memx [347, 6, 348, 349, 350, 351, 352, 353, 354, 355, 356, 357, 359, 7, 360, 361, 363, 8, 364, 366, 368, 9, 369, 736] rfl
set_option maxRecDepth 20000 in
theorem wsL_in_11 : ∀ w ∈ wsL_law_r11, w ∈ lw_tbl := lw_memx [737, 738, 739, 649, 740, 742, 28, 743, 752, 744, 745, 746, 747, 748, 750, 29, 751, 640, 753, 755, 30, 756, 757, 758] rfl
set_option maxRecDepth 20000 in
theorem wsL_in_12 : ∀ w ∈ wsL_law_r12, w ∈ lw_tbl := lw_memx [759, 760, 762, 31, 763, 767, 768, 764, 765, 766, 769, 770, 771, 374, 375, 376, 377, 73, 76, 78, 81, 84, 88, 772] rfl
set_option maxRecDepth 20000 in
theorem wsL_in_13 : ∀ w ∈ wsL_law_r13, w ∈ lw_tbl := lw_memx [773, 774, 775, 776, 378, 379, 380, 381, 90, 92, 382, 384, 10, 385, 386, 387, 389, 11, 390, 777, 778, 779, 780, 781] rfl
set_option maxRecDepth 20000 in
theorem wsL_in_14 : ∀ w ∈ wsL_law_r14, w ∈ lw_tbl := lw_memx [783, 32, 784, 785, 391, 392, 393, 394, 94, 786, 787, 788, 789, 790, 652, 395, 396, 397, 398, 399, 400, 401, 402, 403] rfl
set_option maxRecDepth 20000 in
theorem wsL_in_15 : ∀ w ∈ wsL_law_r15, w ∈ lw_tbl := lw_memx [791, 792, 793, 794, 795, 796, 798, 33, 799, 404, 405, 406, 407, 161, 408, 409, 410, 411, 412, 413, 414, 415, 416, 417] rfl
set_option maxRecDepth 20000 in
theorem wsL_in_16 : ∀ w ∈ wsL_law_r16, w ∈ lw_tbl := lw_memx [419, 12, 420, 87, 75, 274, 79, 428, 429, 55, 430, 85, 82, 422, 423, 424, 426, 13, 427, 431, 433, 14, 434, 800] rfl
set_option maxRecDepth 20000 in
theorem wsL_in_17 : ∀ w ∈ wsL_law_r17, w ∈ lw_tbl := lw_memx [801, 802, 803, 653, 655, 804, 805, 806, 807, 808, 809, 810, 811, 812, 813, 814, 815, 816, 817, 818, 820, 34, 821, 822] rfl
set_option maxRecDepth 20000 in
theorem wsL_in_18 : ∀ w ∈ wsL_law_r18, w ∈ lw_tbl := lw_memx [824, 35, 825, 826, 827, 828, 435, 436, 437, 438, 439, 441, 15, 442, 443, 444, 445, 446, 829, 830, 831, 832, 837, 833] rfl
set_option maxRecDepth 20000 in
theorem wsL_in_19 : ∀ w ∈ wsL_law_r19, w ∈ lw_tbl := lw_memx [835, 36, 836, 447, 448, 449, 450, 451, 452, 453, 454, 455, 456, 457, 458, 459, 461, 16, 462, 838, 839, 840, 841, 842] rfl
set_option maxRecDepth 20000 in
theorem wsL_in_20 : ∀ w ∈ wsL_law_r20, w ∈ lw_tbl := lw_memx [843, 844, 845, 846, 848, 37, 849, 463, 464, 465, 466, 467, 850, 851, 852, 853, 468, 469, 470, 471, 472, 473, 474, 475] rfl
set_option maxRecDepth 20000 in
theorem wsL_in_21 : ∀ w ∈ wsL_law_r21, w ∈ lw_tbl := lw_memx [477, 17, 478, 479, 481, 18, 482, 483, 484, 485, 858, 859, 860, 861, 862, 863, 864, 865, 486, 487, 488, 489, 854, 855] rfl
set_option maxRecDepth 20000 in
theorem wsL_in_22 : ∀ w ∈ wsL_law_r22, w ∈ lw_tbl := lw_memx [856, 857, 490, 491, 492, 493, 494, 495, 497, 19, 498, 499, 500, 501, 502, 503, 504, 505, 506, 507, 866, 867, 868, 869] rfl
set_option maxRecDepth 20000 in
theorem wsL_in_23 : ∀ w ∈ wsL_law_r23, w ∈ lw_tbl := lw_memx [870, 871, 872, 873, 874, 876, 38, 877, 878, 879, 880, 508, 509, 510, 511, 881, 882, 883, 884, 512, 513, 514, 515, 516] rfl
set_option maxRecDepth 20000 in
theorem wsL_in_24 : ∀ w ∈ wsL_law_r24, w ∈ lw_tbl := lw_memx [885, 886, 887, 888, 889, 659, 517, 518, 519, 520, 521, 522, 523, 524, 890, 891, 892, 893, 894, 896, 39, 897, 525, 526] rfl
set_option maxRecDepth 20000 in
theorem wsL_in_25 : ∀ w ∈ wsL_law_r25, w ∈ lw_tbl := lw_memx [527, 528, 898, 899, 900, 901, 529, 530, 531, 532, 902, 903, 904, 905, 533, 534, 535, 536, 906, 907, 908, 909, 537, 538] rfl
set_option maxRecDepth 20000 in
theorem wsL_in_26 : ∀ w ∈ wsL_law_r26, w ∈ lw_tbl := lw_memx [539, 540, 541, 543, 20, 544, 545, 547, 21, 548, 549, 550, 551, 910, 911, 912, 913, 918, 914, 916, 40, 917, 919, 921] rfl
set_option maxRecDepth 20000 in
theorem wsL_in_27 : ∀ w ∈ wsL_law_r27, w ∈ lw_tbl := lw_memx [41, 922, 923, 924, 925, 552, 553, 554, 555, 926, 927, 928, 929, 556, 557, 558, 559, 560, 561, 562, 563, 564, 930, 931] rfl
set_option maxRecDepth 20000 in
theorem wsL_in_28 : ∀ w ∈ wsL_law_r28, w ∈ lw_tbl := lw_memx [932, 933, 565, 566, 567, 568, 203, 934, 935, 936, 937, 569, 570, 571, 572, 573, 574, 575, 576, 577, 938, 939, 940, 941] rfl
set_option maxRecDepth 20000 in
theorem wsL_in_29 : ∀ w ∈ wsL_law_r29, w ∈ lw_tbl := lw_memx [942, 944, 42, 945, 578, 579, 580, 581, 946, 947, 948, 949, 950, 952, 43, 953, 582, 583, 584, 585, 205, 201, 586, 954] rfl
set_option maxRecDepth 20000 in
theorem wsL_in_30 : ∀ w ∈ wsL_law_r30, w ∈ lw_tbl := lw_memx [955, 956, 957, 587, 588, 589, 590, 591, 593, 22, 594, 595, 597, 23, 598, 599, 601, 24, 602, 603, 605, 25, 606, 607] rfl
set_option maxRecDepth 20000 in
theorem wsL_in_31 : ∀ w ∈ wsL_law_r31, w ∈ lw_tbl := lw_memx [609, 26, 610, 958, 959, 960, 961, 962, 964, 44, 965, 665, 611, 612, 613, 614, 966, 967, 968, 969, 615, 616, 617, 618] rfl
set_option maxRecDepth 20000 in
theorem wsL_in_32 : ∀ w ∈ wsL_law_r32, w ∈ lw_tbl := lw_memx [970, 971, 972, 973, 619, 620, 621, 622, 974, 975, 976, 977, 623, 624, 625, 626, 978, 979, 980, 981, 627, 628, 629, 630] rfl
set_option maxRecDepth 20000 in
theorem wsL_in_33 : ∀ w ∈ wsL_law_r33, w ∈ lw_tbl := lw_memx [982, 983, 984, 985] rfl
set_option maxRecDepth 20000 in
theorem wsL_inX5 : ∀ w ∈ wsX50, w ∈ lw_tbl := lw_memx [229, 231, 233, 235, 237, 239, 241, 243, 245, 247, 249, 251, 253] rfl
set_option maxRecDepth 20000 in
theorem wsL_inX6 : ∀ w ∈ wsX60, w ∈ lw_tbl := lw_memx [666, 668, 670, 672, 674, 676, 678, 680, 682, 684, 686, 688, 690, 692, 694, 696, 698, 700, 702, 704, 706, 708, 710, 712, 714, 716] rfl
set_option maxRecDepth 20000 in
theorem wsL_inX4 : ∀ w ∈ wsX40, w ∈ lw_tbl := lw_memx [95, 97, 99, 101, 103, 105, 107, 109, 111] rfl
set_option maxRecDepth 20000 in
theorem wsL_inX1 : ∀ w ∈ wsX10, w ∈ lw_tbl := lw_memx [138, 140, 142, 144, 146, 148, 150] rfl
set_option maxRecDepth 20000 in
theorem wsL_inX0 : ∀ w ∈ wsX00, w ∈ lw_tbl := lw_memx [168, 170, 172, 174, 176, 178, 180, 182] rfl
set_option maxRecDepth 20000 in
theorem wsL_inX2 : ∀ w ∈ wsX20, w ∈ lw_tbl := lw_memx [207, 209, 211, 213] rfl
set_option maxRecDepth 20000 in
theorem wsL_inX3 : ∀ w ∈ wsX30, w ∈ lw_tbl := lw_memx [279, 281, 283, 285, 287] rfl
theorem wsL_law_in : ∀ w ∈ wsL_law, w ∈ lw_tbl := List.forall_mem_append.mpr ⟨List.forall_mem_append.mpr ⟨List.forall_mem_append.mpr ⟨List.forall_mem_append.mpr ⟨List.forall_mem_append.mpr ⟨List.forall_mem_append.mpr ⟨List.forall_mem_append.mpr ⟨List.forall_mem_append.mpr ⟨List.forall_mem_append.mpr ⟨wsL_in_1, List.forall_mem_append.mpr ⟨wsL_in_2, List.forall_mem_append.mpr ⟨wsL_in_3, List.forall_mem_append.mpr ⟨wsL_in_4, List.forall_mem_append.mpr ⟨wsL_in_5, List.forall_mem_append.mpr ⟨wsL_in_6, List.forall_mem_append.mpr ⟨wsL_in_7, List.forall_mem_append.mpr ⟨wsL_in_8, List.forall_mem_append.mpr ⟨wsL_in_9, List.forall_mem_append.mpr ⟨wsL_in_10, List.forall_mem_append.mpr ⟨wsL_in_11, List.forall_mem_append.mpr ⟨wsL_in_12, List.forall_mem_append.mpr ⟨wsL_in_13, List.forall_mem_append.mpr ⟨wsL_in_14, List.forall_mem_append.mpr ⟨wsL_in_15, List.forall_mem_append.mpr ⟨wsL_in_16, List.forall_mem_append.mpr ⟨wsL_in_17, List.forall_mem_append.mpr ⟨wsL_in_18, List.forall_mem_append.mpr ⟨wsL_in_19, List.forall_mem_append.mpr ⟨wsL_in_20, List.forall_mem_append.mpr ⟨wsL_in_21, List.forall_mem_append.mpr ⟨wsL_in_22, List.forall_mem_append.mpr ⟨wsL_in_23, List.forall_mem_append.mpr ⟨wsL_in_24, List.forall_mem_append.mpr ⟨wsL_in_25, List.forall_mem_append.mpr ⟨wsL_in_26, List.forall_mem_append.mpr ⟨wsL_in_27, List.forall_mem_append.mpr ⟨wsL_in_28, List.forall_mem_append.mpr ⟨wsL_in_29, List.forall_mem_append.mpr ⟨wsL_in_30, List.forall_mem_append.mpr ⟨wsL_in_31, List.forall_mem_append.mpr ⟨wsL_in_32, wsL_in_33⟩⟩⟩⟩⟩⟩⟩⟩⟩⟩⟩⟩⟩⟩⟩⟩⟩⟩⟩⟩⟩⟩⟩⟩⟩⟩⟩⟩⟩⟩⟩⟩, wsL_inX5⟩, wsL_inX6⟩, wsL_inX4⟩, wsL_inX1⟩, wsL_inX0⟩, wsL_inX2⟩, wsL_inX3⟩, fun _ h => absurd h List.not_mem_nil⟩
theorem inlX0 : ∀ w ∈ wsX00, w ∈ wsL_law := wsL_pc37
theorem inX0 : ∀ w ∈ wsX00, w ∈ lw_tbl := fun w h => wsL_law_in w (inlX0 w h)
theorem inlX1 : ∀ w ∈ wsX10, w ∈ wsL_law := wsL_pc36
theorem inX1 : ∀ w ∈ wsX10, w ∈ lw_tbl := fun w h => wsL_law_in w (inlX1 w h)
theorem inlX2 : ∀ w ∈ wsX20, w ∈ wsL_law := wsL_pc38
theorem inX2 : ∀ w ∈ wsX20, w ∈ lw_tbl := fun w h => wsL_law_in w (inlX2 w h)
theorem inlX3 : ∀ w ∈ wsX30, w ∈ wsL_law := wsL_pc39
theorem inX3 : ∀ w ∈ wsX30, w ∈ lw_tbl := fun w h => wsL_law_in w (inlX3 w h)
theorem inlX4 : ∀ w ∈ wsX40, w ∈ wsL_law := wsL_pc35
theorem inX4 : ∀ w ∈ wsX40, w ∈ lw_tbl := fun w h => wsL_law_in w (inlX4 w h)
theorem inlX5 : ∀ w ∈ wsX50, w ∈ wsL_law := wsL_pc33
theorem inX5 : ∀ w ∈ wsX50, w ∈ lw_tbl := fun w h => wsL_law_in w (inlX5 w h)
theorem inlX6 : ∀ w ∈ wsX60, w ∈ wsL_law := wsL_pc34
theorem inX6 : ∀ w ∈ wsX60, w ∈ lw_tbl := fun w h => wsL_law_in w (inlX6 w h)
theorem inJx8e188 : ∀ w ∈ wsJx8e1880, w ∈ lw_tbl := by decide +kernel
theorem inJ9 : ∀ w ∈ wsJ90, w ∈ lw_tbl := by decide +kernel
theorem inJ10 : ∀ w ∈ wsJ100, w ∈ lw_tbl := by decide +kernel
theorem inJ7 : ∀ w ∈ wsJ70, w ∈ lw_tbl := by decide +kernel
