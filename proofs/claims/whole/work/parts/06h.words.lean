theorem lw_memx {ws : List Cond} (ps : List Nat) (h : ws.map some = ps.map (fun i => lw_tbl[i]?)) : ∀ w ∈ ws, w ∈ lw_tbl := by
  intro w hw
  have h1 : some w ∈ ws.map some := List.mem_map.mpr ⟨w, hw, rfl⟩
  rw [h] at h1
  obtain ⟨i, -, hi⟩ := List.mem_map.mp h1
  exact List.mem_of_getElem? hi
set_option maxRecDepth 20000 in
theorem wsL_in_1 : ∀ w ∈ wsL_law_r1, w ∈ lw_tbl := lw_memx [57, 58, 47, 636, 637, 52, 59, 60, 61, 62, 63, 64, 65, 217, 218, 67, 68, 48, 219, 116, 117, 49, 220, 154] rfl
set_option maxRecDepth 20000 in
theorem wsL_in_2 : ∀ w ∈ wsL_law_r2, w ∈ lw_tbl := lw_memx [155, 50, 221, 222, 223, 224, 115, 225, 226, 186, 227, 228, 229, 196, 51, 70, 71, 72, 73, 75, 78, 81, 84, 87] rfl
set_option maxRecDepth 20000 in
theorem wsL_in_3 : ∀ w ∈ wsL_law_r3, w ∈ lw_tbl := lw_memx [90, 92, 94, 119, 120, 121, 124, 125, 126, 127, 128, 130, 131, 132, 133, 134, 135, 136, 137, 157, 158, 159, 160, 161] rfl
set_option maxRecDepth 20000 in
theorem wsL_in_4 : ∀ w ∈ wsL_law_r4, w ∈ lw_tbl := lw_memx [163, 164, 165, 166, 167, 168, 188, 189, 190, 191, 192, 193, 194, 195, 198, 199, 200, 201, 203, 205, 207, 638, 639, 640] rfl
set_option maxRecDepth 20000 in
theorem wsL_in_5 : ∀ w ∈ wsL_law_r5, w ∈ lw_tbl := lw_memx [641, 647, 648, 649, 650, 651, 652, 653, 656, 659, 661, 665, 666, 667, 668, 669, 655, 662, 663, 642, 643, 644, 257, 258] rfl
set_option maxRecDepth 20000 in
theorem wsL_in_6 : ∀ w ∈ wsL_law_r6, w ∈ lw_tbl := lw_memx [259, 260, 264, 53, 261, 262, 263, 265, 266, 267, 268, 276, 278, 269, 271, 273, 724, 725, 726, 727, 728, 732, 646, 729] rfl
set_option maxRecDepth 20000 in
theorem wsL_in_7 : ∀ w ∈ wsL_law_r7, w ∈ lw_tbl := lw_memx [730, 731, 291, 292, 293, 294, 270, 272, 274, 277, 279, 295, 297, 0, 298, 733, 734, 735, 736, 737, 739, 28, 740, 299] rfl
set_option maxRecDepth 20000 in
theorem wsL_in_8 : ∀ w ∈ wsL_law_r8, w ∈ lw_tbl := lw_memx [300, 301, 302, 138, 303, 305, 1, 306, 307, 309, 2, 310, 311, 312, 313, 314, 315, 316, 317, 318, 320, 3, 321, 322] rfl
set_option maxRecDepth 20000 in
theorem wsL_in_9 : ∀ w ∈ wsL_law_r9, w ∈ lw_tbl := lw_memx [323, 324, 325, 326, 327, 328, 329, 330, 332, 331, 54, 333, 334, 55, 335, 336, 338, 4, 339, 340, 342, 5, 343, 346] rfl
set_option maxRecDepth 20000 in
theorem wsL_in_10 : ∀ w ∈ wsL_law_r10, w ∈ lw_tbl := lw_memx [348, 6, 349, 350, 351, 352, 353, 354, 355, 356, 357, 358, 360, 7, 361, 362, 364, 8, 365, 367, 369, 9, 370, 741] rfl
set_option maxRecDepth 20000 in
theorem wsL_in_11 : ∀ w ∈ wsL_law_r11, w ∈ lw_tbl := lw_memx [742, 743, 744, 654, 745, 747, 29, 748, 757, 749, 750, 751, 752, 753, 755, 30, 756, 645, 758, 760, 31, 761, 762, 763] rfl
set_option maxRecDepth 20000 in
theorem wsL_in_12 : ∀ w ∈ wsL_law_r12, w ∈ lw_tbl := lw_memx [764, 765, 767, 32, 768, 772, 773, 769, 770, 771, 774, 775, 776, 375, 376, 377, 378, 74, 77, 79, 82, 85, 89, 777] rfl
set_option maxRecDepth 20000 in
theorem wsL_in_13 : ∀ w ∈ wsL_law_r13, w ∈ lw_tbl := lw_memx [778, 779, 780, 781, 379, 380, 381, 382, 91, 93, 383, 385, 10, 386, 387, 388, 390, 11, 391, 782, 783, 784, 785, 786] rfl
set_option maxRecDepth 20000 in
theorem wsL_in_14 : ∀ w ∈ wsL_law_r14, w ∈ lw_tbl := lw_memx [788, 33, 789, 790, 392, 393, 394, 395, 95, 791, 792, 793, 794, 795, 657, 396, 397, 398, 399, 400, 401, 402, 403, 404] rfl
set_option maxRecDepth 20000 in
theorem wsL_in_15 : ∀ w ∈ wsL_law_r15, w ∈ lw_tbl := lw_memx [796, 797, 798, 799, 800, 801, 803, 34, 804, 405, 406, 407, 408, 162, 409, 410, 411, 412, 413, 414, 415, 416, 417, 418] rfl
set_option maxRecDepth 20000 in
theorem wsL_in_16 : ∀ w ∈ wsL_law_r16, w ∈ lw_tbl := lw_memx [420, 12, 421, 76, 275, 88, 80, 433, 434, 56, 435, 86, 83, 423, 424, 425, 427, 13, 428, 429, 431, 14, 432, 436] rfl
set_option maxRecDepth 20000 in
theorem wsL_in_17 : ∀ w ∈ wsL_law_r17, w ∈ lw_tbl := lw_memx [438, 15, 439, 805, 806, 807, 808, 658, 660, 809, 810, 811, 812, 813, 814, 815, 816, 817, 818, 819, 820, 821, 822, 823] rfl
set_option maxRecDepth 20000 in
theorem wsL_in_18 : ∀ w ∈ wsL_law_r18, w ∈ lw_tbl := lw_memx [825, 35, 826, 827, 829, 36, 830, 831, 832, 833, 440, 441, 442, 443, 444, 446, 16, 447, 448, 449, 450, 451, 834, 835] rfl
set_option maxRecDepth 20000 in
theorem wsL_in_19 : ∀ w ∈ wsL_law_r19, w ∈ lw_tbl := lw_memx [836, 837, 842, 838, 840, 37, 841, 452, 453, 454, 455, 456, 457, 458, 459, 460, 461, 462, 463, 464, 466, 17, 467, 843] rfl
set_option maxRecDepth 20000 in
theorem wsL_in_20 : ∀ w ∈ wsL_law_r20, w ∈ lw_tbl := lw_memx [844, 845, 846, 847, 848, 849, 850, 851, 853, 38, 854, 468, 469, 470, 471, 472, 855, 856, 857, 858, 473, 474, 475, 476] rfl
set_option maxRecDepth 20000 in
theorem wsL_in_21 : ∀ w ∈ wsL_law_r21, w ∈ lw_tbl := lw_memx [477, 478, 479, 480, 482, 18, 483, 484, 486, 19, 487, 488, 489, 490, 863, 864, 865, 866, 867, 868, 869, 870, 491, 492] rfl
set_option maxRecDepth 20000 in
theorem wsL_in_22 : ∀ w ∈ wsL_law_r22, w ∈ lw_tbl := lw_memx [493, 494, 859, 860, 861, 862, 495, 496, 497, 498, 499, 500, 502, 20, 503, 504, 505, 506, 507, 508, 509, 510, 511, 512] rfl
set_option maxRecDepth 20000 in
theorem wsL_in_23 : ∀ w ∈ wsL_law_r23, w ∈ lw_tbl := lw_memx [871, 872, 873, 874, 875, 876, 877, 878, 879, 881, 39, 882, 883, 884, 885, 513, 514, 515, 516, 886, 887, 888, 889, 517] rfl
set_option maxRecDepth 20000 in
theorem wsL_in_24 : ∀ w ∈ wsL_law_r24, w ∈ lw_tbl := lw_memx [518, 519, 520, 521, 890, 891, 892, 893, 894, 664, 522, 523, 524, 525, 526, 527, 528, 529, 895, 896, 897, 898, 899, 901] rfl
set_option maxRecDepth 20000 in
theorem wsL_in_25 : ∀ w ∈ wsL_law_r25, w ∈ lw_tbl := lw_memx [40, 902, 530, 531, 532, 533, 903, 904, 905, 906, 534, 535, 536, 537, 907, 908, 909, 910, 538, 539, 540, 541, 911, 912] rfl
set_option maxRecDepth 20000 in
theorem wsL_in_26 : ∀ w ∈ wsL_law_r26, w ∈ lw_tbl := lw_memx [913, 914, 542, 543, 544, 545, 546, 548, 21, 549, 550, 552, 22, 553, 554, 555, 556, 915, 916, 917, 918, 923, 919, 921] rfl
set_option maxRecDepth 20000 in
theorem wsL_in_27 : ∀ w ∈ wsL_law_r27, w ∈ lw_tbl := lw_memx [41, 922, 924, 926, 42, 927, 928, 929, 930, 557, 558, 559, 560, 931, 932, 933, 934, 561, 562, 563, 564, 565, 566, 567] rfl
set_option maxRecDepth 20000 in
theorem wsL_in_28 : ∀ w ∈ wsL_law_r28, w ∈ lw_tbl := lw_memx [568, 569, 935, 936, 937, 938, 570, 571, 572, 573, 204, 939, 940, 941, 942, 574, 575, 576, 577, 578, 579, 580, 581, 582] rfl
set_option maxRecDepth 20000 in
theorem wsL_in_29 : ∀ w ∈ wsL_law_r29, w ∈ lw_tbl := lw_memx [943, 944, 945, 946, 947, 949, 43, 950, 583, 584, 585, 586, 951, 952, 953, 954, 955, 957, 44, 958, 587, 588, 589, 590] rfl
set_option maxRecDepth 20000 in
theorem wsL_in_30 : ∀ w ∈ wsL_law_r30, w ∈ lw_tbl := lw_memx [206, 202, 591, 959, 960, 961, 962, 592, 593, 594, 595, 596, 598, 23, 599, 600, 602, 24, 603, 604, 606, 25, 607, 608] rfl
set_option maxRecDepth 20000 in
theorem wsL_in_31 : ∀ w ∈ wsL_law_r31, w ∈ lw_tbl := lw_memx [610, 26, 611, 612, 614, 27, 615, 963, 964, 965, 966, 967, 969, 45, 970, 670, 616, 617, 618, 619, 971, 972, 973, 974] rfl
set_option maxRecDepth 20000 in
theorem wsL_in_32 : ∀ w ∈ wsL_law_r32, w ∈ lw_tbl := lw_memx [620, 621, 622, 623, 975, 976, 977, 978, 624, 625, 626, 627, 979, 980, 981, 982, 628, 629, 630, 631, 983, 984, 985, 986] rfl
set_option maxRecDepth 20000 in
theorem wsL_in_33 : ∀ w ∈ wsL_law_r33, w ∈ lw_tbl := lw_memx [632, 633, 634, 635, 987, 988, 989, 990] rfl
set_option maxRecDepth 20000 in
theorem wsL_inX5 : ∀ w ∈ wsX50, w ∈ lw_tbl := lw_memx [230, 232, 234, 236, 238, 240, 242, 244, 246, 248, 250, 252, 254] rfl
set_option maxRecDepth 20000 in
theorem wsL_inX6 : ∀ w ∈ wsX60, w ∈ lw_tbl := lw_memx [671, 673, 675, 677, 679, 681, 683, 685, 687, 689, 691, 693, 695, 697, 699, 701, 703, 705, 707, 709, 711, 713, 715, 717, 719, 721] rfl
set_option maxRecDepth 20000 in
theorem wsL_inX4 : ∀ w ∈ wsX40, w ∈ lw_tbl := lw_memx [96, 98, 100, 102, 104, 106, 108, 110, 112] rfl
set_option maxRecDepth 20000 in
theorem wsL_inX1 : ∀ w ∈ wsX10, w ∈ lw_tbl := lw_memx [139, 141, 143, 145, 147, 149, 151] rfl
set_option maxRecDepth 20000 in
theorem wsL_inX0 : ∀ w ∈ wsX00, w ∈ lw_tbl := lw_memx [169, 171, 173, 175, 177, 179, 181, 183] rfl
set_option maxRecDepth 20000 in
theorem wsL_inX2 : ∀ w ∈ wsX20, w ∈ lw_tbl := lw_memx [208, 210, 212, 214] rfl
set_option maxRecDepth 20000 in
theorem wsL_inX3 : ∀ w ∈ wsX30, w ∈ lw_tbl := lw_memx [280, 282, 284, 286, 288] rfl
theorem wsL_law_in : ∀ w ∈ wsL_law, w ∈ lw_tbl := List.forall_mem_append.mpr ⟨List.forall_mem_append.mpr ⟨List.forall_mem_append.mpr ⟨List.forall_mem_append.mpr ⟨List.forall_mem_append.mpr ⟨List.forall_mem_append.mpr ⟨List.forall_mem_append.mpr ⟨List.forall_mem_append.mpr ⟨List.forall_mem_append.mpr ⟨wsL_in_1, List.forall_mem_append.mpr ⟨wsL_in_2, List.forall_mem_append.mpr ⟨wsL_in_3, List.forall_mem_append.mpr ⟨wsL_in_4, List.forall_mem_append.mpr ⟨wsL_in_5, List.forall_mem_append.mpr ⟨wsL_in_6, List.forall_mem_append.mpr ⟨wsL_in_7, List.forall_mem_append.mpr ⟨wsL_in_8, List.forall_mem_append.mpr ⟨wsL_in_9, List.forall_mem_append.mpr ⟨wsL_in_10, List.forall_mem_append.mpr ⟨wsL_in_11, List.forall_mem_append.mpr ⟨wsL_in_12, List.forall_mem_append.mpr ⟨wsL_in_13, List.forall_mem_append.mpr ⟨wsL_in_14, List.forall_mem_append.mpr ⟨wsL_in_15, List.forall_mem_append.mpr ⟨wsL_in_16, List.forall_mem_append.mpr ⟨wsL_in_17, List.forall_mem_append.mpr ⟨wsL_in_18, List.forall_mem_append.mpr ⟨wsL_in_19, List.forall_mem_append.mpr ⟨wsL_in_20, List.forall_mem_append.mpr ⟨wsL_in_21, List.forall_mem_append.mpr ⟨wsL_in_22, List.forall_mem_append.mpr ⟨wsL_in_23, List.forall_mem_append.mpr ⟨wsL_in_24, List.forall_mem_append.mpr ⟨wsL_in_25, List.forall_mem_append.mpr ⟨wsL_in_26, List.forall_mem_append.mpr ⟨wsL_in_27, List.forall_mem_append.mpr ⟨wsL_in_28, List.forall_mem_append.mpr ⟨wsL_in_29, List.forall_mem_append.mpr ⟨wsL_in_30, List.forall_mem_append.mpr ⟨wsL_in_31, List.forall_mem_append.mpr ⟨wsL_in_32, wsL_in_33⟩⟩⟩⟩⟩⟩⟩⟩⟩⟩⟩⟩⟩⟩⟩⟩⟩⟩⟩⟩⟩⟩⟩⟩⟩⟩⟩⟩⟩⟩⟩⟩, wsL_inX5⟩, wsL_inX6⟩, wsL_inX4⟩, wsL_inX1⟩, wsL_inX0⟩, wsL_inX2⟩, wsL_inX3⟩, fun _ h => absurd h List.not_mem_nil⟩
theorem inlX0 : ∀ w ∈ wsX00, w ∈ wsL_law := fun _ h => List.mem_append_left _ (List.mem_append_left _ (List.mem_append_left _ (List.mem_append_right _ h)))
theorem inX0 : ∀ w ∈ wsX00, w ∈ lw_tbl := fun w h => wsL_law_in w (inlX0 w h)
theorem inlX1 : ∀ w ∈ wsX10, w ∈ wsL_law := fun _ h => List.mem_append_left _ (List.mem_append_left _ (List.mem_append_left _ (List.mem_append_left _ (List.mem_append_right _ h))))
theorem inX1 : ∀ w ∈ wsX10, w ∈ lw_tbl := fun w h => wsL_law_in w (inlX1 w h)
theorem inlX2 : ∀ w ∈ wsX20, w ∈ wsL_law := fun _ h => List.mem_append_left _ (List.mem_append_left _ (List.mem_append_right _ h))
theorem inX2 : ∀ w ∈ wsX20, w ∈ lw_tbl := fun w h => wsL_law_in w (inlX2 w h)
theorem inlX3 : ∀ w ∈ wsX30, w ∈ wsL_law := fun _ h => List.mem_append_left _ (List.mem_append_right _ h)
theorem inX3 : ∀ w ∈ wsX30, w ∈ lw_tbl := fun w h => wsL_law_in w (inlX3 w h)
theorem inlX4 : ∀ w ∈ wsX40, w ∈ wsL_law := fun _ h => List.mem_append_left _ (List.mem_append_left _ (List.mem_append_left _ (List.mem_append_left _ (List.mem_append_left _ (List.mem_append_right _ h)))))
theorem inX4 : ∀ w ∈ wsX40, w ∈ lw_tbl := fun w h => wsL_law_in w (inlX4 w h)
theorem inlX5 : ∀ w ∈ wsX50, w ∈ wsL_law := fun _ h => List.mem_append_left _ (List.mem_append_left _ (List.mem_append_left _ (List.mem_append_left _ (List.mem_append_left _ (List.mem_append_left _ (List.mem_append_left _ (List.mem_append_right _ h)))))))
theorem inX5 : ∀ w ∈ wsX50, w ∈ lw_tbl := fun w h => wsL_law_in w (inlX5 w h)
theorem inlX6 : ∀ w ∈ wsX60, w ∈ wsL_law := fun _ h => List.mem_append_left _ (List.mem_append_left _ (List.mem_append_left _ (List.mem_append_left _ (List.mem_append_left _ (List.mem_append_left _ (List.mem_append_right _ h))))))
theorem inX6 : ∀ w ∈ wsX60, w ∈ lw_tbl := fun w h => wsL_law_in w (inlX6 w h)
theorem inJx8e188 : ∀ w ∈ wsJx8e1880, w ∈ lw_tbl := by decide +kernel
theorem inJ9 : ∀ w ∈ wsJ90, w ∈ lw_tbl := by decide +kernel
theorem inJ10 : ∀ w ∈ wsJ100, w ∈ lw_tbl := by decide +kernel
theorem inJ7 : ∀ w ∈ wsJ70, w ∈ lw_tbl := by decide +kernel

