set_option maxRecDepth 20000 in
theorem ggX5_init_X4_init : GoodIn wsX5_init wsX4_init := goodIn_r _ [32, 33, 2, 3, 34, 35, 36, 37, 38, 39, 22, 40, 41, 42, 98, 99, 100, 101, 102, 103, 104, 105, 106] rfl (by decide +kernel)
set_option maxRecDepth 20000 in
theorem gX5_init_X4_init_n23 : GoodIn wsX5_init (wsX4_init) := ggX5_init_X4_init
set_option maxRecDepth 20000 in
theorem ggX5_init_X1_init : GoodIn wsX5_init wsX1_init := goodIn_r _ [44, 45, 2, 3, 46, 47, 48, 49, 50, 51, 52, 22, 53, 54, 55, 56, 57, 58, 107, 108, 109, 110, 111, 112, 113] rfl (by decide +kernel)
set_option maxRecDepth 20000 in
theorem gX5_init_X1_init_n30 : GoodIn wsX5_init (wsX1_init) := ggX5_init_X1_init
set_option maxRecDepth 20000 in
theorem ggX5_init_X0_init : GoodIn wsX5_init wsX0_init := goodIn_r _ [60, 61, 2, 3, 22, 62, 63, 64, 65, 66, 67, 68, 69, 114, 115, 116, 117, 118, 119, 120, 121] rfl (by decide +kernel)
set_option maxRecDepth 20000 in
theorem gX5_init_X0_init_n37 : GoodIn wsX5_init (wsX0_init) := ggX5_init_X0_init
set_option maxRecDepth 20000 in
theorem ggX5_init_X4_takeLaw : GoodIn wsX5_init wsX4_takeLaw := goodIn_r _ [73, 34, 35, 36, 37, 38, 39, 74, 75, 76, 13, 77, 52, 98, 99, 100, 101, 102, 103, 104, 105, 106, 107, 108, 109, 110, 111, 112, 113] rfl (by decide +kernel)
set_option maxRecDepth 20000 in
theorem gX5_init_X4_takeLaw : GoodIn wsX5_init (wsV RX5 70 RX4 yX4_takeLaw wsX4_takeLaw) := goodIn_app (goodIn_r _ [70, 71, 72, 9] rfl (by decide +kernel)) ggX5_init_X4_takeLaw
set_option maxRecDepth 20000 in
theorem ggX5_init_X2_init : GoodIn wsX5_init wsX2_init := goodIn_r _ [79, 80, 2, 3, 22, 81, 82, 83, 84, 122, 123, 124, 125] rfl (by decide +kernel)
set_option maxRecDepth 20000 in
theorem gX5_init_X2_init_n74 : GoodIn wsX5_init (wsX2_init) := ggX5_init_X2_init
def tb_cX5_init_39 : List (Nat × (Instr × Nat)) := [(0, (.aload_n 0, 1)), (1, (.invokespecial 3, 3)), (4, (.aload_n 0, 1)), (5, (.bipush 8, 2)), (7, (.anewarray 11, 3)), (10, (.putfield 13, 3)), (13, (.aload_n 0, 1)), (14, (.iconst 0, 1)), (15, (.putfield 17, 3)), (18, (.aload_n 0, 1)), (19, (.new 21, 3)), (22, (.dup, 1)), (23, (.invokespecial 23, 3)), (26, (.putfield 24, 3)), (29, (.aload_n 0, 1)), (30, (.new 28, 3)), (33, (.dup, 1)), (34, (.invokespecial 30, 3)), (37, (.putfield 31, 3)), (40, (.aload_n 0, 1)), (41, (.new 35, 3)), (44, (.dup, 1)), (45, (.invokespecial 37, 3)), (48, (.putfield 38, 3)), (51, (.aload_n 0, 1)), (52, (.new 35, 3)), (55, (.dup, 1)), (56, (.invokespecial 37, 3)), (59, (.putfield 42, 3)), (62, (.aload_n 0, 1)), (63, (.bipush 30, 2)), (65, (.putfield 45, 3)), (68, (.aload_n 0, 1)), (69, (.bipush 60, 2)), (71, (.putfield 48, 3)), (74, (.aload_n 0, 1)), (75, (.bipush 20, 2)), (77, (.newarray .int, 2)), (79, (.putfield 51, 3)), (82, (.aload_n 0, 1)), (83, (.iconst 0, 1)), (84, (.putfield 55, 3)), (87, (.aload_n 0, 1)), (88, (.iconst 4, 1)), (89, (.anewarray 58, 3)), (92, (.putfield 60, 3)), (95, (.aload_n 0, 1)), (96, (.iconst 0, 1)), (97, (.putfield 64, 3)), (100, (.aload_n 0, 1))]
set_option maxRecDepth 20000 in
theorem ta_cX5_init_39 : ∀ q ∈ tb_cX5_init_39, decode cX5_init q.1 = .ok q.2 := by decide +kernel
theorem dX5_init_0 : decode cX5_init 0 = .ok (.aload_n 0, 1) := ta_cX5_init_39 (0, (.aload_n 0, 1)) (List.mem_of_getElem? (i := 0) rfl)
theorem dX5_init_1 : decode cX5_init 1 = .ok (.invokespecial 3, 3) := ta_cX5_init_39 (1, (.invokespecial 3, 3)) (List.mem_of_getElem? (i := 1) rfl)
theorem dX5_init_4 : decode cX5_init 4 = .ok (.aload_n 0, 1) := ta_cX5_init_39 (4, (.aload_n 0, 1)) (List.mem_of_getElem? (i := 2) rfl)
theorem dX5_init_5 : decode cX5_init 5 = .ok (.bipush 8, 2) := ta_cX5_init_39 (5, (.bipush 8, 2)) (List.mem_of_getElem? (i := 3) rfl)
theorem dX5_init_7 : decode cX5_init 7 = .ok (.anewarray 11, 3) := ta_cX5_init_39 (7, (.anewarray 11, 3)) (List.mem_of_getElem? (i := 4) rfl)
theorem dX5_init_10 : decode cX5_init 10 = .ok (.putfield 13, 3) := ta_cX5_init_39 (10, (.putfield 13, 3)) (List.mem_of_getElem? (i := 5) rfl)
theorem dX5_init_13 : decode cX5_init 13 = .ok (.aload_n 0, 1) := ta_cX5_init_39 (13, (.aload_n 0, 1)) (List.mem_of_getElem? (i := 6) rfl)
theorem dX5_init_14 : decode cX5_init 14 = .ok (.iconst 0, 1) := ta_cX5_init_39 (14, (.iconst 0, 1)) (List.mem_of_getElem? (i := 7) rfl)
theorem dX5_init_15 : decode cX5_init 15 = .ok (.putfield 17, 3) := ta_cX5_init_39 (15, (.putfield 17, 3)) (List.mem_of_getElem? (i := 8) rfl)
theorem dX5_init_18 : decode cX5_init 18 = .ok (.aload_n 0, 1) := ta_cX5_init_39 (18, (.aload_n 0, 1)) (List.mem_of_getElem? (i := 9) rfl)
theorem dX5_init_19 : decode cX5_init 19 = .ok (.new 21, 3) := ta_cX5_init_39 (19, (.new 21, 3)) (List.mem_of_getElem? (i := 10) rfl)
theorem dX5_init_22 : decode cX5_init 22 = .ok (.dup, 1) := ta_cX5_init_39 (22, (.dup, 1)) (List.mem_of_getElem? (i := 11) rfl)
theorem dX5_init_23 : decode cX5_init 23 = .ok (.invokespecial 23, 3) := ta_cX5_init_39 (23, (.invokespecial 23, 3)) (List.mem_of_getElem? (i := 12) rfl)
theorem dX5_init_26 : decode cX5_init 26 = .ok (.putfield 24, 3) := ta_cX5_init_39 (26, (.putfield 24, 3)) (List.mem_of_getElem? (i := 13) rfl)
theorem dX5_init_29 : decode cX5_init 29 = .ok (.aload_n 0, 1) := ta_cX5_init_39 (29, (.aload_n 0, 1)) (List.mem_of_getElem? (i := 14) rfl)
theorem dX5_init_30 : decode cX5_init 30 = .ok (.new 28, 3) := ta_cX5_init_39 (30, (.new 28, 3)) (List.mem_of_getElem? (i := 15) rfl)
theorem dX5_init_33 : decode cX5_init 33 = .ok (.dup, 1) := ta_cX5_init_39 (33, (.dup, 1)) (List.mem_of_getElem? (i := 16) rfl)
theorem dX5_init_34 : decode cX5_init 34 = .ok (.invokespecial 30, 3) := ta_cX5_init_39 (34, (.invokespecial 30, 3)) (List.mem_of_getElem? (i := 17) rfl)
theorem dX5_init_37 : decode cX5_init 37 = .ok (.putfield 31, 3) := ta_cX5_init_39 (37, (.putfield 31, 3)) (List.mem_of_getElem? (i := 18) rfl)
theorem dX5_init_40 : decode cX5_init 40 = .ok (.aload_n 0, 1) := ta_cX5_init_39 (40, (.aload_n 0, 1)) (List.mem_of_getElem? (i := 19) rfl)
theorem dX5_init_41 : decode cX5_init 41 = .ok (.new 35, 3) := ta_cX5_init_39 (41, (.new 35, 3)) (List.mem_of_getElem? (i := 20) rfl)
theorem dX5_init_44 : decode cX5_init 44 = .ok (.dup, 1) := ta_cX5_init_39 (44, (.dup, 1)) (List.mem_of_getElem? (i := 21) rfl)
theorem dX5_init_45 : decode cX5_init 45 = .ok (.invokespecial 37, 3) := ta_cX5_init_39 (45, (.invokespecial 37, 3)) (List.mem_of_getElem? (i := 22) rfl)
theorem dX5_init_48 : decode cX5_init 48 = .ok (.putfield 38, 3) := ta_cX5_init_39 (48, (.putfield 38, 3)) (List.mem_of_getElem? (i := 23) rfl)
theorem dX5_init_51 : decode cX5_init 51 = .ok (.aload_n 0, 1) := ta_cX5_init_39 (51, (.aload_n 0, 1)) (List.mem_of_getElem? (i := 24) rfl)
theorem dX5_init_52 : decode cX5_init 52 = .ok (.new 35, 3) := ta_cX5_init_39 (52, (.new 35, 3)) (List.mem_of_getElem? (i := 25) rfl)
theorem dX5_init_55 : decode cX5_init 55 = .ok (.dup, 1) := ta_cX5_init_39 (55, (.dup, 1)) (List.mem_of_getElem? (i := 26) rfl)
theorem dX5_init_56 : decode cX5_init 56 = .ok (.invokespecial 37, 3) := ta_cX5_init_39 (56, (.invokespecial 37, 3)) (List.mem_of_getElem? (i := 27) rfl)
theorem dX5_init_59 : decode cX5_init 59 = .ok (.putfield 42, 3) := ta_cX5_init_39 (59, (.putfield 42, 3)) (List.mem_of_getElem? (i := 28) rfl)
theorem dX5_init_62 : decode cX5_init 62 = .ok (.aload_n 0, 1) := ta_cX5_init_39 (62, (.aload_n 0, 1)) (List.mem_of_getElem? (i := 29) rfl)
theorem dX5_init_63 : decode cX5_init 63 = .ok (.bipush 30, 2) := ta_cX5_init_39 (63, (.bipush 30, 2)) (List.mem_of_getElem? (i := 30) rfl)
theorem dX5_init_65 : decode cX5_init 65 = .ok (.putfield 45, 3) := ta_cX5_init_39 (65, (.putfield 45, 3)) (List.mem_of_getElem? (i := 31) rfl)
theorem dX5_init_68 : decode cX5_init 68 = .ok (.aload_n 0, 1) := ta_cX5_init_39 (68, (.aload_n 0, 1)) (List.mem_of_getElem? (i := 32) rfl)
theorem dX5_init_69 : decode cX5_init 69 = .ok (.bipush 60, 2) := ta_cX5_init_39 (69, (.bipush 60, 2)) (List.mem_of_getElem? (i := 33) rfl)
theorem dX5_init_71 : decode cX5_init 71 = .ok (.putfield 48, 3) := ta_cX5_init_39 (71, (.putfield 48, 3)) (List.mem_of_getElem? (i := 34) rfl)
theorem dX5_init_74 : decode cX5_init 74 = .ok (.aload_n 0, 1) := ta_cX5_init_39 (74, (.aload_n 0, 1)) (List.mem_of_getElem? (i := 35) rfl)
theorem dX5_init_75 : decode cX5_init 75 = .ok (.bipush 20, 2) := ta_cX5_init_39 (75, (.bipush 20, 2)) (List.mem_of_getElem? (i := 36) rfl)
theorem dX5_init_77 : decode cX5_init 77 = .ok (.newarray .int, 2) := ta_cX5_init_39 (77, (.newarray .int, 2)) (List.mem_of_getElem? (i := 37) rfl)
theorem dX5_init_79 : decode cX5_init 79 = .ok (.putfield 51, 3) := ta_cX5_init_39 (79, (.putfield 51, 3)) (List.mem_of_getElem? (i := 38) rfl)
theorem dX5_init_82 : decode cX5_init 82 = .ok (.aload_n 0, 1) := ta_cX5_init_39 (82, (.aload_n 0, 1)) (List.mem_of_getElem? (i := 39) rfl)
theorem dX5_init_83 : decode cX5_init 83 = .ok (.iconst 0, 1) := ta_cX5_init_39 (83, (.iconst 0, 1)) (List.mem_of_getElem? (i := 40) rfl)
theorem dX5_init_84 : decode cX5_init 84 = .ok (.putfield 55, 3) := ta_cX5_init_39 (84, (.putfield 55, 3)) (List.mem_of_getElem? (i := 41) rfl)
theorem dX5_init_87 : decode cX5_init 87 = .ok (.aload_n 0, 1) := ta_cX5_init_39 (87, (.aload_n 0, 1)) (List.mem_of_getElem? (i := 42) rfl)
theorem dX5_init_88 : decode cX5_init 88 = .ok (.iconst 4, 1) := ta_cX5_init_39 (88, (.iconst 4, 1)) (List.mem_of_getElem? (i := 43) rfl)
theorem dX5_init_89 : decode cX5_init 89 = .ok (.anewarray 58, 3) := ta_cX5_init_39 (89, (.anewarray 58, 3)) (List.mem_of_getElem? (i := 44) rfl)
theorem dX5_init_92 : decode cX5_init 92 = .ok (.putfield 60, 3) := ta_cX5_init_39 (92, (.putfield 60, 3)) (List.mem_of_getElem? (i := 45) rfl)
theorem dX5_init_95 : decode cX5_init 95 = .ok (.aload_n 0, 1) := ta_cX5_init_39 (95, (.aload_n 0, 1)) (List.mem_of_getElem? (i := 46) rfl)
theorem dX5_init_96 : decode cX5_init 96 = .ok (.iconst 0, 1) := ta_cX5_init_39 (96, (.iconst 0, 1)) (List.mem_of_getElem? (i := 47) rfl)
theorem dX5_init_97 : decode cX5_init 97 = .ok (.putfield 64, 3) := ta_cX5_init_39 (97, (.putfield 64, 3)) (List.mem_of_getElem? (i := 48) rfl)
theorem dX5_init_100 : decode cX5_init 100 = .ok (.aload_n 0, 1) := ta_cX5_init_39 (100, (.aload_n 0, 1)) (List.mem_of_getElem? (i := 49) rfl)
def tb_cX5_init_40 : List (Nat × (Instr × Nat)) := [(101, (.iconst 0, 1)), (102, (.putfield 67, 3)), (105, (.aload_n 0, 1)), (106, (.getfield 24, 3)), (109, (.aload_n 0, 1)), (110, (.getfield 31, 3)), (113, (.invokevirtual 70, 3)), (116, (.iconst 0, 1)), (117, (.istore_n 1, 1)), (118, (.iload_n 1, 1)), (119, (.aload_n 0, 1)), (120, (.getfield 60, 3)), (123, (.arraylength, 1)), (124, (.if_icmp .ge 22, 3)), (127, (.aload_n 0, 1)), (128, (.getfield 60, 3)), (131, (.iload_n 1, 1)), (132, (.new 58, 3)), (135, (.dup, 1)), (136, (.invokespecial 74, 3)), (139, (.aastore, 1)), (140, (.iinc 1 1, 3)), (143, (.goto (-25), 3)), (146, (.return_, 1))]
set_option maxRecDepth 20000 in
theorem ta_cX5_init_40 : ∀ q ∈ tb_cX5_init_40, decode cX5_init q.1 = .ok q.2 := by decide +kernel
theorem dX5_init_101 : decode cX5_init 101 = .ok (.iconst 0, 1) := ta_cX5_init_40 (101, (.iconst 0, 1)) (List.mem_of_getElem? (i := 0) rfl)
theorem dX5_init_102 : decode cX5_init 102 = .ok (.putfield 67, 3) := ta_cX5_init_40 (102, (.putfield 67, 3)) (List.mem_of_getElem? (i := 1) rfl)
theorem dX5_init_105 : decode cX5_init 105 = .ok (.aload_n 0, 1) := ta_cX5_init_40 (105, (.aload_n 0, 1)) (List.mem_of_getElem? (i := 2) rfl)
theorem dX5_init_106 : decode cX5_init 106 = .ok (.getfield 24, 3) := ta_cX5_init_40 (106, (.getfield 24, 3)) (List.mem_of_getElem? (i := 3) rfl)
theorem dX5_init_109 : decode cX5_init 109 = .ok (.aload_n 0, 1) := ta_cX5_init_40 (109, (.aload_n 0, 1)) (List.mem_of_getElem? (i := 4) rfl)
theorem dX5_init_110 : decode cX5_init 110 = .ok (.getfield 31, 3) := ta_cX5_init_40 (110, (.getfield 31, 3)) (List.mem_of_getElem? (i := 5) rfl)
theorem dX5_init_113 : decode cX5_init 113 = .ok (.invokevirtual 70, 3) := ta_cX5_init_40 (113, (.invokevirtual 70, 3)) (List.mem_of_getElem? (i := 6) rfl)
theorem dX5_init_116 : decode cX5_init 116 = .ok (.iconst 0, 1) := ta_cX5_init_40 (116, (.iconst 0, 1)) (List.mem_of_getElem? (i := 7) rfl)
theorem dX5_init_117 : decode cX5_init 117 = .ok (.istore_n 1, 1) := ta_cX5_init_40 (117, (.istore_n 1, 1)) (List.mem_of_getElem? (i := 8) rfl)
theorem dX5_init_118 : decode cX5_init 118 = .ok (.iload_n 1, 1) := ta_cX5_init_40 (118, (.iload_n 1, 1)) (List.mem_of_getElem? (i := 9) rfl)
theorem dX5_init_119 : decode cX5_init 119 = .ok (.aload_n 0, 1) := ta_cX5_init_40 (119, (.aload_n 0, 1)) (List.mem_of_getElem? (i := 10) rfl)
theorem dX5_init_120 : decode cX5_init 120 = .ok (.getfield 60, 3) := ta_cX5_init_40 (120, (.getfield 60, 3)) (List.mem_of_getElem? (i := 11) rfl)
theorem dX5_init_123 : decode cX5_init 123 = .ok (.arraylength, 1) := ta_cX5_init_40 (123, (.arraylength, 1)) (List.mem_of_getElem? (i := 12) rfl)
theorem dX5_init_124 : decode cX5_init 124 = .ok (.if_icmp .ge 22, 3) := ta_cX5_init_40 (124, (.if_icmp .ge 22, 3)) (List.mem_of_getElem? (i := 13) rfl)
theorem dX5_init_127 : decode cX5_init 127 = .ok (.aload_n 0, 1) := ta_cX5_init_40 (127, (.aload_n 0, 1)) (List.mem_of_getElem? (i := 14) rfl)
theorem dX5_init_128 : decode cX5_init 128 = .ok (.getfield 60, 3) := ta_cX5_init_40 (128, (.getfield 60, 3)) (List.mem_of_getElem? (i := 15) rfl)
theorem dX5_init_131 : decode cX5_init 131 = .ok (.iload_n 1, 1) := ta_cX5_init_40 (131, (.iload_n 1, 1)) (List.mem_of_getElem? (i := 16) rfl)
theorem dX5_init_132 : decode cX5_init 132 = .ok (.new 58, 3) := ta_cX5_init_40 (132, (.new 58, 3)) (List.mem_of_getElem? (i := 17) rfl)
theorem dX5_init_135 : decode cX5_init 135 = .ok (.dup, 1) := ta_cX5_init_40 (135, (.dup, 1)) (List.mem_of_getElem? (i := 18) rfl)
theorem dX5_init_136 : decode cX5_init 136 = .ok (.invokespecial 74, 3) := ta_cX5_init_40 (136, (.invokespecial 74, 3)) (List.mem_of_getElem? (i := 19) rfl)
theorem dX5_init_139 : decode cX5_init 139 = .ok (.aastore, 1) := ta_cX5_init_40 (139, (.aastore, 1)) (List.mem_of_getElem? (i := 20) rfl)
theorem dX5_init_140 : decode cX5_init 140 = .ok (.iinc 1 1, 3) := ta_cX5_init_40 (140, (.iinc 1 1, 3)) (List.mem_of_getElem? (i := 21) rfl)
theorem dX5_init_143 : decode cX5_init 143 = .ok (.goto (-25), 3) := ta_cX5_init_40 (143, (.goto (-25), 3)) (List.mem_of_getElem? (i := 22) rfl)
theorem dX5_init_146 : decode cX5_init 146 = .ok (.return_, 1) := ta_cX5_init_40 (146, (.return_, 1)) (List.mem_of_getElem? (i := 23) rfl)
set_option maxRecDepth 20000 in
theorem ggX5_stone_X5_within : GoodIn wsX5_stone wsX5_within := goodIn_r _ [9] rfl (by decide +kernel)
set_option maxRecDepth 20000 in
theorem gX5_stone_X5_within : GoodIn wsX5_stone (va_wsS RX5 75 yX5_within wsX5_within) := goodIn_app (goodIn_r _ [6, 7, 8] rfl (by decide +kernel)) ggX5_stone_X5_within
set_option maxRecDepth 20000 in
theorem ggX5_stone_X3_init : GoodIn wsX5_stone wsX3_init := goodIn_r _ [12, 13, 14, 15, 16, 17, 18, 19, 20, 34, 35, 36, 37, 38] rfl (by decide +kernel)
set_option maxRecDepth 20000 in
theorem gX5_stone_X3_init : GoodIn wsX5_stone (wsX3_init) := ggX5_stone_X3_init
def tb_cX5_stone_41 : List (Nat × (Instr × Nat)) := [(0, (.iload_n 1, 1)), (1, (.iconst 1, 1)), (2, (.bipush 99, 2)), (4, (.invokestatic 75, 3)), (7, (.ifCond .eq 23, 3)), (10, (.iload_n 2, 1)), (11, (.iconst 1, 1)), (12, (.bipush 99, 2)), (14, (.invokestatic 75, 3)), (17, (.ifCond .eq 13, 3)), (20, (.iload_n 3, 1)), (21, (.iconst 0, 1)), (22, (.bipush 9, 2)), (24, (.invokestatic 75, 3)), (27, (.ifCond .ne 6, 3)), (30, (.bipush (-2), 2)), (32, (.ireturn, 1)), (33, (.aload_n 0, 1)), (34, (.getfield 17, 3)), (37, (.ifCond .lt 15, 3)), (40, (.aload_n 0, 1)), (41, (.getfield 17, 3)), (44, (.aload_n 0, 1)), (45, (.getfield 13, 3)), (48, (.arraylength, 1)), (49, (.if_icmp .lt 6, 3)), (52, (.bipush (-4), 2)), (54, (.ireturn, 1)), (55, (.aload_n 0, 1)), (56, (.getfield 13, 3)), (59, (.aload_n 0, 1)), (60, (.getfield 17, 3)), (63, (.new 11, 3)), (66, (.dup, 1)), (67, (.iload_n 1, 1)), (68, (.iload_n 2, 1)), (69, (.iload_n 3, 1)), (70, (.invokespecial 79, 3)), (73, (.aastore, 1)), (74, (.aload_n 0, 1)), (75, (.dup, 1)), (76, (.getfield 17, 3)), (79, (.iconst 1, 1)), (80, (.iadd, 1)), (81, (.putfield 17, 3)), (84, (.aload_n 0, 1)), (85, (.getfield 17, 3)), (88, (.iconst 1, 1)), (89, (.isub, 1)), (90, (.ireturn, 1))]
set_option maxRecDepth 20000 in
theorem ta_cX5_stone_41 : ∀ q ∈ tb_cX5_stone_41, decode cX5_stone q.1 = .ok q.2 := by decide +kernel
theorem dX5_stone_0 : decode cX5_stone 0 = .ok (.iload_n 1, 1) := ta_cX5_stone_41 (0, (.iload_n 1, 1)) (List.mem_of_getElem? (i := 0) rfl)
theorem dX5_stone_1 : decode cX5_stone 1 = .ok (.iconst 1, 1) := ta_cX5_stone_41 (1, (.iconst 1, 1)) (List.mem_of_getElem? (i := 1) rfl)
theorem dX5_stone_2 : decode cX5_stone 2 = .ok (.bipush 99, 2) := ta_cX5_stone_41 (2, (.bipush 99, 2)) (List.mem_of_getElem? (i := 2) rfl)
theorem dX5_stone_4 : decode cX5_stone 4 = .ok (.invokestatic 75, 3) := ta_cX5_stone_41 (4, (.invokestatic 75, 3)) (List.mem_of_getElem? (i := 3) rfl)
theorem dX5_stone_7 : decode cX5_stone 7 = .ok (.ifCond .eq 23, 3) := ta_cX5_stone_41 (7, (.ifCond .eq 23, 3)) (List.mem_of_getElem? (i := 4) rfl)
theorem dX5_stone_10 : decode cX5_stone 10 = .ok (.iload_n 2, 1) := ta_cX5_stone_41 (10, (.iload_n 2, 1)) (List.mem_of_getElem? (i := 5) rfl)
theorem dX5_stone_11 : decode cX5_stone 11 = .ok (.iconst 1, 1) := ta_cX5_stone_41 (11, (.iconst 1, 1)) (List.mem_of_getElem? (i := 6) rfl)
theorem dX5_stone_12 : decode cX5_stone 12 = .ok (.bipush 99, 2) := ta_cX5_stone_41 (12, (.bipush 99, 2)) (List.mem_of_getElem? (i := 7) rfl)
theorem dX5_stone_14 : decode cX5_stone 14 = .ok (.invokestatic 75, 3) := ta_cX5_stone_41 (14, (.invokestatic 75, 3)) (List.mem_of_getElem? (i := 8) rfl)
theorem dX5_stone_17 : decode cX5_stone 17 = .ok (.ifCond .eq 13, 3) := ta_cX5_stone_41 (17, (.ifCond .eq 13, 3)) (List.mem_of_getElem? (i := 9) rfl)
theorem dX5_stone_20 : decode cX5_stone 20 = .ok (.iload_n 3, 1) := ta_cX5_stone_41 (20, (.iload_n 3, 1)) (List.mem_of_getElem? (i := 10) rfl)
theorem dX5_stone_21 : decode cX5_stone 21 = .ok (.iconst 0, 1) := ta_cX5_stone_41 (21, (.iconst 0, 1)) (List.mem_of_getElem? (i := 11) rfl)
theorem dX5_stone_22 : decode cX5_stone 22 = .ok (.bipush 9, 2) := ta_cX5_stone_41 (22, (.bipush 9, 2)) (List.mem_of_getElem? (i := 12) rfl)
theorem dX5_stone_24 : decode cX5_stone 24 = .ok (.invokestatic 75, 3) := ta_cX5_stone_41 (24, (.invokestatic 75, 3)) (List.mem_of_getElem? (i := 13) rfl)
theorem dX5_stone_27 : decode cX5_stone 27 = .ok (.ifCond .ne 6, 3) := ta_cX5_stone_41 (27, (.ifCond .ne 6, 3)) (List.mem_of_getElem? (i := 14) rfl)
theorem dX5_stone_30 : decode cX5_stone 30 = .ok (.bipush (-2), 2) := ta_cX5_stone_41 (30, (.bipush (-2), 2)) (List.mem_of_getElem? (i := 15) rfl)
theorem dX5_stone_32 : decode cX5_stone 32 = .ok (.ireturn, 1) := ta_cX5_stone_41 (32, (.ireturn, 1)) (List.mem_of_getElem? (i := 16) rfl)
theorem dX5_stone_33 : decode cX5_stone 33 = .ok (.aload_n 0, 1) := ta_cX5_stone_41 (33, (.aload_n 0, 1)) (List.mem_of_getElem? (i := 17) rfl)
theorem dX5_stone_34 : decode cX5_stone 34 = .ok (.getfield 17, 3) := ta_cX5_stone_41 (34, (.getfield 17, 3)) (List.mem_of_getElem? (i := 18) rfl)
theorem dX5_stone_37 : decode cX5_stone 37 = .ok (.ifCond .lt 15, 3) := ta_cX5_stone_41 (37, (.ifCond .lt 15, 3)) (List.mem_of_getElem? (i := 19) rfl)
theorem dX5_stone_40 : decode cX5_stone 40 = .ok (.aload_n 0, 1) := ta_cX5_stone_41 (40, (.aload_n 0, 1)) (List.mem_of_getElem? (i := 20) rfl)
theorem dX5_stone_41 : decode cX5_stone 41 = .ok (.getfield 17, 3) := ta_cX5_stone_41 (41, (.getfield 17, 3)) (List.mem_of_getElem? (i := 21) rfl)
theorem dX5_stone_44 : decode cX5_stone 44 = .ok (.aload_n 0, 1) := ta_cX5_stone_41 (44, (.aload_n 0, 1)) (List.mem_of_getElem? (i := 22) rfl)
theorem dX5_stone_45 : decode cX5_stone 45 = .ok (.getfield 13, 3) := ta_cX5_stone_41 (45, (.getfield 13, 3)) (List.mem_of_getElem? (i := 23) rfl)
theorem dX5_stone_48 : decode cX5_stone 48 = .ok (.arraylength, 1) := ta_cX5_stone_41 (48, (.arraylength, 1)) (List.mem_of_getElem? (i := 24) rfl)
theorem dX5_stone_49 : decode cX5_stone 49 = .ok (.if_icmp .lt 6, 3) := ta_cX5_stone_41 (49, (.if_icmp .lt 6, 3)) (List.mem_of_getElem? (i := 25) rfl)
theorem dX5_stone_52 : decode cX5_stone 52 = .ok (.bipush (-4), 2) := ta_cX5_stone_41 (52, (.bipush (-4), 2)) (List.mem_of_getElem? (i := 26) rfl)
theorem dX5_stone_54 : decode cX5_stone 54 = .ok (.ireturn, 1) := ta_cX5_stone_41 (54, (.ireturn, 1)) (List.mem_of_getElem? (i := 27) rfl)
theorem dX5_stone_55 : decode cX5_stone 55 = .ok (.aload_n 0, 1) := ta_cX5_stone_41 (55, (.aload_n 0, 1)) (List.mem_of_getElem? (i := 28) rfl)
theorem dX5_stone_56 : decode cX5_stone 56 = .ok (.getfield 13, 3) := ta_cX5_stone_41 (56, (.getfield 13, 3)) (List.mem_of_getElem? (i := 29) rfl)
theorem dX5_stone_59 : decode cX5_stone 59 = .ok (.aload_n 0, 1) := ta_cX5_stone_41 (59, (.aload_n 0, 1)) (List.mem_of_getElem? (i := 30) rfl)
theorem dX5_stone_60 : decode cX5_stone 60 = .ok (.getfield 17, 3) := ta_cX5_stone_41 (60, (.getfield 17, 3)) (List.mem_of_getElem? (i := 31) rfl)
theorem dX5_stone_63 : decode cX5_stone 63 = .ok (.new 11, 3) := ta_cX5_stone_41 (63, (.new 11, 3)) (List.mem_of_getElem? (i := 32) rfl)
theorem dX5_stone_66 : decode cX5_stone 66 = .ok (.dup, 1) := ta_cX5_stone_41 (66, (.dup, 1)) (List.mem_of_getElem? (i := 33) rfl)
theorem dX5_stone_67 : decode cX5_stone 67 = .ok (.iload_n 1, 1) := ta_cX5_stone_41 (67, (.iload_n 1, 1)) (List.mem_of_getElem? (i := 34) rfl)
theorem dX5_stone_68 : decode cX5_stone 68 = .ok (.iload_n 2, 1) := ta_cX5_stone_41 (68, (.iload_n 2, 1)) (List.mem_of_getElem? (i := 35) rfl)
theorem dX5_stone_69 : decode cX5_stone 69 = .ok (.iload_n 3, 1) := ta_cX5_stone_41 (69, (.iload_n 3, 1)) (List.mem_of_getElem? (i := 36) rfl)
theorem dX5_stone_70 : decode cX5_stone 70 = .ok (.invokespecial 79, 3) := ta_cX5_stone_41 (70, (.invokespecial 79, 3)) (List.mem_of_getElem? (i := 37) rfl)
theorem dX5_stone_73 : decode cX5_stone 73 = .ok (.aastore, 1) := ta_cX5_stone_41 (73, (.aastore, 1)) (List.mem_of_getElem? (i := 38) rfl)
theorem dX5_stone_74 : decode cX5_stone 74 = .ok (.aload_n 0, 1) := ta_cX5_stone_41 (74, (.aload_n 0, 1)) (List.mem_of_getElem? (i := 39) rfl)
theorem dX5_stone_75 : decode cX5_stone 75 = .ok (.dup, 1) := ta_cX5_stone_41 (75, (.dup, 1)) (List.mem_of_getElem? (i := 40) rfl)
theorem dX5_stone_76 : decode cX5_stone 76 = .ok (.getfield 17, 3) := ta_cX5_stone_41 (76, (.getfield 17, 3)) (List.mem_of_getElem? (i := 41) rfl)
theorem dX5_stone_79 : decode cX5_stone 79 = .ok (.iconst 1, 1) := ta_cX5_stone_41 (79, (.iconst 1, 1)) (List.mem_of_getElem? (i := 42) rfl)
theorem dX5_stone_80 : decode cX5_stone 80 = .ok (.iadd, 1) := ta_cX5_stone_41 (80, (.iadd, 1)) (List.mem_of_getElem? (i := 43) rfl)
theorem dX5_stone_81 : decode cX5_stone 81 = .ok (.putfield 17, 3) := ta_cX5_stone_41 (81, (.putfield 17, 3)) (List.mem_of_getElem? (i := 44) rfl)
theorem dX5_stone_84 : decode cX5_stone 84 = .ok (.aload_n 0, 1) := ta_cX5_stone_41 (84, (.aload_n 0, 1)) (List.mem_of_getElem? (i := 45) rfl)
theorem dX5_stone_85 : decode cX5_stone 85 = .ok (.getfield 17, 3) := ta_cX5_stone_41 (85, (.getfield 17, 3)) (List.mem_of_getElem? (i := 46) rfl)
theorem dX5_stone_88 : decode cX5_stone 88 = .ok (.iconst 1, 1) := ta_cX5_stone_41 (88, (.iconst 1, 1)) (List.mem_of_getElem? (i := 47) rfl)
theorem dX5_stone_89 : decode cX5_stone 89 = .ok (.isub, 1) := ta_cX5_stone_41 (89, (.isub, 1)) (List.mem_of_getElem? (i := 48) rfl)
theorem dX5_stone_90 : decode cX5_stone 90 = .ok (.ireturn, 1) := ta_cX5_stone_41 (90, (.ireturn, 1)) (List.mem_of_getElem? (i := 49) rfl)
set_option maxRecDepth 20000 in
theorem ggX5_ofStone_X5_stoneAt : GoodIn wsX5_ofStone wsX5_stoneAt := goodIn_r _ [10, 11, 12, 18, 19, 20, 21, 22, 23, 24, 25, 26, 27, 28, 29, 30] rfl (by decide +kernel)
set_option maxRecDepth 20000 in
theorem gX5_ofStone_X5_stoneAt : GoodIn wsX5_ofStone (wsV RX5 82 RX5 yX5_stoneAt wsX5_stoneAt) := goodIn_app (goodIn_r _ [6, 7, 8, 9] rfl (by decide +kernel)) ggX5_ofStone_X5_stoneAt
def tb_cX5_ofStone_42 : List (Nat × (Instr × Nat)) := [(0, (.aload_n 0, 1)), (1, (.iload_n 1, 1)), (2, (.invokevirtual 82, 3)), (5, (.astore_n 3, 1)), (6, (.aload_n 3, 1)), (7, (.ifnonnull 5, 3)), (10, (.iconst (-1), 1)), (11, (.ireturn, 1)), (12, (.iload_n 2, 1)), (13, (.tableswitch 60 0 4 #[35, 40, 45, 50, 55], 35)), (48, (.aload_n 3, 1)), (49, (.getfield 86, 3)), (52, (.ireturn, 1)), (53, (.aload_n 3, 1)), (54, (.getfield 89, 3)), (57, (.ireturn, 1)), (58, (.aload_n 3, 1)), (59, (.getfield 92, 3)), (62, (.ireturn, 1)), (63, (.aload_n 3, 1)), (64, (.getfield 95, 3)), (67, (.ireturn, 1)), (68, (.aload_n 3, 1)), (69, (.getfield 98, 3)), (72, (.ireturn, 1)), (73, (.bipush (-2), 2)), (75, (.ireturn, 1))]
set_option maxRecDepth 20000 in
theorem ta_cX5_ofStone_42 : ∀ q ∈ tb_cX5_ofStone_42, decode cX5_ofStone q.1 = .ok q.2 := by decide +kernel
theorem dX5_ofStone_0 : decode cX5_ofStone 0 = .ok (.aload_n 0, 1) := ta_cX5_ofStone_42 (0, (.aload_n 0, 1)) (List.mem_of_getElem? (i := 0) rfl)
theorem dX5_ofStone_1 : decode cX5_ofStone 1 = .ok (.iload_n 1, 1) := ta_cX5_ofStone_42 (1, (.iload_n 1, 1)) (List.mem_of_getElem? (i := 1) rfl)
theorem dX5_ofStone_2 : decode cX5_ofStone 2 = .ok (.invokevirtual 82, 3) := ta_cX5_ofStone_42 (2, (.invokevirtual 82, 3)) (List.mem_of_getElem? (i := 2) rfl)
theorem dX5_ofStone_5 : decode cX5_ofStone 5 = .ok (.astore_n 3, 1) := ta_cX5_ofStone_42 (5, (.astore_n 3, 1)) (List.mem_of_getElem? (i := 3) rfl)
theorem dX5_ofStone_6 : decode cX5_ofStone 6 = .ok (.aload_n 3, 1) := ta_cX5_ofStone_42 (6, (.aload_n 3, 1)) (List.mem_of_getElem? (i := 4) rfl)
theorem dX5_ofStone_7 : decode cX5_ofStone 7 = .ok (.ifnonnull 5, 3) := ta_cX5_ofStone_42 (7, (.ifnonnull 5, 3)) (List.mem_of_getElem? (i := 5) rfl)
theorem dX5_ofStone_10 : decode cX5_ofStone 10 = .ok (.iconst (-1), 1) := ta_cX5_ofStone_42 (10, (.iconst (-1), 1)) (List.mem_of_getElem? (i := 6) rfl)
theorem dX5_ofStone_11 : decode cX5_ofStone 11 = .ok (.ireturn, 1) := ta_cX5_ofStone_42 (11, (.ireturn, 1)) (List.mem_of_getElem? (i := 7) rfl)
theorem dX5_ofStone_12 : decode cX5_ofStone 12 = .ok (.iload_n 2, 1) := ta_cX5_ofStone_42 (12, (.iload_n 2, 1)) (List.mem_of_getElem? (i := 8) rfl)
theorem dX5_ofStone_13 : decode cX5_ofStone 13 = .ok (.tableswitch 60 0 4 #[35, 40, 45, 50, 55], 35) := ta_cX5_ofStone_42 (13, (.tableswitch 60 0 4 #[35, 40, 45, 50, 55], 35)) (List.mem_of_getElem? (i := 9) rfl)
theorem dX5_ofStone_48 : decode cX5_ofStone 48 = .ok (.aload_n 3, 1) := ta_cX5_ofStone_42 (48, (.aload_n 3, 1)) (List.mem_of_getElem? (i := 10) rfl)
theorem dX5_ofStone_49 : decode cX5_ofStone 49 = .ok (.getfield 86, 3) := ta_cX5_ofStone_42 (49, (.getfield 86, 3)) (List.mem_of_getElem? (i := 11) rfl)
theorem dX5_ofStone_52 : decode cX5_ofStone 52 = .ok (.ireturn, 1) := ta_cX5_ofStone_42 (52, (.ireturn, 1)) (List.mem_of_getElem? (i := 12) rfl)
theorem dX5_ofStone_53 : decode cX5_ofStone 53 = .ok (.aload_n 3, 1) := ta_cX5_ofStone_42 (53, (.aload_n 3, 1)) (List.mem_of_getElem? (i := 13) rfl)
theorem dX5_ofStone_54 : decode cX5_ofStone 54 = .ok (.getfield 89, 3) := ta_cX5_ofStone_42 (54, (.getfield 89, 3)) (List.mem_of_getElem? (i := 14) rfl)
theorem dX5_ofStone_57 : decode cX5_ofStone 57 = .ok (.ireturn, 1) := ta_cX5_ofStone_42 (57, (.ireturn, 1)) (List.mem_of_getElem? (i := 15) rfl)
theorem dX5_ofStone_58 : decode cX5_ofStone 58 = .ok (.aload_n 3, 1) := ta_cX5_ofStone_42 (58, (.aload_n 3, 1)) (List.mem_of_getElem? (i := 16) rfl)
theorem dX5_ofStone_59 : decode cX5_ofStone 59 = .ok (.getfield 92, 3) := ta_cX5_ofStone_42 (59, (.getfield 92, 3)) (List.mem_of_getElem? (i := 17) rfl)
theorem dX5_ofStone_62 : decode cX5_ofStone 62 = .ok (.ireturn, 1) := ta_cX5_ofStone_42 (62, (.ireturn, 1)) (List.mem_of_getElem? (i := 18) rfl)
theorem dX5_ofStone_63 : decode cX5_ofStone 63 = .ok (.aload_n 3, 1) := ta_cX5_ofStone_42 (63, (.aload_n 3, 1)) (List.mem_of_getElem? (i := 19) rfl)
theorem dX5_ofStone_64 : decode cX5_ofStone 64 = .ok (.getfield 95, 3) := ta_cX5_ofStone_42 (64, (.getfield 95, 3)) (List.mem_of_getElem? (i := 20) rfl)
theorem dX5_ofStone_67 : decode cX5_ofStone 67 = .ok (.ireturn, 1) := ta_cX5_ofStone_42 (67, (.ireturn, 1)) (List.mem_of_getElem? (i := 21) rfl)
theorem dX5_ofStone_68 : decode cX5_ofStone 68 = .ok (.aload_n 3, 1) := ta_cX5_ofStone_42 (68, (.aload_n 3, 1)) (List.mem_of_getElem? (i := 22) rfl)
theorem dX5_ofStone_69 : decode cX5_ofStone 69 = .ok (.getfield 98, 3) := ta_cX5_ofStone_42 (69, (.getfield 98, 3)) (List.mem_of_getElem? (i := 23) rfl)
theorem dX5_ofStone_72 : decode cX5_ofStone 72 = .ok (.ireturn, 1) := ta_cX5_ofStone_42 (72, (.ireturn, 1)) (List.mem_of_getElem? (i := 24) rfl)
theorem dX5_ofStone_73 : decode cX5_ofStone 73 = .ok (.bipush (-2), 2) := ta_cX5_ofStone_42 (73, (.bipush (-2), 2)) (List.mem_of_getElem? (i := 25) rfl)
theorem dX5_ofStone_75 : decode cX5_ofStone 75 = .ok (.ireturn, 1) := ta_cX5_ofStone_42 (75, (.ireturn, 1)) (List.mem_of_getElem? (i := 26) rfl)
set_option maxRecDepth 20000 in
theorem ggX5_law_X5_refusalOfCells : GoodIn wsX5_law wsX5_refusalOfCells := goodIn_r _ [8, 9, 10, 11, 12, 7, 13, 14, 15, 16, 17, 18, 19, 20, 21, 22, 23, 24, 25, 26, 27, 28, 29, 30, 31, 32, 33, 34, 35, 36, 105, 106, 107, 108, 109, 110, 111, 112, 113, 114, 115, 116, 117, 125, 126, 127, 128] rfl (by decide +kernel)
set_option maxRecDepth 20000 in
theorem gX5_law_X5_refusalOfCells : GoodIn wsX5_law (wsV RX5 101 RX5 yX5_refusalOfCells wsX5_refusalOfCells) := goodIn_app (goodIn_r _ [4, 5, 6, 7] rfl (by decide +kernel)) ggX5_law_X5_refusalOfCells
set_option maxRecDepth 20000 in
theorem ggX5_law_X5_sheetAt : GoodIn wsX5_law wsX5_sheetAt := goodIn_r _ [13, 14, 105, 106, 107, 108, 109, 110, 111, 112, 113, 114, 115, 116, 117] rfl (by decide +kernel)
set_option maxRecDepth 20000 in
theorem gX5_law_X5_sheetAt : GoodIn wsX5_law (wsV RX5 105 RX5 yX5_sheetAt wsX5_sheetAt) := goodIn_app (goodIn_r _ [10, 11, 12, 7] rfl (by decide +kernel)) ggX5_law_X5_sheetAt
set_option maxRecDepth 20000 in
theorem ggX5_law_X1_firstFault : GoodIn wsX5_law wsX1_firstFault := goodIn_r _ [41, 42, 43, 44, 45, 46, 47, 48, 49, 50, 51, 52, 53, 54, 55, 56, 57, 58, 59, 40, 60, 61, 62, 63, 64, 65, 66, 67, 68, 69, 70, 71, 24, 72, 73, 74, 75, 76, 77, 36, 78, 79, 80, 81, 82, 83, 84, 85, 19, 7, 20, 86, 87, 88, 89, 118, 119, 120, 121, 122, 123, 124, 125, 126, 127, 128] rfl (by decide +kernel)
set_option maxRecDepth 20000 in
theorem gX5_law_X1_firstFault : GoodIn wsX5_law (wsV RX5 109 RX1 yX1_firstFault wsX1_firstFault) := goodIn_app (goodIn_r _ [37, 38, 39, 40] rfl (by decide +kernel)) ggX5_law_X1_firstFault
set_option maxRecDepth 20000 in
theorem ggX5_law_X4_takeLaw : GoodIn wsX5_law wsX4_takeLaw := goodIn_r _ [94, 95, 96, 97, 98, 99, 100, 101, 102, 103, 40, 104, 47, 129, 130, 131, 132, 133, 134, 135, 136, 137, 118, 119, 120, 121, 122, 123, 124] rfl (by decide +kernel)
set_option maxRecDepth 20000 in
theorem gX5_law_X4_takeLaw : GoodIn wsX5_law (wsV RX5 70 RX4 yX4_takeLaw wsX4_takeLaw) := goodIn_app (goodIn_r _ [90, 91, 92, 93] rfl (by decide +kernel)) ggX5_law_X4_takeLaw
def tb_cX5_law_43 : List (Nat × (Instr × Nat)) := [(0, (.aload_n 0, 1)), (1, (.iload_n 1, 1)), (2, (.iload_n 2, 1)), (3, (.iload_n 3, 1)), (4, (.iload 4, 2)), (6, (.invokevirtual 101, 3)), (9, (.istore 5, 2)), (11, (.iload 5, 2)), (13, (.ifCond .eq 6, 3)), (16, (.iload 5, 2)), (18, (.ireturn, 1)), (19, (.aload_n 0, 1)), (20, (.getfield 31, 3)), (23, (.aload_n 0, 1)), (24, (.iload_n 1, 1)), (25, (.invokevirtual 105, 3)), (28, (.iload_n 3, 1)), (29, (.iload 4, 2)), (31, (.invokevirtual 109, 3)), (34, (.istore 6, 2)), (36, (.iload 6, 2)), (38, (.ifCond .lt 9, 3)), (41, (.bipush (-100), 2)), (43, (.iload 6, 2)), (45, (.isub, 1)), (46, (.ireturn, 1)), (47, (.aload_n 0, 1)), (48, (.getfield 24, 3)), (51, (.aload_n 0, 1)), (52, (.getfield 31, 3)), (55, (.invokevirtual 70, 3)), (58, (.aload_n 0, 1)), (59, (.getfield 31, 3)), (62, (.getfield 113, 3)), (65, (.ireturn, 1))]
set_option maxRecDepth 20000 in
theorem ta_cX5_law_43 : ∀ q ∈ tb_cX5_law_43, decode cX5_law q.1 = .ok q.2 := by decide +kernel
theorem dX5_law_0 : decode cX5_law 0 = .ok (.aload_n 0, 1) := ta_cX5_law_43 (0, (.aload_n 0, 1)) (List.mem_of_getElem? (i := 0) rfl)
theorem dX5_law_1 : decode cX5_law 1 = .ok (.iload_n 1, 1) := ta_cX5_law_43 (1, (.iload_n 1, 1)) (List.mem_of_getElem? (i := 1) rfl)
theorem dX5_law_2 : decode cX5_law 2 = .ok (.iload_n 2, 1) := ta_cX5_law_43 (2, (.iload_n 2, 1)) (List.mem_of_getElem? (i := 2) rfl)
theorem dX5_law_3 : decode cX5_law 3 = .ok (.iload_n 3, 1) := ta_cX5_law_43 (3, (.iload_n 3, 1)) (List.mem_of_getElem? (i := 3) rfl)
theorem dX5_law_4 : decode cX5_law 4 = .ok (.iload 4, 2) := ta_cX5_law_43 (4, (.iload 4, 2)) (List.mem_of_getElem? (i := 4) rfl)
theorem dX5_law_6 : decode cX5_law 6 = .ok (.invokevirtual 101, 3) := ta_cX5_law_43 (6, (.invokevirtual 101, 3)) (List.mem_of_getElem? (i := 5) rfl)
theorem dX5_law_9 : decode cX5_law 9 = .ok (.istore 5, 2) := ta_cX5_law_43 (9, (.istore 5, 2)) (List.mem_of_getElem? (i := 6) rfl)
theorem dX5_law_11 : decode cX5_law 11 = .ok (.iload 5, 2) := ta_cX5_law_43 (11, (.iload 5, 2)) (List.mem_of_getElem? (i := 7) rfl)
theorem dX5_law_13 : decode cX5_law 13 = .ok (.ifCond .eq 6, 3) := ta_cX5_law_43 (13, (.ifCond .eq 6, 3)) (List.mem_of_getElem? (i := 8) rfl)
theorem dX5_law_16 : decode cX5_law 16 = .ok (.iload 5, 2) := ta_cX5_law_43 (16, (.iload 5, 2)) (List.mem_of_getElem? (i := 9) rfl)
theorem dX5_law_18 : decode cX5_law 18 = .ok (.ireturn, 1) := ta_cX5_law_43 (18, (.ireturn, 1)) (List.mem_of_getElem? (i := 10) rfl)
theorem dX5_law_19 : decode cX5_law 19 = .ok (.aload_n 0, 1) := ta_cX5_law_43 (19, (.aload_n 0, 1)) (List.mem_of_getElem? (i := 11) rfl)
theorem dX5_law_20 : decode cX5_law 20 = .ok (.getfield 31, 3) := ta_cX5_law_43 (20, (.getfield 31, 3)) (List.mem_of_getElem? (i := 12) rfl)
theorem dX5_law_23 : decode cX5_law 23 = .ok (.aload_n 0, 1) := ta_cX5_law_43 (23, (.aload_n 0, 1)) (List.mem_of_getElem? (i := 13) rfl)
theorem dX5_law_24 : decode cX5_law 24 = .ok (.iload_n 1, 1) := ta_cX5_law_43 (24, (.iload_n 1, 1)) (List.mem_of_getElem? (i := 14) rfl)
theorem dX5_law_25 : decode cX5_law 25 = .ok (.invokevirtual 105, 3) := ta_cX5_law_43 (25, (.invokevirtual 105, 3)) (List.mem_of_getElem? (i := 15) rfl)
theorem dX5_law_28 : decode cX5_law 28 = .ok (.iload_n 3, 1) := ta_cX5_law_43 (28, (.iload_n 3, 1)) (List.mem_of_getElem? (i := 16) rfl)
theorem dX5_law_29 : decode cX5_law 29 = .ok (.iload 4, 2) := ta_cX5_law_43 (29, (.iload 4, 2)) (List.mem_of_getElem? (i := 17) rfl)
theorem dX5_law_31 : decode cX5_law 31 = .ok (.invokevirtual 109, 3) := ta_cX5_law_43 (31, (.invokevirtual 109, 3)) (List.mem_of_getElem? (i := 18) rfl)
theorem dX5_law_34 : decode cX5_law 34 = .ok (.istore 6, 2) := ta_cX5_law_43 (34, (.istore 6, 2)) (List.mem_of_getElem? (i := 19) rfl)
theorem dX5_law_36 : decode cX5_law 36 = .ok (.iload 6, 2) := ta_cX5_law_43 (36, (.iload 6, 2)) (List.mem_of_getElem? (i := 20) rfl)
theorem dX5_law_38 : decode cX5_law 38 = .ok (.ifCond .lt 9, 3) := ta_cX5_law_43 (38, (.ifCond .lt 9, 3)) (List.mem_of_getElem? (i := 21) rfl)
theorem dX5_law_41 : decode cX5_law 41 = .ok (.bipush (-100), 2) := ta_cX5_law_43 (41, (.bipush (-100), 2)) (List.mem_of_getElem? (i := 22) rfl)
theorem dX5_law_43 : decode cX5_law 43 = .ok (.iload 6, 2) := ta_cX5_law_43 (43, (.iload 6, 2)) (List.mem_of_getElem? (i := 23) rfl)
theorem dX5_law_45 : decode cX5_law 45 = .ok (.isub, 1) := ta_cX5_law_43 (45, (.isub, 1)) (List.mem_of_getElem? (i := 24) rfl)
theorem dX5_law_46 : decode cX5_law 46 = .ok (.ireturn, 1) := ta_cX5_law_43 (46, (.ireturn, 1)) (List.mem_of_getElem? (i := 25) rfl)
theorem dX5_law_47 : decode cX5_law 47 = .ok (.aload_n 0, 1) := ta_cX5_law_43 (47, (.aload_n 0, 1)) (List.mem_of_getElem? (i := 26) rfl)
theorem dX5_law_48 : decode cX5_law 48 = .ok (.getfield 24, 3) := ta_cX5_law_43 (48, (.getfield 24, 3)) (List.mem_of_getElem? (i := 27) rfl)
theorem dX5_law_51 : decode cX5_law 51 = .ok (.aload_n 0, 1) := ta_cX5_law_43 (51, (.aload_n 0, 1)) (List.mem_of_getElem? (i := 28) rfl)
theorem dX5_law_52 : decode cX5_law 52 = .ok (.getfield 31, 3) := ta_cX5_law_43 (52, (.getfield 31, 3)) (List.mem_of_getElem? (i := 29) rfl)
theorem dX5_law_55 : decode cX5_law 55 = .ok (.invokevirtual 70, 3) := ta_cX5_law_43 (55, (.invokevirtual 70, 3)) (List.mem_of_getElem? (i := 30) rfl)
theorem dX5_law_58 : decode cX5_law 58 = .ok (.aload_n 0, 1) := ta_cX5_law_43 (58, (.aload_n 0, 1)) (List.mem_of_getElem? (i := 31) rfl)
theorem dX5_law_59 : decode cX5_law 59 = .ok (.getfield 31, 3) := ta_cX5_law_43 (59, (.getfield 31, 3)) (List.mem_of_getElem? (i := 32) rfl)
theorem dX5_law_62 : decode cX5_law 62 = .ok (.getfield 113, 3) := ta_cX5_law_43 (62, (.getfield 113, 3)) (List.mem_of_getElem? (i := 33) rfl)
theorem dX5_law_65 : decode cX5_law 65 = .ok (.ireturn, 1) := ta_cX5_law_43 (65, (.ireturn, 1)) (List.mem_of_getElem? (i := 34) rfl)
def tb_cX5_rule_44 : List (Nat × (Instr × Nat)) := [(0, (.iload_n 1, 1)), (1, (.tableswitch 87 0 5 #[39, 47, 55, 63, 71, 79], 39)), (40, (.aload_n 0, 1)), (41, (.getfield 24, 3)), (44, (.getfield 116, 3)), (47, (.ireturn, 1)), (48, (.aload_n 0, 1)), (49, (.getfield 24, 3)), (52, (.getfield 119, 3)), (55, (.ireturn, 1)), (56, (.aload_n 0, 1)), (57, (.getfield 24, 3)), (60, (.getfield 122, 3)), (63, (.ireturn, 1)), (64, (.aload_n 0, 1)), (65, (.getfield 24, 3)), (68, (.getfield 125, 3)), (71, (.ireturn, 1)), (72, (.aload_n 0, 1)), (73, (.getfield 24, 3)), (76, (.getfield 128, 3)), (79, (.ireturn, 1)), (80, (.aload_n 0, 1)), (81, (.getfield 24, 3)), (84, (.getfield 131, 3)), (87, (.ireturn, 1)), (88, (.iconst (-1), 1)), (89, (.ireturn, 1))]
set_option maxRecDepth 20000 in
theorem ta_cX5_rule_44 : ∀ q ∈ tb_cX5_rule_44, decode cX5_rule q.1 = .ok q.2 := by decide +kernel
theorem dX5_rule_0 : decode cX5_rule 0 = .ok (.iload_n 1, 1) := ta_cX5_rule_44 (0, (.iload_n 1, 1)) (List.mem_of_getElem? (i := 0) rfl)
theorem dX5_rule_1 : decode cX5_rule 1 = .ok (.tableswitch 87 0 5 #[39, 47, 55, 63, 71, 79], 39) := ta_cX5_rule_44 (1, (.tableswitch 87 0 5 #[39, 47, 55, 63, 71, 79], 39)) (List.mem_of_getElem? (i := 1) rfl)
theorem dX5_rule_40 : decode cX5_rule 40 = .ok (.aload_n 0, 1) := ta_cX5_rule_44 (40, (.aload_n 0, 1)) (List.mem_of_getElem? (i := 2) rfl)
theorem dX5_rule_41 : decode cX5_rule 41 = .ok (.getfield 24, 3) := ta_cX5_rule_44 (41, (.getfield 24, 3)) (List.mem_of_getElem? (i := 3) rfl)
theorem dX5_rule_44 : decode cX5_rule 44 = .ok (.getfield 116, 3) := ta_cX5_rule_44 (44, (.getfield 116, 3)) (List.mem_of_getElem? (i := 4) rfl)
theorem dX5_rule_47 : decode cX5_rule 47 = .ok (.ireturn, 1) := ta_cX5_rule_44 (47, (.ireturn, 1)) (List.mem_of_getElem? (i := 5) rfl)
theorem dX5_rule_48 : decode cX5_rule 48 = .ok (.aload_n 0, 1) := ta_cX5_rule_44 (48, (.aload_n 0, 1)) (List.mem_of_getElem? (i := 6) rfl)
theorem dX5_rule_49 : decode cX5_rule 49 = .ok (.getfield 24, 3) := ta_cX5_rule_44 (49, (.getfield 24, 3)) (List.mem_of_getElem? (i := 7) rfl)
theorem dX5_rule_52 : decode cX5_rule 52 = .ok (.getfield 119, 3) := ta_cX5_rule_44 (52, (.getfield 119, 3)) (List.mem_of_getElem? (i := 8) rfl)
theorem dX5_rule_55 : decode cX5_rule 55 = .ok (.ireturn, 1) := ta_cX5_rule_44 (55, (.ireturn, 1)) (List.mem_of_getElem? (i := 9) rfl)
theorem dX5_rule_56 : decode cX5_rule 56 = .ok (.aload_n 0, 1) := ta_cX5_rule_44 (56, (.aload_n 0, 1)) (List.mem_of_getElem? (i := 10) rfl)
theorem dX5_rule_57 : decode cX5_rule 57 = .ok (.getfield 24, 3) := ta_cX5_rule_44 (57, (.getfield 24, 3)) (List.mem_of_getElem? (i := 11) rfl)
theorem dX5_rule_60 : decode cX5_rule 60 = .ok (.getfield 122, 3) := ta_cX5_rule_44 (60, (.getfield 122, 3)) (List.mem_of_getElem? (i := 12) rfl)
theorem dX5_rule_63 : decode cX5_rule 63 = .ok (.ireturn, 1) := ta_cX5_rule_44 (63, (.ireturn, 1)) (List.mem_of_getElem? (i := 13) rfl)
theorem dX5_rule_64 : decode cX5_rule 64 = .ok (.aload_n 0, 1) := ta_cX5_rule_44 (64, (.aload_n 0, 1)) (List.mem_of_getElem? (i := 14) rfl)
theorem dX5_rule_65 : decode cX5_rule 65 = .ok (.getfield 24, 3) := ta_cX5_rule_44 (65, (.getfield 24, 3)) (List.mem_of_getElem? (i := 15) rfl)
theorem dX5_rule_68 : decode cX5_rule 68 = .ok (.getfield 125, 3) := ta_cX5_rule_44 (68, (.getfield 125, 3)) (List.mem_of_getElem? (i := 16) rfl)
theorem dX5_rule_71 : decode cX5_rule 71 = .ok (.ireturn, 1) := ta_cX5_rule_44 (71, (.ireturn, 1)) (List.mem_of_getElem? (i := 17) rfl)
theorem dX5_rule_72 : decode cX5_rule 72 = .ok (.aload_n 0, 1) := ta_cX5_rule_44 (72, (.aload_n 0, 1)) (List.mem_of_getElem? (i := 18) rfl)
theorem dX5_rule_73 : decode cX5_rule 73 = .ok (.getfield 24, 3) := ta_cX5_rule_44 (73, (.getfield 24, 3)) (List.mem_of_getElem? (i := 19) rfl)
theorem dX5_rule_76 : decode cX5_rule 76 = .ok (.getfield 128, 3) := ta_cX5_rule_44 (76, (.getfield 128, 3)) (List.mem_of_getElem? (i := 20) rfl)
theorem dX5_rule_79 : decode cX5_rule 79 = .ok (.ireturn, 1) := ta_cX5_rule_44 (79, (.ireturn, 1)) (List.mem_of_getElem? (i := 21) rfl)
theorem dX5_rule_80 : decode cX5_rule 80 = .ok (.aload_n 0, 1) := ta_cX5_rule_44 (80, (.aload_n 0, 1)) (List.mem_of_getElem? (i := 22) rfl)
theorem dX5_rule_81 : decode cX5_rule 81 = .ok (.getfield 24, 3) := ta_cX5_rule_44 (81, (.getfield 24, 3)) (List.mem_of_getElem? (i := 23) rfl)
theorem dX5_rule_84 : decode cX5_rule 84 = .ok (.getfield 131, 3) := ta_cX5_rule_44 (84, (.getfield 131, 3)) (List.mem_of_getElem? (i := 24) rfl)
theorem dX5_rule_87 : decode cX5_rule 87 = .ok (.ireturn, 1) := ta_cX5_rule_44 (87, (.ireturn, 1)) (List.mem_of_getElem? (i := 25) rfl)
theorem dX5_rule_88 : decode cX5_rule 88 = .ok (.iconst (-1), 1) := ta_cX5_rule_44 (88, (.iconst (-1), 1)) (List.mem_of_getElem? (i := 26) rfl)
theorem dX5_rule_89 : decode cX5_rule 89 = .ok (.ireturn, 1) := ta_cX5_rule_44 (89, (.ireturn, 1)) (List.mem_of_getElem? (i := 27) rfl)
set_option maxRecDepth 20000 in
theorem ggX5_waves_X5_refusalOfRow : GoodIn wsX5_waves wsX5_refusalOfRow := goodIn_r _ [8, 9, 10, 11, 7, 12, 13, 14, 15, 16, 17, 18, 19, 20, 21, 22, 23, 24, 25, 26, 27, 28, 29, 30, 31, 32, 33, 34, 35, 36, 37, 38, 39, 40, 41, 42, 43, 44, 45, 46, 47, 48, 49, 54, 55, 56, 57, 58, 59, 60, 61, 62, 63, 64, 65, 66, 76, 77, 78, 79] rfl (by decide +kernel)
set_option maxRecDepth 20000 in
theorem gX5_waves_X5_refusalOfRow : GoodIn wsX5_waves (wsV RX5 134 RX5 yX5_refusalOfRow wsX5_refusalOfRow) := goodIn_app (goodIn_r _ [4, 5, 6, 7] rfl (by decide +kernel)) ggX5_waves_X5_refusalOfRow
set_option maxRecDepth 20000 in
theorem ggX5_waves_X5_takeCells : GoodIn wsX5_waves wsX5_takeCells := goodIn_r _ [53, 14, 15, 16, 7, 17, 18, 41, 42, 43, 28, 44, 45, 46, 47, 48, 49, 40, 54, 55, 56, 57, 58, 59, 60, 61, 62, 63, 64, 65, 66, 76, 77, 78, 79] rfl (by decide +kernel)
set_option maxRecDepth 20000 in
theorem gX5_waves_X5_takeCells : GoodIn wsX5_waves (wsV RX5 141 RX5 yX5_takeCells wsX5_takeCells) := goodIn_app (goodIn_r _ [50, 51, 52, 7] rfl (by decide +kernel)) ggX5_waves_X5_takeCells
def tb_cX5_waves_45 : List (Nat × (Instr × Nat)) := [(0, (.aload_n 0, 1)), (1, (.iload_n 1, 1)), (2, (.iload_n 2, 1)), (3, (.iload_n 3, 1)), (4, (.iload 4, 2)), (6, (.bipush (-9), 2)), (8, (.bipush 9, 2)), (10, (.invokevirtual 134, 3)), (13, (.istore 5, 2)), (15, (.iload 5, 2)), (17, (.ifCond .eq 6, 3)), (20, (.iload 5, 2)), (22, (.ireturn, 1)), (23, (.aload_n 0, 1)), (24, (.iload_n 1, 1)), (25, (.iload_n 3, 1)), (26, (.iload 4, 2)), (28, (.aload_n 0, 1)), (29, (.getfield 24, 3)), (32, (.getfield 138, 3)), (35, (.invokevirtual 141, 3)), (38, (.aload_n 0, 1)), (39, (.getfield 24, 3)), (42, (.iload 4, 2)), (44, (.putfield 145, 3)), (47, (.iload 4, 2)), (49, (.ireturn, 1))]
set_option maxRecDepth 20000 in
theorem ta_cX5_waves_45 : ∀ q ∈ tb_cX5_waves_45, decode cX5_waves q.1 = .ok q.2 := by decide +kernel
theorem dX5_waves_0 : decode cX5_waves 0 = .ok (.aload_n 0, 1) := ta_cX5_waves_45 (0, (.aload_n 0, 1)) (List.mem_of_getElem? (i := 0) rfl)
theorem dX5_waves_1 : decode cX5_waves 1 = .ok (.iload_n 1, 1) := ta_cX5_waves_45 (1, (.iload_n 1, 1)) (List.mem_of_getElem? (i := 1) rfl)
theorem dX5_waves_2 : decode cX5_waves 2 = .ok (.iload_n 2, 1) := ta_cX5_waves_45 (2, (.iload_n 2, 1)) (List.mem_of_getElem? (i := 2) rfl)
theorem dX5_waves_3 : decode cX5_waves 3 = .ok (.iload_n 3, 1) := ta_cX5_waves_45 (3, (.iload_n 3, 1)) (List.mem_of_getElem? (i := 3) rfl)
theorem dX5_waves_4 : decode cX5_waves 4 = .ok (.iload 4, 2) := ta_cX5_waves_45 (4, (.iload 4, 2)) (List.mem_of_getElem? (i := 4) rfl)
theorem dX5_waves_6 : decode cX5_waves 6 = .ok (.bipush (-9), 2) := ta_cX5_waves_45 (6, (.bipush (-9), 2)) (List.mem_of_getElem? (i := 5) rfl)
theorem dX5_waves_8 : decode cX5_waves 8 = .ok (.bipush 9, 2) := ta_cX5_waves_45 (8, (.bipush 9, 2)) (List.mem_of_getElem? (i := 6) rfl)
theorem dX5_waves_10 : decode cX5_waves 10 = .ok (.invokevirtual 134, 3) := ta_cX5_waves_45 (10, (.invokevirtual 134, 3)) (List.mem_of_getElem? (i := 7) rfl)
theorem dX5_waves_13 : decode cX5_waves 13 = .ok (.istore 5, 2) := ta_cX5_waves_45 (13, (.istore 5, 2)) (List.mem_of_getElem? (i := 8) rfl)
theorem dX5_waves_15 : decode cX5_waves 15 = .ok (.iload 5, 2) := ta_cX5_waves_45 (15, (.iload 5, 2)) (List.mem_of_getElem? (i := 9) rfl)
theorem dX5_waves_17 : decode cX5_waves 17 = .ok (.ifCond .eq 6, 3) := ta_cX5_waves_45 (17, (.ifCond .eq 6, 3)) (List.mem_of_getElem? (i := 10) rfl)
theorem dX5_waves_20 : decode cX5_waves 20 = .ok (.iload 5, 2) := ta_cX5_waves_45 (20, (.iload 5, 2)) (List.mem_of_getElem? (i := 11) rfl)
theorem dX5_waves_22 : decode cX5_waves 22 = .ok (.ireturn, 1) := ta_cX5_waves_45 (22, (.ireturn, 1)) (List.mem_of_getElem? (i := 12) rfl)
theorem dX5_waves_23 : decode cX5_waves 23 = .ok (.aload_n 0, 1) := ta_cX5_waves_45 (23, (.aload_n 0, 1)) (List.mem_of_getElem? (i := 13) rfl)
theorem dX5_waves_24 : decode cX5_waves 24 = .ok (.iload_n 1, 1) := ta_cX5_waves_45 (24, (.iload_n 1, 1)) (List.mem_of_getElem? (i := 14) rfl)
theorem dX5_waves_25 : decode cX5_waves 25 = .ok (.iload_n 3, 1) := ta_cX5_waves_45 (25, (.iload_n 3, 1)) (List.mem_of_getElem? (i := 15) rfl)
theorem dX5_waves_26 : decode cX5_waves 26 = .ok (.iload 4, 2) := ta_cX5_waves_45 (26, (.iload 4, 2)) (List.mem_of_getElem? (i := 16) rfl)
theorem dX5_waves_28 : decode cX5_waves 28 = .ok (.aload_n 0, 1) := ta_cX5_waves_45 (28, (.aload_n 0, 1)) (List.mem_of_getElem? (i := 17) rfl)
theorem dX5_waves_29 : decode cX5_waves 29 = .ok (.getfield 24, 3) := ta_cX5_waves_45 (29, (.getfield 24, 3)) (List.mem_of_getElem? (i := 18) rfl)
theorem dX5_waves_32 : decode cX5_waves 32 = .ok (.getfield 138, 3) := ta_cX5_waves_45 (32, (.getfield 138, 3)) (List.mem_of_getElem? (i := 19) rfl)
theorem dX5_waves_35 : decode cX5_waves 35 = .ok (.invokevirtual 141, 3) := ta_cX5_waves_45 (35, (.invokevirtual 141, 3)) (List.mem_of_getElem? (i := 20) rfl)
theorem dX5_waves_38 : decode cX5_waves 38 = .ok (.aload_n 0, 1) := ta_cX5_waves_45 (38, (.aload_n 0, 1)) (List.mem_of_getElem? (i := 21) rfl)
theorem dX5_waves_39 : decode cX5_waves 39 = .ok (.getfield 24, 3) := ta_cX5_waves_45 (39, (.getfield 24, 3)) (List.mem_of_getElem? (i := 22) rfl)
theorem dX5_waves_42 : decode cX5_waves 42 = .ok (.iload 4, 2) := ta_cX5_waves_45 (42, (.iload 4, 2)) (List.mem_of_getElem? (i := 23) rfl)
theorem dX5_waves_44 : decode cX5_waves 44 = .ok (.putfield 145, 3) := ta_cX5_waves_45 (44, (.putfield 145, 3)) (List.mem_of_getElem? (i := 24) rfl)
theorem dX5_waves_47 : decode cX5_waves 47 = .ok (.iload 4, 2) := ta_cX5_waves_45 (47, (.iload 4, 2)) (List.mem_of_getElem? (i := 25) rfl)
theorem dX5_waves_49 : decode cX5_waves 49 = .ok (.ireturn, 1) := ta_cX5_waves_45 (49, (.ireturn, 1)) (List.mem_of_getElem? (i := 26) rfl)
set_option maxRecDepth 20000 in
theorem ggX5_shift_X5_within : GoodIn wsX5_shift wsX5_within := goodIn_r _ [6] rfl (by decide +kernel)
set_option maxRecDepth 20000 in
theorem gX5_shift_X5_within : GoodIn wsX5_shift (va_wsS RX5 75 yX5_within wsX5_within) := goodIn_app (goodIn_r _ [3, 4, 5] rfl (by decide +kernel)) ggX5_shift_X5_within
def tb_cX5_shift_46 : List (Nat × (Instr × Nat)) := [(0, (.iload_n 1, 1)), (1, (.iconst 0, 1)), (2, (.bipush 19, 2)), (4, (.invokestatic 75, 3)), (7, (.ifCond .ne 6, 3)), (10, (.bipush (-2), 2)), (12, (.ireturn, 1)), (13, (.aload_n 0, 1)), (14, (.getfield 24, 3)), (17, (.getfield 148, 3)), (20, (.istore_n 2, 1)), (21, (.aload_n 0, 1)), (22, (.getfield 24, 3)), (25, (.iload_n 1, 1)), (26, (.putfield 148, 3)), (29, (.iload_n 2, 1)), (30, (.ireturn, 1))]
set_option maxRecDepth 20000 in
theorem ta_cX5_shift_46 : ∀ q ∈ tb_cX5_shift_46, decode cX5_shift q.1 = .ok q.2 := by decide +kernel
theorem dX5_shift_0 : decode cX5_shift 0 = .ok (.iload_n 1, 1) := ta_cX5_shift_46 (0, (.iload_n 1, 1)) (List.mem_of_getElem? (i := 0) rfl)
theorem dX5_shift_1 : decode cX5_shift 1 = .ok (.iconst 0, 1) := ta_cX5_shift_46 (1, (.iconst 0, 1)) (List.mem_of_getElem? (i := 1) rfl)
theorem dX5_shift_2 : decode cX5_shift 2 = .ok (.bipush 19, 2) := ta_cX5_shift_46 (2, (.bipush 19, 2)) (List.mem_of_getElem? (i := 2) rfl)
theorem dX5_shift_4 : decode cX5_shift 4 = .ok (.invokestatic 75, 3) := ta_cX5_shift_46 (4, (.invokestatic 75, 3)) (List.mem_of_getElem? (i := 3) rfl)
theorem dX5_shift_7 : decode cX5_shift 7 = .ok (.ifCond .ne 6, 3) := ta_cX5_shift_46 (7, (.ifCond .ne 6, 3)) (List.mem_of_getElem? (i := 4) rfl)
theorem dX5_shift_10 : decode cX5_shift 10 = .ok (.bipush (-2), 2) := ta_cX5_shift_46 (10, (.bipush (-2), 2)) (List.mem_of_getElem? (i := 5) rfl)
theorem dX5_shift_12 : decode cX5_shift 12 = .ok (.ireturn, 1) := ta_cX5_shift_46 (12, (.ireturn, 1)) (List.mem_of_getElem? (i := 6) rfl)
theorem dX5_shift_13 : decode cX5_shift 13 = .ok (.aload_n 0, 1) := ta_cX5_shift_46 (13, (.aload_n 0, 1)) (List.mem_of_getElem? (i := 7) rfl)
theorem dX5_shift_14 : decode cX5_shift 14 = .ok (.getfield 24, 3) := ta_cX5_shift_46 (14, (.getfield 24, 3)) (List.mem_of_getElem? (i := 8) rfl)
theorem dX5_shift_17 : decode cX5_shift 17 = .ok (.getfield 148, 3) := ta_cX5_shift_46 (17, (.getfield 148, 3)) (List.mem_of_getElem? (i := 9) rfl)
theorem dX5_shift_20 : decode cX5_shift 20 = .ok (.istore_n 2, 1) := ta_cX5_shift_46 (20, (.istore_n 2, 1)) (List.mem_of_getElem? (i := 10) rfl)
theorem dX5_shift_21 : decode cX5_shift 21 = .ok (.aload_n 0, 1) := ta_cX5_shift_46 (21, (.aload_n 0, 1)) (List.mem_of_getElem? (i := 11) rfl)
theorem dX5_shift_22 : decode cX5_shift 22 = .ok (.getfield 24, 3) := ta_cX5_shift_46 (22, (.getfield 24, 3)) (List.mem_of_getElem? (i := 12) rfl)
theorem dX5_shift_25 : decode cX5_shift 25 = .ok (.iload_n 1, 1) := ta_cX5_shift_46 (25, (.iload_n 1, 1)) (List.mem_of_getElem? (i := 13) rfl)
theorem dX5_shift_26 : decode cX5_shift 26 = .ok (.putfield 148, 3) := ta_cX5_shift_46 (26, (.putfield 148, 3)) (List.mem_of_getElem? (i := 14) rfl)
theorem dX5_shift_29 : decode cX5_shift 29 = .ok (.iload_n 2, 1) := ta_cX5_shift_46 (29, (.iload_n 2, 1)) (List.mem_of_getElem? (i := 15) rfl)
theorem dX5_shift_30 : decode cX5_shift 30 = .ok (.ireturn, 1) := ta_cX5_shift_46 (30, (.ireturn, 1)) (List.mem_of_getElem? (i := 16) rfl)
set_option maxRecDepth 20000 in
theorem ggX5_wave_X5_within : GoodIn wsX5_wave wsX5_within := goodIn_r _ [7] rfl (by decide +kernel)
set_option maxRecDepth 20000 in
theorem gX5_wave_X5_within : GoodIn wsX5_wave (va_wsS RX5 75 yX5_within wsX5_within) := goodIn_app (goodIn_r _ [4, 5, 6] rfl (by decide +kernel)) ggX5_wave_X5_within
set_option maxRecDepth 20000 in
theorem ggX5_wave_X4_waveAt : GoodIn wsX5_wave wsX4_waveAt := goodIn_r _ [12, 13, 14, 28, 29, 30, 31, 32, 33, 34, 35, 36] rfl (by decide +kernel)
set_option maxRecDepth 20000 in
theorem gX5_wave_X4_waveAt : GoodIn wsX5_wave (wsV RX5 152 RX4 yX4_waveAt wsX4_waveAt) := goodIn_app (goodIn_r _ [8, 9, 10, 11] rfl (by decide +kernel)) ggX5_wave_X4_waveAt
def tb_cX5_wave_47 : List (Nat × (Instr × Nat)) := [(0, (.iload_n 1, 1)), (1, (.iconst 0, 1)), (2, (.ldc 151, 2)), (4, (.invokestatic 75, 3)), (7, (.ifCond .eq 21, 3)), (10, (.aload_n 0, 1)), (11, (.getfield 24, 3)), (14, (.iload_n 1, 1)), (15, (.aload_n 0, 1)), (16, (.getfield 24, 3)), (19, (.getfield 148, 3)), (22, (.invokevirtual 152, 3)), (25, (.goto 5, 3)), (28, (.bipush (-99), 2)), (30, (.ireturn, 1))]
set_option maxRecDepth 20000 in
theorem ta_cX5_wave_47 : ∀ q ∈ tb_cX5_wave_47, decode cX5_wave q.1 = .ok q.2 := by decide +kernel
theorem dX5_wave_0 : decode cX5_wave 0 = .ok (.iload_n 1, 1) := ta_cX5_wave_47 (0, (.iload_n 1, 1)) (List.mem_of_getElem? (i := 0) rfl)
theorem dX5_wave_1 : decode cX5_wave 1 = .ok (.iconst 0, 1) := ta_cX5_wave_47 (1, (.iconst 0, 1)) (List.mem_of_getElem? (i := 1) rfl)
theorem dX5_wave_2 : decode cX5_wave 2 = .ok (.ldc 151, 2) := ta_cX5_wave_47 (2, (.ldc 151, 2)) (List.mem_of_getElem? (i := 2) rfl)
theorem dX5_wave_4 : decode cX5_wave 4 = .ok (.invokestatic 75, 3) := ta_cX5_wave_47 (4, (.invokestatic 75, 3)) (List.mem_of_getElem? (i := 3) rfl)
theorem dX5_wave_7 : decode cX5_wave 7 = .ok (.ifCond .eq 21, 3) := ta_cX5_wave_47 (7, (.ifCond .eq 21, 3)) (List.mem_of_getElem? (i := 4) rfl)
theorem dX5_wave_10 : decode cX5_wave 10 = .ok (.aload_n 0, 1) := ta_cX5_wave_47 (10, (.aload_n 0, 1)) (List.mem_of_getElem? (i := 5) rfl)
theorem dX5_wave_11 : decode cX5_wave 11 = .ok (.getfield 24, 3) := ta_cX5_wave_47 (11, (.getfield 24, 3)) (List.mem_of_getElem? (i := 6) rfl)
theorem dX5_wave_14 : decode cX5_wave 14 = .ok (.iload_n 1, 1) := ta_cX5_wave_47 (14, (.iload_n 1, 1)) (List.mem_of_getElem? (i := 7) rfl)
theorem dX5_wave_15 : decode cX5_wave 15 = .ok (.aload_n 0, 1) := ta_cX5_wave_47 (15, (.aload_n 0, 1)) (List.mem_of_getElem? (i := 8) rfl)
theorem dX5_wave_16 : decode cX5_wave 16 = .ok (.getfield 24, 3) := ta_cX5_wave_47 (16, (.getfield 24, 3)) (List.mem_of_getElem? (i := 9) rfl)
theorem dX5_wave_19 : decode cX5_wave 19 = .ok (.getfield 148, 3) := ta_cX5_wave_47 (19, (.getfield 148, 3)) (List.mem_of_getElem? (i := 10) rfl)
theorem dX5_wave_22 : decode cX5_wave 22 = .ok (.invokevirtual 152, 3) := ta_cX5_wave_47 (22, (.invokevirtual 152, 3)) (List.mem_of_getElem? (i := 11) rfl)
theorem dX5_wave_25 : decode cX5_wave 25 = .ok (.goto 5, 3) := ta_cX5_wave_47 (25, (.goto 5, 3)) (List.mem_of_getElem? (i := 12) rfl)
theorem dX5_wave_28 : decode cX5_wave 28 = .ok (.bipush (-99), 2) := ta_cX5_wave_47 (28, (.bipush (-99), 2)) (List.mem_of_getElem? (i := 13) rfl)
theorem dX5_wave_30 : decode cX5_wave 30 = .ok (.ireturn, 1) := ta_cX5_wave_47 (30, (.ireturn, 1)) (List.mem_of_getElem? (i := 14) rfl)
set_option maxRecDepth 20000 in
theorem ggX5_toss_X5_stoneAt : GoodIn wsX5_toss wsX5_stoneAt := goodIn_r _ [9, 10, 11, 66, 67, 68, 69, 70, 71, 72, 73, 74, 75, 76, 77, 78] rfl (by decide +kernel)
set_option maxRecDepth 20000 in
theorem gX5_toss_X5_stoneAt : GoodIn wsX5_toss (wsV RX5 82 RX5 yX5_stoneAt wsX5_stoneAt) := goodIn_app (goodIn_r _ [5, 6, 7, 8] rfl (by decide +kernel)) ggX5_toss_X5_stoneAt
set_option maxRecDepth 20000 in
theorem ggX5_toss_X5_within : GoodIn wsX5_toss wsX5_within := goodIn_r _ [14] rfl (by decide +kernel)
set_option maxRecDepth 20000 in
theorem gX5_toss_X5_within : GoodIn wsX5_toss (va_wsS RX5 75 yX5_within wsX5_within) := goodIn_app (goodIn_r _ [12, 13, 8] rfl (by decide +kernel)) ggX5_toss_X5_within
set_option maxRecDepth 20000 in
theorem ggX5_toss_X0_begin : GoodIn wsX5_toss wsX0_begin := goodIn_r _ [19, 20, 21, 22, 23, 24, 25, 26, 88, 89, 90, 91, 92, 93, 94, 95] rfl (by decide +kernel)
set_option maxRecDepth 20000 in
theorem gX5_toss_X0_begin : GoodIn wsX5_toss (wsV RX5 156 RX0 yX0_begin wsX0_begin) := goodIn_app (goodIn_r _ [15, 16, 17, 18] rfl (by decide +kernel)) ggX5_toss_X0_begin
set_option maxRecDepth 20000 in
theorem ggX5_toss_X0_goOn : GoodIn wsX5_toss wsX0_goOn := goodIn_r _ [30, 22, 24, 31, 32, 33, 34, 35, 36, 37, 38, 39, 40, 18, 41, 20, 21, 42, 43, 44, 45, 46, 47, 48, 49, 50, 51, 25, 52, 8, 53, 54, 55, 56, 57, 58, 59, 60, 26, 61, 23, 62, 63, 64, 65, 88, 89, 90, 91, 92, 93, 94, 95, 79, 80, 81, 82, 83, 84, 85, 86, 87, 96, 97, 98, 99, 100] rfl (by decide +kernel)
set_option maxRecDepth 20000 in
theorem gX5_toss_X0_goOn : GoodIn wsX5_toss (wsV RX5 160 RX0 yX0_goOn wsX0_goOn) := goodIn_app (goodIn_r _ [27, 28, 29, 18] rfl (by decide +kernel)) ggX5_toss_X0_goOn
def tb_cX5_toss_48 : List (Nat × (Instr × Nat)) := [(0, (.aload_n 0, 1)), (1, (.iload_n 1, 1)), (2, (.invokevirtual 82, 3)), (5, (.astore 6, 2)), (7, (.aload 6, 2)), (9, (.ifnonnull 5, 3)), (12, (.iconst (-1), 1)), (13, (.ireturn, 1)), (14, (.iload_n 2, 1)), (15, (.iconst 1, 1)), (16, (.sipush 300, 3)), (19, (.invokestatic 75, 3)), (22, (.ifCond .eq 35, 3)), (25, (.iload_n 3, 1)), (26, (.iconst 1, 1)), (27, (.bipush 99, 2)), (29, (.invokestatic 75, 3)), (32, (.ifCond .eq 25, 3)), (35, (.iload 4, 2)), (37, (.iconst 0, 1)), (38, (.bipush 45, 2)), (40, (.invokestatic 75, 3)), (43, (.ifCond .eq 14, 3)), (46, (.iload 5, 2)), (48, (.iconst 0, 1)), (49, (.bipush 99, 2)), (51, (.invokestatic 75, 3)), (54, (.ifCond .ne 6, 3)), (57, (.bipush (-2), 2)), (59, (.ireturn, 1)), (60, (.aload_n 0, 1)), (61, (.getfield 38, 3)), (64, (.iload_n 2, 1)), (65, (.iload_n 3, 1)), (66, (.iload 4, 2)), (68, (.iload 5, 2)), (70, (.invokevirtual 156, 3)), (73, (.aload_n 0, 1)), (74, (.getfield 38, 3)), (77, (.aload 6, 2)), (79, (.aload_n 0, 1)), (80, (.getfield 24, 3)), (83, (.aload_n 0, 1)), (84, (.getfield 24, 3)), (87, (.getfield 148, 3)), (90, (.invokevirtual 160, 3)), (93, (.aload_n 0, 1)), (94, (.getfield 38, 3)), (97, (.getfield 164, 3)), (100, (.ireturn, 1))]
set_option maxRecDepth 20000 in
theorem ta_cX5_toss_48 : ∀ q ∈ tb_cX5_toss_48, decode cX5_toss q.1 = .ok q.2 := by decide +kernel
theorem dX5_toss_0 : decode cX5_toss 0 = .ok (.aload_n 0, 1) := ta_cX5_toss_48 (0, (.aload_n 0, 1)) (List.mem_of_getElem? (i := 0) rfl)
theorem dX5_toss_1 : decode cX5_toss 1 = .ok (.iload_n 1, 1) := ta_cX5_toss_48 (1, (.iload_n 1, 1)) (List.mem_of_getElem? (i := 1) rfl)
theorem dX5_toss_2 : decode cX5_toss 2 = .ok (.invokevirtual 82, 3) := ta_cX5_toss_48 (2, (.invokevirtual 82, 3)) (List.mem_of_getElem? (i := 2) rfl)
theorem dX5_toss_5 : decode cX5_toss 5 = .ok (.astore 6, 2) := ta_cX5_toss_48 (5, (.astore 6, 2)) (List.mem_of_getElem? (i := 3) rfl)
theorem dX5_toss_7 : decode cX5_toss 7 = .ok (.aload 6, 2) := ta_cX5_toss_48 (7, (.aload 6, 2)) (List.mem_of_getElem? (i := 4) rfl)
theorem dX5_toss_9 : decode cX5_toss 9 = .ok (.ifnonnull 5, 3) := ta_cX5_toss_48 (9, (.ifnonnull 5, 3)) (List.mem_of_getElem? (i := 5) rfl)
theorem dX5_toss_12 : decode cX5_toss 12 = .ok (.iconst (-1), 1) := ta_cX5_toss_48 (12, (.iconst (-1), 1)) (List.mem_of_getElem? (i := 6) rfl)
theorem dX5_toss_13 : decode cX5_toss 13 = .ok (.ireturn, 1) := ta_cX5_toss_48 (13, (.ireturn, 1)) (List.mem_of_getElem? (i := 7) rfl)
theorem dX5_toss_14 : decode cX5_toss 14 = .ok (.iload_n 2, 1) := ta_cX5_toss_48 (14, (.iload_n 2, 1)) (List.mem_of_getElem? (i := 8) rfl)
theorem dX5_toss_15 : decode cX5_toss 15 = .ok (.iconst 1, 1) := ta_cX5_toss_48 (15, (.iconst 1, 1)) (List.mem_of_getElem? (i := 9) rfl)
theorem dX5_toss_16 : decode cX5_toss 16 = .ok (.sipush 300, 3) := ta_cX5_toss_48 (16, (.sipush 300, 3)) (List.mem_of_getElem? (i := 10) rfl)
theorem dX5_toss_19 : decode cX5_toss 19 = .ok (.invokestatic 75, 3) := ta_cX5_toss_48 (19, (.invokestatic 75, 3)) (List.mem_of_getElem? (i := 11) rfl)
theorem dX5_toss_22 : decode cX5_toss 22 = .ok (.ifCond .eq 35, 3) := ta_cX5_toss_48 (22, (.ifCond .eq 35, 3)) (List.mem_of_getElem? (i := 12) rfl)
theorem dX5_toss_25 : decode cX5_toss 25 = .ok (.iload_n 3, 1) := ta_cX5_toss_48 (25, (.iload_n 3, 1)) (List.mem_of_getElem? (i := 13) rfl)
theorem dX5_toss_26 : decode cX5_toss 26 = .ok (.iconst 1, 1) := ta_cX5_toss_48 (26, (.iconst 1, 1)) (List.mem_of_getElem? (i := 14) rfl)
theorem dX5_toss_27 : decode cX5_toss 27 = .ok (.bipush 99, 2) := ta_cX5_toss_48 (27, (.bipush 99, 2)) (List.mem_of_getElem? (i := 15) rfl)
theorem dX5_toss_29 : decode cX5_toss 29 = .ok (.invokestatic 75, 3) := ta_cX5_toss_48 (29, (.invokestatic 75, 3)) (List.mem_of_getElem? (i := 16) rfl)
theorem dX5_toss_32 : decode cX5_toss 32 = .ok (.ifCond .eq 25, 3) := ta_cX5_toss_48 (32, (.ifCond .eq 25, 3)) (List.mem_of_getElem? (i := 17) rfl)
theorem dX5_toss_35 : decode cX5_toss 35 = .ok (.iload 4, 2) := ta_cX5_toss_48 (35, (.iload 4, 2)) (List.mem_of_getElem? (i := 18) rfl)
theorem dX5_toss_37 : decode cX5_toss 37 = .ok (.iconst 0, 1) := ta_cX5_toss_48 (37, (.iconst 0, 1)) (List.mem_of_getElem? (i := 19) rfl)
theorem dX5_toss_38 : decode cX5_toss 38 = .ok (.bipush 45, 2) := ta_cX5_toss_48 (38, (.bipush 45, 2)) (List.mem_of_getElem? (i := 20) rfl)
theorem dX5_toss_40 : decode cX5_toss 40 = .ok (.invokestatic 75, 3) := ta_cX5_toss_48 (40, (.invokestatic 75, 3)) (List.mem_of_getElem? (i := 21) rfl)
theorem dX5_toss_43 : decode cX5_toss 43 = .ok (.ifCond .eq 14, 3) := ta_cX5_toss_48 (43, (.ifCond .eq 14, 3)) (List.mem_of_getElem? (i := 22) rfl)
theorem dX5_toss_46 : decode cX5_toss 46 = .ok (.iload 5, 2) := ta_cX5_toss_48 (46, (.iload 5, 2)) (List.mem_of_getElem? (i := 23) rfl)
theorem dX5_toss_48 : decode cX5_toss 48 = .ok (.iconst 0, 1) := ta_cX5_toss_48 (48, (.iconst 0, 1)) (List.mem_of_getElem? (i := 24) rfl)
theorem dX5_toss_49 : decode cX5_toss 49 = .ok (.bipush 99, 2) := ta_cX5_toss_48 (49, (.bipush 99, 2)) (List.mem_of_getElem? (i := 25) rfl)
theorem dX5_toss_51 : decode cX5_toss 51 = .ok (.invokestatic 75, 3) := ta_cX5_toss_48 (51, (.invokestatic 75, 3)) (List.mem_of_getElem? (i := 26) rfl)
theorem dX5_toss_54 : decode cX5_toss 54 = .ok (.ifCond .ne 6, 3) := ta_cX5_toss_48 (54, (.ifCond .ne 6, 3)) (List.mem_of_getElem? (i := 27) rfl)
theorem dX5_toss_57 : decode cX5_toss 57 = .ok (.bipush (-2), 2) := ta_cX5_toss_48 (57, (.bipush (-2), 2)) (List.mem_of_getElem? (i := 28) rfl)
theorem dX5_toss_59 : decode cX5_toss 59 = .ok (.ireturn, 1) := ta_cX5_toss_48 (59, (.ireturn, 1)) (List.mem_of_getElem? (i := 29) rfl)
theorem dX5_toss_60 : decode cX5_toss 60 = .ok (.aload_n 0, 1) := ta_cX5_toss_48 (60, (.aload_n 0, 1)) (List.mem_of_getElem? (i := 30) rfl)
theorem dX5_toss_61 : decode cX5_toss 61 = .ok (.getfield 38, 3) := ta_cX5_toss_48 (61, (.getfield 38, 3)) (List.mem_of_getElem? (i := 31) rfl)
theorem dX5_toss_64 : decode cX5_toss 64 = .ok (.iload_n 2, 1) := ta_cX5_toss_48 (64, (.iload_n 2, 1)) (List.mem_of_getElem? (i := 32) rfl)
theorem dX5_toss_65 : decode cX5_toss 65 = .ok (.iload_n 3, 1) := ta_cX5_toss_48 (65, (.iload_n 3, 1)) (List.mem_of_getElem? (i := 33) rfl)
theorem dX5_toss_66 : decode cX5_toss 66 = .ok (.iload 4, 2) := ta_cX5_toss_48 (66, (.iload 4, 2)) (List.mem_of_getElem? (i := 34) rfl)
theorem dX5_toss_68 : decode cX5_toss 68 = .ok (.iload 5, 2) := ta_cX5_toss_48 (68, (.iload 5, 2)) (List.mem_of_getElem? (i := 35) rfl)
theorem dX5_toss_70 : decode cX5_toss 70 = .ok (.invokevirtual 156, 3) := ta_cX5_toss_48 (70, (.invokevirtual 156, 3)) (List.mem_of_getElem? (i := 36) rfl)
theorem dX5_toss_73 : decode cX5_toss 73 = .ok (.aload_n 0, 1) := ta_cX5_toss_48 (73, (.aload_n 0, 1)) (List.mem_of_getElem? (i := 37) rfl)
theorem dX5_toss_74 : decode cX5_toss 74 = .ok (.getfield 38, 3) := ta_cX5_toss_48 (74, (.getfield 38, 3)) (List.mem_of_getElem? (i := 38) rfl)
theorem dX5_toss_77 : decode cX5_toss 77 = .ok (.aload 6, 2) := ta_cX5_toss_48 (77, (.aload 6, 2)) (List.mem_of_getElem? (i := 39) rfl)
theorem dX5_toss_79 : decode cX5_toss 79 = .ok (.aload_n 0, 1) := ta_cX5_toss_48 (79, (.aload_n 0, 1)) (List.mem_of_getElem? (i := 40) rfl)
theorem dX5_toss_80 : decode cX5_toss 80 = .ok (.getfield 24, 3) := ta_cX5_toss_48 (80, (.getfield 24, 3)) (List.mem_of_getElem? (i := 41) rfl)
theorem dX5_toss_83 : decode cX5_toss 83 = .ok (.aload_n 0, 1) := ta_cX5_toss_48 (83, (.aload_n 0, 1)) (List.mem_of_getElem? (i := 42) rfl)
theorem dX5_toss_84 : decode cX5_toss 84 = .ok (.getfield 24, 3) := ta_cX5_toss_48 (84, (.getfield 24, 3)) (List.mem_of_getElem? (i := 43) rfl)
theorem dX5_toss_87 : decode cX5_toss 87 = .ok (.getfield 148, 3) := ta_cX5_toss_48 (87, (.getfield 148, 3)) (List.mem_of_getElem? (i := 44) rfl)
theorem dX5_toss_90 : decode cX5_toss 90 = .ok (.invokevirtual 160, 3) := ta_cX5_toss_48 (90, (.invokevirtual 160, 3)) (List.mem_of_getElem? (i := 45) rfl)
theorem dX5_toss_93 : decode cX5_toss 93 = .ok (.aload_n 0, 1) := ta_cX5_toss_48 (93, (.aload_n 0, 1)) (List.mem_of_getElem? (i := 46) rfl)
theorem dX5_toss_94 : decode cX5_toss 94 = .ok (.getfield 38, 3) := ta_cX5_toss_48 (94, (.getfield 38, 3)) (List.mem_of_getElem? (i := 47) rfl)
theorem dX5_toss_97 : decode cX5_toss 97 = .ok (.getfield 164, 3) := ta_cX5_toss_48 (97, (.getfield 164, 3)) (List.mem_of_getElem? (i := 48) rfl)
theorem dX5_toss_100 : decode cX5_toss 100 = .ok (.ireturn, 1) := ta_cX5_toss_48 (100, (.ireturn, 1)) (List.mem_of_getElem? (i := 49) rfl)
set_option maxRecDepth 20000 in
theorem ggX5_touch_X5_isTouch : GoodIn wsX5_touch wsX5_isTouch := goodIn_r _ [6, 1, 7, 18, 19, 20, 21, 22, 23, 24, 25, 26, 27, 28, 29, 30, 31, 32, 33, 34, 35, 36, 37, 38] rfl (by decide +kernel)
set_option maxRecDepth 20000 in
theorem gX5_touch_X5_isTouch : GoodIn wsX5_touch (wsV RX5 167 RX5 yX5_isTouch wsX5_isTouch) := goodIn_app (goodIn_r _ [2, 3, 4, 5] rfl (by decide +kernel)) ggX5_touch_X5_isTouch
set_option maxRecDepth 20000 in
theorem ggX5_touch_X5_within : GoodIn wsX5_touch wsX5_within := goodIn_r _ [10] rfl (by decide +kernel)
set_option maxRecDepth 20000 in
theorem gX5_touch_X5_within : GoodIn wsX5_touch (va_wsS RX5 75 yX5_within wsX5_within) := goodIn_app (goodIn_r _ [8, 9, 5] rfl (by decide +kernel)) ggX5_touch_X5_within
set_option maxRecDepth 20000 in
theorem ggX5_touch_X0_value : GoodIn wsX5_touch wsX0_value := goodIn_r _ [15, 16, 17, 31, 32, 33, 34, 35, 36, 37, 38] rfl (by decide +kernel)
set_option maxRecDepth 20000 in
theorem gX5_touch_X0_value : GoodIn wsX5_touch (wsV RX5 171 RX0 yX0_value wsX0_value) := goodIn_app (goodIn_r _ [11, 12, 13, 14] rfl (by decide +kernel)) ggX5_touch_X0_value
def tb_cX5_touch_49 : List (Nat × (Instr × Nat)) := [(0, (.aload_n 0, 1)), (1, (.iload_n 1, 1)), (2, (.invokevirtual 167, 3)), (5, (.ifCond .ne 5, 3)), (8, (.iconst (-1), 1)), (9, (.ireturn, 1)), (10, (.iload_n 2, 1)), (11, (.iconst 0, 1)), (12, (.bipush 8, 2)), (14, (.invokestatic 75, 3)), (17, (.ifCond .eq 15, 3)), (20, (.aload_n 0, 1)), (21, (.getfield 38, 3)), (24, (.iload_n 1, 1)), (25, (.iload_n 2, 1)), (26, (.invokevirtual 171, 3)), (29, (.goto 5, 3)), (32, (.bipush (-2), 2)), (34, (.ireturn, 1))]
set_option maxRecDepth 20000 in
theorem ta_cX5_touch_49 : ∀ q ∈ tb_cX5_touch_49, decode cX5_touch q.1 = .ok q.2 := by decide +kernel
theorem dX5_touch_0 : decode cX5_touch 0 = .ok (.aload_n 0, 1) := ta_cX5_touch_49 (0, (.aload_n 0, 1)) (List.mem_of_getElem? (i := 0) rfl)
theorem dX5_touch_1 : decode cX5_touch 1 = .ok (.iload_n 1, 1) := ta_cX5_touch_49 (1, (.iload_n 1, 1)) (List.mem_of_getElem? (i := 1) rfl)
theorem dX5_touch_2 : decode cX5_touch 2 = .ok (.invokevirtual 167, 3) := ta_cX5_touch_49 (2, (.invokevirtual 167, 3)) (List.mem_of_getElem? (i := 2) rfl)
theorem dX5_touch_5 : decode cX5_touch 5 = .ok (.ifCond .ne 5, 3) := ta_cX5_touch_49 (5, (.ifCond .ne 5, 3)) (List.mem_of_getElem? (i := 3) rfl)
theorem dX5_touch_8 : decode cX5_touch 8 = .ok (.iconst (-1), 1) := ta_cX5_touch_49 (8, (.iconst (-1), 1)) (List.mem_of_getElem? (i := 4) rfl)
theorem dX5_touch_9 : decode cX5_touch 9 = .ok (.ireturn, 1) := ta_cX5_touch_49 (9, (.ireturn, 1)) (List.mem_of_getElem? (i := 5) rfl)
theorem dX5_touch_10 : decode cX5_touch 10 = .ok (.iload_n 2, 1) := ta_cX5_touch_49 (10, (.iload_n 2, 1)) (List.mem_of_getElem? (i := 6) rfl)
theorem dX5_touch_11 : decode cX5_touch 11 = .ok (.iconst 0, 1) := ta_cX5_touch_49 (11, (.iconst 0, 1)) (List.mem_of_getElem? (i := 7) rfl)
theorem dX5_touch_12 : decode cX5_touch 12 = .ok (.bipush 8, 2) := ta_cX5_touch_49 (12, (.bipush 8, 2)) (List.mem_of_getElem? (i := 8) rfl)
theorem dX5_touch_14 : decode cX5_touch 14 = .ok (.invokestatic 75, 3) := ta_cX5_touch_49 (14, (.invokestatic 75, 3)) (List.mem_of_getElem? (i := 9) rfl)
theorem dX5_touch_17 : decode cX5_touch 17 = .ok (.ifCond .eq 15, 3) := ta_cX5_touch_49 (17, (.ifCond .eq 15, 3)) (List.mem_of_getElem? (i := 10) rfl)
theorem dX5_touch_20 : decode cX5_touch 20 = .ok (.aload_n 0, 1) := ta_cX5_touch_49 (20, (.aload_n 0, 1)) (List.mem_of_getElem? (i := 11) rfl)
theorem dX5_touch_21 : decode cX5_touch 21 = .ok (.getfield 38, 3) := ta_cX5_touch_49 (21, (.getfield 38, 3)) (List.mem_of_getElem? (i := 12) rfl)
theorem dX5_touch_24 : decode cX5_touch 24 = .ok (.iload_n 1, 1) := ta_cX5_touch_49 (24, (.iload_n 1, 1)) (List.mem_of_getElem? (i := 13) rfl)
theorem dX5_touch_25 : decode cX5_touch 25 = .ok (.iload_n 2, 1) := ta_cX5_touch_49 (25, (.iload_n 2, 1)) (List.mem_of_getElem? (i := 14) rfl)
theorem dX5_touch_26 : decode cX5_touch 26 = .ok (.invokevirtual 171, 3) := ta_cX5_touch_49 (26, (.invokevirtual 171, 3)) (List.mem_of_getElem? (i := 15) rfl)
theorem dX5_touch_29 : decode cX5_touch 29 = .ok (.goto 5, 3) := ta_cX5_touch_49 (29, (.goto 5, 3)) (List.mem_of_getElem? (i := 16) rfl)
theorem dX5_touch_32 : decode cX5_touch 32 = .ok (.bipush (-2), 2) := ta_cX5_touch_49 (32, (.bipush (-2), 2)) (List.mem_of_getElem? (i := 17) rfl)
theorem dX5_touch_34 : decode cX5_touch 34 = .ok (.ireturn, 1) := ta_cX5_touch_49 (34, (.ireturn, 1)) (List.mem_of_getElem? (i := 18) rfl)
set_option maxRecDepth 20000 in
theorem ggX5_judge_X5_isJudge : GoodIn wsX5_judge wsX5_isJudge := goodIn_r _ [6, 7, 8, 5, 9] rfl (by decide +kernel)
set_option maxRecDepth 20000 in
theorem gX5_judge_X5_isJudge : GoodIn wsX5_judge (va_wsS RX5 174 yX5_isJudge wsX5_isJudge) := goodIn_app (goodIn_r _ [3, 4, 5] rfl (by decide +kernel)) ggX5_judge_X5_isJudge
set_option maxRecDepth 20000 in
theorem ggX5_judge_X0_counted : GoodIn wsX5_judge wsX0_counted := goodIn_r _ [14, 15, 16, 17, 18, 13, 19, 20, 21, 22, 23, 24, 38, 39, 40, 41, 42, 43, 44, 45] rfl (by decide +kernel)
set_option maxRecDepth 20000 in
theorem gX5_judge_X0_counted : GoodIn wsX5_judge (wsV RX5 177 RX0 yX0_counted wsX0_counted) := goodIn_app (goodIn_r _ [10, 11, 12, 13] rfl (by decide +kernel)) ggX5_judge_X0_counted
def tb_cX5_judge_50 : List (Nat × (Instr × Nat)) := [(0, (.iload_n 1, 1)), (1, (.invokestatic 174, 3)), (4, (.ifCond .ne 5, 3)), (7, (.iconst (-1), 1)), (8, (.ireturn, 1)), (9, (.aload_n 0, 1)), (10, (.getfield 38, 3)), (13, (.getfield 164, 3)), (16, (.ifCond .ne 8, 3)), (19, (.bipush (-3), 2)), (21, (.goto 11, 3)), (24, (.aload_n 0, 1)), (25, (.getfield 38, 3)), (28, (.iload_n 1, 1)), (29, (.invokevirtual 177, 3)), (32, (.ireturn, 1))]
set_option maxRecDepth 20000 in
theorem ta_cX5_judge_50 : ∀ q ∈ tb_cX5_judge_50, decode cX5_judge q.1 = .ok q.2 := by decide +kernel
theorem dX5_judge_0 : decode cX5_judge 0 = .ok (.iload_n 1, 1) := ta_cX5_judge_50 (0, (.iload_n 1, 1)) (List.mem_of_getElem? (i := 0) rfl)
theorem dX5_judge_1 : decode cX5_judge 1 = .ok (.invokestatic 174, 3) := ta_cX5_judge_50 (1, (.invokestatic 174, 3)) (List.mem_of_getElem? (i := 1) rfl)
theorem dX5_judge_4 : decode cX5_judge 4 = .ok (.ifCond .ne 5, 3) := ta_cX5_judge_50 (4, (.ifCond .ne 5, 3)) (List.mem_of_getElem? (i := 2) rfl)
theorem dX5_judge_7 : decode cX5_judge 7 = .ok (.iconst (-1), 1) := ta_cX5_judge_50 (7, (.iconst (-1), 1)) (List.mem_of_getElem? (i := 3) rfl)
theorem dX5_judge_8 : decode cX5_judge 8 = .ok (.ireturn, 1) := ta_cX5_judge_50 (8, (.ireturn, 1)) (List.mem_of_getElem? (i := 4) rfl)
theorem dX5_judge_9 : decode cX5_judge 9 = .ok (.aload_n 0, 1) := ta_cX5_judge_50 (9, (.aload_n 0, 1)) (List.mem_of_getElem? (i := 5) rfl)
theorem dX5_judge_10 : decode cX5_judge 10 = .ok (.getfield 38, 3) := ta_cX5_judge_50 (10, (.getfield 38, 3)) (List.mem_of_getElem? (i := 6) rfl)
theorem dX5_judge_13 : decode cX5_judge 13 = .ok (.getfield 164, 3) := ta_cX5_judge_50 (13, (.getfield 164, 3)) (List.mem_of_getElem? (i := 7) rfl)
theorem dX5_judge_16 : decode cX5_judge 16 = .ok (.ifCond .ne 8, 3) := ta_cX5_judge_50 (16, (.ifCond .ne 8, 3)) (List.mem_of_getElem? (i := 8) rfl)
theorem dX5_judge_19 : decode cX5_judge 19 = .ok (.bipush (-3), 2) := ta_cX5_judge_50 (19, (.bipush (-3), 2)) (List.mem_of_getElem? (i := 9) rfl)
theorem dX5_judge_21 : decode cX5_judge 21 = .ok (.goto 11, 3) := ta_cX5_judge_50 (21, (.goto 11, 3)) (List.mem_of_getElem? (i := 10) rfl)
theorem dX5_judge_24 : decode cX5_judge 24 = .ok (.aload_n 0, 1) := ta_cX5_judge_50 (24, (.aload_n 0, 1)) (List.mem_of_getElem? (i := 11) rfl)
theorem dX5_judge_25 : decode cX5_judge 25 = .ok (.getfield 38, 3) := ta_cX5_judge_50 (25, (.getfield 38, 3)) (List.mem_of_getElem? (i := 12) rfl)
theorem dX5_judge_28 : decode cX5_judge 28 = .ok (.iload_n 1, 1) := ta_cX5_judge_50 (28, (.iload_n 1, 1)) (List.mem_of_getElem? (i := 13) rfl)
theorem dX5_judge_29 : decode cX5_judge 29 = .ok (.invokevirtual 177, 3) := ta_cX5_judge_50 (29, (.invokevirtual 177, 3)) (List.mem_of_getElem? (i := 14) rfl)
theorem dX5_judge_32 : decode cX5_judge 32 = .ok (.ireturn, 1) := ta_cX5_judge_50 (32, (.ireturn, 1)) (List.mem_of_getElem? (i := 15) rfl)
set_option maxRecDepth 20000 in
theorem ggX5_line_X5_stoneAt : GoodIn wsX5_line wsX5_stoneAt := goodIn_r _ [7, 8, 9, 26, 27, 28, 29, 30, 31, 32, 33, 34, 35, 36, 37, 38] rfl (by decide +kernel)
set_option maxRecDepth 20000 in
theorem gX5_line_X5_stoneAt : GoodIn wsX5_line (wsV RX5 82 RX5 yX5_stoneAt wsX5_stoneAt) := goodIn_app (goodIn_r _ [3, 4, 5, 6] rfl (by decide +kernel)) ggX5_line_X5_stoneAt
set_option maxRecDepth 20000 in
theorem ggX5_line_X5_within : GoodIn wsX5_line wsX5_within := goodIn_r _ [12] rfl (by decide +kernel)
set_option maxRecDepth 20000 in
theorem gX5_line_X5_within : GoodIn wsX5_line (va_wsS RX5 75 yX5_within wsX5_within) := goodIn_app (goodIn_r _ [10, 11, 6] rfl (by decide +kernel)) ggX5_line_X5_within
set_option maxRecDepth 20000 in
theorem ggX5_line_X4_waveAt : GoodIn wsX5_line wsX4_waveAt := goodIn_r _ [17, 18, 19, 39, 40, 41, 42, 43, 44, 45, 46, 47] rfl (by decide +kernel)
set_option maxRecDepth 20000 in
theorem gX5_line_X4_waveAt : GoodIn wsX5_line (wsV RX5 152 RX4 yX4_waveAt wsX4_waveAt) := goodIn_app (goodIn_r _ [13, 14, 15, 16] rfl (by decide +kernel)) ggX5_line_X4_waveAt
set_option maxRecDepth 20000 in
theorem ggX5_line_X5_sinks : GoodIn wsX5_line wsX5_sinks := goodIn_r _ [22, 23, 24, 25, 39, 40, 41, 42, 43, 44, 45, 46, 47, 48, 49, 50, 51, 52] rfl (by decide +kernel)
set_option maxRecDepth 20000 in
theorem gX5_line_X5_sinks : GoodIn wsX5_line (va_wsS RX5 181 yX5_sinks wsX5_sinks) := goodIn_app (goodIn_r _ [20, 21, 6] rfl (by decide +kernel)) ggX5_line_X5_sinks
def tb_cX5_line_51 : List (Nat × (Instr × Nat)) := [(0, (.aload_n 0, 1)), (1, (.iload_n 1, 1)), (2, (.invokevirtual 82, 3)), (5, (.astore 4, 2)), (7, (.aload 4, 2)), (9, (.ifnonnull 5, 3)), (12, (.iconst (-1), 1)), (13, (.ireturn, 1)), (14, (.iload_n 2, 1)), (15, (.iconst 0, 1)), (16, (.bipush 45, 2)), (18, (.invokestatic 75, 3)), (21, (.ifCond .eq 13, 3)), (24, (.iload_n 3, 1)), (25, (.iconst 1, 1)), (26, (.bipush 99, 2)), (28, (.invokestatic 75, 3)), (31, (.ifCond .ne 6, 3)), (34, (.bipush (-2), 2)), (36, (.ireturn, 1)), (37, (.iload_n 2, 1)), (38, (.aload_n 0, 1)), (39, (.getfield 24, 3)), (42, (.iconst 0, 1)), (43, (.aload_n 0, 1)), (44, (.getfield 24, 3)), (47, (.getfield 148, 3)), (50, (.invokevirtual 152, 3)), (53, (.iadd, 1)), (54, (.istore 5, 2)), (56, (.iconst 1, 1)), (57, (.istore 6, 2)), (59, (.iload 6, 2)), (61, (.sipush 300, 3)), (64, (.if_icmp .gt 29, 3)), (67, (.aload 4, 2)), (69, (.aload_n 0, 1)), (70, (.getfield 24, 3)), (73, (.iload 6, 2)), (75, (.iload_n 3, 1)), (76, (.iload 5, 2)), (78, (.invokestatic 181, 3)), (81, (.ifCond .ne 6, 3)), (84, (.iload 6, 2)), (86, (.ireturn, 1)), (87, (.iinc 6 1, 3)), (90, (.goto (-31), 3)), (93, (.bipush (-9), 2)), (95, (.ireturn, 1))]
set_option maxRecDepth 20000 in
theorem ta_cX5_line_51 : ∀ q ∈ tb_cX5_line_51, decode cX5_line q.1 = .ok q.2 := by decide +kernel
theorem dX5_line_0 : decode cX5_line 0 = .ok (.aload_n 0, 1) := ta_cX5_line_51 (0, (.aload_n 0, 1)) (List.mem_of_getElem? (i := 0) rfl)
theorem dX5_line_1 : decode cX5_line 1 = .ok (.iload_n 1, 1) := ta_cX5_line_51 (1, (.iload_n 1, 1)) (List.mem_of_getElem? (i := 1) rfl)
theorem dX5_line_2 : decode cX5_line 2 = .ok (.invokevirtual 82, 3) := ta_cX5_line_51 (2, (.invokevirtual 82, 3)) (List.mem_of_getElem? (i := 2) rfl)
theorem dX5_line_5 : decode cX5_line 5 = .ok (.astore 4, 2) := ta_cX5_line_51 (5, (.astore 4, 2)) (List.mem_of_getElem? (i := 3) rfl)
theorem dX5_line_7 : decode cX5_line 7 = .ok (.aload 4, 2) := ta_cX5_line_51 (7, (.aload 4, 2)) (List.mem_of_getElem? (i := 4) rfl)
theorem dX5_line_9 : decode cX5_line 9 = .ok (.ifnonnull 5, 3) := ta_cX5_line_51 (9, (.ifnonnull 5, 3)) (List.mem_of_getElem? (i := 5) rfl)
theorem dX5_line_12 : decode cX5_line 12 = .ok (.iconst (-1), 1) := ta_cX5_line_51 (12, (.iconst (-1), 1)) (List.mem_of_getElem? (i := 6) rfl)
theorem dX5_line_13 : decode cX5_line 13 = .ok (.ireturn, 1) := ta_cX5_line_51 (13, (.ireturn, 1)) (List.mem_of_getElem? (i := 7) rfl)
theorem dX5_line_14 : decode cX5_line 14 = .ok (.iload_n 2, 1) := ta_cX5_line_51 (14, (.iload_n 2, 1)) (List.mem_of_getElem? (i := 8) rfl)
theorem dX5_line_15 : decode cX5_line 15 = .ok (.iconst 0, 1) := ta_cX5_line_51 (15, (.iconst 0, 1)) (List.mem_of_getElem? (i := 9) rfl)
theorem dX5_line_16 : decode cX5_line 16 = .ok (.bipush 45, 2) := ta_cX5_line_51 (16, (.bipush 45, 2)) (List.mem_of_getElem? (i := 10) rfl)
theorem dX5_line_18 : decode cX5_line 18 = .ok (.invokestatic 75, 3) := ta_cX5_line_51 (18, (.invokestatic 75, 3)) (List.mem_of_getElem? (i := 11) rfl)
theorem dX5_line_21 : decode cX5_line 21 = .ok (.ifCond .eq 13, 3) := ta_cX5_line_51 (21, (.ifCond .eq 13, 3)) (List.mem_of_getElem? (i := 12) rfl)
theorem dX5_line_24 : decode cX5_line 24 = .ok (.iload_n 3, 1) := ta_cX5_line_51 (24, (.iload_n 3, 1)) (List.mem_of_getElem? (i := 13) rfl)
theorem dX5_line_25 : decode cX5_line 25 = .ok (.iconst 1, 1) := ta_cX5_line_51 (25, (.iconst 1, 1)) (List.mem_of_getElem? (i := 14) rfl)
theorem dX5_line_26 : decode cX5_line 26 = .ok (.bipush 99, 2) := ta_cX5_line_51 (26, (.bipush 99, 2)) (List.mem_of_getElem? (i := 15) rfl)
theorem dX5_line_28 : decode cX5_line 28 = .ok (.invokestatic 75, 3) := ta_cX5_line_51 (28, (.invokestatic 75, 3)) (List.mem_of_getElem? (i := 16) rfl)
theorem dX5_line_31 : decode cX5_line 31 = .ok (.ifCond .ne 6, 3) := ta_cX5_line_51 (31, (.ifCond .ne 6, 3)) (List.mem_of_getElem? (i := 17) rfl)
theorem dX5_line_34 : decode cX5_line 34 = .ok (.bipush (-2), 2) := ta_cX5_line_51 (34, (.bipush (-2), 2)) (List.mem_of_getElem? (i := 18) rfl)
theorem dX5_line_36 : decode cX5_line 36 = .ok (.ireturn, 1) := ta_cX5_line_51 (36, (.ireturn, 1)) (List.mem_of_getElem? (i := 19) rfl)
theorem dX5_line_37 : decode cX5_line 37 = .ok (.iload_n 2, 1) := ta_cX5_line_51 (37, (.iload_n 2, 1)) (List.mem_of_getElem? (i := 20) rfl)
theorem dX5_line_38 : decode cX5_line 38 = .ok (.aload_n 0, 1) := ta_cX5_line_51 (38, (.aload_n 0, 1)) (List.mem_of_getElem? (i := 21) rfl)
theorem dX5_line_39 : decode cX5_line 39 = .ok (.getfield 24, 3) := ta_cX5_line_51 (39, (.getfield 24, 3)) (List.mem_of_getElem? (i := 22) rfl)
theorem dX5_line_42 : decode cX5_line 42 = .ok (.iconst 0, 1) := ta_cX5_line_51 (42, (.iconst 0, 1)) (List.mem_of_getElem? (i := 23) rfl)
theorem dX5_line_43 : decode cX5_line 43 = .ok (.aload_n 0, 1) := ta_cX5_line_51 (43, (.aload_n 0, 1)) (List.mem_of_getElem? (i := 24) rfl)
theorem dX5_line_44 : decode cX5_line 44 = .ok (.getfield 24, 3) := ta_cX5_line_51 (44, (.getfield 24, 3)) (List.mem_of_getElem? (i := 25) rfl)
theorem dX5_line_47 : decode cX5_line 47 = .ok (.getfield 148, 3) := ta_cX5_line_51 (47, (.getfield 148, 3)) (List.mem_of_getElem? (i := 26) rfl)
theorem dX5_line_50 : decode cX5_line 50 = .ok (.invokevirtual 152, 3) := ta_cX5_line_51 (50, (.invokevirtual 152, 3)) (List.mem_of_getElem? (i := 27) rfl)
theorem dX5_line_53 : decode cX5_line 53 = .ok (.iadd, 1) := ta_cX5_line_51 (53, (.iadd, 1)) (List.mem_of_getElem? (i := 28) rfl)
theorem dX5_line_54 : decode cX5_line 54 = .ok (.istore 5, 2) := ta_cX5_line_51 (54, (.istore 5, 2)) (List.mem_of_getElem? (i := 29) rfl)
theorem dX5_line_56 : decode cX5_line 56 = .ok (.iconst 1, 1) := ta_cX5_line_51 (56, (.iconst 1, 1)) (List.mem_of_getElem? (i := 30) rfl)
theorem dX5_line_57 : decode cX5_line 57 = .ok (.istore 6, 2) := ta_cX5_line_51 (57, (.istore 6, 2)) (List.mem_of_getElem? (i := 31) rfl)
theorem dX5_line_59 : decode cX5_line 59 = .ok (.iload 6, 2) := ta_cX5_line_51 (59, (.iload 6, 2)) (List.mem_of_getElem? (i := 32) rfl)
theorem dX5_line_61 : decode cX5_line 61 = .ok (.sipush 300, 3) := ta_cX5_line_51 (61, (.sipush 300, 3)) (List.mem_of_getElem? (i := 33) rfl)
theorem dX5_line_64 : decode cX5_line 64 = .ok (.if_icmp .gt 29, 3) := ta_cX5_line_51 (64, (.if_icmp .gt 29, 3)) (List.mem_of_getElem? (i := 34) rfl)
theorem dX5_line_67 : decode cX5_line 67 = .ok (.aload 4, 2) := ta_cX5_line_51 (67, (.aload 4, 2)) (List.mem_of_getElem? (i := 35) rfl)
theorem dX5_line_69 : decode cX5_line 69 = .ok (.aload_n 0, 1) := ta_cX5_line_51 (69, (.aload_n 0, 1)) (List.mem_of_getElem? (i := 36) rfl)
theorem dX5_line_70 : decode cX5_line 70 = .ok (.getfield 24, 3) := ta_cX5_line_51 (70, (.getfield 24, 3)) (List.mem_of_getElem? (i := 37) rfl)
theorem dX5_line_73 : decode cX5_line 73 = .ok (.iload 6, 2) := ta_cX5_line_51 (73, (.iload 6, 2)) (List.mem_of_getElem? (i := 38) rfl)
theorem dX5_line_75 : decode cX5_line 75 = .ok (.iload_n 3, 1) := ta_cX5_line_51 (75, (.iload_n 3, 1)) (List.mem_of_getElem? (i := 39) rfl)
theorem dX5_line_76 : decode cX5_line 76 = .ok (.iload 5, 2) := ta_cX5_line_51 (76, (.iload 5, 2)) (List.mem_of_getElem? (i := 40) rfl)
theorem dX5_line_78 : decode cX5_line 78 = .ok (.invokestatic 181, 3) := ta_cX5_line_51 (78, (.invokestatic 181, 3)) (List.mem_of_getElem? (i := 41) rfl)
theorem dX5_line_81 : decode cX5_line 81 = .ok (.ifCond .ne 6, 3) := ta_cX5_line_51 (81, (.ifCond .ne 6, 3)) (List.mem_of_getElem? (i := 42) rfl)
theorem dX5_line_84 : decode cX5_line 84 = .ok (.iload 6, 2) := ta_cX5_line_51 (84, (.iload 6, 2)) (List.mem_of_getElem? (i := 43) rfl)
theorem dX5_line_86 : decode cX5_line 86 = .ok (.ireturn, 1) := ta_cX5_line_51 (86, (.ireturn, 1)) (List.mem_of_getElem? (i := 44) rfl)
theorem dX5_line_87 : decode cX5_line 87 = .ok (.iinc 6 1, 3) := ta_cX5_line_51 (87, (.iinc 6 1, 3)) (List.mem_of_getElem? (i := 45) rfl)
theorem dX5_line_90 : decode cX5_line 90 = .ok (.goto (-31), 3) := ta_cX5_line_51 (90, (.goto (-31), 3)) (List.mem_of_getElem? (i := 46) rfl)
theorem dX5_line_93 : decode cX5_line 93 = .ok (.bipush (-9), 2) := ta_cX5_line_51 (93, (.bipush (-9), 2)) (List.mem_of_getElem? (i := 47) rfl)
theorem dX5_line_95 : decode cX5_line 95 = .ok (.ireturn, 1) := ta_cX5_line_51 (95, (.ireturn, 1)) (List.mem_of_getElem? (i := 48) rfl)
set_option maxRecDepth 20000 in
theorem ggX5_best_X5_stoneAt : GoodIn wsX5_best wsX5_stoneAt := goodIn_r _ [7, 8, 9, 96, 97, 98, 99, 100, 101, 102, 103, 104, 105, 106, 107, 108] rfl (by decide +kernel)
set_option maxRecDepth 20000 in
theorem gX5_best_X5_stoneAt : GoodIn wsX5_best (wsV RX5 82 RX5 yX5_stoneAt wsX5_stoneAt) := goodIn_app (goodIn_r _ [3, 4, 5, 6] rfl (by decide +kernel)) ggX5_best_X5_stoneAt
set_option maxRecDepth 20000 in
theorem ggX5_best_X5_isJudge : GoodIn wsX5_best wsX5_isJudge := goodIn_r _ [12, 13, 14, 6, 15] rfl (by decide +kernel)
set_option maxRecDepth 20000 in
theorem gX5_best_X5_isJudge : GoodIn wsX5_best (va_wsS RX5 174 yX5_isJudge wsX5_isJudge) := goodIn_app (goodIn_r _ [10, 11, 6] rfl (by decide +kernel)) ggX5_best_X5_isJudge
set_option maxRecDepth 20000 in
theorem ggX5_best_X5_isGrid : GoodIn wsX5_best wsX5_isGrid := goodIn_r _ [18, 13, 14, 6, 15] rfl (by decide +kernel)
set_option maxRecDepth 20000 in
theorem gX5_best_X5_isGrid : GoodIn wsX5_best (va_wsS RX5 185 yX5_isGrid wsX5_isGrid) := goodIn_app (goodIn_r _ [16, 17, 6] rfl (by decide +kernel)) ggX5_best_X5_isGrid
set_option maxRecDepth 20000 in
theorem ggX5_best_X5_within : GoodIn wsX5_best wsX5_within := goodIn_r _ [15] rfl (by decide +kernel)
set_option maxRecDepth 20000 in
theorem gX5_best_X5_within : GoodIn wsX5_best (va_wsS RX5 75 yX5_within wsX5_within) := goodIn_app (goodIn_r _ [13, 14, 6] rfl (by decide +kernel)) ggX5_best_X5_within
set_option maxRecDepth 20000 in
theorem ggX5_best_X5_countOf : GoodIn wsX5_best wsX5_countOf := goodIn_r _ [22, 23, 24, 25, 26, 6, 27, 28, 29, 1, 30, 31, 32, 33, 34, 35, 36, 37, 38, 39, 40, 41, 42, 43, 44, 45, 46, 47, 48, 49, 50, 51, 52, 53, 54, 55, 56, 57, 58, 59, 60, 61, 62, 63, 64, 65, 66, 67, 68, 69, 70, 71, 72, 73, 74, 75, 76, 77, 78, 79, 80, 81, 82, 83, 84, 85, 86, 87, 88, 89, 90, 91, 92, 96, 97, 98, 99, 100, 101, 102, 103, 104, 105, 106, 107, 108, 118, 119, 120, 121, 122, 123, 124, 125, 109, 110, 111, 112, 113, 114, 115, 116, 117, 126, 127, 128, 129, 130] rfl (by decide +kernel)
set_option maxRecDepth 20000 in
theorem gX5_best_X5_countOf : GoodIn wsX5_best (wsV RX5 189 RX5 yX5_countOf wsX5_countOf) := goodIn_app (goodIn_r _ [19, 20, 21, 6] rfl (by decide +kernel)) ggX5_best_X5_countOf
set_option maxRecDepth 20000 in
theorem ggX5_best_X5_pick : GoodIn wsX5_best wsX5_pick := goodIn_r _ [95] rfl (by decide +kernel)
set_option maxRecDepth 20000 in
theorem gX5_best_X5_pick : GoodIn wsX5_best (va_wsS RX5 193 yX5_pick wsX5_pick) := goodIn_app (goodIn_r _ [93, 94, 6] rfl (by decide +kernel)) ggX5_best_X5_pick
def tb_cX5_best_52 : List (Nat × (Instr × Nat)) := [(0, (.aload_n 0, 1)), (1, (.iload_n 1, 1)), (2, (.invokevirtual 82, 3)), (5, (.astore 8, 2)), (7, (.aload 8, 2)), (9, (.ifnull 11, 3)), (12, (.iload 6, 2)), (14, (.invokestatic 174, 3)), (17, (.ifCond .ne 5, 3)), (20, (.iconst (-1), 1)), (21, (.ireturn, 1)), (22, (.iload_n 2, 1)), (23, (.iload_n 3, 1)), (24, (.iload 4, 2)), (26, (.iload 5, 2)), (28, (.invokestatic 185, 3)), (31, (.ifCond .eq 13, 3)), (34, (.iload 7, 2)), (36, (.iconst 0, 1)), (37, (.iconst 2, 1)), (38, (.invokestatic 75, 3)), (41, (.ifCond .ne 6, 3)), (44, (.bipush (-2), 2)), (46, (.ireturn, 1)), (47, (.iconst (-1), 1)), (48, (.istore 9, 2)), (50, (.iload_n 2, 1)), (51, (.istore 10, 2)), (53, (.iload 4, 2)), (55, (.istore 11, 2)), (57, (.iload_n 2, 1)), (58, (.istore 12, 2)), (60, (.iload 12, 2)), (62, (.iload_n 2, 1)), (63, (.iload_n 3, 1)), (64, (.iadd, 1)), (65, (.if_icmp .gt 69, 3)), (68, (.iload 4, 2)), (70, (.istore 13, 2)), (72, (.iload 13, 2)), (74, (.iload 4, 2)), (76, (.iload 5, 2)), (78, (.iadd, 1)), (79, (.if_icmp .gt 49, 3)), (82, (.aload_n 0, 1)), (83, (.aload 8, 2)), (85, (.iload 12, 2)), (87, (.iload 13, 2)), (89, (.iload 6, 2)), (91, (.aload_n 0, 1))]
set_option maxRecDepth 20000 in
theorem ta_cX5_best_52 : ∀ q ∈ tb_cX5_best_52, decode cX5_best q.1 = .ok q.2 := by decide +kernel
theorem dX5_best_0 : decode cX5_best 0 = .ok (.aload_n 0, 1) := ta_cX5_best_52 (0, (.aload_n 0, 1)) (List.mem_of_getElem? (i := 0) rfl)
theorem dX5_best_1 : decode cX5_best 1 = .ok (.iload_n 1, 1) := ta_cX5_best_52 (1, (.iload_n 1, 1)) (List.mem_of_getElem? (i := 1) rfl)
theorem dX5_best_2 : decode cX5_best 2 = .ok (.invokevirtual 82, 3) := ta_cX5_best_52 (2, (.invokevirtual 82, 3)) (List.mem_of_getElem? (i := 2) rfl)
theorem dX5_best_5 : decode cX5_best 5 = .ok (.astore 8, 2) := ta_cX5_best_52 (5, (.astore 8, 2)) (List.mem_of_getElem? (i := 3) rfl)
theorem dX5_best_7 : decode cX5_best 7 = .ok (.aload 8, 2) := ta_cX5_best_52 (7, (.aload 8, 2)) (List.mem_of_getElem? (i := 4) rfl)
theorem dX5_best_9 : decode cX5_best 9 = .ok (.ifnull 11, 3) := ta_cX5_best_52 (9, (.ifnull 11, 3)) (List.mem_of_getElem? (i := 5) rfl)
theorem dX5_best_12 : decode cX5_best 12 = .ok (.iload 6, 2) := ta_cX5_best_52 (12, (.iload 6, 2)) (List.mem_of_getElem? (i := 6) rfl)
theorem dX5_best_14 : decode cX5_best 14 = .ok (.invokestatic 174, 3) := ta_cX5_best_52 (14, (.invokestatic 174, 3)) (List.mem_of_getElem? (i := 7) rfl)
theorem dX5_best_17 : decode cX5_best 17 = .ok (.ifCond .ne 5, 3) := ta_cX5_best_52 (17, (.ifCond .ne 5, 3)) (List.mem_of_getElem? (i := 8) rfl)
theorem dX5_best_20 : decode cX5_best 20 = .ok (.iconst (-1), 1) := ta_cX5_best_52 (20, (.iconst (-1), 1)) (List.mem_of_getElem? (i := 9) rfl)
theorem dX5_best_21 : decode cX5_best 21 = .ok (.ireturn, 1) := ta_cX5_best_52 (21, (.ireturn, 1)) (List.mem_of_getElem? (i := 10) rfl)
theorem dX5_best_22 : decode cX5_best 22 = .ok (.iload_n 2, 1) := ta_cX5_best_52 (22, (.iload_n 2, 1)) (List.mem_of_getElem? (i := 11) rfl)
theorem dX5_best_23 : decode cX5_best 23 = .ok (.iload_n 3, 1) := ta_cX5_best_52 (23, (.iload_n 3, 1)) (List.mem_of_getElem? (i := 12) rfl)
theorem dX5_best_24 : decode cX5_best 24 = .ok (.iload 4, 2) := ta_cX5_best_52 (24, (.iload 4, 2)) (List.mem_of_getElem? (i := 13) rfl)
theorem dX5_best_26 : decode cX5_best 26 = .ok (.iload 5, 2) := ta_cX5_best_52 (26, (.iload 5, 2)) (List.mem_of_getElem? (i := 14) rfl)
theorem dX5_best_28 : decode cX5_best 28 = .ok (.invokestatic 185, 3) := ta_cX5_best_52 (28, (.invokestatic 185, 3)) (List.mem_of_getElem? (i := 15) rfl)
theorem dX5_best_31 : decode cX5_best 31 = .ok (.ifCond .eq 13, 3) := ta_cX5_best_52 (31, (.ifCond .eq 13, 3)) (List.mem_of_getElem? (i := 16) rfl)
theorem dX5_best_34 : decode cX5_best 34 = .ok (.iload 7, 2) := ta_cX5_best_52 (34, (.iload 7, 2)) (List.mem_of_getElem? (i := 17) rfl)
theorem dX5_best_36 : decode cX5_best 36 = .ok (.iconst 0, 1) := ta_cX5_best_52 (36, (.iconst 0, 1)) (List.mem_of_getElem? (i := 18) rfl)
theorem dX5_best_37 : decode cX5_best 37 = .ok (.iconst 2, 1) := ta_cX5_best_52 (37, (.iconst 2, 1)) (List.mem_of_getElem? (i := 19) rfl)
theorem dX5_best_38 : decode cX5_best 38 = .ok (.invokestatic 75, 3) := ta_cX5_best_52 (38, (.invokestatic 75, 3)) (List.mem_of_getElem? (i := 20) rfl)
theorem dX5_best_41 : decode cX5_best 41 = .ok (.ifCond .ne 6, 3) := ta_cX5_best_52 (41, (.ifCond .ne 6, 3)) (List.mem_of_getElem? (i := 21) rfl)
theorem dX5_best_44 : decode cX5_best 44 = .ok (.bipush (-2), 2) := ta_cX5_best_52 (44, (.bipush (-2), 2)) (List.mem_of_getElem? (i := 22) rfl)
theorem dX5_best_46 : decode cX5_best 46 = .ok (.ireturn, 1) := ta_cX5_best_52 (46, (.ireturn, 1)) (List.mem_of_getElem? (i := 23) rfl)
theorem dX5_best_47 : decode cX5_best 47 = .ok (.iconst (-1), 1) := ta_cX5_best_52 (47, (.iconst (-1), 1)) (List.mem_of_getElem? (i := 24) rfl)
theorem dX5_best_48 : decode cX5_best 48 = .ok (.istore 9, 2) := ta_cX5_best_52 (48, (.istore 9, 2)) (List.mem_of_getElem? (i := 25) rfl)
theorem dX5_best_50 : decode cX5_best 50 = .ok (.iload_n 2, 1) := ta_cX5_best_52 (50, (.iload_n 2, 1)) (List.mem_of_getElem? (i := 26) rfl)
theorem dX5_best_51 : decode cX5_best 51 = .ok (.istore 10, 2) := ta_cX5_best_52 (51, (.istore 10, 2)) (List.mem_of_getElem? (i := 27) rfl)
theorem dX5_best_53 : decode cX5_best 53 = .ok (.iload 4, 2) := ta_cX5_best_52 (53, (.iload 4, 2)) (List.mem_of_getElem? (i := 28) rfl)
theorem dX5_best_55 : decode cX5_best 55 = .ok (.istore 11, 2) := ta_cX5_best_52 (55, (.istore 11, 2)) (List.mem_of_getElem? (i := 29) rfl)
theorem dX5_best_57 : decode cX5_best 57 = .ok (.iload_n 2, 1) := ta_cX5_best_52 (57, (.iload_n 2, 1)) (List.mem_of_getElem? (i := 30) rfl)
theorem dX5_best_58 : decode cX5_best 58 = .ok (.istore 12, 2) := ta_cX5_best_52 (58, (.istore 12, 2)) (List.mem_of_getElem? (i := 31) rfl)
theorem dX5_best_60 : decode cX5_best 60 = .ok (.iload 12, 2) := ta_cX5_best_52 (60, (.iload 12, 2)) (List.mem_of_getElem? (i := 32) rfl)
theorem dX5_best_62 : decode cX5_best 62 = .ok (.iload_n 2, 1) := ta_cX5_best_52 (62, (.iload_n 2, 1)) (List.mem_of_getElem? (i := 33) rfl)
theorem dX5_best_63 : decode cX5_best 63 = .ok (.iload_n 3, 1) := ta_cX5_best_52 (63, (.iload_n 3, 1)) (List.mem_of_getElem? (i := 34) rfl)
theorem dX5_best_64 : decode cX5_best 64 = .ok (.iadd, 1) := ta_cX5_best_52 (64, (.iadd, 1)) (List.mem_of_getElem? (i := 35) rfl)
theorem dX5_best_65 : decode cX5_best 65 = .ok (.if_icmp .gt 69, 3) := ta_cX5_best_52 (65, (.if_icmp .gt 69, 3)) (List.mem_of_getElem? (i := 36) rfl)
theorem dX5_best_68 : decode cX5_best 68 = .ok (.iload 4, 2) := ta_cX5_best_52 (68, (.iload 4, 2)) (List.mem_of_getElem? (i := 37) rfl)
theorem dX5_best_70 : decode cX5_best 70 = .ok (.istore 13, 2) := ta_cX5_best_52 (70, (.istore 13, 2)) (List.mem_of_getElem? (i := 38) rfl)
theorem dX5_best_72 : decode cX5_best 72 = .ok (.iload 13, 2) := ta_cX5_best_52 (72, (.iload 13, 2)) (List.mem_of_getElem? (i := 39) rfl)
theorem dX5_best_74 : decode cX5_best 74 = .ok (.iload 4, 2) := ta_cX5_best_52 (74, (.iload 4, 2)) (List.mem_of_getElem? (i := 40) rfl)
theorem dX5_best_76 : decode cX5_best 76 = .ok (.iload 5, 2) := ta_cX5_best_52 (76, (.iload 5, 2)) (List.mem_of_getElem? (i := 41) rfl)
theorem dX5_best_78 : decode cX5_best 78 = .ok (.iadd, 1) := ta_cX5_best_52 (78, (.iadd, 1)) (List.mem_of_getElem? (i := 42) rfl)
theorem dX5_best_79 : decode cX5_best 79 = .ok (.if_icmp .gt 49, 3) := ta_cX5_best_52 (79, (.if_icmp .gt 49, 3)) (List.mem_of_getElem? (i := 43) rfl)
theorem dX5_best_82 : decode cX5_best 82 = .ok (.aload_n 0, 1) := ta_cX5_best_52 (82, (.aload_n 0, 1)) (List.mem_of_getElem? (i := 44) rfl)
theorem dX5_best_83 : decode cX5_best 83 = .ok (.aload 8, 2) := ta_cX5_best_52 (83, (.aload 8, 2)) (List.mem_of_getElem? (i := 45) rfl)
theorem dX5_best_85 : decode cX5_best 85 = .ok (.iload 12, 2) := ta_cX5_best_52 (85, (.iload 12, 2)) (List.mem_of_getElem? (i := 46) rfl)
theorem dX5_best_87 : decode cX5_best 87 = .ok (.iload 13, 2) := ta_cX5_best_52 (87, (.iload 13, 2)) (List.mem_of_getElem? (i := 47) rfl)
theorem dX5_best_89 : decode cX5_best 89 = .ok (.iload 6, 2) := ta_cX5_best_52 (89, (.iload 6, 2)) (List.mem_of_getElem? (i := 48) rfl)
theorem dX5_best_91 : decode cX5_best 91 = .ok (.aload_n 0, 1) := ta_cX5_best_52 (91, (.aload_n 0, 1)) (List.mem_of_getElem? (i := 49) rfl)
def tb_cX5_best_53 : List (Nat × (Instr × Nat)) := [(92, (.getfield 24, 3)), (95, (.getfield 148, 3)), (98, (.invokevirtual 189, 3)), (101, (.istore 14, 2)), (103, (.iload 14, 2)), (105, (.iload 9, 2)), (107, (.if_icmp .le 15, 3)), (110, (.iload 14, 2)), (112, (.istore 9, 2)), (114, (.iload 12, 2)), (116, (.istore 10, 2)), (118, (.iload 13, 2)), (120, (.istore 11, 2)), (122, (.iinc 13 1, 3)), (125, (.goto (-53), 3)), (128, (.iinc 12 1, 3)), (131, (.goto (-71), 3)), (134, (.iload 7, 2)), (136, (.iload 9, 2)), (138, (.iload 10, 2)), (140, (.iload 11, 2)), (142, (.invokestatic 193, 3)), (145, (.ireturn, 1))]
set_option maxRecDepth 20000 in
theorem ta_cX5_best_53 : ∀ q ∈ tb_cX5_best_53, decode cX5_best q.1 = .ok q.2 := by decide +kernel
theorem dX5_best_92 : decode cX5_best 92 = .ok (.getfield 24, 3) := ta_cX5_best_53 (92, (.getfield 24, 3)) (List.mem_of_getElem? (i := 0) rfl)
theorem dX5_best_95 : decode cX5_best 95 = .ok (.getfield 148, 3) := ta_cX5_best_53 (95, (.getfield 148, 3)) (List.mem_of_getElem? (i := 1) rfl)
theorem dX5_best_98 : decode cX5_best 98 = .ok (.invokevirtual 189, 3) := ta_cX5_best_53 (98, (.invokevirtual 189, 3)) (List.mem_of_getElem? (i := 2) rfl)
theorem dX5_best_101 : decode cX5_best 101 = .ok (.istore 14, 2) := ta_cX5_best_53 (101, (.istore 14, 2)) (List.mem_of_getElem? (i := 3) rfl)
theorem dX5_best_103 : decode cX5_best 103 = .ok (.iload 14, 2) := ta_cX5_best_53 (103, (.iload 14, 2)) (List.mem_of_getElem? (i := 4) rfl)
theorem dX5_best_105 : decode cX5_best 105 = .ok (.iload 9, 2) := ta_cX5_best_53 (105, (.iload 9, 2)) (List.mem_of_getElem? (i := 5) rfl)
theorem dX5_best_107 : decode cX5_best 107 = .ok (.if_icmp .le 15, 3) := ta_cX5_best_53 (107, (.if_icmp .le 15, 3)) (List.mem_of_getElem? (i := 6) rfl)
theorem dX5_best_110 : decode cX5_best 110 = .ok (.iload 14, 2) := ta_cX5_best_53 (110, (.iload 14, 2)) (List.mem_of_getElem? (i := 7) rfl)
theorem dX5_best_112 : decode cX5_best 112 = .ok (.istore 9, 2) := ta_cX5_best_53 (112, (.istore 9, 2)) (List.mem_of_getElem? (i := 8) rfl)
theorem dX5_best_114 : decode cX5_best 114 = .ok (.iload 12, 2) := ta_cX5_best_53 (114, (.iload 12, 2)) (List.mem_of_getElem? (i := 9) rfl)
theorem dX5_best_116 : decode cX5_best 116 = .ok (.istore 10, 2) := ta_cX5_best_53 (116, (.istore 10, 2)) (List.mem_of_getElem? (i := 10) rfl)
theorem dX5_best_118 : decode cX5_best 118 = .ok (.iload 13, 2) := ta_cX5_best_53 (118, (.iload 13, 2)) (List.mem_of_getElem? (i := 11) rfl)
theorem dX5_best_120 : decode cX5_best 120 = .ok (.istore 11, 2) := ta_cX5_best_53 (120, (.istore 11, 2)) (List.mem_of_getElem? (i := 12) rfl)
theorem dX5_best_122 : decode cX5_best 122 = .ok (.iinc 13 1, 3) := ta_cX5_best_53 (122, (.iinc 13 1, 3)) (List.mem_of_getElem? (i := 13) rfl)
theorem dX5_best_125 : decode cX5_best 125 = .ok (.goto (-53), 3) := ta_cX5_best_53 (125, (.goto (-53), 3)) (List.mem_of_getElem? (i := 14) rfl)
theorem dX5_best_128 : decode cX5_best 128 = .ok (.iinc 12 1, 3) := ta_cX5_best_53 (128, (.iinc 12 1, 3)) (List.mem_of_getElem? (i := 15) rfl)
theorem dX5_best_131 : decode cX5_best 131 = .ok (.goto (-71), 3) := ta_cX5_best_53 (131, (.goto (-71), 3)) (List.mem_of_getElem? (i := 16) rfl)
theorem dX5_best_134 : decode cX5_best 134 = .ok (.iload 7, 2) := ta_cX5_best_53 (134, (.iload 7, 2)) (List.mem_of_getElem? (i := 17) rfl)
theorem dX5_best_136 : decode cX5_best 136 = .ok (.iload 9, 2) := ta_cX5_best_53 (136, (.iload 9, 2)) (List.mem_of_getElem? (i := 18) rfl)
theorem dX5_best_138 : decode cX5_best 138 = .ok (.iload 10, 2) := ta_cX5_best_53 (138, (.iload 10, 2)) (List.mem_of_getElem? (i := 19) rfl)
theorem dX5_best_140 : decode cX5_best 140 = .ok (.iload 11, 2) := ta_cX5_best_53 (140, (.iload 11, 2)) (List.mem_of_getElem? (i := 20) rfl)
theorem dX5_best_142 : decode cX5_best 142 = .ok (.invokestatic 193, 3) := ta_cX5_best_53 (142, (.invokestatic 193, 3)) (List.mem_of_getElem? (i := 21) rfl)
theorem dX5_best_145 : decode cX5_best 145 = .ok (.ireturn, 1) := ta_cX5_best_53 (145, (.ireturn, 1)) (List.mem_of_getElem? (i := 22) rfl)
set_option maxRecDepth 20000 in
theorem ggX5_grid_X5_within : GoodIn wsX5_grid wsX5_within := goodIn_r _ [6] rfl (by decide +kernel)
set_option maxRecDepth 20000 in
theorem gX5_grid_X5_within : GoodIn wsX5_grid (va_wsS RX5 75 yX5_within wsX5_within) := goodIn_app (goodIn_r _ [3, 4, 5] rfl (by decide +kernel)) ggX5_grid_X5_within
def tb_cX5_grid_54 : List (Nat × (Instr × Nat)) := [(0, (.iload_n 1, 1)), (1, (.iconst 1, 1)), (2, (.bipush 99, 2)), (4, (.invokestatic 75, 3)), (7, (.ifCond .eq 13, 3)), (10, (.iload_n 2, 1)), (11, (.iconst 0, 1)), (12, (.bipush 99, 2)), (14, (.invokestatic 75, 3)), (17, (.ifCond .ne 6, 3)), (20, (.bipush (-2), 2)), (22, (.ireturn, 1)), (23, (.iload_n 1, 1)), (24, (.aload_n 0, 1)), (25, (.getfield 45, 3)), (28, (.if_icmp .ne 13, 3)), (31, (.iload_n 2, 1)), (32, (.aload_n 0, 1)), (33, (.getfield 48, 3)), (36, (.if_icmp .ne 5, 3)), (39, (.iconst 0, 1)), (40, (.ireturn, 1)), (41, (.aload_n 0, 1)), (42, (.iload_n 1, 1)), (43, (.putfield 45, 3)), (46, (.aload_n 0, 1)), (47, (.iload_n 2, 1)), (48, (.putfield 48, 3)), (51, (.iconst 1, 1)), (52, (.ireturn, 1))]
set_option maxRecDepth 20000 in
theorem ta_cX5_grid_54 : ∀ q ∈ tb_cX5_grid_54, decode cX5_grid q.1 = .ok q.2 := by decide +kernel
theorem dX5_grid_0 : decode cX5_grid 0 = .ok (.iload_n 1, 1) := ta_cX5_grid_54 (0, (.iload_n 1, 1)) (List.mem_of_getElem? (i := 0) rfl)
theorem dX5_grid_1 : decode cX5_grid 1 = .ok (.iconst 1, 1) := ta_cX5_grid_54 (1, (.iconst 1, 1)) (List.mem_of_getElem? (i := 1) rfl)
theorem dX5_grid_2 : decode cX5_grid 2 = .ok (.bipush 99, 2) := ta_cX5_grid_54 (2, (.bipush 99, 2)) (List.mem_of_getElem? (i := 2) rfl)
theorem dX5_grid_4 : decode cX5_grid 4 = .ok (.invokestatic 75, 3) := ta_cX5_grid_54 (4, (.invokestatic 75, 3)) (List.mem_of_getElem? (i := 3) rfl)
theorem dX5_grid_7 : decode cX5_grid 7 = .ok (.ifCond .eq 13, 3) := ta_cX5_grid_54 (7, (.ifCond .eq 13, 3)) (List.mem_of_getElem? (i := 4) rfl)
theorem dX5_grid_10 : decode cX5_grid 10 = .ok (.iload_n 2, 1) := ta_cX5_grid_54 (10, (.iload_n 2, 1)) (List.mem_of_getElem? (i := 5) rfl)
theorem dX5_grid_11 : decode cX5_grid 11 = .ok (.iconst 0, 1) := ta_cX5_grid_54 (11, (.iconst 0, 1)) (List.mem_of_getElem? (i := 6) rfl)
theorem dX5_grid_12 : decode cX5_grid 12 = .ok (.bipush 99, 2) := ta_cX5_grid_54 (12, (.bipush 99, 2)) (List.mem_of_getElem? (i := 7) rfl)
theorem dX5_grid_14 : decode cX5_grid 14 = .ok (.invokestatic 75, 3) := ta_cX5_grid_54 (14, (.invokestatic 75, 3)) (List.mem_of_getElem? (i := 8) rfl)
theorem dX5_grid_17 : decode cX5_grid 17 = .ok (.ifCond .ne 6, 3) := ta_cX5_grid_54 (17, (.ifCond .ne 6, 3)) (List.mem_of_getElem? (i := 9) rfl)
theorem dX5_grid_20 : decode cX5_grid 20 = .ok (.bipush (-2), 2) := ta_cX5_grid_54 (20, (.bipush (-2), 2)) (List.mem_of_getElem? (i := 10) rfl)
theorem dX5_grid_22 : decode cX5_grid 22 = .ok (.ireturn, 1) := ta_cX5_grid_54 (22, (.ireturn, 1)) (List.mem_of_getElem? (i := 11) rfl)
theorem dX5_grid_23 : decode cX5_grid 23 = .ok (.iload_n 1, 1) := ta_cX5_grid_54 (23, (.iload_n 1, 1)) (List.mem_of_getElem? (i := 12) rfl)
theorem dX5_grid_24 : decode cX5_grid 24 = .ok (.aload_n 0, 1) := ta_cX5_grid_54 (24, (.aload_n 0, 1)) (List.mem_of_getElem? (i := 13) rfl)
theorem dX5_grid_25 : decode cX5_grid 25 = .ok (.getfield 45, 3) := ta_cX5_grid_54 (25, (.getfield 45, 3)) (List.mem_of_getElem? (i := 14) rfl)
theorem dX5_grid_28 : decode cX5_grid 28 = .ok (.if_icmp .ne 13, 3) := ta_cX5_grid_54 (28, (.if_icmp .ne 13, 3)) (List.mem_of_getElem? (i := 15) rfl)
theorem dX5_grid_31 : decode cX5_grid 31 = .ok (.iload_n 2, 1) := ta_cX5_grid_54 (31, (.iload_n 2, 1)) (List.mem_of_getElem? (i := 16) rfl)
theorem dX5_grid_32 : decode cX5_grid 32 = .ok (.aload_n 0, 1) := ta_cX5_grid_54 (32, (.aload_n 0, 1)) (List.mem_of_getElem? (i := 17) rfl)
theorem dX5_grid_33 : decode cX5_grid 33 = .ok (.getfield 48, 3) := ta_cX5_grid_54 (33, (.getfield 48, 3)) (List.mem_of_getElem? (i := 18) rfl)
theorem dX5_grid_36 : decode cX5_grid 36 = .ok (.if_icmp .ne 5, 3) := ta_cX5_grid_54 (36, (.if_icmp .ne 5, 3)) (List.mem_of_getElem? (i := 19) rfl)
theorem dX5_grid_39 : decode cX5_grid 39 = .ok (.iconst 0, 1) := ta_cX5_grid_54 (39, (.iconst 0, 1)) (List.mem_of_getElem? (i := 20) rfl)
theorem dX5_grid_40 : decode cX5_grid 40 = .ok (.ireturn, 1) := ta_cX5_grid_54 (40, (.ireturn, 1)) (List.mem_of_getElem? (i := 21) rfl)
theorem dX5_grid_41 : decode cX5_grid 41 = .ok (.aload_n 0, 1) := ta_cX5_grid_54 (41, (.aload_n 0, 1)) (List.mem_of_getElem? (i := 22) rfl)
theorem dX5_grid_42 : decode cX5_grid 42 = .ok (.iload_n 1, 1) := ta_cX5_grid_54 (42, (.iload_n 1, 1)) (List.mem_of_getElem? (i := 23) rfl)
theorem dX5_grid_43 : decode cX5_grid 43 = .ok (.putfield 45, 3) := ta_cX5_grid_54 (43, (.putfield 45, 3)) (List.mem_of_getElem? (i := 24) rfl)
theorem dX5_grid_46 : decode cX5_grid 46 = .ok (.aload_n 0, 1) := ta_cX5_grid_54 (46, (.aload_n 0, 1)) (List.mem_of_getElem? (i := 25) rfl)
theorem dX5_grid_47 : decode cX5_grid 47 = .ok (.iload_n 2, 1) := ta_cX5_grid_54 (47, (.iload_n 2, 1)) (List.mem_of_getElem? (i := 26) rfl)
theorem dX5_grid_48 : decode cX5_grid 48 = .ok (.putfield 48, 3) := ta_cX5_grid_54 (48, (.putfield 48, 3)) (List.mem_of_getElem? (i := 27) rfl)
theorem dX5_grid_51 : decode cX5_grid 51 = .ok (.iconst 1, 1) := ta_cX5_grid_54 (51, (.iconst 1, 1)) (List.mem_of_getElem? (i := 28) rfl)
theorem dX5_grid_52 : decode cX5_grid 52 = .ok (.ireturn, 1) := ta_cX5_grid_54 (52, (.ireturn, 1)) (List.mem_of_getElem? (i := 29) rfl)
set_option maxRecDepth 20000 in
theorem ggX5_odds_X5_stoneAt : GoodIn wsX5_odds wsX5_stoneAt := goodIn_r _ [6, 7, 8, 107, 108, 109, 110, 111, 112, 113, 114, 115, 116, 117, 118, 119] rfl (by decide +kernel)
set_option maxRecDepth 20000 in
theorem gX5_odds_X5_stoneAt : GoodIn wsX5_odds (wsV RX5 82 RX5 yX5_stoneAt wsX5_stoneAt) := goodIn_app (goodIn_r _ [2, 3, 4, 5] rfl (by decide +kernel)) ggX5_odds_X5_stoneAt
set_option maxRecDepth 20000 in
theorem ggX5_odds_X5_isJudge : GoodIn wsX5_odds wsX5_isJudge := goodIn_r _ [11, 12, 13, 5, 14] rfl (by decide +kernel)
set_option maxRecDepth 20000 in
theorem gX5_odds_X5_isJudge : GoodIn wsX5_odds (va_wsS RX5 174 yX5_isJudge wsX5_isJudge) := goodIn_app (goodIn_r _ [9, 10, 5] rfl (by decide +kernel)) ggX5_odds_X5_isJudge
set_option maxRecDepth 20000 in
theorem ggX5_odds_X5_isGrid : GoodIn wsX5_odds wsX5_isGrid := goodIn_r _ [17, 12, 13, 5, 14] rfl (by decide +kernel)
set_option maxRecDepth 20000 in
theorem gX5_odds_X5_isGrid : GoodIn wsX5_odds (va_wsS RX5 185 yX5_isGrid wsX5_isGrid) := goodIn_app (goodIn_r _ [15, 16, 5] rfl (by decide +kernel)) ggX5_odds_X5_isGrid
set_option maxRecDepth 20000 in
theorem ggX5_odds_X5_within : GoodIn wsX5_odds wsX5_within := goodIn_r _ [14] rfl (by decide +kernel)
set_option maxRecDepth 20000 in
theorem gX5_odds_X5_within : GoodIn wsX5_odds (va_wsS RX5 75 yX5_within wsX5_within) := goodIn_app (goodIn_r _ [12, 13, 5] rfl (by decide +kernel)) ggX5_odds_X5_within
set_option maxRecDepth 20000 in
theorem ggX5_odds_X5_hits : GoodIn wsX5_odds wsX5_hits := goodIn_r _ [21, 22, 23, 24, 25, 26, 5, 27, 28, 29, 30, 31, 32, 33, 34, 35, 36, 37, 38, 39, 40, 41, 42, 43, 44, 45, 46, 47, 48, 49, 50, 51, 52, 53, 54, 55, 56, 57, 58, 59, 60, 61, 62, 63, 64, 65, 66, 67, 68, 69, 70, 71, 72, 73, 74, 75, 76, 77, 78, 79, 80, 81, 82, 83, 84, 85, 86, 87, 88, 89, 90, 91, 92, 93, 94, 95, 96, 97, 107, 108, 109, 110, 111, 112, 113, 114, 115, 116, 117, 118, 119, 120, 121, 122, 123, 124, 125, 126, 127, 128, 129, 130, 131, 132, 133, 134, 135, 136, 137, 138, 139, 140, 141] rfl (by decide +kernel)
set_option maxRecDepth 20000 in
theorem gX5_odds_X5_hits : GoodIn wsX5_odds (wsV RX5 198 RX5 yX5_hits wsX5_hits) := goodIn_app (goodIn_r _ [18, 19, 20, 5] rfl (by decide +kernel)) ggX5_odds_X5_hits
set_option maxRecDepth 20000 in
theorem ggX5_odds_X5_throwsOf : GoodIn wsX5_odds wsX5_throwsOf := goodIn_r _ [100] rfl (by decide +kernel)
set_option maxRecDepth 20000 in
theorem gX5_odds_X5_throwsOf : GoodIn wsX5_odds (va_wsS RX5 202 yX5_throwsOf wsX5_throwsOf) := goodIn_app (goodIn_r _ [98, 99, 5] rfl (by decide +kernel)) ggX5_odds_X5_throwsOf
set_option maxRecDepth 20000 in
theorem ggX5_odds_X5_share : GoodIn wsX5_odds wsX5_share := goodIn_r _ [103, 1, 104, 105, 5, 106] rfl (by decide +kernel)
set_option maxRecDepth 20000 in
theorem gX5_odds_X5_share : GoodIn wsX5_odds (va_wsS RX5 205 yX5_share wsX5_share) := goodIn_app (goodIn_r _ [101, 102, 5] rfl (by decide +kernel)) ggX5_odds_X5_share
def tb_cX5_odds_55 : List (Nat × (Instr × Nat)) := [(0, (.aload_n 0, 1)), (1, (.iload_n 1, 1)), (2, (.invokevirtual 82, 3)), (5, (.astore 9, 2)), (7, (.aload 9, 2)), (9, (.ifnull 33, 3)), (12, (.iload 6, 2)), (14, (.invokestatic 174, 3)), (17, (.ifCond .eq 25, 3)), (20, (.iload_n 2, 1)), (21, (.iload_n 3, 1)), (22, (.iload 4, 2)), (24, (.iload 5, 2)), (26, (.invokestatic 185, 3)), (29, (.ifCond .eq 13, 3)), (32, (.iload 8, 2)), (34, (.iconst 0, 1)), (35, (.iconst 1, 1)), (36, (.invokestatic 75, 3)), (39, (.ifCond .ne 7, 3)), (42, (.ldc2_w 196, 3)), (45, (.lreturn, 1)), (46, (.aload_n 0, 1)), (47, (.aload 9, 2)), (49, (.iload_n 2, 1)), (50, (.iload_n 3, 1)), (51, (.iload 4, 2)), (53, (.iload 5, 2)), (55, (.iload 6, 2)), (57, (.iload 7, 2)), (59, (.invokevirtual 198, 3)), (62, (.i2l, 1)), (63, (.iload_n 3, 1)), (64, (.iload 5, 2)), (66, (.invokestatic 202, 3)), (69, (.i2l, 1)), (70, (.iload 8, 2)), (72, (.invokestatic 205, 3)), (75, (.lreturn, 1))]
set_option maxRecDepth 20000 in
theorem ta_cX5_odds_55 : ∀ q ∈ tb_cX5_odds_55, decode cX5_odds q.1 = .ok q.2 := by decide +kernel
theorem dX5_odds_0 : decode cX5_odds 0 = .ok (.aload_n 0, 1) := ta_cX5_odds_55 (0, (.aload_n 0, 1)) (List.mem_of_getElem? (i := 0) rfl)
theorem dX5_odds_1 : decode cX5_odds 1 = .ok (.iload_n 1, 1) := ta_cX5_odds_55 (1, (.iload_n 1, 1)) (List.mem_of_getElem? (i := 1) rfl)
theorem dX5_odds_2 : decode cX5_odds 2 = .ok (.invokevirtual 82, 3) := ta_cX5_odds_55 (2, (.invokevirtual 82, 3)) (List.mem_of_getElem? (i := 2) rfl)
theorem dX5_odds_5 : decode cX5_odds 5 = .ok (.astore 9, 2) := ta_cX5_odds_55 (5, (.astore 9, 2)) (List.mem_of_getElem? (i := 3) rfl)
theorem dX5_odds_7 : decode cX5_odds 7 = .ok (.aload 9, 2) := ta_cX5_odds_55 (7, (.aload 9, 2)) (List.mem_of_getElem? (i := 4) rfl)
theorem dX5_odds_9 : decode cX5_odds 9 = .ok (.ifnull 33, 3) := ta_cX5_odds_55 (9, (.ifnull 33, 3)) (List.mem_of_getElem? (i := 5) rfl)
theorem dX5_odds_12 : decode cX5_odds 12 = .ok (.iload 6, 2) := ta_cX5_odds_55 (12, (.iload 6, 2)) (List.mem_of_getElem? (i := 6) rfl)
theorem dX5_odds_14 : decode cX5_odds 14 = .ok (.invokestatic 174, 3) := ta_cX5_odds_55 (14, (.invokestatic 174, 3)) (List.mem_of_getElem? (i := 7) rfl)
theorem dX5_odds_17 : decode cX5_odds 17 = .ok (.ifCond .eq 25, 3) := ta_cX5_odds_55 (17, (.ifCond .eq 25, 3)) (List.mem_of_getElem? (i := 8) rfl)
theorem dX5_odds_20 : decode cX5_odds 20 = .ok (.iload_n 2, 1) := ta_cX5_odds_55 (20, (.iload_n 2, 1)) (List.mem_of_getElem? (i := 9) rfl)
theorem dX5_odds_21 : decode cX5_odds 21 = .ok (.iload_n 3, 1) := ta_cX5_odds_55 (21, (.iload_n 3, 1)) (List.mem_of_getElem? (i := 10) rfl)
theorem dX5_odds_22 : decode cX5_odds 22 = .ok (.iload 4, 2) := ta_cX5_odds_55 (22, (.iload 4, 2)) (List.mem_of_getElem? (i := 11) rfl)
theorem dX5_odds_24 : decode cX5_odds 24 = .ok (.iload 5, 2) := ta_cX5_odds_55 (24, (.iload 5, 2)) (List.mem_of_getElem? (i := 12) rfl)
theorem dX5_odds_26 : decode cX5_odds 26 = .ok (.invokestatic 185, 3) := ta_cX5_odds_55 (26, (.invokestatic 185, 3)) (List.mem_of_getElem? (i := 13) rfl)
theorem dX5_odds_29 : decode cX5_odds 29 = .ok (.ifCond .eq 13, 3) := ta_cX5_odds_55 (29, (.ifCond .eq 13, 3)) (List.mem_of_getElem? (i := 14) rfl)
theorem dX5_odds_32 : decode cX5_odds 32 = .ok (.iload 8, 2) := ta_cX5_odds_55 (32, (.iload 8, 2)) (List.mem_of_getElem? (i := 15) rfl)
theorem dX5_odds_34 : decode cX5_odds 34 = .ok (.iconst 0, 1) := ta_cX5_odds_55 (34, (.iconst 0, 1)) (List.mem_of_getElem? (i := 16) rfl)
theorem dX5_odds_35 : decode cX5_odds 35 = .ok (.iconst 1, 1) := ta_cX5_odds_55 (35, (.iconst 1, 1)) (List.mem_of_getElem? (i := 17) rfl)
theorem dX5_odds_36 : decode cX5_odds 36 = .ok (.invokestatic 75, 3) := ta_cX5_odds_55 (36, (.invokestatic 75, 3)) (List.mem_of_getElem? (i := 18) rfl)
theorem dX5_odds_39 : decode cX5_odds 39 = .ok (.ifCond .ne 7, 3) := ta_cX5_odds_55 (39, (.ifCond .ne 7, 3)) (List.mem_of_getElem? (i := 19) rfl)
theorem dX5_odds_42 : decode cX5_odds 42 = .ok (.ldc2_w 196, 3) := ta_cX5_odds_55 (42, (.ldc2_w 196, 3)) (List.mem_of_getElem? (i := 20) rfl)
theorem dX5_odds_45 : decode cX5_odds 45 = .ok (.lreturn, 1) := ta_cX5_odds_55 (45, (.lreturn, 1)) (List.mem_of_getElem? (i := 21) rfl)
theorem dX5_odds_46 : decode cX5_odds 46 = .ok (.aload_n 0, 1) := ta_cX5_odds_55 (46, (.aload_n 0, 1)) (List.mem_of_getElem? (i := 22) rfl)
theorem dX5_odds_47 : decode cX5_odds 47 = .ok (.aload 9, 2) := ta_cX5_odds_55 (47, (.aload 9, 2)) (List.mem_of_getElem? (i := 23) rfl)
theorem dX5_odds_49 : decode cX5_odds 49 = .ok (.iload_n 2, 1) := ta_cX5_odds_55 (49, (.iload_n 2, 1)) (List.mem_of_getElem? (i := 24) rfl)
theorem dX5_odds_50 : decode cX5_odds 50 = .ok (.iload_n 3, 1) := ta_cX5_odds_55 (50, (.iload_n 3, 1)) (List.mem_of_getElem? (i := 25) rfl)
theorem dX5_odds_51 : decode cX5_odds 51 = .ok (.iload 4, 2) := ta_cX5_odds_55 (51, (.iload 4, 2)) (List.mem_of_getElem? (i := 26) rfl)
theorem dX5_odds_53 : decode cX5_odds 53 = .ok (.iload 5, 2) := ta_cX5_odds_55 (53, (.iload 5, 2)) (List.mem_of_getElem? (i := 27) rfl)
theorem dX5_odds_55 : decode cX5_odds 55 = .ok (.iload 6, 2) := ta_cX5_odds_55 (55, (.iload 6, 2)) (List.mem_of_getElem? (i := 28) rfl)
theorem dX5_odds_57 : decode cX5_odds 57 = .ok (.iload 7, 2) := ta_cX5_odds_55 (57, (.iload 7, 2)) (List.mem_of_getElem? (i := 29) rfl)
theorem dX5_odds_59 : decode cX5_odds 59 = .ok (.invokevirtual 198, 3) := ta_cX5_odds_55 (59, (.invokevirtual 198, 3)) (List.mem_of_getElem? (i := 30) rfl)
theorem dX5_odds_62 : decode cX5_odds 62 = .ok (.i2l, 1) := ta_cX5_odds_55 (62, (.i2l, 1)) (List.mem_of_getElem? (i := 31) rfl)
theorem dX5_odds_63 : decode cX5_odds 63 = .ok (.iload_n 3, 1) := ta_cX5_odds_55 (63, (.iload_n 3, 1)) (List.mem_of_getElem? (i := 32) rfl)
theorem dX5_odds_64 : decode cX5_odds 64 = .ok (.iload 5, 2) := ta_cX5_odds_55 (64, (.iload 5, 2)) (List.mem_of_getElem? (i := 33) rfl)
theorem dX5_odds_66 : decode cX5_odds 66 = .ok (.invokestatic 202, 3) := ta_cX5_odds_55 (66, (.invokestatic 202, 3)) (List.mem_of_getElem? (i := 34) rfl)
theorem dX5_odds_69 : decode cX5_odds 69 = .ok (.i2l, 1) := ta_cX5_odds_55 (69, (.i2l, 1)) (List.mem_of_getElem? (i := 35) rfl)
theorem dX5_odds_70 : decode cX5_odds 70 = .ok (.iload 8, 2) := ta_cX5_odds_55 (70, (.iload 8, 2)) (List.mem_of_getElem? (i := 36) rfl)
theorem dX5_odds_72 : decode cX5_odds 72 = .ok (.invokestatic 205, 3) := ta_cX5_odds_55 (72, (.invokestatic 205, 3)) (List.mem_of_getElem? (i := 37) rfl)
theorem dX5_odds_75 : decode cX5_odds 75 = .ok (.lreturn, 1) := ta_cX5_odds_55 (75, (.lreturn, 1)) (List.mem_of_getElem? (i := 38) rfl)
set_option maxRecDepth 20000 in
theorem ggX5_narrow_X5_stoneAt : GoodIn wsX5_narrow wsX5_stoneAt := goodIn_r _ [5, 6, 7, 100, 101, 102, 103, 104, 105, 106, 107, 108, 109, 110, 111, 112] rfl (by decide +kernel)
set_option maxRecDepth 20000 in
theorem gX5_narrow_X5_stoneAt : GoodIn wsX5_narrow (wsV RX5 82 RX5 yX5_stoneAt wsX5_stoneAt) := goodIn_app (goodIn_r _ [1, 2, 3, 4] rfl (by decide +kernel)) ggX5_narrow_X5_stoneAt
set_option maxRecDepth 20000 in
theorem ggX5_narrow_X5_isJudge : GoodIn wsX5_narrow wsX5_isJudge := goodIn_r _ [10, 11, 12, 4, 13] rfl (by decide +kernel)
set_option maxRecDepth 20000 in
theorem gX5_narrow_X5_isJudge : GoodIn wsX5_narrow (va_wsS RX5 174 yX5_isJudge wsX5_isJudge) := goodIn_app (goodIn_r _ [8, 9, 4] rfl (by decide +kernel)) ggX5_narrow_X5_isJudge
set_option maxRecDepth 20000 in
theorem ggX5_narrow_X5_isGrid : GoodIn wsX5_narrow wsX5_isGrid := goodIn_r _ [16, 11, 12, 4, 13] rfl (by decide +kernel)
set_option maxRecDepth 20000 in
theorem gX5_narrow_X5_isGrid : GoodIn wsX5_narrow (va_wsS RX5 185 yX5_isGrid wsX5_isGrid) := goodIn_app (goodIn_r _ [14, 15, 4] rfl (by decide +kernel)) ggX5_narrow_X5_isGrid
set_option maxRecDepth 20000 in
theorem ggX5_narrow_X5_hits : GoodIn wsX5_narrow wsX5_hits := goodIn_r _ [20, 21, 22, 23, 24, 25, 4, 26, 27, 28, 29, 30, 31, 32, 33, 34, 35, 36, 37, 38, 39, 40, 41, 42, 43, 44, 45, 46, 47, 48, 49, 50, 51, 52, 53, 54, 55, 56, 57, 58, 59, 60, 61, 62, 63, 64, 65, 66, 67, 68, 69, 70, 71, 72, 73, 74, 75, 76, 77, 78, 79, 80, 81, 82, 83, 84, 85, 86, 87, 88, 89, 90, 91, 92, 93, 94, 95, 96, 100, 101, 102, 103, 104, 105, 106, 107, 108, 109, 110, 111, 112, 113, 114, 115, 116, 117, 118, 119, 120, 121, 122, 123, 124, 125, 126, 127, 128, 129, 130, 131, 132, 133, 134] rfl (by decide +kernel)
set_option maxRecDepth 20000 in
theorem gX5_narrow_X5_hits : GoodIn wsX5_narrow (wsV RX5 198 RX5 yX5_hits wsX5_hits) := goodIn_app (goodIn_r _ [17, 18, 19, 4] rfl (by decide +kernel)) ggX5_narrow_X5_hits
set_option maxRecDepth 20000 in
theorem ggX5_narrow_X5_throwsOf : GoodIn wsX5_narrow wsX5_throwsOf := goodIn_r _ [99] rfl (by decide +kernel)
set_option maxRecDepth 20000 in
theorem gX5_narrow_X5_throwsOf : GoodIn wsX5_narrow (va_wsS RX5 202 yX5_throwsOf wsX5_throwsOf) := goodIn_app (goodIn_r _ [97, 98, 4] rfl (by decide +kernel)) ggX5_narrow_X5_throwsOf
def tb_cX5_narrow_56 : List (Nat × (Instr × Nat)) := [(0, (.aload_n 0, 1)), (1, (.iload_n 1, 1)), (2, (.invokevirtual 82, 3)), (5, (.astore 8, 2)), (7, (.aload 8, 2)), (9, (.ifnull 11, 3)), (12, (.iload 6, 2)), (14, (.invokestatic 174, 3)), (17, (.ifCond .ne 5, 3)), (20, (.iconst (-1), 1)), (21, (.ireturn, 1)), (22, (.iload_n 2, 1)), (23, (.iload_n 3, 1)), (24, (.iload 4, 2)), (26, (.iload 5, 2)), (28, (.invokestatic 185, 3)), (31, (.ifCond .ne 6, 3)), (34, (.bipush (-2), 2)), (36, (.ireturn, 1)), (37, (.iload_n 3, 1)), (38, (.ifCond .ne 15, 3)), (41, (.iload 5, 2)), (43, (.ifCond .ne 8, 3)), (46, (.bipush (-9), 2)), (48, (.goto 4, 3)), (51, (.iconst 1, 1)), (52, (.ireturn, 1)), (53, (.iload 5, 2)), (55, (.ifCond .ne 5, 3)), (58, (.iconst 0, 1)), (59, (.ireturn, 1)), (60, (.aload_n 0, 1)), (61, (.aload 8, 2)), (63, (.iload_n 2, 1)), (64, (.iload_n 3, 1)), (65, (.iconst 1, 1)), (66, (.isub, 1)), (67, (.iload 4, 2)), (69, (.iload 5, 2)), (71, (.iload 6, 2)), (73, (.iload 7, 2)), (75, (.invokevirtual 198, 3)), (78, (.iload_n 3, 1)), (79, (.iload 5, 2)), (81, (.iconst 1, 1)), (82, (.isub, 1)), (83, (.invokestatic 202, 3)), (86, (.imul, 1)), (87, (.i2l, 1)), (88, (.lstore 9, 2))]
set_option maxRecDepth 20000 in
theorem ta_cX5_narrow_56 : ∀ q ∈ tb_cX5_narrow_56, decode cX5_narrow q.1 = .ok q.2 := by decide +kernel
theorem dX5_narrow_0 : decode cX5_narrow 0 = .ok (.aload_n 0, 1) := ta_cX5_narrow_56 (0, (.aload_n 0, 1)) (List.mem_of_getElem? (i := 0) rfl)
theorem dX5_narrow_1 : decode cX5_narrow 1 = .ok (.iload_n 1, 1) := ta_cX5_narrow_56 (1, (.iload_n 1, 1)) (List.mem_of_getElem? (i := 1) rfl)
theorem dX5_narrow_2 : decode cX5_narrow 2 = .ok (.invokevirtual 82, 3) := ta_cX5_narrow_56 (2, (.invokevirtual 82, 3)) (List.mem_of_getElem? (i := 2) rfl)
theorem dX5_narrow_5 : decode cX5_narrow 5 = .ok (.astore 8, 2) := ta_cX5_narrow_56 (5, (.astore 8, 2)) (List.mem_of_getElem? (i := 3) rfl)
theorem dX5_narrow_7 : decode cX5_narrow 7 = .ok (.aload 8, 2) := ta_cX5_narrow_56 (7, (.aload 8, 2)) (List.mem_of_getElem? (i := 4) rfl)
theorem dX5_narrow_9 : decode cX5_narrow 9 = .ok (.ifnull 11, 3) := ta_cX5_narrow_56 (9, (.ifnull 11, 3)) (List.mem_of_getElem? (i := 5) rfl)
theorem dX5_narrow_12 : decode cX5_narrow 12 = .ok (.iload 6, 2) := ta_cX5_narrow_56 (12, (.iload 6, 2)) (List.mem_of_getElem? (i := 6) rfl)
theorem dX5_narrow_14 : decode cX5_narrow 14 = .ok (.invokestatic 174, 3) := ta_cX5_narrow_56 (14, (.invokestatic 174, 3)) (List.mem_of_getElem? (i := 7) rfl)
theorem dX5_narrow_17 : decode cX5_narrow 17 = .ok (.ifCond .ne 5, 3) := ta_cX5_narrow_56 (17, (.ifCond .ne 5, 3)) (List.mem_of_getElem? (i := 8) rfl)
theorem dX5_narrow_20 : decode cX5_narrow 20 = .ok (.iconst (-1), 1) := ta_cX5_narrow_56 (20, (.iconst (-1), 1)) (List.mem_of_getElem? (i := 9) rfl)
theorem dX5_narrow_21 : decode cX5_narrow 21 = .ok (.ireturn, 1) := ta_cX5_narrow_56 (21, (.ireturn, 1)) (List.mem_of_getElem? (i := 10) rfl)
theorem dX5_narrow_22 : decode cX5_narrow 22 = .ok (.iload_n 2, 1) := ta_cX5_narrow_56 (22, (.iload_n 2, 1)) (List.mem_of_getElem? (i := 11) rfl)
theorem dX5_narrow_23 : decode cX5_narrow 23 = .ok (.iload_n 3, 1) := ta_cX5_narrow_56 (23, (.iload_n 3, 1)) (List.mem_of_getElem? (i := 12) rfl)
theorem dX5_narrow_24 : decode cX5_narrow 24 = .ok (.iload 4, 2) := ta_cX5_narrow_56 (24, (.iload 4, 2)) (List.mem_of_getElem? (i := 13) rfl)
theorem dX5_narrow_26 : decode cX5_narrow 26 = .ok (.iload 5, 2) := ta_cX5_narrow_56 (26, (.iload 5, 2)) (List.mem_of_getElem? (i := 14) rfl)
theorem dX5_narrow_28 : decode cX5_narrow 28 = .ok (.invokestatic 185, 3) := ta_cX5_narrow_56 (28, (.invokestatic 185, 3)) (List.mem_of_getElem? (i := 15) rfl)
theorem dX5_narrow_31 : decode cX5_narrow 31 = .ok (.ifCond .ne 6, 3) := ta_cX5_narrow_56 (31, (.ifCond .ne 6, 3)) (List.mem_of_getElem? (i := 16) rfl)
theorem dX5_narrow_34 : decode cX5_narrow 34 = .ok (.bipush (-2), 2) := ta_cX5_narrow_56 (34, (.bipush (-2), 2)) (List.mem_of_getElem? (i := 17) rfl)
theorem dX5_narrow_36 : decode cX5_narrow 36 = .ok (.ireturn, 1) := ta_cX5_narrow_56 (36, (.ireturn, 1)) (List.mem_of_getElem? (i := 18) rfl)
theorem dX5_narrow_37 : decode cX5_narrow 37 = .ok (.iload_n 3, 1) := ta_cX5_narrow_56 (37, (.iload_n 3, 1)) (List.mem_of_getElem? (i := 19) rfl)
theorem dX5_narrow_38 : decode cX5_narrow 38 = .ok (.ifCond .ne 15, 3) := ta_cX5_narrow_56 (38, (.ifCond .ne 15, 3)) (List.mem_of_getElem? (i := 20) rfl)
theorem dX5_narrow_41 : decode cX5_narrow 41 = .ok (.iload 5, 2) := ta_cX5_narrow_56 (41, (.iload 5, 2)) (List.mem_of_getElem? (i := 21) rfl)
theorem dX5_narrow_43 : decode cX5_narrow 43 = .ok (.ifCond .ne 8, 3) := ta_cX5_narrow_56 (43, (.ifCond .ne 8, 3)) (List.mem_of_getElem? (i := 22) rfl)
theorem dX5_narrow_46 : decode cX5_narrow 46 = .ok (.bipush (-9), 2) := ta_cX5_narrow_56 (46, (.bipush (-9), 2)) (List.mem_of_getElem? (i := 23) rfl)
theorem dX5_narrow_48 : decode cX5_narrow 48 = .ok (.goto 4, 3) := ta_cX5_narrow_56 (48, (.goto 4, 3)) (List.mem_of_getElem? (i := 24) rfl)
theorem dX5_narrow_51 : decode cX5_narrow 51 = .ok (.iconst 1, 1) := ta_cX5_narrow_56 (51, (.iconst 1, 1)) (List.mem_of_getElem? (i := 25) rfl)
theorem dX5_narrow_52 : decode cX5_narrow 52 = .ok (.ireturn, 1) := ta_cX5_narrow_56 (52, (.ireturn, 1)) (List.mem_of_getElem? (i := 26) rfl)
theorem dX5_narrow_53 : decode cX5_narrow 53 = .ok (.iload 5, 2) := ta_cX5_narrow_56 (53, (.iload 5, 2)) (List.mem_of_getElem? (i := 27) rfl)
theorem dX5_narrow_55 : decode cX5_narrow 55 = .ok (.ifCond .ne 5, 3) := ta_cX5_narrow_56 (55, (.ifCond .ne 5, 3)) (List.mem_of_getElem? (i := 28) rfl)
theorem dX5_narrow_58 : decode cX5_narrow 58 = .ok (.iconst 0, 1) := ta_cX5_narrow_56 (58, (.iconst 0, 1)) (List.mem_of_getElem? (i := 29) rfl)
theorem dX5_narrow_59 : decode cX5_narrow 59 = .ok (.ireturn, 1) := ta_cX5_narrow_56 (59, (.ireturn, 1)) (List.mem_of_getElem? (i := 30) rfl)
theorem dX5_narrow_60 : decode cX5_narrow 60 = .ok (.aload_n 0, 1) := ta_cX5_narrow_56 (60, (.aload_n 0, 1)) (List.mem_of_getElem? (i := 31) rfl)
theorem dX5_narrow_61 : decode cX5_narrow 61 = .ok (.aload 8, 2) := ta_cX5_narrow_56 (61, (.aload 8, 2)) (List.mem_of_getElem? (i := 32) rfl)
theorem dX5_narrow_63 : decode cX5_narrow 63 = .ok (.iload_n 2, 1) := ta_cX5_narrow_56 (63, (.iload_n 2, 1)) (List.mem_of_getElem? (i := 33) rfl)
theorem dX5_narrow_64 : decode cX5_narrow 64 = .ok (.iload_n 3, 1) := ta_cX5_narrow_56 (64, (.iload_n 3, 1)) (List.mem_of_getElem? (i := 34) rfl)
theorem dX5_narrow_65 : decode cX5_narrow 65 = .ok (.iconst 1, 1) := ta_cX5_narrow_56 (65, (.iconst 1, 1)) (List.mem_of_getElem? (i := 35) rfl)
theorem dX5_narrow_66 : decode cX5_narrow 66 = .ok (.isub, 1) := ta_cX5_narrow_56 (66, (.isub, 1)) (List.mem_of_getElem? (i := 36) rfl)
theorem dX5_narrow_67 : decode cX5_narrow 67 = .ok (.iload 4, 2) := ta_cX5_narrow_56 (67, (.iload 4, 2)) (List.mem_of_getElem? (i := 37) rfl)
theorem dX5_narrow_69 : decode cX5_narrow 69 = .ok (.iload 5, 2) := ta_cX5_narrow_56 (69, (.iload 5, 2)) (List.mem_of_getElem? (i := 38) rfl)
theorem dX5_narrow_71 : decode cX5_narrow 71 = .ok (.iload 6, 2) := ta_cX5_narrow_56 (71, (.iload 6, 2)) (List.mem_of_getElem? (i := 39) rfl)
theorem dX5_narrow_73 : decode cX5_narrow 73 = .ok (.iload 7, 2) := ta_cX5_narrow_56 (73, (.iload 7, 2)) (List.mem_of_getElem? (i := 40) rfl)
theorem dX5_narrow_75 : decode cX5_narrow 75 = .ok (.invokevirtual 198, 3) := ta_cX5_narrow_56 (75, (.invokevirtual 198, 3)) (List.mem_of_getElem? (i := 41) rfl)
theorem dX5_narrow_78 : decode cX5_narrow 78 = .ok (.iload_n 3, 1) := ta_cX5_narrow_56 (78, (.iload_n 3, 1)) (List.mem_of_getElem? (i := 42) rfl)
theorem dX5_narrow_79 : decode cX5_narrow 79 = .ok (.iload 5, 2) := ta_cX5_narrow_56 (79, (.iload 5, 2)) (List.mem_of_getElem? (i := 43) rfl)
theorem dX5_narrow_81 : decode cX5_narrow 81 = .ok (.iconst 1, 1) := ta_cX5_narrow_56 (81, (.iconst 1, 1)) (List.mem_of_getElem? (i := 44) rfl)
theorem dX5_narrow_82 : decode cX5_narrow 82 = .ok (.isub, 1) := ta_cX5_narrow_56 (82, (.isub, 1)) (List.mem_of_getElem? (i := 45) rfl)
theorem dX5_narrow_83 : decode cX5_narrow 83 = .ok (.invokestatic 202, 3) := ta_cX5_narrow_56 (83, (.invokestatic 202, 3)) (List.mem_of_getElem? (i := 46) rfl)
theorem dX5_narrow_86 : decode cX5_narrow 86 = .ok (.imul, 1) := ta_cX5_narrow_56 (86, (.imul, 1)) (List.mem_of_getElem? (i := 47) rfl)
theorem dX5_narrow_87 : decode cX5_narrow 87 = .ok (.i2l, 1) := ta_cX5_narrow_56 (87, (.i2l, 1)) (List.mem_of_getElem? (i := 48) rfl)
theorem dX5_narrow_88 : decode cX5_narrow 88 = .ok (.lstore 9, 2) := ta_cX5_narrow_56 (88, (.lstore 9, 2)) (List.mem_of_getElem? (i := 49) rfl)
def tb_cX5_narrow_57 : List (Nat × (Instr × Nat)) := [(90, (.aload_n 0, 1)), (91, (.aload 8, 2)), (93, (.iload_n 2, 1)), (94, (.iload_n 3, 1)), (95, (.iload 4, 2)), (97, (.iload 5, 2)), (99, (.iconst 1, 1)), (100, (.isub, 1)), (101, (.iload 6, 2)), (103, (.iload 7, 2)), (105, (.invokevirtual 198, 3)), (108, (.iload_n 3, 1)), (109, (.iconst 1, 1)), (110, (.isub, 1)), (111, (.iload 5, 2)), (113, (.invokestatic 202, 3)), (116, (.imul, 1)), (117, (.i2l, 1)), (118, (.lstore 11, 2)), (120, (.lload 11, 2)), (122, (.lload 9, 2)), (124, (.lcmp, 1)), (125, (.ifCond .le 7, 3)), (128, (.iconst 1, 1)), (129, (.goto 4, 3)), (132, (.iconst 0, 1)), (133, (.ireturn, 1))]
set_option maxRecDepth 20000 in
theorem ta_cX5_narrow_57 : ∀ q ∈ tb_cX5_narrow_57, decode cX5_narrow q.1 = .ok q.2 := by decide +kernel
theorem dX5_narrow_90 : decode cX5_narrow 90 = .ok (.aload_n 0, 1) := ta_cX5_narrow_57 (90, (.aload_n 0, 1)) (List.mem_of_getElem? (i := 0) rfl)
theorem dX5_narrow_91 : decode cX5_narrow 91 = .ok (.aload 8, 2) := ta_cX5_narrow_57 (91, (.aload 8, 2)) (List.mem_of_getElem? (i := 1) rfl)
theorem dX5_narrow_93 : decode cX5_narrow 93 = .ok (.iload_n 2, 1) := ta_cX5_narrow_57 (93, (.iload_n 2, 1)) (List.mem_of_getElem? (i := 2) rfl)
theorem dX5_narrow_94 : decode cX5_narrow 94 = .ok (.iload_n 3, 1) := ta_cX5_narrow_57 (94, (.iload_n 3, 1)) (List.mem_of_getElem? (i := 3) rfl)
theorem dX5_narrow_95 : decode cX5_narrow 95 = .ok (.iload 4, 2) := ta_cX5_narrow_57 (95, (.iload 4, 2)) (List.mem_of_getElem? (i := 4) rfl)
theorem dX5_narrow_97 : decode cX5_narrow 97 = .ok (.iload 5, 2) := ta_cX5_narrow_57 (97, (.iload 5, 2)) (List.mem_of_getElem? (i := 5) rfl)
theorem dX5_narrow_99 : decode cX5_narrow 99 = .ok (.iconst 1, 1) := ta_cX5_narrow_57 (99, (.iconst 1, 1)) (List.mem_of_getElem? (i := 6) rfl)
theorem dX5_narrow_100 : decode cX5_narrow 100 = .ok (.isub, 1) := ta_cX5_narrow_57 (100, (.isub, 1)) (List.mem_of_getElem? (i := 7) rfl)
theorem dX5_narrow_101 : decode cX5_narrow 101 = .ok (.iload 6, 2) := ta_cX5_narrow_57 (101, (.iload 6, 2)) (List.mem_of_getElem? (i := 8) rfl)
theorem dX5_narrow_103 : decode cX5_narrow 103 = .ok (.iload 7, 2) := ta_cX5_narrow_57 (103, (.iload 7, 2)) (List.mem_of_getElem? (i := 9) rfl)
theorem dX5_narrow_105 : decode cX5_narrow 105 = .ok (.invokevirtual 198, 3) := ta_cX5_narrow_57 (105, (.invokevirtual 198, 3)) (List.mem_of_getElem? (i := 10) rfl)
theorem dX5_narrow_108 : decode cX5_narrow 108 = .ok (.iload_n 3, 1) := ta_cX5_narrow_57 (108, (.iload_n 3, 1)) (List.mem_of_getElem? (i := 11) rfl)
theorem dX5_narrow_109 : decode cX5_narrow 109 = .ok (.iconst 1, 1) := ta_cX5_narrow_57 (109, (.iconst 1, 1)) (List.mem_of_getElem? (i := 12) rfl)
theorem dX5_narrow_110 : decode cX5_narrow 110 = .ok (.isub, 1) := ta_cX5_narrow_57 (110, (.isub, 1)) (List.mem_of_getElem? (i := 13) rfl)
theorem dX5_narrow_111 : decode cX5_narrow 111 = .ok (.iload 5, 2) := ta_cX5_narrow_57 (111, (.iload 5, 2)) (List.mem_of_getElem? (i := 14) rfl)
theorem dX5_narrow_113 : decode cX5_narrow 113 = .ok (.invokestatic 202, 3) := ta_cX5_narrow_57 (113, (.invokestatic 202, 3)) (List.mem_of_getElem? (i := 15) rfl)
theorem dX5_narrow_116 : decode cX5_narrow 116 = .ok (.imul, 1) := ta_cX5_narrow_57 (116, (.imul, 1)) (List.mem_of_getElem? (i := 16) rfl)
theorem dX5_narrow_117 : decode cX5_narrow 117 = .ok (.i2l, 1) := ta_cX5_narrow_57 (117, (.i2l, 1)) (List.mem_of_getElem? (i := 17) rfl)
theorem dX5_narrow_118 : decode cX5_narrow 118 = .ok (.lstore 11, 2) := ta_cX5_narrow_57 (118, (.lstore 11, 2)) (List.mem_of_getElem? (i := 18) rfl)
theorem dX5_narrow_120 : decode cX5_narrow 120 = .ok (.lload 11, 2) := ta_cX5_narrow_57 (120, (.lload 11, 2)) (List.mem_of_getElem? (i := 19) rfl)
theorem dX5_narrow_122 : decode cX5_narrow 122 = .ok (.lload 9, 2) := ta_cX5_narrow_57 (122, (.lload 9, 2)) (List.mem_of_getElem? (i := 20) rfl)
theorem dX5_narrow_124 : decode cX5_narrow 124 = .ok (.lcmp, 1) := ta_cX5_narrow_57 (124, (.lcmp, 1)) (List.mem_of_getElem? (i := 21) rfl)
theorem dX5_narrow_125 : decode cX5_narrow 125 = .ok (.ifCond .le 7, 3) := ta_cX5_narrow_57 (125, (.ifCond .le 7, 3)) (List.mem_of_getElem? (i := 22) rfl)
theorem dX5_narrow_128 : decode cX5_narrow 128 = .ok (.iconst 1, 1) := ta_cX5_narrow_57 (128, (.iconst 1, 1)) (List.mem_of_getElem? (i := 23) rfl)
theorem dX5_narrow_129 : decode cX5_narrow 129 = .ok (.goto 4, 3) := ta_cX5_narrow_57 (129, (.goto 4, 3)) (List.mem_of_getElem? (i := 24) rfl)
theorem dX5_narrow_132 : decode cX5_narrow 132 = .ok (.iconst 0, 1) := ta_cX5_narrow_57 (132, (.iconst 0, 1)) (List.mem_of_getElem? (i := 25) rfl)
theorem dX5_narrow_133 : decode cX5_narrow 133 = .ok (.ireturn, 1) := ta_cX5_narrow_57 (133, (.ireturn, 1)) (List.mem_of_getElem? (i := 26) rfl)
set_option maxRecDepth 20000 in
theorem ggX5_rings_X5_refusalOfRow : GoodIn wsX5_rings wsX5_refusalOfRow := goodIn_r _ [8, 9, 10, 11, 7, 12, 13, 14, 15, 16, 17, 18, 19, 20, 21, 22, 23, 24, 25, 26, 27, 28, 29, 30, 31, 32, 33, 34, 35, 36, 37, 38, 39, 40, 41, 42, 43, 44, 45, 46, 47, 48, 49, 54, 55, 56, 57, 58, 59, 60, 61, 62, 63, 64, 65, 66, 67, 68, 69, 70] rfl (by decide +kernel)
set_option maxRecDepth 20000 in
theorem gX5_rings_X5_refusalOfRow : GoodIn wsX5_rings (wsV RX5 134 RX5 yX5_refusalOfRow wsX5_refusalOfRow) := goodIn_app (goodIn_r _ [4, 5, 6, 7] rfl (by decide +kernel)) ggX5_rings_X5_refusalOfRow
set_option maxRecDepth 20000 in
theorem ggX5_rings_X5_takeCells : GoodIn wsX5_rings wsX5_takeCells := goodIn_r _ [53, 14, 15, 16, 7, 17, 18, 41, 42, 43, 28, 44, 45, 46, 47, 48, 49, 40, 54, 55, 56, 57, 58, 59, 60, 61, 62, 63, 64, 65, 66, 67, 68, 69, 70] rfl (by decide +kernel)
set_option maxRecDepth 20000 in
theorem gX5_rings_X5_takeCells : GoodIn wsX5_rings (wsV RX5 141 RX5 yX5_takeCells wsX5_takeCells) := goodIn_app (goodIn_r _ [50, 51, 52, 7] rfl (by decide +kernel)) ggX5_rings_X5_takeCells
def tb_cX5_rings_58 : List (Nat × (Instr × Nat)) := [(0, (.aload_n 0, 1)), (1, (.iload_n 1, 1)), (2, (.iload_n 2, 1)), (3, (.iload_n 3, 1)), (4, (.iload 4, 2)), (6, (.iconst 1, 1)), (7, (.ldc 209, 2)), (9, (.invokevirtual 134, 3)), (12, (.istore 5, 2)), (14, (.iload 5, 2)), (16, (.ifCond .eq 6, 3)), (19, (.iload 5, 2)), (21, (.ireturn, 1)), (22, (.aload_n 0, 1)), (23, (.iload_n 1, 1)), (24, (.iload_n 3, 1)), (25, (.iload 4, 2)), (27, (.aload_n 0, 1)), (28, (.getfield 51, 3)), (31, (.invokevirtual 141, 3)), (34, (.aload_n 0, 1)), (35, (.iload 4, 2)), (37, (.putfield 55, 3)), (40, (.iload 4, 2)), (42, (.ireturn, 1))]
set_option maxRecDepth 20000 in
theorem ta_cX5_rings_58 : ∀ q ∈ tb_cX5_rings_58, decode cX5_rings q.1 = .ok q.2 := by decide +kernel
theorem dX5_rings_0 : decode cX5_rings 0 = .ok (.aload_n 0, 1) := ta_cX5_rings_58 (0, (.aload_n 0, 1)) (List.mem_of_getElem? (i := 0) rfl)
theorem dX5_rings_1 : decode cX5_rings 1 = .ok (.iload_n 1, 1) := ta_cX5_rings_58 (1, (.iload_n 1, 1)) (List.mem_of_getElem? (i := 1) rfl)
theorem dX5_rings_2 : decode cX5_rings 2 = .ok (.iload_n 2, 1) := ta_cX5_rings_58 (2, (.iload_n 2, 1)) (List.mem_of_getElem? (i := 2) rfl)
theorem dX5_rings_3 : decode cX5_rings 3 = .ok (.iload_n 3, 1) := ta_cX5_rings_58 (3, (.iload_n 3, 1)) (List.mem_of_getElem? (i := 3) rfl)
theorem dX5_rings_4 : decode cX5_rings 4 = .ok (.iload 4, 2) := ta_cX5_rings_58 (4, (.iload 4, 2)) (List.mem_of_getElem? (i := 4) rfl)
theorem dX5_rings_6 : decode cX5_rings 6 = .ok (.iconst 1, 1) := ta_cX5_rings_58 (6, (.iconst 1, 1)) (List.mem_of_getElem? (i := 5) rfl)
theorem dX5_rings_7 : decode cX5_rings 7 = .ok (.ldc 209, 2) := ta_cX5_rings_58 (7, (.ldc 209, 2)) (List.mem_of_getElem? (i := 6) rfl)
theorem dX5_rings_9 : decode cX5_rings 9 = .ok (.invokevirtual 134, 3) := ta_cX5_rings_58 (9, (.invokevirtual 134, 3)) (List.mem_of_getElem? (i := 7) rfl)
theorem dX5_rings_12 : decode cX5_rings 12 = .ok (.istore 5, 2) := ta_cX5_rings_58 (12, (.istore 5, 2)) (List.mem_of_getElem? (i := 8) rfl)
theorem dX5_rings_14 : decode cX5_rings 14 = .ok (.iload 5, 2) := ta_cX5_rings_58 (14, (.iload 5, 2)) (List.mem_of_getElem? (i := 9) rfl)
theorem dX5_rings_16 : decode cX5_rings 16 = .ok (.ifCond .eq 6, 3) := ta_cX5_rings_58 (16, (.ifCond .eq 6, 3)) (List.mem_of_getElem? (i := 10) rfl)
theorem dX5_rings_19 : decode cX5_rings 19 = .ok (.iload 5, 2) := ta_cX5_rings_58 (19, (.iload 5, 2)) (List.mem_of_getElem? (i := 11) rfl)
theorem dX5_rings_21 : decode cX5_rings 21 = .ok (.ireturn, 1) := ta_cX5_rings_58 (21, (.ireturn, 1)) (List.mem_of_getElem? (i := 12) rfl)
theorem dX5_rings_22 : decode cX5_rings 22 = .ok (.aload_n 0, 1) := ta_cX5_rings_58 (22, (.aload_n 0, 1)) (List.mem_of_getElem? (i := 13) rfl)
theorem dX5_rings_23 : decode cX5_rings 23 = .ok (.iload_n 1, 1) := ta_cX5_rings_58 (23, (.iload_n 1, 1)) (List.mem_of_getElem? (i := 14) rfl)
theorem dX5_rings_24 : decode cX5_rings 24 = .ok (.iload_n 3, 1) := ta_cX5_rings_58 (24, (.iload_n 3, 1)) (List.mem_of_getElem? (i := 15) rfl)
theorem dX5_rings_25 : decode cX5_rings 25 = .ok (.iload 4, 2) := ta_cX5_rings_58 (25, (.iload 4, 2)) (List.mem_of_getElem? (i := 16) rfl)
theorem dX5_rings_27 : decode cX5_rings 27 = .ok (.aload_n 0, 1) := ta_cX5_rings_58 (27, (.aload_n 0, 1)) (List.mem_of_getElem? (i := 17) rfl)
theorem dX5_rings_28 : decode cX5_rings 28 = .ok (.getfield 51, 3) := ta_cX5_rings_58 (28, (.getfield 51, 3)) (List.mem_of_getElem? (i := 18) rfl)
theorem dX5_rings_31 : decode cX5_rings 31 = .ok (.invokevirtual 141, 3) := ta_cX5_rings_58 (31, (.invokevirtual 141, 3)) (List.mem_of_getElem? (i := 19) rfl)
theorem dX5_rings_34 : decode cX5_rings 34 = .ok (.aload_n 0, 1) := ta_cX5_rings_58 (34, (.aload_n 0, 1)) (List.mem_of_getElem? (i := 20) rfl)
theorem dX5_rings_35 : decode cX5_rings 35 = .ok (.iload 4, 2) := ta_cX5_rings_58 (35, (.iload 4, 2)) (List.mem_of_getElem? (i := 21) rfl)
theorem dX5_rings_37 : decode cX5_rings 37 = .ok (.putfield 55, 3) := ta_cX5_rings_58 (37, (.putfield 55, 3)) (List.mem_of_getElem? (i := 22) rfl)
theorem dX5_rings_40 : decode cX5_rings 40 = .ok (.iload 4, 2) := ta_cX5_rings_58 (40, (.iload 4, 2)) (List.mem_of_getElem? (i := 23) rfl)
theorem dX5_rings_42 : decode cX5_rings 42 = .ok (.ireturn, 1) := ta_cX5_rings_58 (42, (.ireturn, 1)) (List.mem_of_getElem? (i := 24) rfl)
set_option maxRecDepth 20000 in
theorem ggX5_read_X5_stoneAt : GoodIn wsX5_read wsX5_stoneAt := goodIn_r _ [10, 11, 12, 87, 88, 89, 90, 91, 92, 93, 94, 95, 96, 97, 98, 99] rfl (by decide +kernel)
set_option maxRecDepth 20000 in
theorem gX5_read_X5_stoneAt : GoodIn wsX5_read (wsV RX5 82 RX5 yX5_stoneAt wsX5_stoneAt) := goodIn_app (goodIn_r _ [6, 7, 8, 9] rfl (by decide +kernel)) ggX5_read_X5_stoneAt
set_option maxRecDepth 20000 in
theorem ggX5_read_X5_isGrid : GoodIn wsX5_read wsX5_isGrid := goodIn_r _ [15, 16, 17, 9, 18] rfl (by decide +kernel)
set_option maxRecDepth 20000 in
theorem gX5_read_X5_isGrid : GoodIn wsX5_read (va_wsS RX5 185 yX5_isGrid wsX5_isGrid) := goodIn_app (goodIn_r _ [13, 14, 9] rfl (by decide +kernel)) ggX5_read_X5_isGrid
set_option maxRecDepth 20000 in
theorem ggX5_read_X5_within : GoodIn wsX5_read wsX5_within := goodIn_r _ [18] rfl (by decide +kernel)
set_option maxRecDepth 20000 in
theorem gX5_read_X5_within : GoodIn wsX5_read (va_wsS RX5 75 yX5_within wsX5_within) := goodIn_app (goodIn_r _ [16, 17, 9] rfl (by decide +kernel)) ggX5_read_X5_within
set_option maxRecDepth 20000 in
theorem ggX5_read_X5_tryOut : GoodIn wsX5_read wsX5_tryOut := goodIn_r _ [22, 4, 23, 24, 2, 25, 26, 27, 28, 29, 30, 31, 32, 33, 34, 35, 36, 37, 38, 39, 40, 41, 42, 43, 44, 45, 46, 47, 48, 49, 50, 51, 52, 53, 54, 55, 56, 57, 58, 59, 60, 61, 62, 9, 63, 64, 65, 66, 67, 68, 69, 70, 71, 72, 73, 74, 75, 87, 88, 89, 90, 91, 92, 93, 94, 95, 96, 97, 98, 99, 109, 110, 111, 112, 113, 114, 115, 116, 100, 101, 102, 103, 104, 105, 106, 107, 108, 117, 118, 119, 120, 121] rfl (by decide +kernel)
set_option maxRecDepth 20000 in
theorem gX5_read_X5_tryOut : GoodIn wsX5_read (wsV RX5 210 RX5 yX5_tryOut wsX5_tryOut) := goodIn_app (goodIn_r _ [19, 20, 21, 9] rfl (by decide +kernel)) ggX5_read_X5_tryOut
set_option maxRecDepth 20000 in
theorem ggX5_read_X0_ringsAt : GoodIn wsX5_read wsX0_ringsAt := goodIn_r _ [79, 36, 80, 81, 82, 28, 83, 71, 109, 110, 111, 112, 113, 114, 115, 116] rfl (by decide +kernel)
set_option maxRecDepth 20000 in
theorem gX5_read_X0_ringsAt : GoodIn wsX5_read (wsV RX5 214 RX0 yX0_ringsAt wsX0_ringsAt) := goodIn_app (goodIn_r _ [76, 77, 78, 28] rfl (by decide +kernel)) ggX5_read_X0_ringsAt
set_option maxRecDepth 20000 in
theorem ggX5_read_X5_pick : GoodIn wsX5_read wsX5_pick := goodIn_r _ [86] rfl (by decide +kernel)
set_option maxRecDepth 20000 in
theorem gX5_read_X5_pick : GoodIn wsX5_read (va_wsS RX5 193 yX5_pick wsX5_pick) := goodIn_app (goodIn_r _ [84, 85, 9] rfl (by decide +kernel)) ggX5_read_X5_pick
def tb_cX5_read_59 : List (Nat × (Instr × Nat)) := [(0, (.aload_n 0, 1)), (1, (.iload_n 1, 1)), (2, (.invokevirtual 82, 3)), (5, (.astore 7, 2)), (7, (.aload 7, 2)), (9, (.ifnonnull 5, 3)), (12, (.iconst (-1), 1)), (13, (.ireturn, 1)), (14, (.iload_n 2, 1)), (15, (.iload_n 3, 1)), (16, (.iload 4, 2)), (18, (.iload 5, 2)), (20, (.invokestatic 185, 3)), (23, (.ifCond .eq 13, 3)), (26, (.iload 6, 2)), (28, (.iconst 0, 1)), (29, (.iconst 2, 1)), (30, (.invokestatic 75, 3)), (33, (.ifCond .ne 6, 3)), (36, (.bipush (-2), 2)), (38, (.ireturn, 1)), (39, (.aload_n 0, 1)), (40, (.getfield 55, 3)), (43, (.ifCond .ne 6, 3)), (46, (.bipush (-3), 2)), (48, (.ireturn, 1)), (49, (.iconst 0, 1)), (50, (.istore 8, 2)), (52, (.bipush (-9), 2)), (54, (.istore 9, 2)), (56, (.bipush (-9), 2)), (58, (.istore 10, 2)), (60, (.iload_n 2, 1)), (61, (.istore 11, 2)), (63, (.iload 11, 2)), (65, (.iload_n 2, 1)), (66, (.iload_n 3, 1)), (67, (.iadd, 1)), (68, (.if_icmp .gt 95, 3)), (71, (.iload 4, 2)), (73, (.istore 12, 2)), (75, (.iload 12, 2)), (77, (.iload 4, 2)), (79, (.iload 5, 2)), (81, (.iadd, 1)), (82, (.if_icmp .gt 75, 3)), (85, (.aload_n 0, 1)), (86, (.aload 7, 2)), (88, (.iload 11, 2)), (90, (.iload 12, 2))]
set_option maxRecDepth 20000 in
theorem ta_cX5_read_59 : ∀ q ∈ tb_cX5_read_59, decode cX5_read q.1 = .ok q.2 := by decide +kernel
theorem dX5_read_0 : decode cX5_read 0 = .ok (.aload_n 0, 1) := ta_cX5_read_59 (0, (.aload_n 0, 1)) (List.mem_of_getElem? (i := 0) rfl)
theorem dX5_read_1 : decode cX5_read 1 = .ok (.iload_n 1, 1) := ta_cX5_read_59 (1, (.iload_n 1, 1)) (List.mem_of_getElem? (i := 1) rfl)
theorem dX5_read_2 : decode cX5_read 2 = .ok (.invokevirtual 82, 3) := ta_cX5_read_59 (2, (.invokevirtual 82, 3)) (List.mem_of_getElem? (i := 2) rfl)
theorem dX5_read_5 : decode cX5_read 5 = .ok (.astore 7, 2) := ta_cX5_read_59 (5, (.astore 7, 2)) (List.mem_of_getElem? (i := 3) rfl)
theorem dX5_read_7 : decode cX5_read 7 = .ok (.aload 7, 2) := ta_cX5_read_59 (7, (.aload 7, 2)) (List.mem_of_getElem? (i := 4) rfl)
theorem dX5_read_9 : decode cX5_read 9 = .ok (.ifnonnull 5, 3) := ta_cX5_read_59 (9, (.ifnonnull 5, 3)) (List.mem_of_getElem? (i := 5) rfl)
theorem dX5_read_12 : decode cX5_read 12 = .ok (.iconst (-1), 1) := ta_cX5_read_59 (12, (.iconst (-1), 1)) (List.mem_of_getElem? (i := 6) rfl)
theorem dX5_read_13 : decode cX5_read 13 = .ok (.ireturn, 1) := ta_cX5_read_59 (13, (.ireturn, 1)) (List.mem_of_getElem? (i := 7) rfl)
theorem dX5_read_14 : decode cX5_read 14 = .ok (.iload_n 2, 1) := ta_cX5_read_59 (14, (.iload_n 2, 1)) (List.mem_of_getElem? (i := 8) rfl)
theorem dX5_read_15 : decode cX5_read 15 = .ok (.iload_n 3, 1) := ta_cX5_read_59 (15, (.iload_n 3, 1)) (List.mem_of_getElem? (i := 9) rfl)
theorem dX5_read_16 : decode cX5_read 16 = .ok (.iload 4, 2) := ta_cX5_read_59 (16, (.iload 4, 2)) (List.mem_of_getElem? (i := 10) rfl)
theorem dX5_read_18 : decode cX5_read 18 = .ok (.iload 5, 2) := ta_cX5_read_59 (18, (.iload 5, 2)) (List.mem_of_getElem? (i := 11) rfl)
theorem dX5_read_20 : decode cX5_read 20 = .ok (.invokestatic 185, 3) := ta_cX5_read_59 (20, (.invokestatic 185, 3)) (List.mem_of_getElem? (i := 12) rfl)
theorem dX5_read_23 : decode cX5_read 23 = .ok (.ifCond .eq 13, 3) := ta_cX5_read_59 (23, (.ifCond .eq 13, 3)) (List.mem_of_getElem? (i := 13) rfl)
theorem dX5_read_26 : decode cX5_read 26 = .ok (.iload 6, 2) := ta_cX5_read_59 (26, (.iload 6, 2)) (List.mem_of_getElem? (i := 14) rfl)
theorem dX5_read_28 : decode cX5_read 28 = .ok (.iconst 0, 1) := ta_cX5_read_59 (28, (.iconst 0, 1)) (List.mem_of_getElem? (i := 15) rfl)
theorem dX5_read_29 : decode cX5_read 29 = .ok (.iconst 2, 1) := ta_cX5_read_59 (29, (.iconst 2, 1)) (List.mem_of_getElem? (i := 16) rfl)
theorem dX5_read_30 : decode cX5_read 30 = .ok (.invokestatic 75, 3) := ta_cX5_read_59 (30, (.invokestatic 75, 3)) (List.mem_of_getElem? (i := 17) rfl)
theorem dX5_read_33 : decode cX5_read 33 = .ok (.ifCond .ne 6, 3) := ta_cX5_read_59 (33, (.ifCond .ne 6, 3)) (List.mem_of_getElem? (i := 18) rfl)
theorem dX5_read_36 : decode cX5_read 36 = .ok (.bipush (-2), 2) := ta_cX5_read_59 (36, (.bipush (-2), 2)) (List.mem_of_getElem? (i := 19) rfl)
theorem dX5_read_38 : decode cX5_read 38 = .ok (.ireturn, 1) := ta_cX5_read_59 (38, (.ireturn, 1)) (List.mem_of_getElem? (i := 20) rfl)
theorem dX5_read_39 : decode cX5_read 39 = .ok (.aload_n 0, 1) := ta_cX5_read_59 (39, (.aload_n 0, 1)) (List.mem_of_getElem? (i := 21) rfl)
theorem dX5_read_40 : decode cX5_read 40 = .ok (.getfield 55, 3) := ta_cX5_read_59 (40, (.getfield 55, 3)) (List.mem_of_getElem? (i := 22) rfl)
theorem dX5_read_43 : decode cX5_read 43 = .ok (.ifCond .ne 6, 3) := ta_cX5_read_59 (43, (.ifCond .ne 6, 3)) (List.mem_of_getElem? (i := 23) rfl)
theorem dX5_read_46 : decode cX5_read 46 = .ok (.bipush (-3), 2) := ta_cX5_read_59 (46, (.bipush (-3), 2)) (List.mem_of_getElem? (i := 24) rfl)
theorem dX5_read_48 : decode cX5_read 48 = .ok (.ireturn, 1) := ta_cX5_read_59 (48, (.ireturn, 1)) (List.mem_of_getElem? (i := 25) rfl)
theorem dX5_read_49 : decode cX5_read 49 = .ok (.iconst 0, 1) := ta_cX5_read_59 (49, (.iconst 0, 1)) (List.mem_of_getElem? (i := 26) rfl)
theorem dX5_read_50 : decode cX5_read 50 = .ok (.istore 8, 2) := ta_cX5_read_59 (50, (.istore 8, 2)) (List.mem_of_getElem? (i := 27) rfl)
theorem dX5_read_52 : decode cX5_read 52 = .ok (.bipush (-9), 2) := ta_cX5_read_59 (52, (.bipush (-9), 2)) (List.mem_of_getElem? (i := 28) rfl)
theorem dX5_read_54 : decode cX5_read 54 = .ok (.istore 9, 2) := ta_cX5_read_59 (54, (.istore 9, 2)) (List.mem_of_getElem? (i := 29) rfl)
theorem dX5_read_56 : decode cX5_read 56 = .ok (.bipush (-9), 2) := ta_cX5_read_59 (56, (.bipush (-9), 2)) (List.mem_of_getElem? (i := 30) rfl)
theorem dX5_read_58 : decode cX5_read 58 = .ok (.istore 10, 2) := ta_cX5_read_59 (58, (.istore 10, 2)) (List.mem_of_getElem? (i := 31) rfl)
theorem dX5_read_60 : decode cX5_read 60 = .ok (.iload_n 2, 1) := ta_cX5_read_59 (60, (.iload_n 2, 1)) (List.mem_of_getElem? (i := 32) rfl)
theorem dX5_read_61 : decode cX5_read 61 = .ok (.istore 11, 2) := ta_cX5_read_59 (61, (.istore 11, 2)) (List.mem_of_getElem? (i := 33) rfl)
theorem dX5_read_63 : decode cX5_read 63 = .ok (.iload 11, 2) := ta_cX5_read_59 (63, (.iload 11, 2)) (List.mem_of_getElem? (i := 34) rfl)
theorem dX5_read_65 : decode cX5_read 65 = .ok (.iload_n 2, 1) := ta_cX5_read_59 (65, (.iload_n 2, 1)) (List.mem_of_getElem? (i := 35) rfl)
theorem dX5_read_66 : decode cX5_read 66 = .ok (.iload_n 3, 1) := ta_cX5_read_59 (66, (.iload_n 3, 1)) (List.mem_of_getElem? (i := 36) rfl)
theorem dX5_read_67 : decode cX5_read 67 = .ok (.iadd, 1) := ta_cX5_read_59 (67, (.iadd, 1)) (List.mem_of_getElem? (i := 37) rfl)
theorem dX5_read_68 : decode cX5_read 68 = .ok (.if_icmp .gt 95, 3) := ta_cX5_read_59 (68, (.if_icmp .gt 95, 3)) (List.mem_of_getElem? (i := 38) rfl)
theorem dX5_read_71 : decode cX5_read 71 = .ok (.iload 4, 2) := ta_cX5_read_59 (71, (.iload 4, 2)) (List.mem_of_getElem? (i := 39) rfl)
theorem dX5_read_73 : decode cX5_read 73 = .ok (.istore 12, 2) := ta_cX5_read_59 (73, (.istore 12, 2)) (List.mem_of_getElem? (i := 40) rfl)
theorem dX5_read_75 : decode cX5_read 75 = .ok (.iload 12, 2) := ta_cX5_read_59 (75, (.iload 12, 2)) (List.mem_of_getElem? (i := 41) rfl)
theorem dX5_read_77 : decode cX5_read 77 = .ok (.iload 4, 2) := ta_cX5_read_59 (77, (.iload 4, 2)) (List.mem_of_getElem? (i := 42) rfl)
theorem dX5_read_79 : decode cX5_read 79 = .ok (.iload 5, 2) := ta_cX5_read_59 (79, (.iload 5, 2)) (List.mem_of_getElem? (i := 43) rfl)
theorem dX5_read_81 : decode cX5_read 81 = .ok (.iadd, 1) := ta_cX5_read_59 (81, (.iadd, 1)) (List.mem_of_getElem? (i := 44) rfl)
theorem dX5_read_82 : decode cX5_read 82 = .ok (.if_icmp .gt 75, 3) := ta_cX5_read_59 (82, (.if_icmp .gt 75, 3)) (List.mem_of_getElem? (i := 45) rfl)
theorem dX5_read_85 : decode cX5_read 85 = .ok (.aload_n 0, 1) := ta_cX5_read_59 (85, (.aload_n 0, 1)) (List.mem_of_getElem? (i := 46) rfl)
theorem dX5_read_86 : decode cX5_read 86 = .ok (.aload 7, 2) := ta_cX5_read_59 (86, (.aload 7, 2)) (List.mem_of_getElem? (i := 47) rfl)
theorem dX5_read_88 : decode cX5_read 88 = .ok (.iload 11, 2) := ta_cX5_read_59 (88, (.iload 11, 2)) (List.mem_of_getElem? (i := 48) rfl)
theorem dX5_read_90 : decode cX5_read 90 = .ok (.iload 12, 2) := ta_cX5_read_59 (90, (.iload 12, 2)) (List.mem_of_getElem? (i := 49) rfl)
def tb_cX5_read_60 : List (Nat × (Instr × Nat)) := [(92, (.aload_n 0, 1)), (93, (.getfield 24, 3)), (96, (.getfield 148, 3)), (99, (.invokevirtual 210, 3)), (102, (.aload_n 0, 1)), (103, (.getfield 42, 3)), (106, (.aload_n 0, 1)), (107, (.getfield 51, 3)), (110, (.aload_n 0, 1)), (111, (.getfield 55, 3)), (114, (.invokevirtual 214, 3)), (117, (.ifCond .eq 34, 3)), (120, (.iload 8, 2)), (122, (.ifCond .ne 8, 3)), (125, (.iload 11, 2)), (127, (.goto 5, 3)), (130, (.iload 9, 2)), (132, (.istore 9, 2)), (134, (.iload 8, 2)), (136, (.ifCond .ne 8, 3)), (139, (.iload 12, 2)), (141, (.goto 5, 3)), (144, (.iload 10, 2)), (146, (.istore 10, 2)), (148, (.iinc 8 1, 3)), (151, (.iinc 12 1, 3)), (154, (.goto (-79), 3)), (157, (.iinc 11 1, 3)), (160, (.goto (-97), 3)), (163, (.iload 6, 2)), (165, (.iload 8, 2)), (167, (.iload 9, 2)), (169, (.iload 10, 2)), (171, (.invokestatic 193, 3)), (174, (.ireturn, 1))]
set_option maxRecDepth 20000 in
theorem ta_cX5_read_60 : ∀ q ∈ tb_cX5_read_60, decode cX5_read q.1 = .ok q.2 := by decide +kernel
theorem dX5_read_92 : decode cX5_read 92 = .ok (.aload_n 0, 1) := ta_cX5_read_60 (92, (.aload_n 0, 1)) (List.mem_of_getElem? (i := 0) rfl)
theorem dX5_read_93 : decode cX5_read 93 = .ok (.getfield 24, 3) := ta_cX5_read_60 (93, (.getfield 24, 3)) (List.mem_of_getElem? (i := 1) rfl)
theorem dX5_read_96 : decode cX5_read 96 = .ok (.getfield 148, 3) := ta_cX5_read_60 (96, (.getfield 148, 3)) (List.mem_of_getElem? (i := 2) rfl)
theorem dX5_read_99 : decode cX5_read 99 = .ok (.invokevirtual 210, 3) := ta_cX5_read_60 (99, (.invokevirtual 210, 3)) (List.mem_of_getElem? (i := 3) rfl)
theorem dX5_read_102 : decode cX5_read 102 = .ok (.aload_n 0, 1) := ta_cX5_read_60 (102, (.aload_n 0, 1)) (List.mem_of_getElem? (i := 4) rfl)
theorem dX5_read_103 : decode cX5_read 103 = .ok (.getfield 42, 3) := ta_cX5_read_60 (103, (.getfield 42, 3)) (List.mem_of_getElem? (i := 5) rfl)
theorem dX5_read_106 : decode cX5_read 106 = .ok (.aload_n 0, 1) := ta_cX5_read_60 (106, (.aload_n 0, 1)) (List.mem_of_getElem? (i := 6) rfl)
theorem dX5_read_107 : decode cX5_read 107 = .ok (.getfield 51, 3) := ta_cX5_read_60 (107, (.getfield 51, 3)) (List.mem_of_getElem? (i := 7) rfl)
theorem dX5_read_110 : decode cX5_read 110 = .ok (.aload_n 0, 1) := ta_cX5_read_60 (110, (.aload_n 0, 1)) (List.mem_of_getElem? (i := 8) rfl)
theorem dX5_read_111 : decode cX5_read 111 = .ok (.getfield 55, 3) := ta_cX5_read_60 (111, (.getfield 55, 3)) (List.mem_of_getElem? (i := 9) rfl)
theorem dX5_read_114 : decode cX5_read 114 = .ok (.invokevirtual 214, 3) := ta_cX5_read_60 (114, (.invokevirtual 214, 3)) (List.mem_of_getElem? (i := 10) rfl)
theorem dX5_read_117 : decode cX5_read 117 = .ok (.ifCond .eq 34, 3) := ta_cX5_read_60 (117, (.ifCond .eq 34, 3)) (List.mem_of_getElem? (i := 11) rfl)
theorem dX5_read_120 : decode cX5_read 120 = .ok (.iload 8, 2) := ta_cX5_read_60 (120, (.iload 8, 2)) (List.mem_of_getElem? (i := 12) rfl)
theorem dX5_read_122 : decode cX5_read 122 = .ok (.ifCond .ne 8, 3) := ta_cX5_read_60 (122, (.ifCond .ne 8, 3)) (List.mem_of_getElem? (i := 13) rfl)
theorem dX5_read_125 : decode cX5_read 125 = .ok (.iload 11, 2) := ta_cX5_read_60 (125, (.iload 11, 2)) (List.mem_of_getElem? (i := 14) rfl)
theorem dX5_read_127 : decode cX5_read 127 = .ok (.goto 5, 3) := ta_cX5_read_60 (127, (.goto 5, 3)) (List.mem_of_getElem? (i := 15) rfl)
theorem dX5_read_130 : decode cX5_read 130 = .ok (.iload 9, 2) := ta_cX5_read_60 (130, (.iload 9, 2)) (List.mem_of_getElem? (i := 16) rfl)
theorem dX5_read_132 : decode cX5_read 132 = .ok (.istore 9, 2) := ta_cX5_read_60 (132, (.istore 9, 2)) (List.mem_of_getElem? (i := 17) rfl)
theorem dX5_read_134 : decode cX5_read 134 = .ok (.iload 8, 2) := ta_cX5_read_60 (134, (.iload 8, 2)) (List.mem_of_getElem? (i := 18) rfl)
theorem dX5_read_136 : decode cX5_read 136 = .ok (.ifCond .ne 8, 3) := ta_cX5_read_60 (136, (.ifCond .ne 8, 3)) (List.mem_of_getElem? (i := 19) rfl)
theorem dX5_read_139 : decode cX5_read 139 = .ok (.iload 12, 2) := ta_cX5_read_60 (139, (.iload 12, 2)) (List.mem_of_getElem? (i := 20) rfl)
theorem dX5_read_141 : decode cX5_read 141 = .ok (.goto 5, 3) := ta_cX5_read_60 (141, (.goto 5, 3)) (List.mem_of_getElem? (i := 21) rfl)
theorem dX5_read_144 : decode cX5_read 144 = .ok (.iload 10, 2) := ta_cX5_read_60 (144, (.iload 10, 2)) (List.mem_of_getElem? (i := 22) rfl)
theorem dX5_read_146 : decode cX5_read 146 = .ok (.istore 10, 2) := ta_cX5_read_60 (146, (.istore 10, 2)) (List.mem_of_getElem? (i := 23) rfl)
theorem dX5_read_148 : decode cX5_read 148 = .ok (.iinc 8 1, 3) := ta_cX5_read_60 (148, (.iinc 8 1, 3)) (List.mem_of_getElem? (i := 24) rfl)
theorem dX5_read_151 : decode cX5_read 151 = .ok (.iinc 12 1, 3) := ta_cX5_read_60 (151, (.iinc 12 1, 3)) (List.mem_of_getElem? (i := 25) rfl)
theorem dX5_read_154 : decode cX5_read 154 = .ok (.goto (-79), 3) := ta_cX5_read_60 (154, (.goto (-79), 3)) (List.mem_of_getElem? (i := 26) rfl)
theorem dX5_read_157 : decode cX5_read 157 = .ok (.iinc 11 1, 3) := ta_cX5_read_60 (157, (.iinc 11 1, 3)) (List.mem_of_getElem? (i := 27) rfl)
theorem dX5_read_160 : decode cX5_read 160 = .ok (.goto (-97), 3) := ta_cX5_read_60 (160, (.goto (-97), 3)) (List.mem_of_getElem? (i := 28) rfl)
theorem dX5_read_163 : decode cX5_read 163 = .ok (.iload 6, 2) := ta_cX5_read_60 (163, (.iload 6, 2)) (List.mem_of_getElem? (i := 29) rfl)
theorem dX5_read_165 : decode cX5_read 165 = .ok (.iload 8, 2) := ta_cX5_read_60 (165, (.iload 8, 2)) (List.mem_of_getElem? (i := 30) rfl)
theorem dX5_read_167 : decode cX5_read 167 = .ok (.iload 9, 2) := ta_cX5_read_60 (167, (.iload 9, 2)) (List.mem_of_getElem? (i := 31) rfl)
theorem dX5_read_169 : decode cX5_read 169 = .ok (.iload 10, 2) := ta_cX5_read_60 (169, (.iload 10, 2)) (List.mem_of_getElem? (i := 32) rfl)
theorem dX5_read_171 : decode cX5_read 171 = .ok (.invokestatic 193, 3) := ta_cX5_read_60 (171, (.invokestatic 193, 3)) (List.mem_of_getElem? (i := 33) rfl)
theorem dX5_read_174 : decode cX5_read 174 = .ok (.ireturn, 1) := ta_cX5_read_60 (174, (.ireturn, 1)) (List.mem_of_getElem? (i := 34) rfl)
set_option maxRecDepth 20000 in
theorem ggX5_there_X5_stoneAt : GoodIn wsX5_there wsX5_stoneAt := goodIn_r _ [7, 8, 9, 90, 91, 92, 93, 94, 95, 96, 97, 98, 99, 100, 101, 102] rfl (by decide +kernel)
set_option maxRecDepth 20000 in
theorem gX5_there_X5_stoneAt : GoodIn wsX5_there (wsV RX5 82 RX5 yX5_stoneAt wsX5_stoneAt) := goodIn_app (goodIn_r _ [3, 4, 5, 6] rfl (by decide +kernel)) ggX5_there_X5_stoneAt
set_option maxRecDepth 20000 in
theorem ggX5_there_X5_isGrid : GoodIn wsX5_there wsX5_isGrid := goodIn_r _ [12, 13, 14, 6, 15] rfl (by decide +kernel)
set_option maxRecDepth 20000 in
theorem gX5_there_X5_isGrid : GoodIn wsX5_there (va_wsS RX5 185 yX5_isGrid wsX5_isGrid) := goodIn_app (goodIn_r _ [10, 11, 6] rfl (by decide +kernel)) ggX5_there_X5_isGrid
set_option maxRecDepth 20000 in
theorem ggX5_there_X5_countOf : GoodIn wsX5_there wsX5_countOf := goodIn_r _ [19, 20, 21, 22, 23, 6, 24, 25, 26, 1, 27, 28, 29, 30, 31, 32, 33, 34, 35, 36, 37, 38, 39, 40, 41, 42, 43, 44, 45, 46, 47, 48, 49, 50, 51, 52, 53, 54, 55, 56, 57, 58, 59, 60, 61, 62, 63, 64, 65, 66, 67, 68, 69, 70, 71, 72, 73, 74, 75, 76, 77, 78, 79, 80, 81, 82, 83, 84, 85, 86, 87, 88, 89, 90, 91, 92, 93, 94, 95, 96, 97, 98, 99, 100, 101, 102, 112, 113, 114, 115, 116, 117, 118, 119, 103, 104, 105, 106, 107, 108, 109, 110, 111, 120, 121, 122, 123, 124] rfl (by decide +kernel)
set_option maxRecDepth 20000 in
theorem gX5_there_X5_countOf : GoodIn wsX5_there (wsV RX5 189 RX5 yX5_countOf wsX5_countOf) := goodIn_app (goodIn_r _ [16, 17, 18, 6] rfl (by decide +kernel)) ggX5_there_X5_countOf
set_option maxRecDepth 20000 in
theorem ggX5_there_X5_within : GoodIn wsX5_there wsX5_within := goodIn_r _ [15] rfl (by decide +kernel)
set_option maxRecDepth 20000 in
theorem gX5_there_X5_within : GoodIn wsX5_there (va_wsS RX5 75 yX5_within wsX5_within) := goodIn_app (goodIn_r _ [13, 14, 6] rfl (by decide +kernel)) ggX5_there_X5_within
def tb_cX5_there_61 : List (Nat × (Instr × Nat)) := [(0, (.aload_n 0, 1)), (1, (.iload_n 1, 1)), (2, (.invokevirtual 82, 3)), (5, (.astore 8, 2)), (7, (.aload 8, 2)), (9, (.ifnonnull 5, 3)), (12, (.iconst (-1), 1)), (13, (.ireturn, 1)), (14, (.iload_n 2, 1)), (15, (.iload_n 3, 1)), (16, (.iload 4, 2)), (18, (.iload 5, 2)), (20, (.invokestatic 185, 3)), (23, (.ifCond .ne 6, 3)), (26, (.bipush (-2), 2)), (28, (.ireturn, 1)), (29, (.iconst 0, 1)), (30, (.istore 9, 2)), (32, (.iload_n 2, 1)), (33, (.istore 10, 2)), (35, (.iload 10, 2)), (37, (.iload_n 2, 1)), (38, (.iload_n 3, 1)), (39, (.iadd, 1)), (40, (.if_icmp .gt 60, 3)), (43, (.iload 4, 2)), (45, (.istore 11, 2)), (47, (.iload 11, 2)), (49, (.iload 4, 2)), (51, (.iload 5, 2)), (53, (.iadd, 1)), (54, (.if_icmp .gt 40, 3)), (57, (.aload_n 0, 1)), (58, (.aload 8, 2)), (60, (.iload 10, 2)), (62, (.iload 11, 2)), (64, (.iconst 4, 1)), (65, (.aload_n 0, 1)), (66, (.getfield 24, 3)), (69, (.getfield 148, 3)), (72, (.invokevirtual 189, 3)), (75, (.iload 6, 2)), (77, (.iload 7, 2)), (79, (.invokestatic 75, 3)), (82, (.ifCond .eq 6, 3)), (85, (.iinc 9 1, 3)), (88, (.iinc 11 1, 3)), (91, (.goto (-44), 3)), (94, (.iinc 10 1, 3)), (97, (.goto (-62), 3))]
set_option maxRecDepth 20000 in
theorem ta_cX5_there_61 : ∀ q ∈ tb_cX5_there_61, decode cX5_there q.1 = .ok q.2 := by decide +kernel
theorem dX5_there_0 : decode cX5_there 0 = .ok (.aload_n 0, 1) := ta_cX5_there_61 (0, (.aload_n 0, 1)) (List.mem_of_getElem? (i := 0) rfl)
theorem dX5_there_1 : decode cX5_there 1 = .ok (.iload_n 1, 1) := ta_cX5_there_61 (1, (.iload_n 1, 1)) (List.mem_of_getElem? (i := 1) rfl)
theorem dX5_there_2 : decode cX5_there 2 = .ok (.invokevirtual 82, 3) := ta_cX5_there_61 (2, (.invokevirtual 82, 3)) (List.mem_of_getElem? (i := 2) rfl)
theorem dX5_there_5 : decode cX5_there 5 = .ok (.astore 8, 2) := ta_cX5_there_61 (5, (.astore 8, 2)) (List.mem_of_getElem? (i := 3) rfl)
theorem dX5_there_7 : decode cX5_there 7 = .ok (.aload 8, 2) := ta_cX5_there_61 (7, (.aload 8, 2)) (List.mem_of_getElem? (i := 4) rfl)
theorem dX5_there_9 : decode cX5_there 9 = .ok (.ifnonnull 5, 3) := ta_cX5_there_61 (9, (.ifnonnull 5, 3)) (List.mem_of_getElem? (i := 5) rfl)
theorem dX5_there_12 : decode cX5_there 12 = .ok (.iconst (-1), 1) := ta_cX5_there_61 (12, (.iconst (-1), 1)) (List.mem_of_getElem? (i := 6) rfl)
theorem dX5_there_13 : decode cX5_there 13 = .ok (.ireturn, 1) := ta_cX5_there_61 (13, (.ireturn, 1)) (List.mem_of_getElem? (i := 7) rfl)
theorem dX5_there_14 : decode cX5_there 14 = .ok (.iload_n 2, 1) := ta_cX5_there_61 (14, (.iload_n 2, 1)) (List.mem_of_getElem? (i := 8) rfl)
theorem dX5_there_15 : decode cX5_there 15 = .ok (.iload_n 3, 1) := ta_cX5_there_61 (15, (.iload_n 3, 1)) (List.mem_of_getElem? (i := 9) rfl)
theorem dX5_there_16 : decode cX5_there 16 = .ok (.iload 4, 2) := ta_cX5_there_61 (16, (.iload 4, 2)) (List.mem_of_getElem? (i := 10) rfl)
theorem dX5_there_18 : decode cX5_there 18 = .ok (.iload 5, 2) := ta_cX5_there_61 (18, (.iload 5, 2)) (List.mem_of_getElem? (i := 11) rfl)
theorem dX5_there_20 : decode cX5_there 20 = .ok (.invokestatic 185, 3) := ta_cX5_there_61 (20, (.invokestatic 185, 3)) (List.mem_of_getElem? (i := 12) rfl)
theorem dX5_there_23 : decode cX5_there 23 = .ok (.ifCond .ne 6, 3) := ta_cX5_there_61 (23, (.ifCond .ne 6, 3)) (List.mem_of_getElem? (i := 13) rfl)
theorem dX5_there_26 : decode cX5_there 26 = .ok (.bipush (-2), 2) := ta_cX5_there_61 (26, (.bipush (-2), 2)) (List.mem_of_getElem? (i := 14) rfl)
theorem dX5_there_28 : decode cX5_there 28 = .ok (.ireturn, 1) := ta_cX5_there_61 (28, (.ireturn, 1)) (List.mem_of_getElem? (i := 15) rfl)
theorem dX5_there_29 : decode cX5_there 29 = .ok (.iconst 0, 1) := ta_cX5_there_61 (29, (.iconst 0, 1)) (List.mem_of_getElem? (i := 16) rfl)
theorem dX5_there_30 : decode cX5_there 30 = .ok (.istore 9, 2) := ta_cX5_there_61 (30, (.istore 9, 2)) (List.mem_of_getElem? (i := 17) rfl)
theorem dX5_there_32 : decode cX5_there 32 = .ok (.iload_n 2, 1) := ta_cX5_there_61 (32, (.iload_n 2, 1)) (List.mem_of_getElem? (i := 18) rfl)
theorem dX5_there_33 : decode cX5_there 33 = .ok (.istore 10, 2) := ta_cX5_there_61 (33, (.istore 10, 2)) (List.mem_of_getElem? (i := 19) rfl)
theorem dX5_there_35 : decode cX5_there 35 = .ok (.iload 10, 2) := ta_cX5_there_61 (35, (.iload 10, 2)) (List.mem_of_getElem? (i := 20) rfl)
theorem dX5_there_37 : decode cX5_there 37 = .ok (.iload_n 2, 1) := ta_cX5_there_61 (37, (.iload_n 2, 1)) (List.mem_of_getElem? (i := 21) rfl)
theorem dX5_there_38 : decode cX5_there 38 = .ok (.iload_n 3, 1) := ta_cX5_there_61 (38, (.iload_n 3, 1)) (List.mem_of_getElem? (i := 22) rfl)
theorem dX5_there_39 : decode cX5_there 39 = .ok (.iadd, 1) := ta_cX5_there_61 (39, (.iadd, 1)) (List.mem_of_getElem? (i := 23) rfl)
theorem dX5_there_40 : decode cX5_there 40 = .ok (.if_icmp .gt 60, 3) := ta_cX5_there_61 (40, (.if_icmp .gt 60, 3)) (List.mem_of_getElem? (i := 24) rfl)
theorem dX5_there_43 : decode cX5_there 43 = .ok (.iload 4, 2) := ta_cX5_there_61 (43, (.iload 4, 2)) (List.mem_of_getElem? (i := 25) rfl)
theorem dX5_there_45 : decode cX5_there 45 = .ok (.istore 11, 2) := ta_cX5_there_61 (45, (.istore 11, 2)) (List.mem_of_getElem? (i := 26) rfl)
theorem dX5_there_47 : decode cX5_there 47 = .ok (.iload 11, 2) := ta_cX5_there_61 (47, (.iload 11, 2)) (List.mem_of_getElem? (i := 27) rfl)
theorem dX5_there_49 : decode cX5_there 49 = .ok (.iload 4, 2) := ta_cX5_there_61 (49, (.iload 4, 2)) (List.mem_of_getElem? (i := 28) rfl)
theorem dX5_there_51 : decode cX5_there 51 = .ok (.iload 5, 2) := ta_cX5_there_61 (51, (.iload 5, 2)) (List.mem_of_getElem? (i := 29) rfl)
theorem dX5_there_53 : decode cX5_there 53 = .ok (.iadd, 1) := ta_cX5_there_61 (53, (.iadd, 1)) (List.mem_of_getElem? (i := 30) rfl)
theorem dX5_there_54 : decode cX5_there 54 = .ok (.if_icmp .gt 40, 3) := ta_cX5_there_61 (54, (.if_icmp .gt 40, 3)) (List.mem_of_getElem? (i := 31) rfl)
theorem dX5_there_57 : decode cX5_there 57 = .ok (.aload_n 0, 1) := ta_cX5_there_61 (57, (.aload_n 0, 1)) (List.mem_of_getElem? (i := 32) rfl)
theorem dX5_there_58 : decode cX5_there 58 = .ok (.aload 8, 2) := ta_cX5_there_61 (58, (.aload 8, 2)) (List.mem_of_getElem? (i := 33) rfl)
theorem dX5_there_60 : decode cX5_there 60 = .ok (.iload 10, 2) := ta_cX5_there_61 (60, (.iload 10, 2)) (List.mem_of_getElem? (i := 34) rfl)
theorem dX5_there_62 : decode cX5_there 62 = .ok (.iload 11, 2) := ta_cX5_there_61 (62, (.iload 11, 2)) (List.mem_of_getElem? (i := 35) rfl)
theorem dX5_there_64 : decode cX5_there 64 = .ok (.iconst 4, 1) := ta_cX5_there_61 (64, (.iconst 4, 1)) (List.mem_of_getElem? (i := 36) rfl)
theorem dX5_there_65 : decode cX5_there 65 = .ok (.aload_n 0, 1) := ta_cX5_there_61 (65, (.aload_n 0, 1)) (List.mem_of_getElem? (i := 37) rfl)
theorem dX5_there_66 : decode cX5_there 66 = .ok (.getfield 24, 3) := ta_cX5_there_61 (66, (.getfield 24, 3)) (List.mem_of_getElem? (i := 38) rfl)
theorem dX5_there_69 : decode cX5_there 69 = .ok (.getfield 148, 3) := ta_cX5_there_61 (69, (.getfield 148, 3)) (List.mem_of_getElem? (i := 39) rfl)
theorem dX5_there_72 : decode cX5_there 72 = .ok (.invokevirtual 189, 3) := ta_cX5_there_61 (72, (.invokevirtual 189, 3)) (List.mem_of_getElem? (i := 40) rfl)
theorem dX5_there_75 : decode cX5_there 75 = .ok (.iload 6, 2) := ta_cX5_there_61 (75, (.iload 6, 2)) (List.mem_of_getElem? (i := 41) rfl)
theorem dX5_there_77 : decode cX5_there 77 = .ok (.iload 7, 2) := ta_cX5_there_61 (77, (.iload 7, 2)) (List.mem_of_getElem? (i := 42) rfl)
theorem dX5_there_79 : decode cX5_there 79 = .ok (.invokestatic 75, 3) := ta_cX5_there_61 (79, (.invokestatic 75, 3)) (List.mem_of_getElem? (i := 43) rfl)
theorem dX5_there_82 : decode cX5_there 82 = .ok (.ifCond .eq 6, 3) := ta_cX5_there_61 (82, (.ifCond .eq 6, 3)) (List.mem_of_getElem? (i := 44) rfl)
theorem dX5_there_85 : decode cX5_there 85 = .ok (.iinc 9 1, 3) := ta_cX5_there_61 (85, (.iinc 9 1, 3)) (List.mem_of_getElem? (i := 45) rfl)
theorem dX5_there_88 : decode cX5_there 88 = .ok (.iinc 11 1, 3) := ta_cX5_there_61 (88, (.iinc 11 1, 3)) (List.mem_of_getElem? (i := 46) rfl)
theorem dX5_there_91 : decode cX5_there 91 = .ok (.goto (-44), 3) := ta_cX5_there_61 (91, (.goto (-44), 3)) (List.mem_of_getElem? (i := 47) rfl)
theorem dX5_there_94 : decode cX5_there 94 = .ok (.iinc 10 1, 3) := ta_cX5_there_61 (94, (.iinc 10 1, 3)) (List.mem_of_getElem? (i := 48) rfl)
theorem dX5_there_97 : decode cX5_there 97 = .ok (.goto (-62), 3) := ta_cX5_there_61 (97, (.goto (-62), 3)) (List.mem_of_getElem? (i := 49) rfl)
def tb_cX5_there_62 : List (Nat × (Instr × Nat)) := [(100, (.iload 9, 2)), (102, (.ireturn, 1))]
set_option maxRecDepth 20000 in
theorem ta_cX5_there_62 : ∀ q ∈ tb_cX5_there_62, decode cX5_there q.1 = .ok q.2 := by decide +kernel
theorem dX5_there_100 : decode cX5_there 100 = .ok (.iload 9, 2) := ta_cX5_there_62 (100, (.iload 9, 2)) (List.mem_of_getElem? (i := 0) rfl)
theorem dX5_there_102 : decode cX5_there 102 = .ok (.ireturn, 1) := ta_cX5_there_62 (102, (.ireturn, 1)) (List.mem_of_getElem? (i := 1) rfl)
set_option maxRecDepth 20000 in
theorem ggX5_when_X5_stoneAt : GoodIn wsX5_when wsX5_stoneAt := goodIn_r _ [7, 8, 9, 90, 91, 92, 93, 94, 95, 96, 97, 98, 99, 100, 101, 102] rfl (by decide +kernel)
set_option maxRecDepth 20000 in
theorem gX5_when_X5_stoneAt : GoodIn wsX5_when (wsV RX5 82 RX5 yX5_stoneAt wsX5_stoneAt) := goodIn_app (goodIn_r _ [3, 4, 5, 6] rfl (by decide +kernel)) ggX5_when_X5_stoneAt
set_option maxRecDepth 20000 in
theorem ggX5_when_X5_isJudge : GoodIn wsX5_when wsX5_isJudge := goodIn_r _ [12, 13, 14, 6, 15] rfl (by decide +kernel)
set_option maxRecDepth 20000 in
theorem gX5_when_X5_isJudge : GoodIn wsX5_when (va_wsS RX5 174 yX5_isJudge wsX5_isJudge) := goodIn_app (goodIn_r _ [10, 11, 6] rfl (by decide +kernel)) ggX5_when_X5_isJudge
set_option maxRecDepth 20000 in
theorem ggX5_when_X5_within : GoodIn wsX5_when wsX5_within := goodIn_r _ [15] rfl (by decide +kernel)
set_option maxRecDepth 20000 in
theorem gX5_when_X5_within : GoodIn wsX5_when (va_wsS RX5 75 yX5_within wsX5_within) := goodIn_app (goodIn_r _ [13, 14, 6] rfl (by decide +kernel)) ggX5_when_X5_within
set_option maxRecDepth 20000 in
theorem ggX5_when_X5_countOf : GoodIn wsX5_when wsX5_countOf := goodIn_r _ [19, 20, 21, 22, 23, 6, 24, 25, 26, 1, 27, 28, 29, 30, 31, 32, 33, 34, 35, 36, 37, 38, 39, 40, 41, 42, 43, 44, 45, 46, 47, 48, 49, 50, 51, 52, 53, 54, 55, 56, 57, 58, 59, 60, 61, 62, 63, 64, 65, 66, 67, 68, 69, 70, 71, 72, 73, 74, 75, 76, 77, 78, 79, 80, 81, 82, 83, 84, 85, 86, 87, 88, 89, 90, 91, 92, 93, 94, 95, 96, 97, 98, 99, 100, 101, 102, 112, 113, 114, 115, 116, 117, 118, 119, 103, 104, 105, 106, 107, 108, 109, 110, 111, 120, 121, 122, 123, 124] rfl (by decide +kernel)
set_option maxRecDepth 20000 in
theorem gX5_when_X5_countOf : GoodIn wsX5_when (wsV RX5 189 RX5 yX5_countOf wsX5_countOf) := goodIn_app (goodIn_r _ [16, 17, 18, 6] rfl (by decide +kernel)) ggX5_when_X5_countOf
def tb_cX5_when_63 : List (Nat × (Instr × Nat)) := [(0, (.aload_n 0, 1)), (1, (.iload_n 1, 1)), (2, (.invokevirtual 82, 3)), (5, (.astore 6, 2)), (7, (.aload 6, 2)), (9, (.ifnull 11, 3)), (12, (.iload 4, 2)), (14, (.invokestatic 174, 3)), (17, (.ifCond .ne 5, 3)), (20, (.iconst (-1), 1)), (21, (.ireturn, 1)), (22, (.iload_n 2, 1)), (23, (.iconst 1, 1)), (24, (.sipush 300, 3)), (27, (.invokestatic 75, 3)), (30, (.ifCond .eq 23, 3)), (33, (.iload_n 3, 1)), (34, (.iconst 0, 1)), (35, (.bipush 45, 2)), (37, (.invokestatic 75, 3)), (40, (.ifCond .eq 13, 3)), (43, (.iload 5, 2)), (45, (.iconst 0, 1)), (46, (.iconst 1, 1)), (47, (.invokestatic 75, 3)), (50, (.ifCond .ne 6, 3)), (53, (.bipush (-2), 2)), (55, (.ireturn, 1)), (56, (.iconst (-1), 1)), (57, (.istore 7, 2)), (59, (.iconst 0, 1)), (60, (.istore 8, 2)), (62, (.iconst 0, 1)), (63, (.istore 9, 2)), (65, (.iload 9, 2)), (67, (.aload_n 0, 1)), (68, (.getfield 24, 3)), (71, (.getfield 145, 3)), (74, (.if_icmp .ge 38, 3)), (77, (.aload_n 0, 1)), (78, (.aload 6, 2)), (80, (.iload_n 2, 1)), (81, (.iload_n 3, 1)), (82, (.iload 4, 2)), (84, (.iload 9, 2)), (86, (.invokevirtual 189, 3)), (89, (.istore 10, 2)), (91, (.iload 10, 2)), (93, (.iload 7, 2)), (95, (.if_icmp .le 11, 3))]
set_option maxRecDepth 20000 in
theorem ta_cX5_when_63 : ∀ q ∈ tb_cX5_when_63, decode cX5_when q.1 = .ok q.2 := by decide +kernel
theorem dX5_when_0 : decode cX5_when 0 = .ok (.aload_n 0, 1) := ta_cX5_when_63 (0, (.aload_n 0, 1)) (List.mem_of_getElem? (i := 0) rfl)
theorem dX5_when_1 : decode cX5_when 1 = .ok (.iload_n 1, 1) := ta_cX5_when_63 (1, (.iload_n 1, 1)) (List.mem_of_getElem? (i := 1) rfl)
theorem dX5_when_2 : decode cX5_when 2 = .ok (.invokevirtual 82, 3) := ta_cX5_when_63 (2, (.invokevirtual 82, 3)) (List.mem_of_getElem? (i := 2) rfl)
theorem dX5_when_5 : decode cX5_when 5 = .ok (.astore 6, 2) := ta_cX5_when_63 (5, (.astore 6, 2)) (List.mem_of_getElem? (i := 3) rfl)
theorem dX5_when_7 : decode cX5_when 7 = .ok (.aload 6, 2) := ta_cX5_when_63 (7, (.aload 6, 2)) (List.mem_of_getElem? (i := 4) rfl)
theorem dX5_when_9 : decode cX5_when 9 = .ok (.ifnull 11, 3) := ta_cX5_when_63 (9, (.ifnull 11, 3)) (List.mem_of_getElem? (i := 5) rfl)
theorem dX5_when_12 : decode cX5_when 12 = .ok (.iload 4, 2) := ta_cX5_when_63 (12, (.iload 4, 2)) (List.mem_of_getElem? (i := 6) rfl)
theorem dX5_when_14 : decode cX5_when 14 = .ok (.invokestatic 174, 3) := ta_cX5_when_63 (14, (.invokestatic 174, 3)) (List.mem_of_getElem? (i := 7) rfl)
theorem dX5_when_17 : decode cX5_when 17 = .ok (.ifCond .ne 5, 3) := ta_cX5_when_63 (17, (.ifCond .ne 5, 3)) (List.mem_of_getElem? (i := 8) rfl)
theorem dX5_when_20 : decode cX5_when 20 = .ok (.iconst (-1), 1) := ta_cX5_when_63 (20, (.iconst (-1), 1)) (List.mem_of_getElem? (i := 9) rfl)
theorem dX5_when_21 : decode cX5_when 21 = .ok (.ireturn, 1) := ta_cX5_when_63 (21, (.ireturn, 1)) (List.mem_of_getElem? (i := 10) rfl)
theorem dX5_when_22 : decode cX5_when 22 = .ok (.iload_n 2, 1) := ta_cX5_when_63 (22, (.iload_n 2, 1)) (List.mem_of_getElem? (i := 11) rfl)
theorem dX5_when_23 : decode cX5_when 23 = .ok (.iconst 1, 1) := ta_cX5_when_63 (23, (.iconst 1, 1)) (List.mem_of_getElem? (i := 12) rfl)
theorem dX5_when_24 : decode cX5_when 24 = .ok (.sipush 300, 3) := ta_cX5_when_63 (24, (.sipush 300, 3)) (List.mem_of_getElem? (i := 13) rfl)
theorem dX5_when_27 : decode cX5_when 27 = .ok (.invokestatic 75, 3) := ta_cX5_when_63 (27, (.invokestatic 75, 3)) (List.mem_of_getElem? (i := 14) rfl)
theorem dX5_when_30 : decode cX5_when 30 = .ok (.ifCond .eq 23, 3) := ta_cX5_when_63 (30, (.ifCond .eq 23, 3)) (List.mem_of_getElem? (i := 15) rfl)
theorem dX5_when_33 : decode cX5_when 33 = .ok (.iload_n 3, 1) := ta_cX5_when_63 (33, (.iload_n 3, 1)) (List.mem_of_getElem? (i := 16) rfl)
theorem dX5_when_34 : decode cX5_when 34 = .ok (.iconst 0, 1) := ta_cX5_when_63 (34, (.iconst 0, 1)) (List.mem_of_getElem? (i := 17) rfl)
theorem dX5_when_35 : decode cX5_when 35 = .ok (.bipush 45, 2) := ta_cX5_when_63 (35, (.bipush 45, 2)) (List.mem_of_getElem? (i := 18) rfl)
theorem dX5_when_37 : decode cX5_when 37 = .ok (.invokestatic 75, 3) := ta_cX5_when_63 (37, (.invokestatic 75, 3)) (List.mem_of_getElem? (i := 19) rfl)
theorem dX5_when_40 : decode cX5_when 40 = .ok (.ifCond .eq 13, 3) := ta_cX5_when_63 (40, (.ifCond .eq 13, 3)) (List.mem_of_getElem? (i := 20) rfl)
theorem dX5_when_43 : decode cX5_when 43 = .ok (.iload 5, 2) := ta_cX5_when_63 (43, (.iload 5, 2)) (List.mem_of_getElem? (i := 21) rfl)
theorem dX5_when_45 : decode cX5_when 45 = .ok (.iconst 0, 1) := ta_cX5_when_63 (45, (.iconst 0, 1)) (List.mem_of_getElem? (i := 22) rfl)
theorem dX5_when_46 : decode cX5_when 46 = .ok (.iconst 1, 1) := ta_cX5_when_63 (46, (.iconst 1, 1)) (List.mem_of_getElem? (i := 23) rfl)
theorem dX5_when_47 : decode cX5_when 47 = .ok (.invokestatic 75, 3) := ta_cX5_when_63 (47, (.invokestatic 75, 3)) (List.mem_of_getElem? (i := 24) rfl)
theorem dX5_when_50 : decode cX5_when 50 = .ok (.ifCond .ne 6, 3) := ta_cX5_when_63 (50, (.ifCond .ne 6, 3)) (List.mem_of_getElem? (i := 25) rfl)
theorem dX5_when_53 : decode cX5_when 53 = .ok (.bipush (-2), 2) := ta_cX5_when_63 (53, (.bipush (-2), 2)) (List.mem_of_getElem? (i := 26) rfl)
theorem dX5_when_55 : decode cX5_when 55 = .ok (.ireturn, 1) := ta_cX5_when_63 (55, (.ireturn, 1)) (List.mem_of_getElem? (i := 27) rfl)
theorem dX5_when_56 : decode cX5_when 56 = .ok (.iconst (-1), 1) := ta_cX5_when_63 (56, (.iconst (-1), 1)) (List.mem_of_getElem? (i := 28) rfl)
theorem dX5_when_57 : decode cX5_when 57 = .ok (.istore 7, 2) := ta_cX5_when_63 (57, (.istore 7, 2)) (List.mem_of_getElem? (i := 29) rfl)
theorem dX5_when_59 : decode cX5_when 59 = .ok (.iconst 0, 1) := ta_cX5_when_63 (59, (.iconst 0, 1)) (List.mem_of_getElem? (i := 30) rfl)
theorem dX5_when_60 : decode cX5_when 60 = .ok (.istore 8, 2) := ta_cX5_when_63 (60, (.istore 8, 2)) (List.mem_of_getElem? (i := 31) rfl)
theorem dX5_when_62 : decode cX5_when 62 = .ok (.iconst 0, 1) := ta_cX5_when_63 (62, (.iconst 0, 1)) (List.mem_of_getElem? (i := 32) rfl)
theorem dX5_when_63 : decode cX5_when 63 = .ok (.istore 9, 2) := ta_cX5_when_63 (63, (.istore 9, 2)) (List.mem_of_getElem? (i := 33) rfl)
theorem dX5_when_65 : decode cX5_when 65 = .ok (.iload 9, 2) := ta_cX5_when_63 (65, (.iload 9, 2)) (List.mem_of_getElem? (i := 34) rfl)
theorem dX5_when_67 : decode cX5_when 67 = .ok (.aload_n 0, 1) := ta_cX5_when_63 (67, (.aload_n 0, 1)) (List.mem_of_getElem? (i := 35) rfl)
theorem dX5_when_68 : decode cX5_when 68 = .ok (.getfield 24, 3) := ta_cX5_when_63 (68, (.getfield 24, 3)) (List.mem_of_getElem? (i := 36) rfl)
theorem dX5_when_71 : decode cX5_when 71 = .ok (.getfield 145, 3) := ta_cX5_when_63 (71, (.getfield 145, 3)) (List.mem_of_getElem? (i := 37) rfl)
theorem dX5_when_74 : decode cX5_when 74 = .ok (.if_icmp .ge 38, 3) := ta_cX5_when_63 (74, (.if_icmp .ge 38, 3)) (List.mem_of_getElem? (i := 38) rfl)
theorem dX5_when_77 : decode cX5_when 77 = .ok (.aload_n 0, 1) := ta_cX5_when_63 (77, (.aload_n 0, 1)) (List.mem_of_getElem? (i := 39) rfl)
theorem dX5_when_78 : decode cX5_when 78 = .ok (.aload 6, 2) := ta_cX5_when_63 (78, (.aload 6, 2)) (List.mem_of_getElem? (i := 40) rfl)
theorem dX5_when_80 : decode cX5_when 80 = .ok (.iload_n 2, 1) := ta_cX5_when_63 (80, (.iload_n 2, 1)) (List.mem_of_getElem? (i := 41) rfl)
theorem dX5_when_81 : decode cX5_when 81 = .ok (.iload_n 3, 1) := ta_cX5_when_63 (81, (.iload_n 3, 1)) (List.mem_of_getElem? (i := 42) rfl)
theorem dX5_when_82 : decode cX5_when 82 = .ok (.iload 4, 2) := ta_cX5_when_63 (82, (.iload 4, 2)) (List.mem_of_getElem? (i := 43) rfl)
theorem dX5_when_84 : decode cX5_when 84 = .ok (.iload 9, 2) := ta_cX5_when_63 (84, (.iload 9, 2)) (List.mem_of_getElem? (i := 44) rfl)
theorem dX5_when_86 : decode cX5_when 86 = .ok (.invokevirtual 189, 3) := ta_cX5_when_63 (86, (.invokevirtual 189, 3)) (List.mem_of_getElem? (i := 45) rfl)
theorem dX5_when_89 : decode cX5_when 89 = .ok (.istore 10, 2) := ta_cX5_when_63 (89, (.istore 10, 2)) (List.mem_of_getElem? (i := 46) rfl)
theorem dX5_when_91 : decode cX5_when 91 = .ok (.iload 10, 2) := ta_cX5_when_63 (91, (.iload 10, 2)) (List.mem_of_getElem? (i := 47) rfl)
theorem dX5_when_93 : decode cX5_when 93 = .ok (.iload 7, 2) := ta_cX5_when_63 (93, (.iload 7, 2)) (List.mem_of_getElem? (i := 48) rfl)
theorem dX5_when_95 : decode cX5_when 95 = .ok (.if_icmp .le 11, 3) := ta_cX5_when_63 (95, (.if_icmp .le 11, 3)) (List.mem_of_getElem? (i := 49) rfl)
def tb_cX5_when_64 : List (Nat × (Instr × Nat)) := [(98, (.iload 10, 2)), (100, (.istore 7, 2)), (102, (.iload 9, 2)), (104, (.istore 8, 2)), (106, (.iinc 9 1, 3)), (109, (.goto (-44), 3)), (112, (.iload 5, 2)), (114, (.ifCond .ne 8, 3)), (117, (.iload 8, 2)), (119, (.goto 5, 3)), (122, (.iload 7, 2)), (124, (.ireturn, 1))]
set_option maxRecDepth 20000 in
theorem ta_cX5_when_64 : ∀ q ∈ tb_cX5_when_64, decode cX5_when q.1 = .ok q.2 := by decide +kernel
theorem dX5_when_98 : decode cX5_when 98 = .ok (.iload 10, 2) := ta_cX5_when_64 (98, (.iload 10, 2)) (List.mem_of_getElem? (i := 0) rfl)
theorem dX5_when_100 : decode cX5_when 100 = .ok (.istore 7, 2) := ta_cX5_when_64 (100, (.istore 7, 2)) (List.mem_of_getElem? (i := 1) rfl)
theorem dX5_when_102 : decode cX5_when 102 = .ok (.iload 9, 2) := ta_cX5_when_64 (102, (.iload 9, 2)) (List.mem_of_getElem? (i := 2) rfl)
theorem dX5_when_104 : decode cX5_when 104 = .ok (.istore 8, 2) := ta_cX5_when_64 (104, (.istore 8, 2)) (List.mem_of_getElem? (i := 3) rfl)
theorem dX5_when_106 : decode cX5_when 106 = .ok (.iinc 9 1, 3) := ta_cX5_when_64 (106, (.iinc 9 1, 3)) (List.mem_of_getElem? (i := 4) rfl)
theorem dX5_when_109 : decode cX5_when 109 = .ok (.goto (-44), 3) := ta_cX5_when_64 (109, (.goto (-44), 3)) (List.mem_of_getElem? (i := 5) rfl)
theorem dX5_when_112 : decode cX5_when 112 = .ok (.iload 5, 2) := ta_cX5_when_64 (112, (.iload 5, 2)) (List.mem_of_getElem? (i := 6) rfl)
theorem dX5_when_114 : decode cX5_when 114 = .ok (.ifCond .ne 8, 3) := ta_cX5_when_64 (114, (.ifCond .ne 8, 3)) (List.mem_of_getElem? (i := 7) rfl)
theorem dX5_when_117 : decode cX5_when 117 = .ok (.iload 8, 2) := ta_cX5_when_64 (117, (.iload 8, 2)) (List.mem_of_getElem? (i := 8) rfl)
theorem dX5_when_119 : decode cX5_when 119 = .ok (.goto 5, 3) := ta_cX5_when_64 (119, (.goto 5, 3)) (List.mem_of_getElem? (i := 9) rfl)
theorem dX5_when_122 : decode cX5_when 122 = .ok (.iload 7, 2) := ta_cX5_when_64 (122, (.iload 7, 2)) (List.mem_of_getElem? (i := 10) rfl)
theorem dX5_when_124 : decode cX5_when 124 = .ok (.ireturn, 1) := ta_cX5_when_64 (124, (.ireturn, 1)) (List.mem_of_getElem? (i := 11) rfl)
set_option maxRecDepth 20000 in
theorem ggX5_beach_X5_stoneAt : GoodIn wsX5_beach wsX5_stoneAt := goodIn_r _ [7, 8, 9, 18, 19, 20, 21, 22, 23, 24, 25, 26, 27, 28, 29, 30] rfl (by decide +kernel)
set_option maxRecDepth 20000 in
theorem gX5_beach_X5_stoneAt : GoodIn wsX5_beach (wsV RX5 82 RX5 yX5_stoneAt wsX5_stoneAt) := goodIn_app (goodIn_r _ [3, 4, 5, 6] rfl (by decide +kernel)) ggX5_beach_X5_stoneAt
set_option maxRecDepth 20000 in
theorem ggX5_beach_X5_within : GoodIn wsX5_beach wsX5_within := goodIn_r _ [12] rfl (by decide +kernel)
set_option maxRecDepth 20000 in
theorem gX5_beach_X5_within : GoodIn wsX5_beach (va_wsS RX5 75 yX5_within wsX5_within) := goodIn_app (goodIn_r _ [10, 11, 6] rfl (by decide +kernel)) ggX5_beach_X5_within
def tb_cX5_beach_65 : List (Nat × (Instr × Nat)) := [(0, (.aload_n 0, 1)), (1, (.iload_n 1, 1)), (2, (.invokevirtual 82, 3)), (5, (.astore 4, 2)), (7, (.aload 4, 2)), (9, (.ifnonnull 5, 3)), (12, (.iconst (-1), 1)), (13, (.ireturn, 1)), (14, (.iload_n 2, 1)), (15, (.iconst 0, 1)), (16, (.bipush 9, 2)), (18, (.invokestatic 75, 3)), (21, (.ifCond .eq 13, 3)), (24, (.iload_n 3, 1)), (25, (.iconst 0, 1)), (26, (.bipush 99, 2)), (28, (.invokestatic 75, 3)), (31, (.ifCond .ne 6, 3)), (34, (.bipush (-2), 2)), (36, (.ireturn, 1)), (37, (.iload_n 2, 1)), (38, (.aload 4, 2)), (40, (.getfield 95, 3)), (43, (.if_icmp .ne 14, 3)), (46, (.iload_n 3, 1)), (47, (.aload 4, 2)), (49, (.getfield 98, 3)), (52, (.if_icmp .ne 5, 3)), (55, (.iconst 0, 1)), (56, (.ireturn, 1)), (57, (.aload 4, 2)), (59, (.iload_n 2, 1)), (60, (.putfield 95, 3)), (63, (.aload 4, 2)), (65, (.iload_n 3, 1)), (66, (.putfield 98, 3)), (69, (.iconst 1, 1)), (70, (.ireturn, 1))]
set_option maxRecDepth 20000 in
theorem ta_cX5_beach_65 : ∀ q ∈ tb_cX5_beach_65, decode cX5_beach q.1 = .ok q.2 := by decide +kernel
theorem dX5_beach_0 : decode cX5_beach 0 = .ok (.aload_n 0, 1) := ta_cX5_beach_65 (0, (.aload_n 0, 1)) (List.mem_of_getElem? (i := 0) rfl)
theorem dX5_beach_1 : decode cX5_beach 1 = .ok (.iload_n 1, 1) := ta_cX5_beach_65 (1, (.iload_n 1, 1)) (List.mem_of_getElem? (i := 1) rfl)
theorem dX5_beach_2 : decode cX5_beach 2 = .ok (.invokevirtual 82, 3) := ta_cX5_beach_65 (2, (.invokevirtual 82, 3)) (List.mem_of_getElem? (i := 2) rfl)
theorem dX5_beach_5 : decode cX5_beach 5 = .ok (.astore 4, 2) := ta_cX5_beach_65 (5, (.astore 4, 2)) (List.mem_of_getElem? (i := 3) rfl)
theorem dX5_beach_7 : decode cX5_beach 7 = .ok (.aload 4, 2) := ta_cX5_beach_65 (7, (.aload 4, 2)) (List.mem_of_getElem? (i := 4) rfl)
theorem dX5_beach_9 : decode cX5_beach 9 = .ok (.ifnonnull 5, 3) := ta_cX5_beach_65 (9, (.ifnonnull 5, 3)) (List.mem_of_getElem? (i := 5) rfl)
theorem dX5_beach_12 : decode cX5_beach 12 = .ok (.iconst (-1), 1) := ta_cX5_beach_65 (12, (.iconst (-1), 1)) (List.mem_of_getElem? (i := 6) rfl)
theorem dX5_beach_13 : decode cX5_beach 13 = .ok (.ireturn, 1) := ta_cX5_beach_65 (13, (.ireturn, 1)) (List.mem_of_getElem? (i := 7) rfl)
theorem dX5_beach_14 : decode cX5_beach 14 = .ok (.iload_n 2, 1) := ta_cX5_beach_65 (14, (.iload_n 2, 1)) (List.mem_of_getElem? (i := 8) rfl)
theorem dX5_beach_15 : decode cX5_beach 15 = .ok (.iconst 0, 1) := ta_cX5_beach_65 (15, (.iconst 0, 1)) (List.mem_of_getElem? (i := 9) rfl)
theorem dX5_beach_16 : decode cX5_beach 16 = .ok (.bipush 9, 2) := ta_cX5_beach_65 (16, (.bipush 9, 2)) (List.mem_of_getElem? (i := 10) rfl)
theorem dX5_beach_18 : decode cX5_beach 18 = .ok (.invokestatic 75, 3) := ta_cX5_beach_65 (18, (.invokestatic 75, 3)) (List.mem_of_getElem? (i := 11) rfl)
theorem dX5_beach_21 : decode cX5_beach 21 = .ok (.ifCond .eq 13, 3) := ta_cX5_beach_65 (21, (.ifCond .eq 13, 3)) (List.mem_of_getElem? (i := 12) rfl)
theorem dX5_beach_24 : decode cX5_beach 24 = .ok (.iload_n 3, 1) := ta_cX5_beach_65 (24, (.iload_n 3, 1)) (List.mem_of_getElem? (i := 13) rfl)
theorem dX5_beach_25 : decode cX5_beach 25 = .ok (.iconst 0, 1) := ta_cX5_beach_65 (25, (.iconst 0, 1)) (List.mem_of_getElem? (i := 14) rfl)
theorem dX5_beach_26 : decode cX5_beach 26 = .ok (.bipush 99, 2) := ta_cX5_beach_65 (26, (.bipush 99, 2)) (List.mem_of_getElem? (i := 15) rfl)
theorem dX5_beach_28 : decode cX5_beach 28 = .ok (.invokestatic 75, 3) := ta_cX5_beach_65 (28, (.invokestatic 75, 3)) (List.mem_of_getElem? (i := 16) rfl)
theorem dX5_beach_31 : decode cX5_beach 31 = .ok (.ifCond .ne 6, 3) := ta_cX5_beach_65 (31, (.ifCond .ne 6, 3)) (List.mem_of_getElem? (i := 17) rfl)
theorem dX5_beach_34 : decode cX5_beach 34 = .ok (.bipush (-2), 2) := ta_cX5_beach_65 (34, (.bipush (-2), 2)) (List.mem_of_getElem? (i := 18) rfl)
theorem dX5_beach_36 : decode cX5_beach 36 = .ok (.ireturn, 1) := ta_cX5_beach_65 (36, (.ireturn, 1)) (List.mem_of_getElem? (i := 19) rfl)
theorem dX5_beach_37 : decode cX5_beach 37 = .ok (.iload_n 2, 1) := ta_cX5_beach_65 (37, (.iload_n 2, 1)) (List.mem_of_getElem? (i := 20) rfl)
theorem dX5_beach_38 : decode cX5_beach 38 = .ok (.aload 4, 2) := ta_cX5_beach_65 (38, (.aload 4, 2)) (List.mem_of_getElem? (i := 21) rfl)
theorem dX5_beach_40 : decode cX5_beach 40 = .ok (.getfield 95, 3) := ta_cX5_beach_65 (40, (.getfield 95, 3)) (List.mem_of_getElem? (i := 22) rfl)
theorem dX5_beach_43 : decode cX5_beach 43 = .ok (.if_icmp .ne 14, 3) := ta_cX5_beach_65 (43, (.if_icmp .ne 14, 3)) (List.mem_of_getElem? (i := 23) rfl)
theorem dX5_beach_46 : decode cX5_beach 46 = .ok (.iload_n 3, 1) := ta_cX5_beach_65 (46, (.iload_n 3, 1)) (List.mem_of_getElem? (i := 24) rfl)
theorem dX5_beach_47 : decode cX5_beach 47 = .ok (.aload 4, 2) := ta_cX5_beach_65 (47, (.aload 4, 2)) (List.mem_of_getElem? (i := 25) rfl)
theorem dX5_beach_49 : decode cX5_beach 49 = .ok (.getfield 98, 3) := ta_cX5_beach_65 (49, (.getfield 98, 3)) (List.mem_of_getElem? (i := 26) rfl)
theorem dX5_beach_52 : decode cX5_beach 52 = .ok (.if_icmp .ne 5, 3) := ta_cX5_beach_65 (52, (.if_icmp .ne 5, 3)) (List.mem_of_getElem? (i := 27) rfl)
theorem dX5_beach_55 : decode cX5_beach 55 = .ok (.iconst 0, 1) := ta_cX5_beach_65 (55, (.iconst 0, 1)) (List.mem_of_getElem? (i := 28) rfl)
theorem dX5_beach_56 : decode cX5_beach 56 = .ok (.ireturn, 1) := ta_cX5_beach_65 (56, (.ireturn, 1)) (List.mem_of_getElem? (i := 29) rfl)
theorem dX5_beach_57 : decode cX5_beach 57 = .ok (.aload 4, 2) := ta_cX5_beach_65 (57, (.aload 4, 2)) (List.mem_of_getElem? (i := 30) rfl)
theorem dX5_beach_59 : decode cX5_beach 59 = .ok (.iload_n 2, 1) := ta_cX5_beach_65 (59, (.iload_n 2, 1)) (List.mem_of_getElem? (i := 31) rfl)
theorem dX5_beach_60 : decode cX5_beach 60 = .ok (.putfield 95, 3) := ta_cX5_beach_65 (60, (.putfield 95, 3)) (List.mem_of_getElem? (i := 32) rfl)
theorem dX5_beach_63 : decode cX5_beach 63 = .ok (.aload 4, 2) := ta_cX5_beach_65 (63, (.aload 4, 2)) (List.mem_of_getElem? (i := 33) rfl)
theorem dX5_beach_65 : decode cX5_beach 65 = .ok (.iload_n 3, 1) := ta_cX5_beach_65 (65, (.iload_n 3, 1)) (List.mem_of_getElem? (i := 34) rfl)
theorem dX5_beach_66 : decode cX5_beach 66 = .ok (.putfield 98, 3) := ta_cX5_beach_65 (66, (.putfield 98, 3)) (List.mem_of_getElem? (i := 35) rfl)
theorem dX5_beach_69 : decode cX5_beach 69 = .ok (.iconst 1, 1) := ta_cX5_beach_65 (69, (.iconst 1, 1)) (List.mem_of_getElem? (i := 36) rfl)
theorem dX5_beach_70 : decode cX5_beach 70 = .ok (.ireturn, 1) := ta_cX5_beach_65 (70, (.ireturn, 1)) (List.mem_of_getElem? (i := 37) rfl)
set_option maxRecDepth 20000 in
theorem ggX5_mean_X5_within : GoodIn wsX5_mean wsX5_within := goodIn_r _ [5] rfl (by decide +kernel)
set_option maxRecDepth 20000 in
theorem gX5_mean_X5_within : GoodIn wsX5_mean (va_wsS RX5 75 yX5_within wsX5_within) := goodIn_app (goodIn_r _ [2, 3, 4] rfl (by decide +kernel)) ggX5_mean_X5_within
set_option maxRecDepth 20000 in
theorem ggX5_mean_X5_lyingBelow : GoodIn wsX5_mean wsX5_lyingBelow := goodIn_r _ [9, 10, 11, 12, 13, 14, 15, 4, 16, 17, 31, 32, 33, 34, 35, 36, 37, 38, 39, 40, 41, 42, 43, 44, 45, 46, 47, 48] rfl (by decide +kernel)
set_option maxRecDepth 20000 in
theorem gX5_mean_X5_lyingBelow : GoodIn wsX5_mean (wsV RX5 218 RX5 yX5_lyingBelow wsX5_lyingBelow) := goodIn_app (goodIn_r _ [6, 7, 8, 4] rfl (by decide +kernel)) ggX5_mean_X5_lyingBelow
set_option maxRecDepth 20000 in
theorem ggX5_mean_X5_bestWorths : GoodIn wsX5_mean wsX5_bestWorths := goodIn_r _ [21, 6, 7, 8, 4, 9, 10, 11, 12, 13, 14, 15, 16, 17, 22, 23, 24, 31, 32, 33, 34, 35, 36, 37, 38, 39, 40, 41, 42, 43, 44, 45, 46, 47, 48] rfl (by decide +kernel)
set_option maxRecDepth 20000 in
theorem gX5_mean_X5_bestWorths : GoodIn wsX5_mean (wsV RX5 222 RX5 yX5_bestWorths wsX5_bestWorths) := goodIn_app (goodIn_r _ [18, 19, 20, 4] rfl (by decide +kernel)) ggX5_mean_X5_bestWorths
set_option maxRecDepth 20000 in
theorem ggX5_mean_X5_power : GoodIn wsX5_mean wsX5_power := goodIn_r _ [24] rfl (by decide +kernel)
set_option maxRecDepth 20000 in
theorem gX5_mean_X5_power : GoodIn wsX5_mean (va_wsS RX5 225 yX5_power wsX5_power) := goodIn_app (goodIn_r _ [22, 23, 4] rfl (by decide +kernel)) ggX5_mean_X5_power
set_option maxRecDepth 20000 in
theorem ggX5_mean_X5_share : GoodIn wsX5_mean wsX5_share := goodIn_r _ [27, 1, 28, 29, 4, 30] rfl (by decide +kernel)
set_option maxRecDepth 20000 in
theorem gX5_mean_X5_share : GoodIn wsX5_mean (va_wsS RX5 205 yX5_share wsX5_share) := goodIn_app (goodIn_r _ [25, 26, 4] rfl (by decide +kernel)) ggX5_mean_X5_share
def tb_cX5_mean_66 : List (Nat × (Instr × Nat)) := [(0, (.iload_n 1, 1)), (1, (.iconst 1, 1)), (2, (.bipush 6, 2)), (4, (.invokestatic 75, 3)), (7, (.ifCond .eq 12, 3)), (10, (.iload_n 2, 1)), (11, (.iconst 0, 1)), (12, (.iconst 1, 1)), (13, (.invokestatic 75, 3)), (16, (.ifCond .ne 7, 3)), (19, (.ldc2_w 196, 3)), (22, (.lreturn, 1)), (23, (.aload_n 0, 1)), (24, (.bipush 100, 2)), (26, (.invokevirtual 218, 3)), (29, (.lstore_n 3, 1)), (30, (.lload_n 3, 1)), (31, (.lconst 0, 1)), (32, (.lcmp, 1)), (33, (.ifCond .ne 7, 3)), (36, (.ldc2_w 196, 3)), (39, (.lreturn, 1)), (40, (.aload_n 0, 1)), (41, (.iload_n 1, 1)), (42, (.invokevirtual 222, 3)), (45, (.lload_n 3, 1)), (46, (.iload_n 1, 1)), (47, (.invokestatic 225, 3)), (50, (.iload_n 2, 1)), (51, (.invokestatic 205, 3)), (54, (.lreturn, 1))]
set_option maxRecDepth 20000 in
theorem ta_cX5_mean_66 : ∀ q ∈ tb_cX5_mean_66, decode cX5_mean q.1 = .ok q.2 := by decide +kernel
theorem dX5_mean_0 : decode cX5_mean 0 = .ok (.iload_n 1, 1) := ta_cX5_mean_66 (0, (.iload_n 1, 1)) (List.mem_of_getElem? (i := 0) rfl)
theorem dX5_mean_1 : decode cX5_mean 1 = .ok (.iconst 1, 1) := ta_cX5_mean_66 (1, (.iconst 1, 1)) (List.mem_of_getElem? (i := 1) rfl)
theorem dX5_mean_2 : decode cX5_mean 2 = .ok (.bipush 6, 2) := ta_cX5_mean_66 (2, (.bipush 6, 2)) (List.mem_of_getElem? (i := 2) rfl)
theorem dX5_mean_4 : decode cX5_mean 4 = .ok (.invokestatic 75, 3) := ta_cX5_mean_66 (4, (.invokestatic 75, 3)) (List.mem_of_getElem? (i := 3) rfl)
theorem dX5_mean_7 : decode cX5_mean 7 = .ok (.ifCond .eq 12, 3) := ta_cX5_mean_66 (7, (.ifCond .eq 12, 3)) (List.mem_of_getElem? (i := 4) rfl)
theorem dX5_mean_10 : decode cX5_mean 10 = .ok (.iload_n 2, 1) := ta_cX5_mean_66 (10, (.iload_n 2, 1)) (List.mem_of_getElem? (i := 5) rfl)
theorem dX5_mean_11 : decode cX5_mean 11 = .ok (.iconst 0, 1) := ta_cX5_mean_66 (11, (.iconst 0, 1)) (List.mem_of_getElem? (i := 6) rfl)
theorem dX5_mean_12 : decode cX5_mean 12 = .ok (.iconst 1, 1) := ta_cX5_mean_66 (12, (.iconst 1, 1)) (List.mem_of_getElem? (i := 7) rfl)
theorem dX5_mean_13 : decode cX5_mean 13 = .ok (.invokestatic 75, 3) := ta_cX5_mean_66 (13, (.invokestatic 75, 3)) (List.mem_of_getElem? (i := 8) rfl)
theorem dX5_mean_16 : decode cX5_mean 16 = .ok (.ifCond .ne 7, 3) := ta_cX5_mean_66 (16, (.ifCond .ne 7, 3)) (List.mem_of_getElem? (i := 9) rfl)
theorem dX5_mean_19 : decode cX5_mean 19 = .ok (.ldc2_w 196, 3) := ta_cX5_mean_66 (19, (.ldc2_w 196, 3)) (List.mem_of_getElem? (i := 10) rfl)
theorem dX5_mean_22 : decode cX5_mean 22 = .ok (.lreturn, 1) := ta_cX5_mean_66 (22, (.lreturn, 1)) (List.mem_of_getElem? (i := 11) rfl)
theorem dX5_mean_23 : decode cX5_mean 23 = .ok (.aload_n 0, 1) := ta_cX5_mean_66 (23, (.aload_n 0, 1)) (List.mem_of_getElem? (i := 12) rfl)
theorem dX5_mean_24 : decode cX5_mean 24 = .ok (.bipush 100, 2) := ta_cX5_mean_66 (24, (.bipush 100, 2)) (List.mem_of_getElem? (i := 13) rfl)
theorem dX5_mean_26 : decode cX5_mean 26 = .ok (.invokevirtual 218, 3) := ta_cX5_mean_66 (26, (.invokevirtual 218, 3)) (List.mem_of_getElem? (i := 14) rfl)
theorem dX5_mean_29 : decode cX5_mean 29 = .ok (.lstore_n 3, 1) := ta_cX5_mean_66 (29, (.lstore_n 3, 1)) (List.mem_of_getElem? (i := 15) rfl)
theorem dX5_mean_30 : decode cX5_mean 30 = .ok (.lload_n 3, 1) := ta_cX5_mean_66 (30, (.lload_n 3, 1)) (List.mem_of_getElem? (i := 16) rfl)
theorem dX5_mean_31 : decode cX5_mean 31 = .ok (.lconst 0, 1) := ta_cX5_mean_66 (31, (.lconst 0, 1)) (List.mem_of_getElem? (i := 17) rfl)
theorem dX5_mean_32 : decode cX5_mean 32 = .ok (.lcmp, 1) := ta_cX5_mean_66 (32, (.lcmp, 1)) (List.mem_of_getElem? (i := 18) rfl)
theorem dX5_mean_33 : decode cX5_mean 33 = .ok (.ifCond .ne 7, 3) := ta_cX5_mean_66 (33, (.ifCond .ne 7, 3)) (List.mem_of_getElem? (i := 19) rfl)
theorem dX5_mean_36 : decode cX5_mean 36 = .ok (.ldc2_w 196, 3) := ta_cX5_mean_66 (36, (.ldc2_w 196, 3)) (List.mem_of_getElem? (i := 20) rfl)
theorem dX5_mean_39 : decode cX5_mean 39 = .ok (.lreturn, 1) := ta_cX5_mean_66 (39, (.lreturn, 1)) (List.mem_of_getElem? (i := 21) rfl)
theorem dX5_mean_40 : decode cX5_mean 40 = .ok (.aload_n 0, 1) := ta_cX5_mean_66 (40, (.aload_n 0, 1)) (List.mem_of_getElem? (i := 22) rfl)
theorem dX5_mean_41 : decode cX5_mean 41 = .ok (.iload_n 1, 1) := ta_cX5_mean_66 (41, (.iload_n 1, 1)) (List.mem_of_getElem? (i := 23) rfl)
theorem dX5_mean_42 : decode cX5_mean 42 = .ok (.invokevirtual 222, 3) := ta_cX5_mean_66 (42, (.invokevirtual 222, 3)) (List.mem_of_getElem? (i := 24) rfl)
theorem dX5_mean_45 : decode cX5_mean 45 = .ok (.lload_n 3, 1) := ta_cX5_mean_66 (45, (.lload_n 3, 1)) (List.mem_of_getElem? (i := 25) rfl)
theorem dX5_mean_46 : decode cX5_mean 46 = .ok (.iload_n 1, 1) := ta_cX5_mean_66 (46, (.iload_n 1, 1)) (List.mem_of_getElem? (i := 26) rfl)
theorem dX5_mean_47 : decode cX5_mean 47 = .ok (.invokestatic 225, 3) := ta_cX5_mean_66 (47, (.invokestatic 225, 3)) (List.mem_of_getElem? (i := 27) rfl)
theorem dX5_mean_50 : decode cX5_mean 50 = .ok (.iload_n 2, 1) := ta_cX5_mean_66 (50, (.iload_n 2, 1)) (List.mem_of_getElem? (i := 28) rfl)
theorem dX5_mean_51 : decode cX5_mean 51 = .ok (.invokestatic 205, 3) := ta_cX5_mean_66 (51, (.invokestatic 205, 3)) (List.mem_of_getElem? (i := 29) rfl)
theorem dX5_mean_54 : decode cX5_mean 54 = .ok (.lreturn, 1) := ta_cX5_mean_66 (54, (.lreturn, 1)) (List.mem_of_getElem? (i := 30) rfl)
set_option maxRecDepth 20000 in
theorem ggX5_hours_X5_within : GoodIn wsX5_hours wsX5_within := goodIn_r _ [4] rfl (by decide +kernel)
set_option maxRecDepth 20000 in
theorem gX5_hours_X5_within : GoodIn wsX5_hours (va_wsS RX5 75 yX5_within wsX5_within) := goodIn_app (goodIn_r _ [1, 2, 3] rfl (by decide +kernel)) ggX5_hours_X5_within
set_option maxRecDepth 20000 in
theorem ggX5_hours_X5_lyingBelow : GoodIn wsX5_hours wsX5_lyingBelow := goodIn_r _ [8, 9, 10, 11, 12, 13, 14, 3, 15, 16, 24, 25, 26, 27, 28, 29, 30, 31, 32, 33, 34, 35, 36, 37, 38, 39, 40, 41] rfl (by decide +kernel)
set_option maxRecDepth 20000 in
theorem gX5_hours_X5_lyingBelow : GoodIn wsX5_hours (wsV RX5 218 RX5 yX5_lyingBelow wsX5_lyingBelow) := goodIn_app (goodIn_r _ [5, 6, 7, 3] rfl (by decide +kernel)) ggX5_hours_X5_lyingBelow
set_option maxRecDepth 20000 in
theorem ggX5_hours_X5_power : GoodIn wsX5_hours wsX5_power := goodIn_r _ [19] rfl (by decide +kernel)
set_option maxRecDepth 20000 in
theorem gX5_hours_X5_power : GoodIn wsX5_hours (va_wsS RX5 225 yX5_power wsX5_power) := goodIn_app (goodIn_r _ [17, 18, 3] rfl (by decide +kernel)) ggX5_hours_X5_power
set_option maxRecDepth 20000 in
theorem ggX5_hours_X5_bestWorths : GoodIn wsX5_hours wsX5_bestWorths := goodIn_r _ [23, 5, 6, 7, 3, 8, 9, 10, 11, 12, 13, 14, 15, 16, 17, 18, 19, 24, 25, 26, 27, 28, 29, 30, 31, 32, 33, 34, 35, 36, 37, 38, 39, 40, 41] rfl (by decide +kernel)
set_option maxRecDepth 20000 in
theorem gX5_hours_X5_bestWorths : GoodIn wsX5_hours (wsV RX5 222 RX5 yX5_bestWorths wsX5_bestWorths) := goodIn_app (goodIn_r _ [20, 21, 22, 3] rfl (by decide +kernel)) ggX5_hours_X5_bestWorths
def tb_cX5_hours_67 : List (Nat × (Instr × Nat)) := [(0, (.iload_n 1, 1)), (1, (.iconst 0, 1)), (2, (.bipush 99, 2)), (4, (.invokestatic 75, 3)), (7, (.ifCond .ne 6, 3)), (10, (.bipush (-2), 2)), (12, (.ireturn, 1)), (13, (.aload_n 0, 1)), (14, (.bipush 100, 2)), (16, (.invokevirtual 218, 3)), (19, (.lstore_n 2, 1)), (20, (.lload_n 2, 1)), (21, (.lconst 0, 1)), (22, (.lcmp, 1)), (23, (.ifCond .ne 6, 3)), (26, (.bipush (-3), 2)), (28, (.ireturn, 1)), (29, (.lload_n 2, 1)), (30, (.bipush 6, 2)), (32, (.invokestatic 225, 3)), (35, (.lstore 4, 2)), (37, (.iconst 1, 1)), (38, (.istore 6, 2)), (40, (.lconst 0, 1)), (41, (.lstore 7, 2)), (43, (.iconst 1, 1)), (44, (.istore 9, 2)), (46, (.iload 9, 2)), (48, (.bipush 6, 2)), (50, (.if_icmp .gt 58, 3)), (53, (.aload_n 0, 1)), (54, (.iload 9, 2)), (56, (.invokevirtual 222, 3)), (59, (.lload_n 2, 1)), (60, (.bipush 6, 2)), (62, (.iload 9, 2)), (64, (.isub, 1)), (65, (.invokestatic 225, 3)), (68, (.lmul, 1)), (69, (.iload 9, 2)), (71, (.iload_n 1, 1)), (72, (.imul, 1)), (73, (.i2l, 1)), (74, (.lload 4, 2)), (76, (.lmul, 1)), (77, (.lsub, 1)), (78, (.lstore 10, 2)), (80, (.iload 9, 2)), (82, (.iconst 1, 1)), (83, (.if_icmp .eq 11, 3))]
set_option maxRecDepth 20000 in
theorem ta_cX5_hours_67 : ∀ q ∈ tb_cX5_hours_67, decode cX5_hours q.1 = .ok q.2 := by decide +kernel
theorem dX5_hours_0 : decode cX5_hours 0 = .ok (.iload_n 1, 1) := ta_cX5_hours_67 (0, (.iload_n 1, 1)) (List.mem_of_getElem? (i := 0) rfl)
theorem dX5_hours_1 : decode cX5_hours 1 = .ok (.iconst 0, 1) := ta_cX5_hours_67 (1, (.iconst 0, 1)) (List.mem_of_getElem? (i := 1) rfl)
theorem dX5_hours_2 : decode cX5_hours 2 = .ok (.bipush 99, 2) := ta_cX5_hours_67 (2, (.bipush 99, 2)) (List.mem_of_getElem? (i := 2) rfl)
theorem dX5_hours_4 : decode cX5_hours 4 = .ok (.invokestatic 75, 3) := ta_cX5_hours_67 (4, (.invokestatic 75, 3)) (List.mem_of_getElem? (i := 3) rfl)
theorem dX5_hours_7 : decode cX5_hours 7 = .ok (.ifCond .ne 6, 3) := ta_cX5_hours_67 (7, (.ifCond .ne 6, 3)) (List.mem_of_getElem? (i := 4) rfl)
theorem dX5_hours_10 : decode cX5_hours 10 = .ok (.bipush (-2), 2) := ta_cX5_hours_67 (10, (.bipush (-2), 2)) (List.mem_of_getElem? (i := 5) rfl)
theorem dX5_hours_12 : decode cX5_hours 12 = .ok (.ireturn, 1) := ta_cX5_hours_67 (12, (.ireturn, 1)) (List.mem_of_getElem? (i := 6) rfl)
theorem dX5_hours_13 : decode cX5_hours 13 = .ok (.aload_n 0, 1) := ta_cX5_hours_67 (13, (.aload_n 0, 1)) (List.mem_of_getElem? (i := 7) rfl)
theorem dX5_hours_14 : decode cX5_hours 14 = .ok (.bipush 100, 2) := ta_cX5_hours_67 (14, (.bipush 100, 2)) (List.mem_of_getElem? (i := 8) rfl)
theorem dX5_hours_16 : decode cX5_hours 16 = .ok (.invokevirtual 218, 3) := ta_cX5_hours_67 (16, (.invokevirtual 218, 3)) (List.mem_of_getElem? (i := 9) rfl)
theorem dX5_hours_19 : decode cX5_hours 19 = .ok (.lstore_n 2, 1) := ta_cX5_hours_67 (19, (.lstore_n 2, 1)) (List.mem_of_getElem? (i := 10) rfl)
theorem dX5_hours_20 : decode cX5_hours 20 = .ok (.lload_n 2, 1) := ta_cX5_hours_67 (20, (.lload_n 2, 1)) (List.mem_of_getElem? (i := 11) rfl)
theorem dX5_hours_21 : decode cX5_hours 21 = .ok (.lconst 0, 1) := ta_cX5_hours_67 (21, (.lconst 0, 1)) (List.mem_of_getElem? (i := 12) rfl)
theorem dX5_hours_22 : decode cX5_hours 22 = .ok (.lcmp, 1) := ta_cX5_hours_67 (22, (.lcmp, 1)) (List.mem_of_getElem? (i := 13) rfl)
theorem dX5_hours_23 : decode cX5_hours 23 = .ok (.ifCond .ne 6, 3) := ta_cX5_hours_67 (23, (.ifCond .ne 6, 3)) (List.mem_of_getElem? (i := 14) rfl)
theorem dX5_hours_26 : decode cX5_hours 26 = .ok (.bipush (-3), 2) := ta_cX5_hours_67 (26, (.bipush (-3), 2)) (List.mem_of_getElem? (i := 15) rfl)
theorem dX5_hours_28 : decode cX5_hours 28 = .ok (.ireturn, 1) := ta_cX5_hours_67 (28, (.ireturn, 1)) (List.mem_of_getElem? (i := 16) rfl)
theorem dX5_hours_29 : decode cX5_hours 29 = .ok (.lload_n 2, 1) := ta_cX5_hours_67 (29, (.lload_n 2, 1)) (List.mem_of_getElem? (i := 17) rfl)
theorem dX5_hours_30 : decode cX5_hours 30 = .ok (.bipush 6, 2) := ta_cX5_hours_67 (30, (.bipush 6, 2)) (List.mem_of_getElem? (i := 18) rfl)
theorem dX5_hours_32 : decode cX5_hours 32 = .ok (.invokestatic 225, 3) := ta_cX5_hours_67 (32, (.invokestatic 225, 3)) (List.mem_of_getElem? (i := 19) rfl)
theorem dX5_hours_35 : decode cX5_hours 35 = .ok (.lstore 4, 2) := ta_cX5_hours_67 (35, (.lstore 4, 2)) (List.mem_of_getElem? (i := 20) rfl)
theorem dX5_hours_37 : decode cX5_hours 37 = .ok (.iconst 1, 1) := ta_cX5_hours_67 (37, (.iconst 1, 1)) (List.mem_of_getElem? (i := 21) rfl)
theorem dX5_hours_38 : decode cX5_hours 38 = .ok (.istore 6, 2) := ta_cX5_hours_67 (38, (.istore 6, 2)) (List.mem_of_getElem? (i := 22) rfl)
theorem dX5_hours_40 : decode cX5_hours 40 = .ok (.lconst 0, 1) := ta_cX5_hours_67 (40, (.lconst 0, 1)) (List.mem_of_getElem? (i := 23) rfl)
theorem dX5_hours_41 : decode cX5_hours 41 = .ok (.lstore 7, 2) := ta_cX5_hours_67 (41, (.lstore 7, 2)) (List.mem_of_getElem? (i := 24) rfl)
theorem dX5_hours_43 : decode cX5_hours 43 = .ok (.iconst 1, 1) := ta_cX5_hours_67 (43, (.iconst 1, 1)) (List.mem_of_getElem? (i := 25) rfl)
theorem dX5_hours_44 : decode cX5_hours 44 = .ok (.istore 9, 2) := ta_cX5_hours_67 (44, (.istore 9, 2)) (List.mem_of_getElem? (i := 26) rfl)
theorem dX5_hours_46 : decode cX5_hours 46 = .ok (.iload 9, 2) := ta_cX5_hours_67 (46, (.iload 9, 2)) (List.mem_of_getElem? (i := 27) rfl)
theorem dX5_hours_48 : decode cX5_hours 48 = .ok (.bipush 6, 2) := ta_cX5_hours_67 (48, (.bipush 6, 2)) (List.mem_of_getElem? (i := 28) rfl)
theorem dX5_hours_50 : decode cX5_hours 50 = .ok (.if_icmp .gt 58, 3) := ta_cX5_hours_67 (50, (.if_icmp .gt 58, 3)) (List.mem_of_getElem? (i := 29) rfl)
theorem dX5_hours_53 : decode cX5_hours 53 = .ok (.aload_n 0, 1) := ta_cX5_hours_67 (53, (.aload_n 0, 1)) (List.mem_of_getElem? (i := 30) rfl)
theorem dX5_hours_54 : decode cX5_hours 54 = .ok (.iload 9, 2) := ta_cX5_hours_67 (54, (.iload 9, 2)) (List.mem_of_getElem? (i := 31) rfl)
theorem dX5_hours_56 : decode cX5_hours 56 = .ok (.invokevirtual 222, 3) := ta_cX5_hours_67 (56, (.invokevirtual 222, 3)) (List.mem_of_getElem? (i := 32) rfl)
theorem dX5_hours_59 : decode cX5_hours 59 = .ok (.lload_n 2, 1) := ta_cX5_hours_67 (59, (.lload_n 2, 1)) (List.mem_of_getElem? (i := 33) rfl)
theorem dX5_hours_60 : decode cX5_hours 60 = .ok (.bipush 6, 2) := ta_cX5_hours_67 (60, (.bipush 6, 2)) (List.mem_of_getElem? (i := 34) rfl)
theorem dX5_hours_62 : decode cX5_hours 62 = .ok (.iload 9, 2) := ta_cX5_hours_67 (62, (.iload 9, 2)) (List.mem_of_getElem? (i := 35) rfl)
theorem dX5_hours_64 : decode cX5_hours 64 = .ok (.isub, 1) := ta_cX5_hours_67 (64, (.isub, 1)) (List.mem_of_getElem? (i := 36) rfl)
theorem dX5_hours_65 : decode cX5_hours 65 = .ok (.invokestatic 225, 3) := ta_cX5_hours_67 (65, (.invokestatic 225, 3)) (List.mem_of_getElem? (i := 37) rfl)
theorem dX5_hours_68 : decode cX5_hours 68 = .ok (.lmul, 1) := ta_cX5_hours_67 (68, (.lmul, 1)) (List.mem_of_getElem? (i := 38) rfl)
theorem dX5_hours_69 : decode cX5_hours 69 = .ok (.iload 9, 2) := ta_cX5_hours_67 (69, (.iload 9, 2)) (List.mem_of_getElem? (i := 39) rfl)
theorem dX5_hours_71 : decode cX5_hours 71 = .ok (.iload_n 1, 1) := ta_cX5_hours_67 (71, (.iload_n 1, 1)) (List.mem_of_getElem? (i := 40) rfl)
theorem dX5_hours_72 : decode cX5_hours 72 = .ok (.imul, 1) := ta_cX5_hours_67 (72, (.imul, 1)) (List.mem_of_getElem? (i := 41) rfl)
theorem dX5_hours_73 : decode cX5_hours 73 = .ok (.i2l, 1) := ta_cX5_hours_67 (73, (.i2l, 1)) (List.mem_of_getElem? (i := 42) rfl)
theorem dX5_hours_74 : decode cX5_hours 74 = .ok (.lload 4, 2) := ta_cX5_hours_67 (74, (.lload 4, 2)) (List.mem_of_getElem? (i := 43) rfl)
theorem dX5_hours_76 : decode cX5_hours 76 = .ok (.lmul, 1) := ta_cX5_hours_67 (76, (.lmul, 1)) (List.mem_of_getElem? (i := 44) rfl)
theorem dX5_hours_77 : decode cX5_hours 77 = .ok (.lsub, 1) := ta_cX5_hours_67 (77, (.lsub, 1)) (List.mem_of_getElem? (i := 45) rfl)
theorem dX5_hours_78 : decode cX5_hours 78 = .ok (.lstore 10, 2) := ta_cX5_hours_67 (78, (.lstore 10, 2)) (List.mem_of_getElem? (i := 46) rfl)
theorem dX5_hours_80 : decode cX5_hours 80 = .ok (.iload 9, 2) := ta_cX5_hours_67 (80, (.iload 9, 2)) (List.mem_of_getElem? (i := 47) rfl)
theorem dX5_hours_82 : decode cX5_hours 82 = .ok (.iconst 1, 1) := ta_cX5_hours_67 (82, (.iconst 1, 1)) (List.mem_of_getElem? (i := 48) rfl)
theorem dX5_hours_83 : decode cX5_hours 83 = .ok (.if_icmp .eq 11, 3) := ta_cX5_hours_67 (83, (.if_icmp .eq 11, 3)) (List.mem_of_getElem? (i := 49) rfl)
def tb_cX5_hours_68 : List (Nat × (Instr × Nat)) := [(86, (.lload 10, 2)), (88, (.lload 7, 2)), (90, (.lcmp, 1)), (91, (.ifCond .le 11, 3)), (94, (.lload 10, 2)), (96, (.lstore 7, 2)), (98, (.iload 9, 2)), (100, (.istore 6, 2)), (102, (.iinc 9 1, 3)), (105, (.goto (-59), 3)), (108, (.iload 6, 2)), (110, (.ireturn, 1))]
set_option maxRecDepth 20000 in
theorem ta_cX5_hours_68 : ∀ q ∈ tb_cX5_hours_68, decode cX5_hours q.1 = .ok q.2 := by decide +kernel
theorem dX5_hours_86 : decode cX5_hours 86 = .ok (.lload 10, 2) := ta_cX5_hours_68 (86, (.lload 10, 2)) (List.mem_of_getElem? (i := 0) rfl)
theorem dX5_hours_88 : decode cX5_hours 88 = .ok (.lload 7, 2) := ta_cX5_hours_68 (88, (.lload 7, 2)) (List.mem_of_getElem? (i := 1) rfl)
theorem dX5_hours_90 : decode cX5_hours 90 = .ok (.lcmp, 1) := ta_cX5_hours_68 (90, (.lcmp, 1)) (List.mem_of_getElem? (i := 2) rfl)
theorem dX5_hours_91 : decode cX5_hours 91 = .ok (.ifCond .le 11, 3) := ta_cX5_hours_68 (91, (.ifCond .le 11, 3)) (List.mem_of_getElem? (i := 3) rfl)
theorem dX5_hours_94 : decode cX5_hours 94 = .ok (.lload 10, 2) := ta_cX5_hours_68 (94, (.lload 10, 2)) (List.mem_of_getElem? (i := 4) rfl)
theorem dX5_hours_96 : decode cX5_hours 96 = .ok (.lstore 7, 2) := ta_cX5_hours_68 (96, (.lstore 7, 2)) (List.mem_of_getElem? (i := 5) rfl)
theorem dX5_hours_98 : decode cX5_hours 98 = .ok (.iload 9, 2) := ta_cX5_hours_68 (98, (.iload 9, 2)) (List.mem_of_getElem? (i := 6) rfl)
theorem dX5_hours_100 : decode cX5_hours 100 = .ok (.istore 6, 2) := ta_cX5_hours_68 (100, (.istore 6, 2)) (List.mem_of_getElem? (i := 7) rfl)
theorem dX5_hours_102 : decode cX5_hours 102 = .ok (.iinc 9 1, 3) := ta_cX5_hours_68 (102, (.iinc 9 1, 3)) (List.mem_of_getElem? (i := 8) rfl)
theorem dX5_hours_105 : decode cX5_hours 105 = .ok (.goto (-59), 3) := ta_cX5_hours_68 (105, (.goto (-59), 3)) (List.mem_of_getElem? (i := 9) rfl)
theorem dX5_hours_108 : decode cX5_hours 108 = .ok (.iload 6, 2) := ta_cX5_hours_68 (108, (.iload 6, 2)) (List.mem_of_getElem? (i := 10) rfl)
theorem dX5_hours_110 : decode cX5_hours 110 = .ok (.ireturn, 1) := ta_cX5_hours_68 (110, (.ireturn, 1)) (List.mem_of_getElem? (i := 11) rfl)
set_option maxRecDepth 20000 in
theorem ggX5_sheet_X5_sheetAt : GoodIn wsX5_sheet wsX5_sheetAt := goodIn_r _ [6, 7, 31, 32, 33, 34, 35, 36, 37, 38, 39, 40, 41, 42, 43] rfl (by decide +kernel)
set_option maxRecDepth 20000 in
theorem gX5_sheet_X5_sheetAt : GoodIn wsX5_sheet (wsV RX5 105 RX5 yX5_sheetAt wsX5_sheetAt) := goodIn_app (goodIn_r _ [2, 3, 4, 5] rfl (by decide +kernel)) ggX5_sheet_X5_sheetAt
set_option maxRecDepth 20000 in
theorem ggX5_sheet_X5_isLane : GoodIn wsX5_sheet wsX5_isLane := goodIn_r _ [10, 11, 12, 5, 13] rfl (by decide +kernel)
set_option maxRecDepth 20000 in
theorem gX5_sheet_X5_isLane : GoodIn wsX5_sheet (va_wsS RX5 229 yX5_isLane wsX5_isLane) := goodIn_app (goodIn_r _ [8, 9, 5] rfl (by decide +kernel)) ggX5_sheet_X5_isLane
set_option maxRecDepth 20000 in
theorem ggX5_sheet_X5_faulted : GoodIn wsX5_sheet wsX5_faulted := goodIn_r _ [17, 1, 31, 32, 33, 34, 35, 36, 37, 38, 39, 40, 41, 42, 43] rfl (by decide +kernel)
set_option maxRecDepth 20000 in
theorem gX5_sheet_X5_faulted : GoodIn wsX5_sheet (wsV RX5 232 RX5 yX5_faulted wsX5_faulted) := goodIn_app (goodIn_r _ [14, 15, 16, 5] rfl (by decide +kernel)) ggX5_sheet_X5_faulted
set_option maxRecDepth 20000 in
theorem ggX5_sheet_X2_renew : GoodIn wsX5_sheet wsX2_renew := goodIn_r _ [22, 23, 24, 25, 26, 27, 28, 29, 30, 44, 45, 46, 47] rfl (by decide +kernel)
set_option maxRecDepth 20000 in
theorem gX5_sheet_X2_renew : GoodIn wsX5_sheet (wsV RX5 235 RX2 yX2_renew wsX2_renew) := goodIn_app (goodIn_r _ [18, 19, 20, 21] rfl (by decide +kernel)) ggX5_sheet_X2_renew
def tb_cX5_sheet_69 : List (Nat × (Instr × Nat)) := [(0, (.aload_n 0, 1)), (1, (.iconst 0, 1)), (2, (.putfield 67, 3)), (5, (.aload_n 0, 1)), (6, (.iload_n 1, 1)), (7, (.invokevirtual 105, 3)), (10, (.astore 4, 2)), (12, (.aload 4, 2)), (14, (.ifnonnull 5, 3)), (17, (.iconst (-1), 1)), (18, (.ireturn, 1)), (19, (.iload_n 2, 1)), (20, (.invokestatic 229, 3)), (23, (.ifCond .eq 9, 3)), (26, (.iload_n 3, 1)), (27, (.bipush 60, 2)), (29, (.if_icmp .le 6, 3)), (32, (.bipush (-2), 2)), (34, (.ireturn, 1)), (35, (.iload_n 3, 1)), (36, (.ifCond .ge 9, 3)), (39, (.aload_n 0, 1)), (40, (.iconst 4, 1)), (41, (.invokevirtual 232, 3)), (44, (.ireturn, 1)), (45, (.aload 4, 2)), (47, (.iload_n 2, 1)), (48, (.iload_n 3, 1)), (49, (.invokevirtual 235, 3)), (52, (.iconst 1, 1)), (53, (.ireturn, 1))]
set_option maxRecDepth 20000 in
theorem ta_cX5_sheet_69 : ∀ q ∈ tb_cX5_sheet_69, decode cX5_sheet q.1 = .ok q.2 := by decide +kernel
theorem dX5_sheet_0 : decode cX5_sheet 0 = .ok (.aload_n 0, 1) := ta_cX5_sheet_69 (0, (.aload_n 0, 1)) (List.mem_of_getElem? (i := 0) rfl)
theorem dX5_sheet_1 : decode cX5_sheet 1 = .ok (.iconst 0, 1) := ta_cX5_sheet_69 (1, (.iconst 0, 1)) (List.mem_of_getElem? (i := 1) rfl)
theorem dX5_sheet_2 : decode cX5_sheet 2 = .ok (.putfield 67, 3) := ta_cX5_sheet_69 (2, (.putfield 67, 3)) (List.mem_of_getElem? (i := 2) rfl)
theorem dX5_sheet_5 : decode cX5_sheet 5 = .ok (.aload_n 0, 1) := ta_cX5_sheet_69 (5, (.aload_n 0, 1)) (List.mem_of_getElem? (i := 3) rfl)
theorem dX5_sheet_6 : decode cX5_sheet 6 = .ok (.iload_n 1, 1) := ta_cX5_sheet_69 (6, (.iload_n 1, 1)) (List.mem_of_getElem? (i := 4) rfl)
theorem dX5_sheet_7 : decode cX5_sheet 7 = .ok (.invokevirtual 105, 3) := ta_cX5_sheet_69 (7, (.invokevirtual 105, 3)) (List.mem_of_getElem? (i := 5) rfl)
theorem dX5_sheet_10 : decode cX5_sheet 10 = .ok (.astore 4, 2) := ta_cX5_sheet_69 (10, (.astore 4, 2)) (List.mem_of_getElem? (i := 6) rfl)
theorem dX5_sheet_12 : decode cX5_sheet 12 = .ok (.aload 4, 2) := ta_cX5_sheet_69 (12, (.aload 4, 2)) (List.mem_of_getElem? (i := 7) rfl)
theorem dX5_sheet_14 : decode cX5_sheet 14 = .ok (.ifnonnull 5, 3) := ta_cX5_sheet_69 (14, (.ifnonnull 5, 3)) (List.mem_of_getElem? (i := 8) rfl)
theorem dX5_sheet_17 : decode cX5_sheet 17 = .ok (.iconst (-1), 1) := ta_cX5_sheet_69 (17, (.iconst (-1), 1)) (List.mem_of_getElem? (i := 9) rfl)
theorem dX5_sheet_18 : decode cX5_sheet 18 = .ok (.ireturn, 1) := ta_cX5_sheet_69 (18, (.ireturn, 1)) (List.mem_of_getElem? (i := 10) rfl)
theorem dX5_sheet_19 : decode cX5_sheet 19 = .ok (.iload_n 2, 1) := ta_cX5_sheet_69 (19, (.iload_n 2, 1)) (List.mem_of_getElem? (i := 11) rfl)
theorem dX5_sheet_20 : decode cX5_sheet 20 = .ok (.invokestatic 229, 3) := ta_cX5_sheet_69 (20, (.invokestatic 229, 3)) (List.mem_of_getElem? (i := 12) rfl)
theorem dX5_sheet_23 : decode cX5_sheet 23 = .ok (.ifCond .eq 9, 3) := ta_cX5_sheet_69 (23, (.ifCond .eq 9, 3)) (List.mem_of_getElem? (i := 13) rfl)
theorem dX5_sheet_26 : decode cX5_sheet 26 = .ok (.iload_n 3, 1) := ta_cX5_sheet_69 (26, (.iload_n 3, 1)) (List.mem_of_getElem? (i := 14) rfl)
theorem dX5_sheet_27 : decode cX5_sheet 27 = .ok (.bipush 60, 2) := ta_cX5_sheet_69 (27, (.bipush 60, 2)) (List.mem_of_getElem? (i := 15) rfl)
theorem dX5_sheet_29 : decode cX5_sheet 29 = .ok (.if_icmp .le 6, 3) := ta_cX5_sheet_69 (29, (.if_icmp .le 6, 3)) (List.mem_of_getElem? (i := 16) rfl)
theorem dX5_sheet_32 : decode cX5_sheet 32 = .ok (.bipush (-2), 2) := ta_cX5_sheet_69 (32, (.bipush (-2), 2)) (List.mem_of_getElem? (i := 17) rfl)
theorem dX5_sheet_34 : decode cX5_sheet 34 = .ok (.ireturn, 1) := ta_cX5_sheet_69 (34, (.ireturn, 1)) (List.mem_of_getElem? (i := 18) rfl)
theorem dX5_sheet_35 : decode cX5_sheet 35 = .ok (.iload_n 3, 1) := ta_cX5_sheet_69 (35, (.iload_n 3, 1)) (List.mem_of_getElem? (i := 19) rfl)
theorem dX5_sheet_36 : decode cX5_sheet 36 = .ok (.ifCond .ge 9, 3) := ta_cX5_sheet_69 (36, (.ifCond .ge 9, 3)) (List.mem_of_getElem? (i := 20) rfl)
theorem dX5_sheet_39 : decode cX5_sheet 39 = .ok (.aload_n 0, 1) := ta_cX5_sheet_69 (39, (.aload_n 0, 1)) (List.mem_of_getElem? (i := 21) rfl)
theorem dX5_sheet_40 : decode cX5_sheet 40 = .ok (.iconst 4, 1) := ta_cX5_sheet_69 (40, (.iconst 4, 1)) (List.mem_of_getElem? (i := 22) rfl)
theorem dX5_sheet_41 : decode cX5_sheet 41 = .ok (.invokevirtual 232, 3) := ta_cX5_sheet_69 (41, (.invokevirtual 232, 3)) (List.mem_of_getElem? (i := 23) rfl)
theorem dX5_sheet_44 : decode cX5_sheet 44 = .ok (.ireturn, 1) := ta_cX5_sheet_69 (44, (.ireturn, 1)) (List.mem_of_getElem? (i := 24) rfl)
theorem dX5_sheet_45 : decode cX5_sheet 45 = .ok (.aload 4, 2) := ta_cX5_sheet_69 (45, (.aload 4, 2)) (List.mem_of_getElem? (i := 25) rfl)
theorem dX5_sheet_47 : decode cX5_sheet 47 = .ok (.iload_n 2, 1) := ta_cX5_sheet_69 (47, (.iload_n 2, 1)) (List.mem_of_getElem? (i := 26) rfl)
theorem dX5_sheet_48 : decode cX5_sheet 48 = .ok (.iload_n 3, 1) := ta_cX5_sheet_69 (48, (.iload_n 3, 1)) (List.mem_of_getElem? (i := 27) rfl)
theorem dX5_sheet_49 : decode cX5_sheet 49 = .ok (.invokevirtual 235, 3) := ta_cX5_sheet_69 (49, (.invokevirtual 235, 3)) (List.mem_of_getElem? (i := 28) rfl)
theorem dX5_sheet_52 : decode cX5_sheet 52 = .ok (.iconst 1, 1) := ta_cX5_sheet_69 (52, (.iconst 1, 1)) (List.mem_of_getElem? (i := 29) rfl)
theorem dX5_sheet_53 : decode cX5_sheet 53 = .ok (.ireturn, 1) := ta_cX5_sheet_69 (53, (.ireturn, 1)) (List.mem_of_getElem? (i := 30) rfl)
set_option maxRecDepth 20000 in
theorem ggX5_lose_X5_sheetAt : GoodIn wsX5_lose wsX5_sheetAt := goodIn_r _ [6, 7, 12, 13, 14, 15, 16, 17, 18, 19, 20, 21, 22, 23, 24] rfl (by decide +kernel)
set_option maxRecDepth 20000 in
theorem gX5_lose_X5_sheetAt : GoodIn wsX5_lose (wsV RX5 105 RX5 yX5_sheetAt wsX5_sheetAt) := goodIn_app (goodIn_r _ [2, 3, 4, 5] rfl (by decide +kernel)) ggX5_lose_X5_sheetAt
def tb_cX5_lose_70 : List (Nat × (Instr × Nat)) := [(0, (.aload_n 0, 1)), (1, (.iload_n 1, 1)), (2, (.invokevirtual 105, 3)), (5, (.astore_n 2, 1)), (6, (.aload_n 2, 1)), (7, (.ifnonnull 5, 3)), (10, (.iconst (-1), 1)), (11, (.ireturn, 1)), (12, (.aload_n 2, 1)), (13, (.getfield 239, 3)), (16, (.ifCond .ne 5, 3)), (19, (.iconst 0, 1)), (20, (.ireturn, 1)), (21, (.aload_n 2, 1)), (22, (.iconst 0, 1)), (23, (.putfield 239, 3)), (26, (.iconst 1, 1)), (27, (.ireturn, 1))]
set_option maxRecDepth 20000 in
theorem ta_cX5_lose_70 : ∀ q ∈ tb_cX5_lose_70, decode cX5_lose q.1 = .ok q.2 := by decide +kernel
theorem dX5_lose_0 : decode cX5_lose 0 = .ok (.aload_n 0, 1) := ta_cX5_lose_70 (0, (.aload_n 0, 1)) (List.mem_of_getElem? (i := 0) rfl)
theorem dX5_lose_1 : decode cX5_lose 1 = .ok (.iload_n 1, 1) := ta_cX5_lose_70 (1, (.iload_n 1, 1)) (List.mem_of_getElem? (i := 1) rfl)
theorem dX5_lose_2 : decode cX5_lose 2 = .ok (.invokevirtual 105, 3) := ta_cX5_lose_70 (2, (.invokevirtual 105, 3)) (List.mem_of_getElem? (i := 2) rfl)
theorem dX5_lose_5 : decode cX5_lose 5 = .ok (.astore_n 2, 1) := ta_cX5_lose_70 (5, (.astore_n 2, 1)) (List.mem_of_getElem? (i := 3) rfl)
theorem dX5_lose_6 : decode cX5_lose 6 = .ok (.aload_n 2, 1) := ta_cX5_lose_70 (6, (.aload_n 2, 1)) (List.mem_of_getElem? (i := 4) rfl)
theorem dX5_lose_7 : decode cX5_lose 7 = .ok (.ifnonnull 5, 3) := ta_cX5_lose_70 (7, (.ifnonnull 5, 3)) (List.mem_of_getElem? (i := 5) rfl)
theorem dX5_lose_10 : decode cX5_lose 10 = .ok (.iconst (-1), 1) := ta_cX5_lose_70 (10, (.iconst (-1), 1)) (List.mem_of_getElem? (i := 6) rfl)
theorem dX5_lose_11 : decode cX5_lose 11 = .ok (.ireturn, 1) := ta_cX5_lose_70 (11, (.ireturn, 1)) (List.mem_of_getElem? (i := 7) rfl)
theorem dX5_lose_12 : decode cX5_lose 12 = .ok (.aload_n 2, 1) := ta_cX5_lose_70 (12, (.aload_n 2, 1)) (List.mem_of_getElem? (i := 8) rfl)
theorem dX5_lose_13 : decode cX5_lose 13 = .ok (.getfield 239, 3) := ta_cX5_lose_70 (13, (.getfield 239, 3)) (List.mem_of_getElem? (i := 9) rfl)
theorem dX5_lose_16 : decode cX5_lose 16 = .ok (.ifCond .ne 5, 3) := ta_cX5_lose_70 (16, (.ifCond .ne 5, 3)) (List.mem_of_getElem? (i := 10) rfl)
theorem dX5_lose_19 : decode cX5_lose 19 = .ok (.iconst 0, 1) := ta_cX5_lose_70 (19, (.iconst 0, 1)) (List.mem_of_getElem? (i := 11) rfl)
theorem dX5_lose_20 : decode cX5_lose 20 = .ok (.ireturn, 1) := ta_cX5_lose_70 (20, (.ireturn, 1)) (List.mem_of_getElem? (i := 12) rfl)
theorem dX5_lose_21 : decode cX5_lose 21 = .ok (.aload_n 2, 1) := ta_cX5_lose_70 (21, (.aload_n 2, 1)) (List.mem_of_getElem? (i := 13) rfl)
theorem dX5_lose_22 : decode cX5_lose 22 = .ok (.iconst 0, 1) := ta_cX5_lose_70 (22, (.iconst 0, 1)) (List.mem_of_getElem? (i := 14) rfl)
theorem dX5_lose_23 : decode cX5_lose 23 = .ok (.putfield 239, 3) := ta_cX5_lose_70 (23, (.putfield 239, 3)) (List.mem_of_getElem? (i := 15) rfl)
theorem dX5_lose_26 : decode cX5_lose 26 = .ok (.iconst 1, 1) := ta_cX5_lose_70 (26, (.iconst 1, 1)) (List.mem_of_getElem? (i := 16) rfl)
theorem dX5_lose_27 : decode cX5_lose 27 = .ok (.ireturn, 1) := ta_cX5_lose_70 (27, (.ireturn, 1)) (List.mem_of_getElem? (i := 17) rfl)
set_option maxRecDepth 20000 in
theorem ggX5_put_X5_sheetAt : GoodIn wsX5_put wsX5_sheetAt := goodIn_r _ [7, 8, 26, 27, 28, 29, 30, 31, 32, 33, 34, 35, 36, 37, 38] rfl (by decide +kernel)
set_option maxRecDepth 20000 in
theorem gX5_put_X5_sheetAt : GoodIn wsX5_put (wsV RX5 105 RX5 yX5_sheetAt wsX5_sheetAt) := goodIn_app (goodIn_r _ [3, 4, 5, 6] rfl (by decide +kernel)) ggX5_put_X5_sheetAt
set_option maxRecDepth 20000 in
theorem ggX5_put_X5_faulted : GoodIn wsX5_put wsX5_faulted := goodIn_r _ [12, 1, 26, 27, 28, 29, 30, 31, 32, 33, 34, 35, 36, 37, 38] rfl (by decide +kernel)
set_option maxRecDepth 20000 in
theorem gX5_put_X5_faulted : GoodIn wsX5_put (wsV RX5 232 RX5 yX5_faulted wsX5_faulted) := goodIn_app (goodIn_r _ [9, 10, 11, 6] rfl (by decide +kernel)) ggX5_put_X5_faulted
set_option maxRecDepth 20000 in
theorem ggX5_put_X2_has : GoodIn wsX5_put wsX2_has := goodIn_r _ [17, 18, 19, 39, 40, 41, 42] rfl (by decide +kernel)
set_option maxRecDepth 20000 in
theorem gX5_put_X2_has : GoodIn wsX5_put (wsV RX5 243 RX2 yX2_has wsX2_has) := goodIn_app (goodIn_r _ [13, 14, 15, 16] rfl (by decide +kernel)) ggX5_put_X2_has
set_option maxRecDepth 20000 in
theorem ggX5_put_X2_write : GoodIn wsX5_put wsX2_write := goodIn_r _ [23, 19, 24, 25, 14, 15, 16, 17, 18, 39, 40, 41, 42] rfl (by decide +kernel)
set_option maxRecDepth 20000 in
theorem gX5_put_X2_write : GoodIn wsX5_put (wsV RX5 246 RX2 yX2_write wsX2_write) := goodIn_app (goodIn_r _ [20, 21, 22, 16] rfl (by decide +kernel)) ggX5_put_X2_write
def tb_cX5_put_71 : List (Nat × (Instr × Nat)) := [(0, (.aload_n 0, 1)), (1, (.iconst 0, 1)), (2, (.putfield 67, 3)), (5, (.aload_n 0, 1)), (6, (.iload_n 1, 1)), (7, (.invokevirtual 105, 3)), (10, (.astore 4, 2)), (12, (.aload 4, 2)), (14, (.ifnonnull 5, 3)), (17, (.iconst (-1), 1)), (18, (.ireturn, 1)), (19, (.aload 4, 2)), (21, (.getfield 239, 3)), (24, (.ifCond .ne 9, 3)), (27, (.aload_n 0, 1)), (28, (.iconst 1, 1)), (29, (.invokevirtual 232, 3)), (32, (.ireturn, 1)), (33, (.aload 4, 2)), (35, (.iload_n 2, 1)), (36, (.invokevirtual 243, 3)), (39, (.ifCond .ne 9, 3)), (42, (.aload_n 0, 1)), (43, (.iconst 3, 1)), (44, (.invokevirtual 232, 3)), (47, (.ireturn, 1)), (48, (.aload 4, 2)), (50, (.iload_n 2, 1)), (51, (.iload_n 3, 1)), (52, (.invokevirtual 246, 3)), (55, (.iconst 1, 1)), (56, (.ireturn, 1))]
set_option maxRecDepth 20000 in
theorem ta_cX5_put_71 : ∀ q ∈ tb_cX5_put_71, decode cX5_put q.1 = .ok q.2 := by decide +kernel
theorem dX5_put_0 : decode cX5_put 0 = .ok (.aload_n 0, 1) := ta_cX5_put_71 (0, (.aload_n 0, 1)) (List.mem_of_getElem? (i := 0) rfl)
theorem dX5_put_1 : decode cX5_put 1 = .ok (.iconst 0, 1) := ta_cX5_put_71 (1, (.iconst 0, 1)) (List.mem_of_getElem? (i := 1) rfl)
theorem dX5_put_2 : decode cX5_put 2 = .ok (.putfield 67, 3) := ta_cX5_put_71 (2, (.putfield 67, 3)) (List.mem_of_getElem? (i := 2) rfl)
theorem dX5_put_5 : decode cX5_put 5 = .ok (.aload_n 0, 1) := ta_cX5_put_71 (5, (.aload_n 0, 1)) (List.mem_of_getElem? (i := 3) rfl)
theorem dX5_put_6 : decode cX5_put 6 = .ok (.iload_n 1, 1) := ta_cX5_put_71 (6, (.iload_n 1, 1)) (List.mem_of_getElem? (i := 4) rfl)
theorem dX5_put_7 : decode cX5_put 7 = .ok (.invokevirtual 105, 3) := ta_cX5_put_71 (7, (.invokevirtual 105, 3)) (List.mem_of_getElem? (i := 5) rfl)
theorem dX5_put_10 : decode cX5_put 10 = .ok (.astore 4, 2) := ta_cX5_put_71 (10, (.astore 4, 2)) (List.mem_of_getElem? (i := 6) rfl)
theorem dX5_put_12 : decode cX5_put 12 = .ok (.aload 4, 2) := ta_cX5_put_71 (12, (.aload 4, 2)) (List.mem_of_getElem? (i := 7) rfl)
theorem dX5_put_14 : decode cX5_put 14 = .ok (.ifnonnull 5, 3) := ta_cX5_put_71 (14, (.ifnonnull 5, 3)) (List.mem_of_getElem? (i := 8) rfl)
theorem dX5_put_17 : decode cX5_put 17 = .ok (.iconst (-1), 1) := ta_cX5_put_71 (17, (.iconst (-1), 1)) (List.mem_of_getElem? (i := 9) rfl)
theorem dX5_put_18 : decode cX5_put 18 = .ok (.ireturn, 1) := ta_cX5_put_71 (18, (.ireturn, 1)) (List.mem_of_getElem? (i := 10) rfl)
theorem dX5_put_19 : decode cX5_put 19 = .ok (.aload 4, 2) := ta_cX5_put_71 (19, (.aload 4, 2)) (List.mem_of_getElem? (i := 11) rfl)
theorem dX5_put_21 : decode cX5_put 21 = .ok (.getfield 239, 3) := ta_cX5_put_71 (21, (.getfield 239, 3)) (List.mem_of_getElem? (i := 12) rfl)
theorem dX5_put_24 : decode cX5_put 24 = .ok (.ifCond .ne 9, 3) := ta_cX5_put_71 (24, (.ifCond .ne 9, 3)) (List.mem_of_getElem? (i := 13) rfl)
theorem dX5_put_27 : decode cX5_put 27 = .ok (.aload_n 0, 1) := ta_cX5_put_71 (27, (.aload_n 0, 1)) (List.mem_of_getElem? (i := 14) rfl)
theorem dX5_put_28 : decode cX5_put 28 = .ok (.iconst 1, 1) := ta_cX5_put_71 (28, (.iconst 1, 1)) (List.mem_of_getElem? (i := 15) rfl)
theorem dX5_put_29 : decode cX5_put 29 = .ok (.invokevirtual 232, 3) := ta_cX5_put_71 (29, (.invokevirtual 232, 3)) (List.mem_of_getElem? (i := 16) rfl)
theorem dX5_put_32 : decode cX5_put 32 = .ok (.ireturn, 1) := ta_cX5_put_71 (32, (.ireturn, 1)) (List.mem_of_getElem? (i := 17) rfl)
theorem dX5_put_33 : decode cX5_put 33 = .ok (.aload 4, 2) := ta_cX5_put_71 (33, (.aload 4, 2)) (List.mem_of_getElem? (i := 18) rfl)
theorem dX5_put_35 : decode cX5_put 35 = .ok (.iload_n 2, 1) := ta_cX5_put_71 (35, (.iload_n 2, 1)) (List.mem_of_getElem? (i := 19) rfl)
theorem dX5_put_36 : decode cX5_put 36 = .ok (.invokevirtual 243, 3) := ta_cX5_put_71 (36, (.invokevirtual 243, 3)) (List.mem_of_getElem? (i := 20) rfl)
theorem dX5_put_39 : decode cX5_put 39 = .ok (.ifCond .ne 9, 3) := ta_cX5_put_71 (39, (.ifCond .ne 9, 3)) (List.mem_of_getElem? (i := 21) rfl)
theorem dX5_put_42 : decode cX5_put 42 = .ok (.aload_n 0, 1) := ta_cX5_put_71 (42, (.aload_n 0, 1)) (List.mem_of_getElem? (i := 22) rfl)
theorem dX5_put_43 : decode cX5_put 43 = .ok (.iconst 3, 1) := ta_cX5_put_71 (43, (.iconst 3, 1)) (List.mem_of_getElem? (i := 23) rfl)
theorem dX5_put_44 : decode cX5_put 44 = .ok (.invokevirtual 232, 3) := ta_cX5_put_71 (44, (.invokevirtual 232, 3)) (List.mem_of_getElem? (i := 24) rfl)
theorem dX5_put_47 : decode cX5_put 47 = .ok (.ireturn, 1) := ta_cX5_put_71 (47, (.ireturn, 1)) (List.mem_of_getElem? (i := 25) rfl)
theorem dX5_put_48 : decode cX5_put 48 = .ok (.aload 4, 2) := ta_cX5_put_71 (48, (.aload 4, 2)) (List.mem_of_getElem? (i := 26) rfl)
theorem dX5_put_50 : decode cX5_put 50 = .ok (.iload_n 2, 1) := ta_cX5_put_71 (50, (.iload_n 2, 1)) (List.mem_of_getElem? (i := 27) rfl)
theorem dX5_put_51 : decode cX5_put 51 = .ok (.iload_n 3, 1) := ta_cX5_put_71 (51, (.iload_n 3, 1)) (List.mem_of_getElem? (i := 28) rfl)
theorem dX5_put_52 : decode cX5_put 52 = .ok (.invokevirtual 246, 3) := ta_cX5_put_71 (52, (.invokevirtual 246, 3)) (List.mem_of_getElem? (i := 29) rfl)
theorem dX5_put_55 : decode cX5_put 55 = .ok (.iconst 1, 1) := ta_cX5_put_71 (55, (.iconst 1, 1)) (List.mem_of_getElem? (i := 30) rfl)
theorem dX5_put_56 : decode cX5_put 56 = .ok (.ireturn, 1) := ta_cX5_put_71 (56, (.ireturn, 1)) (List.mem_of_getElem? (i := 31) rfl)
set_option maxRecDepth 20000 in
theorem ggX5_cell_X5_sheetAt : GoodIn wsX5_cell wsX5_sheetAt := goodIn_r _ [7, 8, 33, 34, 35, 36, 37, 38, 39, 40, 41, 42, 43, 44, 45] rfl (by decide +kernel)
set_option maxRecDepth 20000 in
theorem gX5_cell_X5_sheetAt : GoodIn wsX5_cell (wsV RX5 105 RX5 yX5_sheetAt wsX5_sheetAt) := goodIn_app (goodIn_r _ [3, 4, 5, 6] rfl (by decide +kernel)) ggX5_cell_X5_sheetAt
set_option maxRecDepth 20000 in
theorem ggX5_cell_X5_isLane : GoodIn wsX5_cell wsX5_isLane := goodIn_r _ [11, 12, 13, 6, 14] rfl (by decide +kernel)
set_option maxRecDepth 20000 in
theorem gX5_cell_X5_isLane : GoodIn wsX5_cell (va_wsS RX5 229 yX5_isLane wsX5_isLane) := goodIn_app (goodIn_r _ [9, 10, 6] rfl (by decide +kernel)) ggX5_cell_X5_isLane
set_option maxRecDepth 20000 in
theorem ggX5_cell_X2_faultAs : GoodIn wsX5_cell wsX2_faultAs := goodIn_r _ [19, 20, 21, 46, 47, 48, 49] rfl (by decide +kernel)
set_option maxRecDepth 20000 in
theorem gX5_cell_X2_faultAs : GoodIn wsX5_cell (wsV RX5 249 RX2 yX2_faultAs wsX2_faultAs) := goodIn_app (goodIn_r _ [15, 16, 17, 18] rfl (by decide +kernel)) ggX5_cell_X2_faultAs
set_option maxRecDepth 20000 in
theorem ggX5_cell_X2_has : GoodIn wsX5_cell wsX2_has := goodIn_r _ [25, 26, 27, 46, 47, 48, 49] rfl (by decide +kernel)
set_option maxRecDepth 20000 in
theorem gX5_cell_X2_has : GoodIn wsX5_cell (wsV RX5 243 RX2 yX2_has wsX2_has) := goodIn_app (goodIn_r _ [22, 23, 24, 18] rfl (by decide +kernel)) ggX5_cell_X2_has
set_option maxRecDepth 20000 in
theorem ggX5_cell_X2_number : GoodIn wsX5_cell wsX2_number := goodIn_r _ [31, 27, 32, 23, 24, 18, 25, 26, 46, 47, 48, 49] rfl (by decide +kernel)
set_option maxRecDepth 20000 in
theorem gX5_cell_X2_number : GoodIn wsX5_cell (wsV RX5 252 RX2 yX2_number wsX2_number) := goodIn_app (goodIn_r _ [28, 29, 30, 18] rfl (by decide +kernel)) ggX5_cell_X2_number
def tb_cX5_cell_72 : List (Nat × (Instr × Nat)) := [(0, (.aload_n 0, 1)), (1, (.iconst 0, 1)), (2, (.putfield 67, 3)), (5, (.aload_n 0, 1)), (6, (.iload_n 1, 1)), (7, (.invokevirtual 105, 3)), (10, (.astore 4, 2)), (12, (.aload 4, 2)), (14, (.ifnull 10, 3)), (17, (.iload_n 3, 1)), (18, (.invokestatic 229, 3)), (21, (.ifCond .ne 7, 3)), (24, (.ldc2_w 196, 3)), (27, (.lreturn, 1)), (28, (.aload_n 0, 1)), (29, (.aload 4, 2)), (31, (.iload_n 3, 1)), (32, (.invokevirtual 249, 3)), (35, (.putfield 67, 3)), (38, (.aload_n 0, 1)), (39, (.getfield 67, 3)), (42, (.ifCond .ne 17, 3)), (45, (.aload 4, 2)), (47, (.iload_n 2, 1)), (48, (.invokevirtual 243, 3)), (51, (.ifCond .ne 8, 3)), (54, (.aload_n 0, 1)), (55, (.iconst 3, 1)), (56, (.putfield 67, 3)), (59, (.aload_n 0, 1)), (60, (.getfield 67, 3)), (63, (.ifCond .ne 13, 3)), (66, (.aload 4, 2)), (68, (.iload_n 2, 1)), (69, (.invokevirtual 252, 3)), (72, (.i2l, 1)), (73, (.goto 6, 3)), (76, (.ldc2_w 196, 3)), (79, (.lreturn, 1))]
set_option maxRecDepth 20000 in
theorem ta_cX5_cell_72 : ∀ q ∈ tb_cX5_cell_72, decode cX5_cell q.1 = .ok q.2 := by decide +kernel
theorem dX5_cell_0 : decode cX5_cell 0 = .ok (.aload_n 0, 1) := ta_cX5_cell_72 (0, (.aload_n 0, 1)) (List.mem_of_getElem? (i := 0) rfl)
theorem dX5_cell_1 : decode cX5_cell 1 = .ok (.iconst 0, 1) := ta_cX5_cell_72 (1, (.iconst 0, 1)) (List.mem_of_getElem? (i := 1) rfl)
theorem dX5_cell_2 : decode cX5_cell 2 = .ok (.putfield 67, 3) := ta_cX5_cell_72 (2, (.putfield 67, 3)) (List.mem_of_getElem? (i := 2) rfl)
theorem dX5_cell_5 : decode cX5_cell 5 = .ok (.aload_n 0, 1) := ta_cX5_cell_72 (5, (.aload_n 0, 1)) (List.mem_of_getElem? (i := 3) rfl)
theorem dX5_cell_6 : decode cX5_cell 6 = .ok (.iload_n 1, 1) := ta_cX5_cell_72 (6, (.iload_n 1, 1)) (List.mem_of_getElem? (i := 4) rfl)
theorem dX5_cell_7 : decode cX5_cell 7 = .ok (.invokevirtual 105, 3) := ta_cX5_cell_72 (7, (.invokevirtual 105, 3)) (List.mem_of_getElem? (i := 5) rfl)
theorem dX5_cell_10 : decode cX5_cell 10 = .ok (.astore 4, 2) := ta_cX5_cell_72 (10, (.astore 4, 2)) (List.mem_of_getElem? (i := 6) rfl)
theorem dX5_cell_12 : decode cX5_cell 12 = .ok (.aload 4, 2) := ta_cX5_cell_72 (12, (.aload 4, 2)) (List.mem_of_getElem? (i := 7) rfl)
theorem dX5_cell_14 : decode cX5_cell 14 = .ok (.ifnull 10, 3) := ta_cX5_cell_72 (14, (.ifnull 10, 3)) (List.mem_of_getElem? (i := 8) rfl)
theorem dX5_cell_17 : decode cX5_cell 17 = .ok (.iload_n 3, 1) := ta_cX5_cell_72 (17, (.iload_n 3, 1)) (List.mem_of_getElem? (i := 9) rfl)
theorem dX5_cell_18 : decode cX5_cell 18 = .ok (.invokestatic 229, 3) := ta_cX5_cell_72 (18, (.invokestatic 229, 3)) (List.mem_of_getElem? (i := 10) rfl)
theorem dX5_cell_21 : decode cX5_cell 21 = .ok (.ifCond .ne 7, 3) := ta_cX5_cell_72 (21, (.ifCond .ne 7, 3)) (List.mem_of_getElem? (i := 11) rfl)
theorem dX5_cell_24 : decode cX5_cell 24 = .ok (.ldc2_w 196, 3) := ta_cX5_cell_72 (24, (.ldc2_w 196, 3)) (List.mem_of_getElem? (i := 12) rfl)
theorem dX5_cell_27 : decode cX5_cell 27 = .ok (.lreturn, 1) := ta_cX5_cell_72 (27, (.lreturn, 1)) (List.mem_of_getElem? (i := 13) rfl)
theorem dX5_cell_28 : decode cX5_cell 28 = .ok (.aload_n 0, 1) := ta_cX5_cell_72 (28, (.aload_n 0, 1)) (List.mem_of_getElem? (i := 14) rfl)
theorem dX5_cell_29 : decode cX5_cell 29 = .ok (.aload 4, 2) := ta_cX5_cell_72 (29, (.aload 4, 2)) (List.mem_of_getElem? (i := 15) rfl)
theorem dX5_cell_31 : decode cX5_cell 31 = .ok (.iload_n 3, 1) := ta_cX5_cell_72 (31, (.iload_n 3, 1)) (List.mem_of_getElem? (i := 16) rfl)
theorem dX5_cell_32 : decode cX5_cell 32 = .ok (.invokevirtual 249, 3) := ta_cX5_cell_72 (32, (.invokevirtual 249, 3)) (List.mem_of_getElem? (i := 17) rfl)
theorem dX5_cell_35 : decode cX5_cell 35 = .ok (.putfield 67, 3) := ta_cX5_cell_72 (35, (.putfield 67, 3)) (List.mem_of_getElem? (i := 18) rfl)
theorem dX5_cell_38 : decode cX5_cell 38 = .ok (.aload_n 0, 1) := ta_cX5_cell_72 (38, (.aload_n 0, 1)) (List.mem_of_getElem? (i := 19) rfl)
theorem dX5_cell_39 : decode cX5_cell 39 = .ok (.getfield 67, 3) := ta_cX5_cell_72 (39, (.getfield 67, 3)) (List.mem_of_getElem? (i := 20) rfl)
theorem dX5_cell_42 : decode cX5_cell 42 = .ok (.ifCond .ne 17, 3) := ta_cX5_cell_72 (42, (.ifCond .ne 17, 3)) (List.mem_of_getElem? (i := 21) rfl)
theorem dX5_cell_45 : decode cX5_cell 45 = .ok (.aload 4, 2) := ta_cX5_cell_72 (45, (.aload 4, 2)) (List.mem_of_getElem? (i := 22) rfl)
theorem dX5_cell_47 : decode cX5_cell 47 = .ok (.iload_n 2, 1) := ta_cX5_cell_72 (47, (.iload_n 2, 1)) (List.mem_of_getElem? (i := 23) rfl)
theorem dX5_cell_48 : decode cX5_cell 48 = .ok (.invokevirtual 243, 3) := ta_cX5_cell_72 (48, (.invokevirtual 243, 3)) (List.mem_of_getElem? (i := 24) rfl)
theorem dX5_cell_51 : decode cX5_cell 51 = .ok (.ifCond .ne 8, 3) := ta_cX5_cell_72 (51, (.ifCond .ne 8, 3)) (List.mem_of_getElem? (i := 25) rfl)
theorem dX5_cell_54 : decode cX5_cell 54 = .ok (.aload_n 0, 1) := ta_cX5_cell_72 (54, (.aload_n 0, 1)) (List.mem_of_getElem? (i := 26) rfl)
theorem dX5_cell_55 : decode cX5_cell 55 = .ok (.iconst 3, 1) := ta_cX5_cell_72 (55, (.iconst 3, 1)) (List.mem_of_getElem? (i := 27) rfl)
theorem dX5_cell_56 : decode cX5_cell 56 = .ok (.putfield 67, 3) := ta_cX5_cell_72 (56, (.putfield 67, 3)) (List.mem_of_getElem? (i := 28) rfl)
theorem dX5_cell_59 : decode cX5_cell 59 = .ok (.aload_n 0, 1) := ta_cX5_cell_72 (59, (.aload_n 0, 1)) (List.mem_of_getElem? (i := 29) rfl)
theorem dX5_cell_60 : decode cX5_cell 60 = .ok (.getfield 67, 3) := ta_cX5_cell_72 (60, (.getfield 67, 3)) (List.mem_of_getElem? (i := 30) rfl)
theorem dX5_cell_63 : decode cX5_cell 63 = .ok (.ifCond .ne 13, 3) := ta_cX5_cell_72 (63, (.ifCond .ne 13, 3)) (List.mem_of_getElem? (i := 31) rfl)
theorem dX5_cell_66 : decode cX5_cell 66 = .ok (.aload 4, 2) := ta_cX5_cell_72 (66, (.aload 4, 2)) (List.mem_of_getElem? (i := 32) rfl)
theorem dX5_cell_68 : decode cX5_cell 68 = .ok (.iload_n 2, 1) := ta_cX5_cell_72 (68, (.iload_n 2, 1)) (List.mem_of_getElem? (i := 33) rfl)
theorem dX5_cell_69 : decode cX5_cell 69 = .ok (.invokevirtual 252, 3) := ta_cX5_cell_72 (69, (.invokevirtual 252, 3)) (List.mem_of_getElem? (i := 34) rfl)
theorem dX5_cell_72 : decode cX5_cell 72 = .ok (.i2l, 1) := ta_cX5_cell_72 (72, (.i2l, 1)) (List.mem_of_getElem? (i := 35) rfl)
theorem dX5_cell_73 : decode cX5_cell 73 = .ok (.goto 6, 3) := ta_cX5_cell_72 (73, (.goto 6, 3)) (List.mem_of_getElem? (i := 36) rfl)
theorem dX5_cell_76 : decode cX5_cell 76 = .ok (.ldc2_w 196, 3) := ta_cX5_cell_72 (76, (.ldc2_w 196, 3)) (List.mem_of_getElem? (i := 37) rfl)
theorem dX5_cell_79 : decode cX5_cell 79 = .ok (.lreturn, 1) := ta_cX5_cell_72 (79, (.lreturn, 1)) (List.mem_of_getElem? (i := 38) rfl)
set_option maxRecDepth 20000 in
theorem ggX5_copy_X5_sheetAt : GoodIn wsX5_copy wsX5_sheetAt := goodIn_r _ [13, 14, 25, 26, 27, 28, 29, 30, 31, 32, 33, 34, 35, 36, 37] rfl (by decide +kernel)
set_option maxRecDepth 20000 in
theorem gX5_copy_X5_sheetAt : GoodIn wsX5_copy (wsV RX5 105 RX5 yX5_sheetAt wsX5_sheetAt) := goodIn_app (goodIn_r _ [9, 10, 11, 12] rfl (by decide +kernel)) ggX5_copy_X5_sheetAt
set_option maxRecDepth 20000 in
theorem ggX5_copy_X5_faulted : GoodIn wsX5_copy wsX5_faulted := goodIn_r _ [18, 1, 25, 26, 27, 28, 29, 30, 31, 32, 33, 34, 35, 36, 37] rfl (by decide +kernel)
set_option maxRecDepth 20000 in
theorem gX5_copy_X5_faulted : GoodIn wsX5_copy (wsV RX5 232 RX5 yX5_faulted wsX5_faulted) := goodIn_app (goodIn_r _ [15, 16, 17, 12] rfl (by decide +kernel)) ggX5_copy_X5_faulted
set_option maxRecDepth 20000 in
theorem ggX5_copy_X2_hasFrom : GoodIn wsX5_copy wsX2_hasFrom := goodIn_r _ [23, 24, 38, 39, 40, 41] rfl (by decide +kernel)
set_option maxRecDepth 20000 in
theorem gX5_copy_X2_hasFrom : GoodIn wsX5_copy (wsV RX5 258 RX2 yX2_hasFrom wsX2_hasFrom) := goodIn_app (goodIn_r _ [19, 20, 21, 22] rfl (by decide +kernel)) ggX5_copy_X2_hasFrom
def tb_cX5_copy_73 : List (Nat × (Instr × Nat)) := [(0, (.aload_n 0, 1)), (1, (.iconst 0, 1)), (2, (.putfield 67, 3)), (5, (.aload_n 0, 1)), (6, (.iload_n 1, 1)), (7, (.invokevirtual 105, 3)), (10, (.astore 6, 2)), (12, (.aload_n 0, 1)), (13, (.iload_n 3, 1)), (14, (.invokevirtual 105, 3)), (17, (.astore 7, 2)), (19, (.aload 6, 2)), (21, (.ifnull 8, 3)), (24, (.aload 7, 2)), (26, (.ifnonnull 5, 3)), (29, (.iconst (-1), 1)), (30, (.ireturn, 1)), (31, (.aload 6, 2)), (33, (.getfield 239, 3)), (36, (.ifCond .eq 11, 3)), (39, (.aload 7, 2)), (41, (.getfield 239, 3)), (44, (.ifCond .ne 9, 3)), (47, (.aload_n 0, 1)), (48, (.iconst 1, 1)), (49, (.invokevirtual 232, 3)), (52, (.ireturn, 1)), (53, (.aload 6, 2)), (55, (.getfield 255, 3)), (58, (.aload 7, 2)), (60, (.getfield 255, 3)), (63, (.if_icmp .eq 9, 3)), (66, (.aload_n 0, 1)), (67, (.iconst 2, 1)), (68, (.invokevirtual 232, 3)), (71, (.ireturn, 1)), (72, (.iload 5, 2)), (74, (.ifCond .lt 26, 3)), (77, (.aload 6, 2)), (79, (.iload_n 2, 1)), (80, (.iload 5, 2)), (82, (.invokevirtual 258, 3)), (85, (.ifCond .eq 15, 3)), (88, (.aload 7, 2)), (90, (.iload 4, 2)), (92, (.iload 5, 2)), (94, (.invokevirtual 258, 3)), (97, (.ifCond .ne 9, 3)), (100, (.aload_n 0, 1)), (101, (.iconst 3, 1))]
set_option maxRecDepth 20000 in
theorem ta_cX5_copy_73 : ∀ q ∈ tb_cX5_copy_73, decode cX5_copy q.1 = .ok q.2 := by decide +kernel
theorem dX5_copy_0 : decode cX5_copy 0 = .ok (.aload_n 0, 1) := ta_cX5_copy_73 (0, (.aload_n 0, 1)) (List.mem_of_getElem? (i := 0) rfl)
theorem dX5_copy_1 : decode cX5_copy 1 = .ok (.iconst 0, 1) := ta_cX5_copy_73 (1, (.iconst 0, 1)) (List.mem_of_getElem? (i := 1) rfl)
theorem dX5_copy_2 : decode cX5_copy 2 = .ok (.putfield 67, 3) := ta_cX5_copy_73 (2, (.putfield 67, 3)) (List.mem_of_getElem? (i := 2) rfl)
theorem dX5_copy_5 : decode cX5_copy 5 = .ok (.aload_n 0, 1) := ta_cX5_copy_73 (5, (.aload_n 0, 1)) (List.mem_of_getElem? (i := 3) rfl)
theorem dX5_copy_6 : decode cX5_copy 6 = .ok (.iload_n 1, 1) := ta_cX5_copy_73 (6, (.iload_n 1, 1)) (List.mem_of_getElem? (i := 4) rfl)
theorem dX5_copy_7 : decode cX5_copy 7 = .ok (.invokevirtual 105, 3) := ta_cX5_copy_73 (7, (.invokevirtual 105, 3)) (List.mem_of_getElem? (i := 5) rfl)
theorem dX5_copy_10 : decode cX5_copy 10 = .ok (.astore 6, 2) := ta_cX5_copy_73 (10, (.astore 6, 2)) (List.mem_of_getElem? (i := 6) rfl)
theorem dX5_copy_12 : decode cX5_copy 12 = .ok (.aload_n 0, 1) := ta_cX5_copy_73 (12, (.aload_n 0, 1)) (List.mem_of_getElem? (i := 7) rfl)
theorem dX5_copy_13 : decode cX5_copy 13 = .ok (.iload_n 3, 1) := ta_cX5_copy_73 (13, (.iload_n 3, 1)) (List.mem_of_getElem? (i := 8) rfl)
theorem dX5_copy_14 : decode cX5_copy 14 = .ok (.invokevirtual 105, 3) := ta_cX5_copy_73 (14, (.invokevirtual 105, 3)) (List.mem_of_getElem? (i := 9) rfl)
theorem dX5_copy_17 : decode cX5_copy 17 = .ok (.astore 7, 2) := ta_cX5_copy_73 (17, (.astore 7, 2)) (List.mem_of_getElem? (i := 10) rfl)
theorem dX5_copy_19 : decode cX5_copy 19 = .ok (.aload 6, 2) := ta_cX5_copy_73 (19, (.aload 6, 2)) (List.mem_of_getElem? (i := 11) rfl)
theorem dX5_copy_21 : decode cX5_copy 21 = .ok (.ifnull 8, 3) := ta_cX5_copy_73 (21, (.ifnull 8, 3)) (List.mem_of_getElem? (i := 12) rfl)
theorem dX5_copy_24 : decode cX5_copy 24 = .ok (.aload 7, 2) := ta_cX5_copy_73 (24, (.aload 7, 2)) (List.mem_of_getElem? (i := 13) rfl)
theorem dX5_copy_26 : decode cX5_copy 26 = .ok (.ifnonnull 5, 3) := ta_cX5_copy_73 (26, (.ifnonnull 5, 3)) (List.mem_of_getElem? (i := 14) rfl)
theorem dX5_copy_29 : decode cX5_copy 29 = .ok (.iconst (-1), 1) := ta_cX5_copy_73 (29, (.iconst (-1), 1)) (List.mem_of_getElem? (i := 15) rfl)
theorem dX5_copy_30 : decode cX5_copy 30 = .ok (.ireturn, 1) := ta_cX5_copy_73 (30, (.ireturn, 1)) (List.mem_of_getElem? (i := 16) rfl)
theorem dX5_copy_31 : decode cX5_copy 31 = .ok (.aload 6, 2) := ta_cX5_copy_73 (31, (.aload 6, 2)) (List.mem_of_getElem? (i := 17) rfl)
theorem dX5_copy_33 : decode cX5_copy 33 = .ok (.getfield 239, 3) := ta_cX5_copy_73 (33, (.getfield 239, 3)) (List.mem_of_getElem? (i := 18) rfl)
theorem dX5_copy_36 : decode cX5_copy 36 = .ok (.ifCond .eq 11, 3) := ta_cX5_copy_73 (36, (.ifCond .eq 11, 3)) (List.mem_of_getElem? (i := 19) rfl)
theorem dX5_copy_39 : decode cX5_copy 39 = .ok (.aload 7, 2) := ta_cX5_copy_73 (39, (.aload 7, 2)) (List.mem_of_getElem? (i := 20) rfl)
theorem dX5_copy_41 : decode cX5_copy 41 = .ok (.getfield 239, 3) := ta_cX5_copy_73 (41, (.getfield 239, 3)) (List.mem_of_getElem? (i := 21) rfl)
theorem dX5_copy_44 : decode cX5_copy 44 = .ok (.ifCond .ne 9, 3) := ta_cX5_copy_73 (44, (.ifCond .ne 9, 3)) (List.mem_of_getElem? (i := 22) rfl)
theorem dX5_copy_47 : decode cX5_copy 47 = .ok (.aload_n 0, 1) := ta_cX5_copy_73 (47, (.aload_n 0, 1)) (List.mem_of_getElem? (i := 23) rfl)
theorem dX5_copy_48 : decode cX5_copy 48 = .ok (.iconst 1, 1) := ta_cX5_copy_73 (48, (.iconst 1, 1)) (List.mem_of_getElem? (i := 24) rfl)
theorem dX5_copy_49 : decode cX5_copy 49 = .ok (.invokevirtual 232, 3) := ta_cX5_copy_73 (49, (.invokevirtual 232, 3)) (List.mem_of_getElem? (i := 25) rfl)
theorem dX5_copy_52 : decode cX5_copy 52 = .ok (.ireturn, 1) := ta_cX5_copy_73 (52, (.ireturn, 1)) (List.mem_of_getElem? (i := 26) rfl)
theorem dX5_copy_53 : decode cX5_copy 53 = .ok (.aload 6, 2) := ta_cX5_copy_73 (53, (.aload 6, 2)) (List.mem_of_getElem? (i := 27) rfl)
theorem dX5_copy_55 : decode cX5_copy 55 = .ok (.getfield 255, 3) := ta_cX5_copy_73 (55, (.getfield 255, 3)) (List.mem_of_getElem? (i := 28) rfl)
theorem dX5_copy_58 : decode cX5_copy 58 = .ok (.aload 7, 2) := ta_cX5_copy_73 (58, (.aload 7, 2)) (List.mem_of_getElem? (i := 29) rfl)
theorem dX5_copy_60 : decode cX5_copy 60 = .ok (.getfield 255, 3) := ta_cX5_copy_73 (60, (.getfield 255, 3)) (List.mem_of_getElem? (i := 30) rfl)
theorem dX5_copy_63 : decode cX5_copy 63 = .ok (.if_icmp .eq 9, 3) := ta_cX5_copy_73 (63, (.if_icmp .eq 9, 3)) (List.mem_of_getElem? (i := 31) rfl)
theorem dX5_copy_66 : decode cX5_copy 66 = .ok (.aload_n 0, 1) := ta_cX5_copy_73 (66, (.aload_n 0, 1)) (List.mem_of_getElem? (i := 32) rfl)
theorem dX5_copy_67 : decode cX5_copy 67 = .ok (.iconst 2, 1) := ta_cX5_copy_73 (67, (.iconst 2, 1)) (List.mem_of_getElem? (i := 33) rfl)
theorem dX5_copy_68 : decode cX5_copy 68 = .ok (.invokevirtual 232, 3) := ta_cX5_copy_73 (68, (.invokevirtual 232, 3)) (List.mem_of_getElem? (i := 34) rfl)
theorem dX5_copy_71 : decode cX5_copy 71 = .ok (.ireturn, 1) := ta_cX5_copy_73 (71, (.ireturn, 1)) (List.mem_of_getElem? (i := 35) rfl)
theorem dX5_copy_72 : decode cX5_copy 72 = .ok (.iload 5, 2) := ta_cX5_copy_73 (72, (.iload 5, 2)) (List.mem_of_getElem? (i := 36) rfl)
theorem dX5_copy_74 : decode cX5_copy 74 = .ok (.ifCond .lt 26, 3) := ta_cX5_copy_73 (74, (.ifCond .lt 26, 3)) (List.mem_of_getElem? (i := 37) rfl)
theorem dX5_copy_77 : decode cX5_copy 77 = .ok (.aload 6, 2) := ta_cX5_copy_73 (77, (.aload 6, 2)) (List.mem_of_getElem? (i := 38) rfl)
theorem dX5_copy_79 : decode cX5_copy 79 = .ok (.iload_n 2, 1) := ta_cX5_copy_73 (79, (.iload_n 2, 1)) (List.mem_of_getElem? (i := 39) rfl)
theorem dX5_copy_80 : decode cX5_copy 80 = .ok (.iload 5, 2) := ta_cX5_copy_73 (80, (.iload 5, 2)) (List.mem_of_getElem? (i := 40) rfl)
theorem dX5_copy_82 : decode cX5_copy 82 = .ok (.invokevirtual 258, 3) := ta_cX5_copy_73 (82, (.invokevirtual 258, 3)) (List.mem_of_getElem? (i := 41) rfl)
theorem dX5_copy_85 : decode cX5_copy 85 = .ok (.ifCond .eq 15, 3) := ta_cX5_copy_73 (85, (.ifCond .eq 15, 3)) (List.mem_of_getElem? (i := 42) rfl)
theorem dX5_copy_88 : decode cX5_copy 88 = .ok (.aload 7, 2) := ta_cX5_copy_73 (88, (.aload 7, 2)) (List.mem_of_getElem? (i := 43) rfl)
theorem dX5_copy_90 : decode cX5_copy 90 = .ok (.iload 4, 2) := ta_cX5_copy_73 (90, (.iload 4, 2)) (List.mem_of_getElem? (i := 44) rfl)
theorem dX5_copy_92 : decode cX5_copy 92 = .ok (.iload 5, 2) := ta_cX5_copy_73 (92, (.iload 5, 2)) (List.mem_of_getElem? (i := 45) rfl)
theorem dX5_copy_94 : decode cX5_copy 94 = .ok (.invokevirtual 258, 3) := ta_cX5_copy_73 (94, (.invokevirtual 258, 3)) (List.mem_of_getElem? (i := 46) rfl)
theorem dX5_copy_97 : decode cX5_copy 97 = .ok (.ifCond .ne 9, 3) := ta_cX5_copy_73 (97, (.ifCond .ne 9, 3)) (List.mem_of_getElem? (i := 47) rfl)
theorem dX5_copy_100 : decode cX5_copy 100 = .ok (.aload_n 0, 1) := ta_cX5_copy_73 (100, (.aload_n 0, 1)) (List.mem_of_getElem? (i := 48) rfl)
theorem dX5_copy_101 : decode cX5_copy 101 = .ok (.iconst 3, 1) := ta_cX5_copy_73 (101, (.iconst 3, 1)) (List.mem_of_getElem? (i := 49) rfl)
def tb_cX5_copy_74 : List (Nat × (Instr × Nat)) := [(102, (.invokevirtual 232, 3)), (105, (.ireturn, 1)), (106, (.aload 6, 2)), (108, (.getfield 262, 3)), (111, (.iload_n 2, 1)), (112, (.aload 7, 2)), (114, (.getfield 262, 3)), (117, (.iload 4, 2)), (119, (.iload 5, 2)), (121, (.invokestatic 265, 3)), (124, (.iload 5, 2)), (126, (.ireturn, 1))]
set_option maxRecDepth 20000 in
theorem ta_cX5_copy_74 : ∀ q ∈ tb_cX5_copy_74, decode cX5_copy q.1 = .ok q.2 := by decide +kernel
theorem dX5_copy_102 : decode cX5_copy 102 = .ok (.invokevirtual 232, 3) := ta_cX5_copy_74 (102, (.invokevirtual 232, 3)) (List.mem_of_getElem? (i := 0) rfl)
theorem dX5_copy_105 : decode cX5_copy 105 = .ok (.ireturn, 1) := ta_cX5_copy_74 (105, (.ireturn, 1)) (List.mem_of_getElem? (i := 1) rfl)
theorem dX5_copy_106 : decode cX5_copy 106 = .ok (.aload 6, 2) := ta_cX5_copy_74 (106, (.aload 6, 2)) (List.mem_of_getElem? (i := 2) rfl)
theorem dX5_copy_108 : decode cX5_copy 108 = .ok (.getfield 262, 3) := ta_cX5_copy_74 (108, (.getfield 262, 3)) (List.mem_of_getElem? (i := 3) rfl)
theorem dX5_copy_111 : decode cX5_copy 111 = .ok (.iload_n 2, 1) := ta_cX5_copy_74 (111, (.iload_n 2, 1)) (List.mem_of_getElem? (i := 4) rfl)
theorem dX5_copy_112 : decode cX5_copy 112 = .ok (.aload 7, 2) := ta_cX5_copy_74 (112, (.aload 7, 2)) (List.mem_of_getElem? (i := 5) rfl)
theorem dX5_copy_114 : decode cX5_copy 114 = .ok (.getfield 262, 3) := ta_cX5_copy_74 (114, (.getfield 262, 3)) (List.mem_of_getElem? (i := 6) rfl)
theorem dX5_copy_117 : decode cX5_copy 117 = .ok (.iload 4, 2) := ta_cX5_copy_74 (117, (.iload 4, 2)) (List.mem_of_getElem? (i := 7) rfl)
theorem dX5_copy_119 : decode cX5_copy 119 = .ok (.iload 5, 2) := ta_cX5_copy_74 (119, (.iload 5, 2)) (List.mem_of_getElem? (i := 8) rfl)
theorem dX5_copy_121 : decode cX5_copy 121 = .ok (.invokestatic 265, 3) := ta_cX5_copy_74 (121, (.invokestatic 265, 3)) (List.mem_of_getElem? (i := 9) rfl)
theorem dX5_copy_124 : decode cX5_copy 124 = .ok (.iload 5, 2) := ta_cX5_copy_74 (124, (.iload 5, 2)) (List.mem_of_getElem? (i := 10) rfl)
theorem dX5_copy_126 : decode cX5_copy 126 = .ok (.ireturn, 1) := ta_cX5_copy_74 (126, (.ireturn, 1)) (List.mem_of_getElem? (i := 11) rfl)
set_option maxRecDepth 20000 in
theorem ggX5_tell_X5_isTouch : GoodIn wsX5_tell wsX5_isTouch := goodIn_r _ [6, 1, 7, 36, 37, 38, 39, 40, 41, 42, 43, 44, 45, 46, 47, 48, 49, 50, 51, 52, 53, 54, 55, 56] rfl (by decide +kernel)
set_option maxRecDepth 20000 in
theorem gX5_tell_X5_isTouch : GoodIn wsX5_tell (wsV RX5 167 RX5 yX5_isTouch wsX5_isTouch) := goodIn_app (goodIn_r _ [2, 3, 4, 5] rfl (by decide +kernel)) ggX5_tell_X5_isTouch
set_option maxRecDepth 20000 in
theorem ggX5_tell_X0_value : GoodIn wsX5_tell wsX0_value := goodIn_r _ [12, 13, 14, 49, 50, 51, 52, 53, 54, 55, 56] rfl (by decide +kernel)
set_option maxRecDepth 20000 in
theorem gX5_tell_X0_value : GoodIn wsX5_tell (wsV RX5 171 RX0 yX0_value wsX0_value) := goodIn_app (goodIn_r _ [8, 9, 10, 11] rfl (by decide +kernel)) ggX5_tell_X0_value
set_option maxRecDepth 20000 in
theorem ggX5_tell_X5_tellClean : GoodIn wsX5_tell wsX5_tellClean := goodIn_r _ [18, 19, 20, 21, 5, 22, 23, 24, 25, 26, 27, 1, 8, 9, 10, 11, 12, 13, 14, 36, 37, 38, 39, 40, 41, 42, 43, 44, 45, 46, 47, 48, 49, 50, 51, 52, 53, 54, 55, 56] rfl (by decide +kernel)
set_option maxRecDepth 20000 in
theorem gX5_tell_X5_tellClean : GoodIn wsX5_tell (wsV RX5 271 RX5 yX5_tellClean wsX5_tellClean) := goodIn_app (goodIn_r _ [15, 16, 17, 5] rfl (by decide +kernel)) ggX5_tell_X5_tellClean
set_option maxRecDepth 20000 in
theorem ggX5_tell_X5_tellSkating : GoodIn wsX5_tell wsX5_tellSkating := goodIn_r _ [31, 19, 20, 21, 5, 22, 23, 15, 16, 17, 18, 24, 25, 26, 27, 1, 8, 9, 10, 11, 12, 13, 14, 36, 37, 38, 39, 40, 41, 42, 43, 44, 45, 46, 47, 48, 49, 50, 51, 52, 53, 54, 55, 56] rfl (by decide +kernel)
set_option maxRecDepth 20000 in
theorem gX5_tell_X5_tellSkating : GoodIn wsX5_tell (wsV RX5 274 RX5 yX5_tellSkating wsX5_tellSkating) := goodIn_app (goodIn_r _ [28, 29, 30, 5] rfl (by decide +kernel)) ggX5_tell_X5_tellSkating
set_option maxRecDepth 20000 in
theorem ggX5_tell_X5_tellSteep : GoodIn wsX5_tell wsX5_tellSteep := goodIn_r _ [35, 19, 20, 21, 5, 22, 23, 15, 16, 17, 18, 24, 25, 26, 27, 1, 8, 9, 10, 11, 12, 13, 14, 36, 37, 38, 39, 40, 41, 42, 43, 44, 45, 46, 47, 48, 49, 50, 51, 52, 53, 54, 55, 56] rfl (by decide +kernel)
set_option maxRecDepth 20000 in
theorem gX5_tell_X5_tellSteep : GoodIn wsX5_tell (wsV RX5 277 RX5 yX5_tellSteep wsX5_tellSteep) := goodIn_app (goodIn_r _ [32, 33, 34, 5] rfl (by decide +kernel)) ggX5_tell_X5_tellSteep
set_option maxRecDepth 20000 in
theorem ggX5_tell_X5_tellSunk : GoodIn wsX5_tell wsX5_tellSunk := goodIn_r _ [27, 1, 19, 20, 21, 5, 22, 23, 8, 9, 10, 11, 12, 13, 14, 36, 37, 38, 39, 40, 41, 42, 43, 44, 45, 46, 47, 48, 49, 50, 51, 52, 53, 54, 55, 56] rfl (by decide +kernel)
set_option maxRecDepth 20000 in
theorem gX5_tell_X5_tellSunk : GoodIn wsX5_tell (wsV RX5 280 RX5 yX5_tellSunk wsX5_tellSunk) := goodIn_app (goodIn_r _ [24, 25, 26, 5] rfl (by decide +kernel)) ggX5_tell_X5_tellSunk
def tb_cX5_tell_75 : List (Nat × (Instr × Nat)) := [(0, (.aload_n 0, 1)), (1, (.iload_n 1, 1)), (2, (.invokevirtual 167, 3)), (5, (.ifCond .ne 5, 3)), (8, (.iconst (-1), 1)), (9, (.ireturn, 1)), (10, (.aload_n 0, 1)), (11, (.getfield 38, 3)), (14, (.iload_n 1, 1)), (15, (.iconst 0, 1)), (16, (.invokevirtual 171, 3)), (19, (.tableswitch 43 1 3 #[25, 31, 37], 25)), (44, (.aload_n 0, 1)), (45, (.iload_n 1, 1)), (46, (.invokevirtual 271, 3)), (49, (.ireturn, 1)), (50, (.aload_n 0, 1)), (51, (.iload_n 1, 1)), (52, (.invokevirtual 274, 3)), (55, (.ireturn, 1)), (56, (.aload_n 0, 1)), (57, (.iload_n 1, 1)), (58, (.invokevirtual 277, 3)), (61, (.ireturn, 1)), (62, (.aload_n 0, 1)), (63, (.iload_n 1, 1)), (64, (.invokevirtual 280, 3)), (67, (.ireturn, 1))]
set_option maxRecDepth 20000 in
theorem ta_cX5_tell_75 : ∀ q ∈ tb_cX5_tell_75, decode cX5_tell q.1 = .ok q.2 := by decide +kernel
theorem dX5_tell_0 : decode cX5_tell 0 = .ok (.aload_n 0, 1) := ta_cX5_tell_75 (0, (.aload_n 0, 1)) (List.mem_of_getElem? (i := 0) rfl)
theorem dX5_tell_1 : decode cX5_tell 1 = .ok (.iload_n 1, 1) := ta_cX5_tell_75 (1, (.iload_n 1, 1)) (List.mem_of_getElem? (i := 1) rfl)
theorem dX5_tell_2 : decode cX5_tell 2 = .ok (.invokevirtual 167, 3) := ta_cX5_tell_75 (2, (.invokevirtual 167, 3)) (List.mem_of_getElem? (i := 2) rfl)
theorem dX5_tell_5 : decode cX5_tell 5 = .ok (.ifCond .ne 5, 3) := ta_cX5_tell_75 (5, (.ifCond .ne 5, 3)) (List.mem_of_getElem? (i := 3) rfl)
theorem dX5_tell_8 : decode cX5_tell 8 = .ok (.iconst (-1), 1) := ta_cX5_tell_75 (8, (.iconst (-1), 1)) (List.mem_of_getElem? (i := 4) rfl)
theorem dX5_tell_9 : decode cX5_tell 9 = .ok (.ireturn, 1) := ta_cX5_tell_75 (9, (.ireturn, 1)) (List.mem_of_getElem? (i := 5) rfl)
theorem dX5_tell_10 : decode cX5_tell 10 = .ok (.aload_n 0, 1) := ta_cX5_tell_75 (10, (.aload_n 0, 1)) (List.mem_of_getElem? (i := 6) rfl)
theorem dX5_tell_11 : decode cX5_tell 11 = .ok (.getfield 38, 3) := ta_cX5_tell_75 (11, (.getfield 38, 3)) (List.mem_of_getElem? (i := 7) rfl)
theorem dX5_tell_14 : decode cX5_tell 14 = .ok (.iload_n 1, 1) := ta_cX5_tell_75 (14, (.iload_n 1, 1)) (List.mem_of_getElem? (i := 8) rfl)
theorem dX5_tell_15 : decode cX5_tell 15 = .ok (.iconst 0, 1) := ta_cX5_tell_75 (15, (.iconst 0, 1)) (List.mem_of_getElem? (i := 9) rfl)
theorem dX5_tell_16 : decode cX5_tell 16 = .ok (.invokevirtual 171, 3) := ta_cX5_tell_75 (16, (.invokevirtual 171, 3)) (List.mem_of_getElem? (i := 10) rfl)
theorem dX5_tell_19 : decode cX5_tell 19 = .ok (.tableswitch 43 1 3 #[25, 31, 37], 25) := ta_cX5_tell_75 (19, (.tableswitch 43 1 3 #[25, 31, 37], 25)) (List.mem_of_getElem? (i := 11) rfl)
theorem dX5_tell_44 : decode cX5_tell 44 = .ok (.aload_n 0, 1) := ta_cX5_tell_75 (44, (.aload_n 0, 1)) (List.mem_of_getElem? (i := 12) rfl)
theorem dX5_tell_45 : decode cX5_tell 45 = .ok (.iload_n 1, 1) := ta_cX5_tell_75 (45, (.iload_n 1, 1)) (List.mem_of_getElem? (i := 13) rfl)
theorem dX5_tell_46 : decode cX5_tell 46 = .ok (.invokevirtual 271, 3) := ta_cX5_tell_75 (46, (.invokevirtual 271, 3)) (List.mem_of_getElem? (i := 14) rfl)
theorem dX5_tell_49 : decode cX5_tell 49 = .ok (.ireturn, 1) := ta_cX5_tell_75 (49, (.ireturn, 1)) (List.mem_of_getElem? (i := 15) rfl)
theorem dX5_tell_50 : decode cX5_tell 50 = .ok (.aload_n 0, 1) := ta_cX5_tell_75 (50, (.aload_n 0, 1)) (List.mem_of_getElem? (i := 16) rfl)
theorem dX5_tell_51 : decode cX5_tell 51 = .ok (.iload_n 1, 1) := ta_cX5_tell_75 (51, (.iload_n 1, 1)) (List.mem_of_getElem? (i := 17) rfl)
theorem dX5_tell_52 : decode cX5_tell 52 = .ok (.invokevirtual 274, 3) := ta_cX5_tell_75 (52, (.invokevirtual 274, 3)) (List.mem_of_getElem? (i := 18) rfl)
theorem dX5_tell_55 : decode cX5_tell 55 = .ok (.ireturn, 1) := ta_cX5_tell_75 (55, (.ireturn, 1)) (List.mem_of_getElem? (i := 19) rfl)
theorem dX5_tell_56 : decode cX5_tell 56 = .ok (.aload_n 0, 1) := ta_cX5_tell_75 (56, (.aload_n 0, 1)) (List.mem_of_getElem? (i := 20) rfl)
theorem dX5_tell_57 : decode cX5_tell 57 = .ok (.iload_n 1, 1) := ta_cX5_tell_75 (57, (.iload_n 1, 1)) (List.mem_of_getElem? (i := 21) rfl)
theorem dX5_tell_58 : decode cX5_tell 58 = .ok (.invokevirtual 277, 3) := ta_cX5_tell_75 (58, (.invokevirtual 277, 3)) (List.mem_of_getElem? (i := 22) rfl)
theorem dX5_tell_61 : decode cX5_tell 61 = .ok (.ireturn, 1) := ta_cX5_tell_75 (61, (.ireturn, 1)) (List.mem_of_getElem? (i := 23) rfl)
theorem dX5_tell_62 : decode cX5_tell 62 = .ok (.aload_n 0, 1) := ta_cX5_tell_75 (62, (.aload_n 0, 1)) (List.mem_of_getElem? (i := 24) rfl)
theorem dX5_tell_63 : decode cX5_tell 63 = .ok (.iload_n 1, 1) := ta_cX5_tell_75 (63, (.iload_n 1, 1)) (List.mem_of_getElem? (i := 25) rfl)
theorem dX5_tell_64 : decode cX5_tell 64 = .ok (.invokevirtual 280, 3) := ta_cX5_tell_75 (64, (.invokevirtual 280, 3)) (List.mem_of_getElem? (i := 26) rfl)
theorem dX5_tell_67 : decode cX5_tell 67 = .ok (.ireturn, 1) := ta_cX5_tell_75 (67, (.ireturn, 1)) (List.mem_of_getElem? (i := 27) rfl)
set_option maxRecDepth 20000 in
theorem ggX5_hear_X5_isTouch : GoodIn wsX5_hear wsX5_isTouch := goodIn_r _ [6, 1, 7, 20, 21, 22, 23, 24, 25, 26, 27, 28, 29, 30, 31, 32, 33, 34, 35, 36, 37, 38, 39, 40] rfl (by decide +kernel)
set_option maxRecDepth 20000 in
theorem gX5_hear_X5_isTouch : GoodIn wsX5_hear (wsV RX5 167 RX5 yX5_isTouch wsX5_isTouch) := goodIn_app (goodIn_r _ [2, 3, 4, 5] rfl (by decide +kernel)) ggX5_hear_X5_isTouch
set_option maxRecDepth 20000 in
theorem ggX5_hear_X0_value : GoodIn wsX5_hear wsX0_value := goodIn_r _ [12, 13, 14, 33, 34, 35, 36, 37, 38, 39, 40] rfl (by decide +kernel)
set_option maxRecDepth 20000 in
theorem gX5_hear_X0_value : GoodIn wsX5_hear (wsV RX5 171 RX0 yX0_value wsX0_value) := goodIn_app (goodIn_r _ [8, 9, 10, 11] rfl (by decide +kernel)) ggX5_hear_X0_value
set_option maxRecDepth 20000 in
theorem ggX5_hear_X5_leave : GoodIn wsX5_hear wsX5_leave := goodIn_r _ [18, 19, 20, 21, 22, 23, 24, 25, 26, 27, 28, 29, 30, 31, 32] rfl (by decide +kernel)
set_option maxRecDepth 20000 in
theorem gX5_hear_X5_leave : GoodIn wsX5_hear (wsV RX5 283 RX5 yX5_leave wsX5_leave) := goodIn_app (goodIn_r _ [15, 16, 17, 5] rfl (by decide +kernel)) ggX5_hear_X5_leave
def tb_cX5_hear_76 : List (Nat × (Instr × Nat)) := [(0, (.aload_n 0, 1)), (1, (.iload_n 1, 1)), (2, (.invokevirtual 167, 3)), (5, (.ifCond .ne 5, 3)), (8, (.iconst (-1), 1)), (9, (.ireturn, 1)), (10, (.aload_n 0, 1)), (11, (.getfield 38, 3)), (14, (.iload_n 1, 1)), (15, (.iconst 0, 1)), (16, (.invokevirtual 171, 3)), (19, (.iconst 2, 1)), (20, (.if_icmp .ne 11, 3)), (23, (.aload_n 0, 1)), (24, (.iconst 5, 1)), (25, (.invokevirtual 283, 3)), (28, (.bipush 60, 2)), (30, (.ireturn, 1)), (31, (.aload_n 0, 1)), (32, (.iconst 4, 1)), (33, (.invokevirtual 283, 3)), (36, (.iload_n 1, 1)), (37, (.ireturn, 1))]
set_option maxRecDepth 20000 in
theorem ta_cX5_hear_76 : ∀ q ∈ tb_cX5_hear_76, decode cX5_hear q.1 = .ok q.2 := by decide +kernel
theorem dX5_hear_0 : decode cX5_hear 0 = .ok (.aload_n 0, 1) := ta_cX5_hear_76 (0, (.aload_n 0, 1)) (List.mem_of_getElem? (i := 0) rfl)
theorem dX5_hear_1 : decode cX5_hear 1 = .ok (.iload_n 1, 1) := ta_cX5_hear_76 (1, (.iload_n 1, 1)) (List.mem_of_getElem? (i := 1) rfl)
theorem dX5_hear_2 : decode cX5_hear 2 = .ok (.invokevirtual 167, 3) := ta_cX5_hear_76 (2, (.invokevirtual 167, 3)) (List.mem_of_getElem? (i := 2) rfl)
theorem dX5_hear_5 : decode cX5_hear 5 = .ok (.ifCond .ne 5, 3) := ta_cX5_hear_76 (5, (.ifCond .ne 5, 3)) (List.mem_of_getElem? (i := 3) rfl)
theorem dX5_hear_8 : decode cX5_hear 8 = .ok (.iconst (-1), 1) := ta_cX5_hear_76 (8, (.iconst (-1), 1)) (List.mem_of_getElem? (i := 4) rfl)
theorem dX5_hear_9 : decode cX5_hear 9 = .ok (.ireturn, 1) := ta_cX5_hear_76 (9, (.ireturn, 1)) (List.mem_of_getElem? (i := 5) rfl)
theorem dX5_hear_10 : decode cX5_hear 10 = .ok (.aload_n 0, 1) := ta_cX5_hear_76 (10, (.aload_n 0, 1)) (List.mem_of_getElem? (i := 6) rfl)
theorem dX5_hear_11 : decode cX5_hear 11 = .ok (.getfield 38, 3) := ta_cX5_hear_76 (11, (.getfield 38, 3)) (List.mem_of_getElem? (i := 7) rfl)
theorem dX5_hear_14 : decode cX5_hear 14 = .ok (.iload_n 1, 1) := ta_cX5_hear_76 (14, (.iload_n 1, 1)) (List.mem_of_getElem? (i := 8) rfl)
theorem dX5_hear_15 : decode cX5_hear 15 = .ok (.iconst 0, 1) := ta_cX5_hear_76 (15, (.iconst 0, 1)) (List.mem_of_getElem? (i := 9) rfl)
theorem dX5_hear_16 : decode cX5_hear 16 = .ok (.invokevirtual 171, 3) := ta_cX5_hear_76 (16, (.invokevirtual 171, 3)) (List.mem_of_getElem? (i := 10) rfl)
theorem dX5_hear_19 : decode cX5_hear 19 = .ok (.iconst 2, 1) := ta_cX5_hear_76 (19, (.iconst 2, 1)) (List.mem_of_getElem? (i := 11) rfl)
theorem dX5_hear_20 : decode cX5_hear 20 = .ok (.if_icmp .ne 11, 3) := ta_cX5_hear_76 (20, (.if_icmp .ne 11, 3)) (List.mem_of_getElem? (i := 12) rfl)
theorem dX5_hear_23 : decode cX5_hear 23 = .ok (.aload_n 0, 1) := ta_cX5_hear_76 (23, (.aload_n 0, 1)) (List.mem_of_getElem? (i := 13) rfl)
theorem dX5_hear_24 : decode cX5_hear 24 = .ok (.iconst 5, 1) := ta_cX5_hear_76 (24, (.iconst 5, 1)) (List.mem_of_getElem? (i := 14) rfl)
theorem dX5_hear_25 : decode cX5_hear 25 = .ok (.invokevirtual 283, 3) := ta_cX5_hear_76 (25, (.invokevirtual 283, 3)) (List.mem_of_getElem? (i := 15) rfl)
theorem dX5_hear_28 : decode cX5_hear 28 = .ok (.bipush 60, 2) := ta_cX5_hear_76 (28, (.bipush 60, 2)) (List.mem_of_getElem? (i := 16) rfl)
theorem dX5_hear_30 : decode cX5_hear 30 = .ok (.ireturn, 1) := ta_cX5_hear_76 (30, (.ireturn, 1)) (List.mem_of_getElem? (i := 17) rfl)
theorem dX5_hear_31 : decode cX5_hear 31 = .ok (.aload_n 0, 1) := ta_cX5_hear_76 (31, (.aload_n 0, 1)) (List.mem_of_getElem? (i := 18) rfl)
theorem dX5_hear_32 : decode cX5_hear 32 = .ok (.iconst 4, 1) := ta_cX5_hear_76 (32, (.iconst 4, 1)) (List.mem_of_getElem? (i := 19) rfl)
theorem dX5_hear_33 : decode cX5_hear 33 = .ok (.invokevirtual 283, 3) := ta_cX5_hear_76 (33, (.invokevirtual 283, 3)) (List.mem_of_getElem? (i := 20) rfl)
theorem dX5_hear_36 : decode cX5_hear 36 = .ok (.iload_n 1, 1) := ta_cX5_hear_76 (36, (.iload_n 1, 1)) (List.mem_of_getElem? (i := 21) rfl)
theorem dX5_hear_37 : decode cX5_hear 37 = .ok (.ireturn, 1) := ta_cX5_hear_76 (37, (.ireturn, 1)) (List.mem_of_getElem? (i := 22) rfl)
set_option maxRecDepth 20000 in
theorem ggX5_as_X5_isTouch : GoodIn wsX5_as wsX5_isTouch := goodIn_r _ [7, 2, 8, 23, 24, 25, 26, 27, 28, 29, 30, 31, 32, 33, 34, 35, 36, 37, 38, 39, 40, 41, 42, 43] rfl (by decide +kernel)
set_option maxRecDepth 20000 in
theorem gX5_as_X5_isTouch : GoodIn wsX5_as (wsV RX5 167 RX5 yX5_isTouch wsX5_isTouch) := goodIn_app (goodIn_r _ [3, 4, 5, 6] rfl (by decide +kernel)) ggX5_as_X5_isTouch
set_option maxRecDepth 20000 in
theorem ggX5_as_X5_within : GoodIn wsX5_as wsX5_within := goodIn_r _ [11] rfl (by decide +kernel)
set_option maxRecDepth 20000 in
theorem gX5_as_X5_within : GoodIn wsX5_as (va_wsS RX5 75 yX5_within wsX5_within) := goodIn_app (goodIn_r _ [9, 10, 6] rfl (by decide +kernel)) ggX5_as_X5_within
set_option maxRecDepth 20000 in
theorem ggX5_as_X0_value : GoodIn wsX5_as wsX0_value := goodIn_r _ [16, 17, 18, 36, 37, 38, 39, 40, 41, 42, 43] rfl (by decide +kernel)
set_option maxRecDepth 20000 in
theorem gX5_as_X0_value : GoodIn wsX5_as (wsV RX5 171 RX0 yX0_value wsX0_value) := goodIn_app (goodIn_r _ [12, 13, 14, 15] rfl (by decide +kernel)) ggX5_as_X0_value
set_option maxRecDepth 20000 in
theorem ggX5_as_X5_faulted : GoodIn wsX5_as wsX5_faulted := goodIn_r _ [22, 1, 23, 24, 25, 26, 27, 28, 29, 30, 31, 32, 33, 34, 35] rfl (by decide +kernel)
set_option maxRecDepth 20000 in
theorem gX5_as_X5_faulted : GoodIn wsX5_as (wsV RX5 232 RX5 yX5_faulted wsX5_faulted) := goodIn_app (goodIn_r _ [19, 20, 21, 6] rfl (by decide +kernel)) ggX5_as_X5_faulted
def tb_cX5_as_77 : List (Nat × (Instr × Nat)) := [(0, (.aload_n 0, 1)), (1, (.iconst 0, 1)), (2, (.putfield 67, 3)), (5, (.aload_n 0, 1)), (6, (.iload_n 1, 1)), (7, (.invokevirtual 167, 3)), (10, (.ifCond .ne 5, 3)), (13, (.iconst (-1), 1)), (14, (.ireturn, 1)), (15, (.iload_n 2, 1)), (16, (.iconst 0, 1)), (17, (.iconst 3, 1)), (18, (.invokestatic 75, 3)), (21, (.ifCond .ne 6, 3)), (24, (.bipush (-2), 2)), (26, (.ireturn, 1)), (27, (.aload_n 0, 1)), (28, (.getfield 38, 3)), (31, (.iload_n 1, 1)), (32, (.iconst 0, 1)), (33, (.invokevirtual 171, 3)), (36, (.istore_n 3, 1)), (37, (.iload_n 2, 1)), (38, (.ifCond .eq 17, 3)), (41, (.iload_n 2, 1)), (42, (.iload_n 3, 1)), (43, (.if_icmp .eq 12, 3)), (46, (.iload_n 2, 1)), (47, (.iconst 1, 1)), (48, (.if_icmp .ne 11, 3)), (51, (.iload_n 3, 1)), (52, (.ifCond .eq 7, 3)), (55, (.iconst 1, 1)), (56, (.goto 4, 3)), (59, (.iconst 0, 1)), (60, (.istore 4, 2)), (62, (.iload 4, 2)), (64, (.ifCond .eq 7, 3)), (67, (.iconst 1, 1)), (68, (.goto 8, 3)), (71, (.aload_n 0, 1)), (72, (.iconst 2, 1)), (73, (.invokevirtual 232, 3)), (76, (.ireturn, 1))]
set_option maxRecDepth 20000 in
theorem ta_cX5_as_77 : ∀ q ∈ tb_cX5_as_77, decode cX5_as q.1 = .ok q.2 := by decide +kernel
theorem dX5_as_0 : decode cX5_as 0 = .ok (.aload_n 0, 1) := ta_cX5_as_77 (0, (.aload_n 0, 1)) (List.mem_of_getElem? (i := 0) rfl)
theorem dX5_as_1 : decode cX5_as 1 = .ok (.iconst 0, 1) := ta_cX5_as_77 (1, (.iconst 0, 1)) (List.mem_of_getElem? (i := 1) rfl)
theorem dX5_as_2 : decode cX5_as 2 = .ok (.putfield 67, 3) := ta_cX5_as_77 (2, (.putfield 67, 3)) (List.mem_of_getElem? (i := 2) rfl)
theorem dX5_as_5 : decode cX5_as 5 = .ok (.aload_n 0, 1) := ta_cX5_as_77 (5, (.aload_n 0, 1)) (List.mem_of_getElem? (i := 3) rfl)
theorem dX5_as_6 : decode cX5_as 6 = .ok (.iload_n 1, 1) := ta_cX5_as_77 (6, (.iload_n 1, 1)) (List.mem_of_getElem? (i := 4) rfl)
theorem dX5_as_7 : decode cX5_as 7 = .ok (.invokevirtual 167, 3) := ta_cX5_as_77 (7, (.invokevirtual 167, 3)) (List.mem_of_getElem? (i := 5) rfl)
theorem dX5_as_10 : decode cX5_as 10 = .ok (.ifCond .ne 5, 3) := ta_cX5_as_77 (10, (.ifCond .ne 5, 3)) (List.mem_of_getElem? (i := 6) rfl)
theorem dX5_as_13 : decode cX5_as 13 = .ok (.iconst (-1), 1) := ta_cX5_as_77 (13, (.iconst (-1), 1)) (List.mem_of_getElem? (i := 7) rfl)
theorem dX5_as_14 : decode cX5_as 14 = .ok (.ireturn, 1) := ta_cX5_as_77 (14, (.ireturn, 1)) (List.mem_of_getElem? (i := 8) rfl)
theorem dX5_as_15 : decode cX5_as 15 = .ok (.iload_n 2, 1) := ta_cX5_as_77 (15, (.iload_n 2, 1)) (List.mem_of_getElem? (i := 9) rfl)
theorem dX5_as_16 : decode cX5_as 16 = .ok (.iconst 0, 1) := ta_cX5_as_77 (16, (.iconst 0, 1)) (List.mem_of_getElem? (i := 10) rfl)
theorem dX5_as_17 : decode cX5_as 17 = .ok (.iconst 3, 1) := ta_cX5_as_77 (17, (.iconst 3, 1)) (List.mem_of_getElem? (i := 11) rfl)
theorem dX5_as_18 : decode cX5_as 18 = .ok (.invokestatic 75, 3) := ta_cX5_as_77 (18, (.invokestatic 75, 3)) (List.mem_of_getElem? (i := 12) rfl)
theorem dX5_as_21 : decode cX5_as 21 = .ok (.ifCond .ne 6, 3) := ta_cX5_as_77 (21, (.ifCond .ne 6, 3)) (List.mem_of_getElem? (i := 13) rfl)
theorem dX5_as_24 : decode cX5_as 24 = .ok (.bipush (-2), 2) := ta_cX5_as_77 (24, (.bipush (-2), 2)) (List.mem_of_getElem? (i := 14) rfl)
theorem dX5_as_26 : decode cX5_as 26 = .ok (.ireturn, 1) := ta_cX5_as_77 (26, (.ireturn, 1)) (List.mem_of_getElem? (i := 15) rfl)
theorem dX5_as_27 : decode cX5_as 27 = .ok (.aload_n 0, 1) := ta_cX5_as_77 (27, (.aload_n 0, 1)) (List.mem_of_getElem? (i := 16) rfl)
theorem dX5_as_28 : decode cX5_as 28 = .ok (.getfield 38, 3) := ta_cX5_as_77 (28, (.getfield 38, 3)) (List.mem_of_getElem? (i := 17) rfl)
theorem dX5_as_31 : decode cX5_as 31 = .ok (.iload_n 1, 1) := ta_cX5_as_77 (31, (.iload_n 1, 1)) (List.mem_of_getElem? (i := 18) rfl)
theorem dX5_as_32 : decode cX5_as 32 = .ok (.iconst 0, 1) := ta_cX5_as_77 (32, (.iconst 0, 1)) (List.mem_of_getElem? (i := 19) rfl)
theorem dX5_as_33 : decode cX5_as 33 = .ok (.invokevirtual 171, 3) := ta_cX5_as_77 (33, (.invokevirtual 171, 3)) (List.mem_of_getElem? (i := 20) rfl)
theorem dX5_as_36 : decode cX5_as 36 = .ok (.istore_n 3, 1) := ta_cX5_as_77 (36, (.istore_n 3, 1)) (List.mem_of_getElem? (i := 21) rfl)
theorem dX5_as_37 : decode cX5_as 37 = .ok (.iload_n 2, 1) := ta_cX5_as_77 (37, (.iload_n 2, 1)) (List.mem_of_getElem? (i := 22) rfl)
theorem dX5_as_38 : decode cX5_as 38 = .ok (.ifCond .eq 17, 3) := ta_cX5_as_77 (38, (.ifCond .eq 17, 3)) (List.mem_of_getElem? (i := 23) rfl)
theorem dX5_as_41 : decode cX5_as 41 = .ok (.iload_n 2, 1) := ta_cX5_as_77 (41, (.iload_n 2, 1)) (List.mem_of_getElem? (i := 24) rfl)
theorem dX5_as_42 : decode cX5_as 42 = .ok (.iload_n 3, 1) := ta_cX5_as_77 (42, (.iload_n 3, 1)) (List.mem_of_getElem? (i := 25) rfl)
theorem dX5_as_43 : decode cX5_as 43 = .ok (.if_icmp .eq 12, 3) := ta_cX5_as_77 (43, (.if_icmp .eq 12, 3)) (List.mem_of_getElem? (i := 26) rfl)
theorem dX5_as_46 : decode cX5_as 46 = .ok (.iload_n 2, 1) := ta_cX5_as_77 (46, (.iload_n 2, 1)) (List.mem_of_getElem? (i := 27) rfl)
theorem dX5_as_47 : decode cX5_as 47 = .ok (.iconst 1, 1) := ta_cX5_as_77 (47, (.iconst 1, 1)) (List.mem_of_getElem? (i := 28) rfl)
theorem dX5_as_48 : decode cX5_as 48 = .ok (.if_icmp .ne 11, 3) := ta_cX5_as_77 (48, (.if_icmp .ne 11, 3)) (List.mem_of_getElem? (i := 29) rfl)
theorem dX5_as_51 : decode cX5_as 51 = .ok (.iload_n 3, 1) := ta_cX5_as_77 (51, (.iload_n 3, 1)) (List.mem_of_getElem? (i := 30) rfl)
theorem dX5_as_52 : decode cX5_as 52 = .ok (.ifCond .eq 7, 3) := ta_cX5_as_77 (52, (.ifCond .eq 7, 3)) (List.mem_of_getElem? (i := 31) rfl)
theorem dX5_as_55 : decode cX5_as 55 = .ok (.iconst 1, 1) := ta_cX5_as_77 (55, (.iconst 1, 1)) (List.mem_of_getElem? (i := 32) rfl)
theorem dX5_as_56 : decode cX5_as 56 = .ok (.goto 4, 3) := ta_cX5_as_77 (56, (.goto 4, 3)) (List.mem_of_getElem? (i := 33) rfl)
theorem dX5_as_59 : decode cX5_as 59 = .ok (.iconst 0, 1) := ta_cX5_as_77 (59, (.iconst 0, 1)) (List.mem_of_getElem? (i := 34) rfl)
theorem dX5_as_60 : decode cX5_as 60 = .ok (.istore 4, 2) := ta_cX5_as_77 (60, (.istore 4, 2)) (List.mem_of_getElem? (i := 35) rfl)
theorem dX5_as_62 : decode cX5_as 62 = .ok (.iload 4, 2) := ta_cX5_as_77 (62, (.iload 4, 2)) (List.mem_of_getElem? (i := 36) rfl)
theorem dX5_as_64 : decode cX5_as 64 = .ok (.ifCond .eq 7, 3) := ta_cX5_as_77 (64, (.ifCond .eq 7, 3)) (List.mem_of_getElem? (i := 37) rfl)
theorem dX5_as_67 : decode cX5_as 67 = .ok (.iconst 1, 1) := ta_cX5_as_77 (67, (.iconst 1, 1)) (List.mem_of_getElem? (i := 38) rfl)
theorem dX5_as_68 : decode cX5_as 68 = .ok (.goto 8, 3) := ta_cX5_as_77 (68, (.goto 8, 3)) (List.mem_of_getElem? (i := 39) rfl)
theorem dX5_as_71 : decode cX5_as 71 = .ok (.aload_n 0, 1) := ta_cX5_as_77 (71, (.aload_n 0, 1)) (List.mem_of_getElem? (i := 40) rfl)
theorem dX5_as_72 : decode cX5_as 72 = .ok (.iconst 2, 1) := ta_cX5_as_77 (72, (.iconst 2, 1)) (List.mem_of_getElem? (i := 41) rfl)
theorem dX5_as_73 : decode cX5_as 73 = .ok (.invokevirtual 232, 3) := ta_cX5_as_77 (73, (.invokevirtual 232, 3)) (List.mem_of_getElem? (i := 42) rfl)
theorem dX5_as_76 : decode cX5_as 76 = .ok (.ireturn, 1) := ta_cX5_as_77 (76, (.ireturn, 1)) (List.mem_of_getElem? (i := 43) rfl)
def tb_cX5_trace_78 : List (Nat × (Instr × Nat)) := [(0, (.aload_n 0, 1)), (1, (.getfield 64, 3)), (4, (.ireturn, 1))]
set_option maxRecDepth 20000 in
theorem ta_cX5_trace_78 : ∀ q ∈ tb_cX5_trace_78, decode cX5_trace q.1 = .ok q.2 := by decide +kernel
theorem dX5_trace_0 : decode cX5_trace 0 = .ok (.aload_n 0, 1) := ta_cX5_trace_78 (0, (.aload_n 0, 1)) (List.mem_of_getElem? (i := 0) rfl)
theorem dX5_trace_1 : decode cX5_trace 1 = .ok (.getfield 64, 3) := ta_cX5_trace_78 (1, (.getfield 64, 3)) (List.mem_of_getElem? (i := 1) rfl)
theorem dX5_trace_4 : decode cX5_trace 4 = .ok (.ireturn, 1) := ta_cX5_trace_78 (4, (.ireturn, 1)) (List.mem_of_getElem? (i := 2) rfl)
def tb_cX5_fault_79 : List (Nat × (Instr × Nat)) := [(0, (.aload_n 0, 1)), (1, (.getfield 67, 3)), (4, (.ireturn, 1))]
set_option maxRecDepth 20000 in
theorem ta_cX5_fault_79 : ∀ q ∈ tb_cX5_fault_79, decode cX5_fault q.1 = .ok q.2 := by decide +kernel
theorem dX5_fault_0 : decode cX5_fault 0 = .ok (.aload_n 0, 1) := ta_cX5_fault_79 (0, (.aload_n 0, 1)) (List.mem_of_getElem? (i := 0) rfl)
theorem dX5_fault_1 : decode cX5_fault 1 = .ok (.getfield 67, 3) := ta_cX5_fault_79 (1, (.getfield 67, 3)) (List.mem_of_getElem? (i := 1) rfl)
theorem dX5_fault_4 : decode cX5_fault 4 = .ok (.ireturn, 1) := ta_cX5_fault_79 (4, (.ireturn, 1)) (List.mem_of_getElem? (i := 2) rfl)
def tb_cX5_many_80 : List (Nat × (Instr × Nat)) := [(0, (.iload_n 1, 1)), (1, (.tableswitch 57 0 3 #[31, 36, 44, 52], 31)), (32, (.aload_n 0, 1)), (33, (.getfield 17, 3)), (36, (.ireturn, 1)), (37, (.aload_n 0, 1)), (38, (.getfield 38, 3)), (41, (.getfield 164, 3)), (44, (.ireturn, 1)), (45, (.aload_n 0, 1)), (46, (.getfield 24, 3)), (49, (.getfield 145, 3)), (52, (.ireturn, 1)), (53, (.aload_n 0, 1)), (54, (.getfield 55, 3)), (57, (.ireturn, 1)), (58, (.bipush (-2), 2)), (60, (.ireturn, 1))]
set_option maxRecDepth 20000 in
theorem ta_cX5_many_80 : ∀ q ∈ tb_cX5_many_80, decode cX5_many q.1 = .ok q.2 := by decide +kernel
theorem dX5_many_0 : decode cX5_many 0 = .ok (.iload_n 1, 1) := ta_cX5_many_80 (0, (.iload_n 1, 1)) (List.mem_of_getElem? (i := 0) rfl)
theorem dX5_many_1 : decode cX5_many 1 = .ok (.tableswitch 57 0 3 #[31, 36, 44, 52], 31) := ta_cX5_many_80 (1, (.tableswitch 57 0 3 #[31, 36, 44, 52], 31)) (List.mem_of_getElem? (i := 1) rfl)
theorem dX5_many_32 : decode cX5_many 32 = .ok (.aload_n 0, 1) := ta_cX5_many_80 (32, (.aload_n 0, 1)) (List.mem_of_getElem? (i := 2) rfl)
theorem dX5_many_33 : decode cX5_many 33 = .ok (.getfield 17, 3) := ta_cX5_many_80 (33, (.getfield 17, 3)) (List.mem_of_getElem? (i := 3) rfl)
theorem dX5_many_36 : decode cX5_many 36 = .ok (.ireturn, 1) := ta_cX5_many_80 (36, (.ireturn, 1)) (List.mem_of_getElem? (i := 4) rfl)
theorem dX5_many_37 : decode cX5_many 37 = .ok (.aload_n 0, 1) := ta_cX5_many_80 (37, (.aload_n 0, 1)) (List.mem_of_getElem? (i := 5) rfl)
theorem dX5_many_38 : decode cX5_many 38 = .ok (.getfield 38, 3) := ta_cX5_many_80 (38, (.getfield 38, 3)) (List.mem_of_getElem? (i := 6) rfl)
theorem dX5_many_41 : decode cX5_many 41 = .ok (.getfield 164, 3) := ta_cX5_many_80 (41, (.getfield 164, 3)) (List.mem_of_getElem? (i := 7) rfl)
theorem dX5_many_44 : decode cX5_many 44 = .ok (.ireturn, 1) := ta_cX5_many_80 (44, (.ireturn, 1)) (List.mem_of_getElem? (i := 8) rfl)
theorem dX5_many_45 : decode cX5_many 45 = .ok (.aload_n 0, 1) := ta_cX5_many_80 (45, (.aload_n 0, 1)) (List.mem_of_getElem? (i := 9) rfl)
theorem dX5_many_46 : decode cX5_many 46 = .ok (.getfield 24, 3) := ta_cX5_many_80 (46, (.getfield 24, 3)) (List.mem_of_getElem? (i := 10) rfl)
theorem dX5_many_49 : decode cX5_many 49 = .ok (.getfield 145, 3) := ta_cX5_many_80 (49, (.getfield 145, 3)) (List.mem_of_getElem? (i := 11) rfl)
theorem dX5_many_52 : decode cX5_many 52 = .ok (.ireturn, 1) := ta_cX5_many_80 (52, (.ireturn, 1)) (List.mem_of_getElem? (i := 12) rfl)
theorem dX5_many_53 : decode cX5_many 53 = .ok (.aload_n 0, 1) := ta_cX5_many_80 (53, (.aload_n 0, 1)) (List.mem_of_getElem? (i := 13) rfl)
theorem dX5_many_54 : decode cX5_many 54 = .ok (.getfield 55, 3) := ta_cX5_many_80 (54, (.getfield 55, 3)) (List.mem_of_getElem? (i := 14) rfl)
theorem dX5_many_57 : decode cX5_many 57 = .ok (.ireturn, 1) := ta_cX5_many_80 (57, (.ireturn, 1)) (List.mem_of_getElem? (i := 15) rfl)
theorem dX5_many_58 : decode cX5_many 58 = .ok (.bipush (-2), 2) := ta_cX5_many_80 (58, (.bipush (-2), 2)) (List.mem_of_getElem? (i := 16) rfl)
theorem dX5_many_60 : decode cX5_many 60 = .ok (.ireturn, 1) := ta_cX5_many_80 (60, (.ireturn, 1)) (List.mem_of_getElem? (i := 17) rfl)
def tb_cX5_within_81 : List (Nat × (Instr × Nat)) := [(0, (.iload_n 0, 1)), (1, (.iload_n 1, 1)), (2, (.if_icmp .lt 12, 3)), (5, (.iload_n 0, 1)), (6, (.iload_n 2, 1)), (7, (.if_icmp .gt 7, 3)), (10, (.iconst 1, 1)), (11, (.goto 4, 3)), (14, (.iconst 0, 1)), (15, (.ireturn, 1))]
set_option maxRecDepth 20000 in
theorem ta_cX5_within_81 : ∀ q ∈ tb_cX5_within_81, decode cX5_within q.1 = .ok q.2 := by decide +kernel
theorem dX5_within_0 : decode cX5_within 0 = .ok (.iload_n 0, 1) := ta_cX5_within_81 (0, (.iload_n 0, 1)) (List.mem_of_getElem? (i := 0) rfl)
theorem dX5_within_1 : decode cX5_within 1 = .ok (.iload_n 1, 1) := ta_cX5_within_81 (1, (.iload_n 1, 1)) (List.mem_of_getElem? (i := 1) rfl)
theorem dX5_within_2 : decode cX5_within 2 = .ok (.if_icmp .lt 12, 3) := ta_cX5_within_81 (2, (.if_icmp .lt 12, 3)) (List.mem_of_getElem? (i := 2) rfl)
theorem dX5_within_5 : decode cX5_within 5 = .ok (.iload_n 0, 1) := ta_cX5_within_81 (5, (.iload_n 0, 1)) (List.mem_of_getElem? (i := 3) rfl)
theorem dX5_within_6 : decode cX5_within 6 = .ok (.iload_n 2, 1) := ta_cX5_within_81 (6, (.iload_n 2, 1)) (List.mem_of_getElem? (i := 4) rfl)
theorem dX5_within_7 : decode cX5_within 7 = .ok (.if_icmp .gt 7, 3) := ta_cX5_within_81 (7, (.if_icmp .gt 7, 3)) (List.mem_of_getElem? (i := 5) rfl)
theorem dX5_within_10 : decode cX5_within 10 = .ok (.iconst 1, 1) := ta_cX5_within_81 (10, (.iconst 1, 1)) (List.mem_of_getElem? (i := 6) rfl)
theorem dX5_within_11 : decode cX5_within 11 = .ok (.goto 4, 3) := ta_cX5_within_81 (11, (.goto 4, 3)) (List.mem_of_getElem? (i := 7) rfl)
theorem dX5_within_14 : decode cX5_within 14 = .ok (.iconst 0, 1) := ta_cX5_within_81 (14, (.iconst 0, 1)) (List.mem_of_getElem? (i := 8) rfl)
theorem dX5_within_15 : decode cX5_within 15 = .ok (.ireturn, 1) := ta_cX5_within_81 (15, (.ireturn, 1)) (List.mem_of_getElem? (i := 9) rfl)
set_option maxRecDepth 20000 in
theorem ggX5_isLane_X5_within : GoodIn wsX5_isLane wsX5_within := goodIn_r _ [4] rfl (by decide +kernel)
set_option maxRecDepth 20000 in
theorem gX5_isLane_X5_within : GoodIn wsX5_isLane (va_wsS RX5 75 yX5_within wsX5_within) := goodIn_app (goodIn_r _ [1, 2, 3] rfl (by decide +kernel)) ggX5_isLane_X5_within
def tb_cX5_isLane_82 : List (Nat × (Instr × Nat)) := [(0, (.iload_n 0, 1)), (1, (.iconst 0, 1)), (2, (.iconst 2, 1)), (3, (.invokestatic 75, 3)), (6, (.ireturn, 1))]
set_option maxRecDepth 20000 in
theorem ta_cX5_isLane_82 : ∀ q ∈ tb_cX5_isLane_82, decode cX5_isLane q.1 = .ok q.2 := by decide +kernel
theorem dX5_isLane_0 : decode cX5_isLane 0 = .ok (.iload_n 0, 1) := ta_cX5_isLane_82 (0, (.iload_n 0, 1)) (List.mem_of_getElem? (i := 0) rfl)
theorem dX5_isLane_1 : decode cX5_isLane 1 = .ok (.iconst 0, 1) := ta_cX5_isLane_82 (1, (.iconst 0, 1)) (List.mem_of_getElem? (i := 1) rfl)
theorem dX5_isLane_2 : decode cX5_isLane 2 = .ok (.iconst 2, 1) := ta_cX5_isLane_82 (2, (.iconst 2, 1)) (List.mem_of_getElem? (i := 2) rfl)
theorem dX5_isLane_3 : decode cX5_isLane 3 = .ok (.invokestatic 75, 3) := ta_cX5_isLane_82 (3, (.invokestatic 75, 3)) (List.mem_of_getElem? (i := 3) rfl)
theorem dX5_isLane_6 : decode cX5_isLane 6 = .ok (.ireturn, 1) := ta_cX5_isLane_82 (6, (.ireturn, 1)) (List.mem_of_getElem? (i := 4) rfl)
set_option maxRecDepth 20000 in
theorem ggX5_isJudge_X5_within : GoodIn wsX5_isJudge wsX5_within := goodIn_r _ [4] rfl (by decide +kernel)
set_option maxRecDepth 20000 in
theorem gX5_isJudge_X5_within : GoodIn wsX5_isJudge (va_wsS RX5 75 yX5_within wsX5_within) := goodIn_app (goodIn_r _ [1, 2, 3] rfl (by decide +kernel)) ggX5_isJudge_X5_within
def tb_cX5_isJudge_83 : List (Nat × (Instr × Nat)) := [(0, (.iload_n 0, 1)), (1, (.iconst 0, 1)), (2, (.iconst 4, 1)), (3, (.invokestatic 75, 3)), (6, (.ireturn, 1))]
set_option maxRecDepth 20000 in
theorem ta_cX5_isJudge_83 : ∀ q ∈ tb_cX5_isJudge_83, decode cX5_isJudge q.1 = .ok q.2 := by decide +kernel
theorem dX5_isJudge_0 : decode cX5_isJudge 0 = .ok (.iload_n 0, 1) := ta_cX5_isJudge_83 (0, (.iload_n 0, 1)) (List.mem_of_getElem? (i := 0) rfl)
theorem dX5_isJudge_1 : decode cX5_isJudge 1 = .ok (.iconst 0, 1) := ta_cX5_isJudge_83 (1, (.iconst 0, 1)) (List.mem_of_getElem? (i := 1) rfl)
theorem dX5_isJudge_2 : decode cX5_isJudge 2 = .ok (.iconst 4, 1) := ta_cX5_isJudge_83 (2, (.iconst 4, 1)) (List.mem_of_getElem? (i := 2) rfl)
theorem dX5_isJudge_3 : decode cX5_isJudge 3 = .ok (.invokestatic 75, 3) := ta_cX5_isJudge_83 (3, (.invokestatic 75, 3)) (List.mem_of_getElem? (i := 3) rfl)
theorem dX5_isJudge_6 : decode cX5_isJudge 6 = .ok (.ireturn, 1) := ta_cX5_isJudge_83 (6, (.ireturn, 1)) (List.mem_of_getElem? (i := 4) rfl)
def tb_cX5_isTouch_84 : List (Nat × (Instr × Nat)) := [(0, (.iload_n 1, 1)), (1, (.ifCond .lt 18, 3)), (4, (.iload_n 1, 1)), (5, (.aload_n 0, 1)), (6, (.getfield 38, 3)), (9, (.getfield 164, 3)), (12, (.if_icmp .ge 7, 3)), (15, (.iconst 1, 1)), (16, (.goto 4, 3)), (19, (.iconst 0, 1)), (20, (.ireturn, 1))]
set_option maxRecDepth 20000 in
theorem ta_cX5_isTouch_84 : ∀ q ∈ tb_cX5_isTouch_84, decode cX5_isTouch q.1 = .ok q.2 := by decide +kernel
theorem dX5_isTouch_0 : decode cX5_isTouch 0 = .ok (.iload_n 1, 1) := ta_cX5_isTouch_84 (0, (.iload_n 1, 1)) (List.mem_of_getElem? (i := 0) rfl)
theorem dX5_isTouch_1 : decode cX5_isTouch 1 = .ok (.ifCond .lt 18, 3) := ta_cX5_isTouch_84 (1, (.ifCond .lt 18, 3)) (List.mem_of_getElem? (i := 1) rfl)
theorem dX5_isTouch_4 : decode cX5_isTouch 4 = .ok (.iload_n 1, 1) := ta_cX5_isTouch_84 (4, (.iload_n 1, 1)) (List.mem_of_getElem? (i := 2) rfl)
theorem dX5_isTouch_5 : decode cX5_isTouch 5 = .ok (.aload_n 0, 1) := ta_cX5_isTouch_84 (5, (.aload_n 0, 1)) (List.mem_of_getElem? (i := 3) rfl)
theorem dX5_isTouch_6 : decode cX5_isTouch 6 = .ok (.getfield 38, 3) := ta_cX5_isTouch_84 (6, (.getfield 38, 3)) (List.mem_of_getElem? (i := 4) rfl)
theorem dX5_isTouch_9 : decode cX5_isTouch 9 = .ok (.getfield 164, 3) := ta_cX5_isTouch_84 (9, (.getfield 164, 3)) (List.mem_of_getElem? (i := 5) rfl)
theorem dX5_isTouch_12 : decode cX5_isTouch 12 = .ok (.if_icmp .ge 7, 3) := ta_cX5_isTouch_84 (12, (.if_icmp .ge 7, 3)) (List.mem_of_getElem? (i := 6) rfl)
theorem dX5_isTouch_15 : decode cX5_isTouch 15 = .ok (.iconst 1, 1) := ta_cX5_isTouch_84 (15, (.iconst 1, 1)) (List.mem_of_getElem? (i := 7) rfl)
theorem dX5_isTouch_16 : decode cX5_isTouch 16 = .ok (.goto 4, 3) := ta_cX5_isTouch_84 (16, (.goto 4, 3)) (List.mem_of_getElem? (i := 8) rfl)
theorem dX5_isTouch_19 : decode cX5_isTouch 19 = .ok (.iconst 0, 1) := ta_cX5_isTouch_84 (19, (.iconst 0, 1)) (List.mem_of_getElem? (i := 9) rfl)
theorem dX5_isTouch_20 : decode cX5_isTouch 20 = .ok (.ireturn, 1) := ta_cX5_isTouch_84 (20, (.ireturn, 1)) (List.mem_of_getElem? (i := 10) rfl)
def tb_cX5_stoneAt_85 : List (Nat × (Instr × Nat)) := [(0, (.iload_n 1, 1)), (1, (.ifCond .lt 20, 3)), (4, (.iload_n 1, 1)), (5, (.aload_n 0, 1)), (6, (.getfield 17, 3)), (9, (.if_icmp .ge 12, 3)), (12, (.iload_n 1, 1)), (13, (.aload_n 0, 1)), (14, (.getfield 13, 3)), (17, (.arraylength, 1)), (18, (.if_icmp .lt 7, 3)), (21, (.aconst_null, 1)), (22, (.goto 9, 3)), (25, (.aload_n 0, 1)), (26, (.getfield 13, 3)), (29, (.iload_n 1, 1)), (30, (.aaload, 1)), (31, (.areturn, 1))]
set_option maxRecDepth 20000 in
theorem ta_cX5_stoneAt_85 : ∀ q ∈ tb_cX5_stoneAt_85, decode cX5_stoneAt q.1 = .ok q.2 := by decide +kernel
theorem dX5_stoneAt_0 : decode cX5_stoneAt 0 = .ok (.iload_n 1, 1) := ta_cX5_stoneAt_85 (0, (.iload_n 1, 1)) (List.mem_of_getElem? (i := 0) rfl)
theorem dX5_stoneAt_1 : decode cX5_stoneAt 1 = .ok (.ifCond .lt 20, 3) := ta_cX5_stoneAt_85 (1, (.ifCond .lt 20, 3)) (List.mem_of_getElem? (i := 1) rfl)
theorem dX5_stoneAt_4 : decode cX5_stoneAt 4 = .ok (.iload_n 1, 1) := ta_cX5_stoneAt_85 (4, (.iload_n 1, 1)) (List.mem_of_getElem? (i := 2) rfl)
theorem dX5_stoneAt_5 : decode cX5_stoneAt 5 = .ok (.aload_n 0, 1) := ta_cX5_stoneAt_85 (5, (.aload_n 0, 1)) (List.mem_of_getElem? (i := 3) rfl)
theorem dX5_stoneAt_6 : decode cX5_stoneAt 6 = .ok (.getfield 17, 3) := ta_cX5_stoneAt_85 (6, (.getfield 17, 3)) (List.mem_of_getElem? (i := 4) rfl)
theorem dX5_stoneAt_9 : decode cX5_stoneAt 9 = .ok (.if_icmp .ge 12, 3) := ta_cX5_stoneAt_85 (9, (.if_icmp .ge 12, 3)) (List.mem_of_getElem? (i := 5) rfl)
theorem dX5_stoneAt_12 : decode cX5_stoneAt 12 = .ok (.iload_n 1, 1) := ta_cX5_stoneAt_85 (12, (.iload_n 1, 1)) (List.mem_of_getElem? (i := 6) rfl)
theorem dX5_stoneAt_13 : decode cX5_stoneAt 13 = .ok (.aload_n 0, 1) := ta_cX5_stoneAt_85 (13, (.aload_n 0, 1)) (List.mem_of_getElem? (i := 7) rfl)
theorem dX5_stoneAt_14 : decode cX5_stoneAt 14 = .ok (.getfield 13, 3) := ta_cX5_stoneAt_85 (14, (.getfield 13, 3)) (List.mem_of_getElem? (i := 8) rfl)
theorem dX5_stoneAt_17 : decode cX5_stoneAt 17 = .ok (.arraylength, 1) := ta_cX5_stoneAt_85 (17, (.arraylength, 1)) (List.mem_of_getElem? (i := 9) rfl)
theorem dX5_stoneAt_18 : decode cX5_stoneAt 18 = .ok (.if_icmp .lt 7, 3) := ta_cX5_stoneAt_85 (18, (.if_icmp .lt 7, 3)) (List.mem_of_getElem? (i := 10) rfl)
theorem dX5_stoneAt_21 : decode cX5_stoneAt 21 = .ok (.aconst_null, 1) := ta_cX5_stoneAt_85 (21, (.aconst_null, 1)) (List.mem_of_getElem? (i := 11) rfl)
theorem dX5_stoneAt_22 : decode cX5_stoneAt 22 = .ok (.goto 9, 3) := ta_cX5_stoneAt_85 (22, (.goto 9, 3)) (List.mem_of_getElem? (i := 12) rfl)
theorem dX5_stoneAt_25 : decode cX5_stoneAt 25 = .ok (.aload_n 0, 1) := ta_cX5_stoneAt_85 (25, (.aload_n 0, 1)) (List.mem_of_getElem? (i := 13) rfl)
theorem dX5_stoneAt_26 : decode cX5_stoneAt 26 = .ok (.getfield 13, 3) := ta_cX5_stoneAt_85 (26, (.getfield 13, 3)) (List.mem_of_getElem? (i := 14) rfl)
theorem dX5_stoneAt_29 : decode cX5_stoneAt 29 = .ok (.iload_n 1, 1) := ta_cX5_stoneAt_85 (29, (.iload_n 1, 1)) (List.mem_of_getElem? (i := 15) rfl)
theorem dX5_stoneAt_30 : decode cX5_stoneAt 30 = .ok (.aaload, 1) := ta_cX5_stoneAt_85 (30, (.aaload, 1)) (List.mem_of_getElem? (i := 16) rfl)
theorem dX5_stoneAt_31 : decode cX5_stoneAt 31 = .ok (.areturn, 1) := ta_cX5_stoneAt_85 (31, (.areturn, 1)) (List.mem_of_getElem? (i := 17) rfl)
def tb_cX5_sheetAt_86 : List (Nat × (Instr × Nat)) := [(0, (.iload_n 1, 1)), (1, (.ifCond .lt 12, 3)), (4, (.iload_n 1, 1)), (5, (.aload_n 0, 1)), (6, (.getfield 60, 3)), (9, (.arraylength, 1)), (10, (.if_icmp .lt 7, 3)), (13, (.aconst_null, 1)), (14, (.goto 9, 3)), (17, (.aload_n 0, 1)), (18, (.getfield 60, 3)), (21, (.iload_n 1, 1)), (22, (.aaload, 1)), (23, (.areturn, 1))]
set_option maxRecDepth 20000 in
theorem ta_cX5_sheetAt_86 : ∀ q ∈ tb_cX5_sheetAt_86, decode cX5_sheetAt q.1 = .ok q.2 := by decide +kernel
theorem dX5_sheetAt_0 : decode cX5_sheetAt 0 = .ok (.iload_n 1, 1) := ta_cX5_sheetAt_86 (0, (.iload_n 1, 1)) (List.mem_of_getElem? (i := 0) rfl)
theorem dX5_sheetAt_1 : decode cX5_sheetAt 1 = .ok (.ifCond .lt 12, 3) := ta_cX5_sheetAt_86 (1, (.ifCond .lt 12, 3)) (List.mem_of_getElem? (i := 1) rfl)
theorem dX5_sheetAt_4 : decode cX5_sheetAt 4 = .ok (.iload_n 1, 1) := ta_cX5_sheetAt_86 (4, (.iload_n 1, 1)) (List.mem_of_getElem? (i := 2) rfl)
theorem dX5_sheetAt_5 : decode cX5_sheetAt 5 = .ok (.aload_n 0, 1) := ta_cX5_sheetAt_86 (5, (.aload_n 0, 1)) (List.mem_of_getElem? (i := 3) rfl)
theorem dX5_sheetAt_6 : decode cX5_sheetAt 6 = .ok (.getfield 60, 3) := ta_cX5_sheetAt_86 (6, (.getfield 60, 3)) (List.mem_of_getElem? (i := 4) rfl)
theorem dX5_sheetAt_9 : decode cX5_sheetAt 9 = .ok (.arraylength, 1) := ta_cX5_sheetAt_86 (9, (.arraylength, 1)) (List.mem_of_getElem? (i := 5) rfl)
theorem dX5_sheetAt_10 : decode cX5_sheetAt 10 = .ok (.if_icmp .lt 7, 3) := ta_cX5_sheetAt_86 (10, (.if_icmp .lt 7, 3)) (List.mem_of_getElem? (i := 6) rfl)
theorem dX5_sheetAt_13 : decode cX5_sheetAt 13 = .ok (.aconst_null, 1) := ta_cX5_sheetAt_86 (13, (.aconst_null, 1)) (List.mem_of_getElem? (i := 7) rfl)
theorem dX5_sheetAt_14 : decode cX5_sheetAt 14 = .ok (.goto 9, 3) := ta_cX5_sheetAt_86 (14, (.goto 9, 3)) (List.mem_of_getElem? (i := 8) rfl)
theorem dX5_sheetAt_17 : decode cX5_sheetAt 17 = .ok (.aload_n 0, 1) := ta_cX5_sheetAt_86 (17, (.aload_n 0, 1)) (List.mem_of_getElem? (i := 9) rfl)
theorem dX5_sheetAt_18 : decode cX5_sheetAt 18 = .ok (.getfield 60, 3) := ta_cX5_sheetAt_86 (18, (.getfield 60, 3)) (List.mem_of_getElem? (i := 10) rfl)
theorem dX5_sheetAt_21 : decode cX5_sheetAt 21 = .ok (.iload_n 1, 1) := ta_cX5_sheetAt_86 (21, (.iload_n 1, 1)) (List.mem_of_getElem? (i := 11) rfl)
theorem dX5_sheetAt_22 : decode cX5_sheetAt 22 = .ok (.aaload, 1) := ta_cX5_sheetAt_86 (22, (.aaload, 1)) (List.mem_of_getElem? (i := 12) rfl)
theorem dX5_sheetAt_23 : decode cX5_sheetAt 23 = .ok (.areturn, 1) := ta_cX5_sheetAt_86 (23, (.areturn, 1)) (List.mem_of_getElem? (i := 13) rfl)
def tb_cX5_pick_87 : List (Nat × (Instr × Nat)) := [(0, (.iload_n 0, 1)), (1, (.ifCond .ne 7, 3)), (4, (.iload_n 1, 1)), (5, (.goto 13, 3)), (8, (.iload_n 0, 1)), (9, (.iconst 1, 1)), (10, (.if_icmp .ne 7, 3)), (13, (.iload_n 2, 1)), (14, (.goto 4, 3)), (17, (.iload_n 3, 1)), (18, (.ireturn, 1))]
set_option maxRecDepth 20000 in
theorem ta_cX5_pick_87 : ∀ q ∈ tb_cX5_pick_87, decode cX5_pick q.1 = .ok q.2 := by decide +kernel
theorem dX5_pick_0 : decode cX5_pick 0 = .ok (.iload_n 0, 1) := ta_cX5_pick_87 (0, (.iload_n 0, 1)) (List.mem_of_getElem? (i := 0) rfl)
theorem dX5_pick_1 : decode cX5_pick 1 = .ok (.ifCond .ne 7, 3) := ta_cX5_pick_87 (1, (.ifCond .ne 7, 3)) (List.mem_of_getElem? (i := 1) rfl)
theorem dX5_pick_4 : decode cX5_pick 4 = .ok (.iload_n 1, 1) := ta_cX5_pick_87 (4, (.iload_n 1, 1)) (List.mem_of_getElem? (i := 2) rfl)
theorem dX5_pick_5 : decode cX5_pick 5 = .ok (.goto 13, 3) := ta_cX5_pick_87 (5, (.goto 13, 3)) (List.mem_of_getElem? (i := 3) rfl)
theorem dX5_pick_8 : decode cX5_pick 8 = .ok (.iload_n 0, 1) := ta_cX5_pick_87 (8, (.iload_n 0, 1)) (List.mem_of_getElem? (i := 4) rfl)
theorem dX5_pick_9 : decode cX5_pick 9 = .ok (.iconst 1, 1) := ta_cX5_pick_87 (9, (.iconst 1, 1)) (List.mem_of_getElem? (i := 5) rfl)
theorem dX5_pick_10 : decode cX5_pick 10 = .ok (.if_icmp .ne 7, 3) := ta_cX5_pick_87 (10, (.if_icmp .ne 7, 3)) (List.mem_of_getElem? (i := 6) rfl)
theorem dX5_pick_13 : decode cX5_pick 13 = .ok (.iload_n 2, 1) := ta_cX5_pick_87 (13, (.iload_n 2, 1)) (List.mem_of_getElem? (i := 7) rfl)
theorem dX5_pick_14 : decode cX5_pick 14 = .ok (.goto 4, 3) := ta_cX5_pick_87 (14, (.goto 4, 3)) (List.mem_of_getElem? (i := 8) rfl)
theorem dX5_pick_17 : decode cX5_pick 17 = .ok (.iload_n 3, 1) := ta_cX5_pick_87 (17, (.iload_n 3, 1)) (List.mem_of_getElem? (i := 9) rfl)
theorem dX5_pick_18 : decode cX5_pick 18 = .ok (.ireturn, 1) := ta_cX5_pick_87 (18, (.ireturn, 1)) (List.mem_of_getElem? (i := 10) rfl)
def tb_cX5_sinks_88 : List (Nat × (Instr × Nat)) := [(0, (.aload_n 1, 1)), (1, (.getfield 116, 3)), (4, (.istore 5, 2)), (6, (.iload 4, 2)), (8, (.iconst 1, 1)), (9, (.if_icmp .lt 16, 3)), (12, (.iload 4, 2)), (14, (.bipush 45, 2)), (16, (.if_icmp .gt 9, 3)), (19, (.iload 5, 2)), (21, (.iconst 1, 1)), (22, (.if_icmp .ge 5, 3)), (25, (.iconst 1, 1)), (26, (.ireturn, 1)), (27, (.iload_n 2, 1)), (28, (.aload_n 0, 1)), (29, (.getfield 89, 3)), (32, (.imul, 1)), (33, (.iload 4, 2)), (35, (.imul, 1)), (36, (.bipush 10, 2)), (38, (.iload 5, 2)), (40, (.imul, 1)), (41, (.idiv, 1)), (42, (.aload_n 0, 1)), (43, (.getfield 86, 3)), (46, (.iload_n 3, 1)), (47, (.bipush 10, 2)), (49, (.iadd, 1)), (50, (.imul, 1)), (51, (.if_icmp .ge 7, 3)), (54, (.iconst 1, 1)), (55, (.goto 4, 3)), (58, (.iconst 0, 1)), (59, (.ireturn, 1))]
set_option maxRecDepth 20000 in
theorem ta_cX5_sinks_88 : ∀ q ∈ tb_cX5_sinks_88, decode cX5_sinks q.1 = .ok q.2 := by decide +kernel
theorem dX5_sinks_0 : decode cX5_sinks 0 = .ok (.aload_n 1, 1) := ta_cX5_sinks_88 (0, (.aload_n 1, 1)) (List.mem_of_getElem? (i := 0) rfl)
theorem dX5_sinks_1 : decode cX5_sinks 1 = .ok (.getfield 116, 3) := ta_cX5_sinks_88 (1, (.getfield 116, 3)) (List.mem_of_getElem? (i := 1) rfl)
theorem dX5_sinks_4 : decode cX5_sinks 4 = .ok (.istore 5, 2) := ta_cX5_sinks_88 (4, (.istore 5, 2)) (List.mem_of_getElem? (i := 2) rfl)
theorem dX5_sinks_6 : decode cX5_sinks 6 = .ok (.iload 4, 2) := ta_cX5_sinks_88 (6, (.iload 4, 2)) (List.mem_of_getElem? (i := 3) rfl)
theorem dX5_sinks_8 : decode cX5_sinks 8 = .ok (.iconst 1, 1) := ta_cX5_sinks_88 (8, (.iconst 1, 1)) (List.mem_of_getElem? (i := 4) rfl)
theorem dX5_sinks_9 : decode cX5_sinks 9 = .ok (.if_icmp .lt 16, 3) := ta_cX5_sinks_88 (9, (.if_icmp .lt 16, 3)) (List.mem_of_getElem? (i := 5) rfl)
theorem dX5_sinks_12 : decode cX5_sinks 12 = .ok (.iload 4, 2) := ta_cX5_sinks_88 (12, (.iload 4, 2)) (List.mem_of_getElem? (i := 6) rfl)
theorem dX5_sinks_14 : decode cX5_sinks 14 = .ok (.bipush 45, 2) := ta_cX5_sinks_88 (14, (.bipush 45, 2)) (List.mem_of_getElem? (i := 7) rfl)
theorem dX5_sinks_16 : decode cX5_sinks 16 = .ok (.if_icmp .gt 9, 3) := ta_cX5_sinks_88 (16, (.if_icmp .gt 9, 3)) (List.mem_of_getElem? (i := 8) rfl)
theorem dX5_sinks_19 : decode cX5_sinks 19 = .ok (.iload 5, 2) := ta_cX5_sinks_88 (19, (.iload 5, 2)) (List.mem_of_getElem? (i := 9) rfl)
theorem dX5_sinks_21 : decode cX5_sinks 21 = .ok (.iconst 1, 1) := ta_cX5_sinks_88 (21, (.iconst 1, 1)) (List.mem_of_getElem? (i := 10) rfl)
theorem dX5_sinks_22 : decode cX5_sinks 22 = .ok (.if_icmp .ge 5, 3) := ta_cX5_sinks_88 (22, (.if_icmp .ge 5, 3)) (List.mem_of_getElem? (i := 11) rfl)
theorem dX5_sinks_25 : decode cX5_sinks 25 = .ok (.iconst 1, 1) := ta_cX5_sinks_88 (25, (.iconst 1, 1)) (List.mem_of_getElem? (i := 12) rfl)
theorem dX5_sinks_26 : decode cX5_sinks 26 = .ok (.ireturn, 1) := ta_cX5_sinks_88 (26, (.ireturn, 1)) (List.mem_of_getElem? (i := 13) rfl)
theorem dX5_sinks_27 : decode cX5_sinks 27 = .ok (.iload_n 2, 1) := ta_cX5_sinks_88 (27, (.iload_n 2, 1)) (List.mem_of_getElem? (i := 14) rfl)
theorem dX5_sinks_28 : decode cX5_sinks 28 = .ok (.aload_n 0, 1) := ta_cX5_sinks_88 (28, (.aload_n 0, 1)) (List.mem_of_getElem? (i := 15) rfl)
theorem dX5_sinks_29 : decode cX5_sinks 29 = .ok (.getfield 89, 3) := ta_cX5_sinks_88 (29, (.getfield 89, 3)) (List.mem_of_getElem? (i := 16) rfl)
theorem dX5_sinks_32 : decode cX5_sinks 32 = .ok (.imul, 1) := ta_cX5_sinks_88 (32, (.imul, 1)) (List.mem_of_getElem? (i := 17) rfl)
theorem dX5_sinks_33 : decode cX5_sinks 33 = .ok (.iload 4, 2) := ta_cX5_sinks_88 (33, (.iload 4, 2)) (List.mem_of_getElem? (i := 18) rfl)
theorem dX5_sinks_35 : decode cX5_sinks 35 = .ok (.imul, 1) := ta_cX5_sinks_88 (35, (.imul, 1)) (List.mem_of_getElem? (i := 19) rfl)
theorem dX5_sinks_36 : decode cX5_sinks 36 = .ok (.bipush 10, 2) := ta_cX5_sinks_88 (36, (.bipush 10, 2)) (List.mem_of_getElem? (i := 20) rfl)
theorem dX5_sinks_38 : decode cX5_sinks 38 = .ok (.iload 5, 2) := ta_cX5_sinks_88 (38, (.iload 5, 2)) (List.mem_of_getElem? (i := 21) rfl)
theorem dX5_sinks_40 : decode cX5_sinks 40 = .ok (.imul, 1) := ta_cX5_sinks_88 (40, (.imul, 1)) (List.mem_of_getElem? (i := 22) rfl)
theorem dX5_sinks_41 : decode cX5_sinks 41 = .ok (.idiv, 1) := ta_cX5_sinks_88 (41, (.idiv, 1)) (List.mem_of_getElem? (i := 23) rfl)
theorem dX5_sinks_42 : decode cX5_sinks 42 = .ok (.aload_n 0, 1) := ta_cX5_sinks_88 (42, (.aload_n 0, 1)) (List.mem_of_getElem? (i := 24) rfl)
theorem dX5_sinks_43 : decode cX5_sinks 43 = .ok (.getfield 86, 3) := ta_cX5_sinks_88 (43, (.getfield 86, 3)) (List.mem_of_getElem? (i := 25) rfl)
theorem dX5_sinks_46 : decode cX5_sinks 46 = .ok (.iload_n 3, 1) := ta_cX5_sinks_88 (46, (.iload_n 3, 1)) (List.mem_of_getElem? (i := 26) rfl)
theorem dX5_sinks_47 : decode cX5_sinks 47 = .ok (.bipush 10, 2) := ta_cX5_sinks_88 (47, (.bipush 10, 2)) (List.mem_of_getElem? (i := 27) rfl)
theorem dX5_sinks_49 : decode cX5_sinks 49 = .ok (.iadd, 1) := ta_cX5_sinks_88 (49, (.iadd, 1)) (List.mem_of_getElem? (i := 28) rfl)
theorem dX5_sinks_50 : decode cX5_sinks 50 = .ok (.imul, 1) := ta_cX5_sinks_88 (50, (.imul, 1)) (List.mem_of_getElem? (i := 29) rfl)
theorem dX5_sinks_51 : decode cX5_sinks 51 = .ok (.if_icmp .ge 7, 3) := ta_cX5_sinks_88 (51, (.if_icmp .ge 7, 3)) (List.mem_of_getElem? (i := 30) rfl)
theorem dX5_sinks_54 : decode cX5_sinks 54 = .ok (.iconst 1, 1) := ta_cX5_sinks_88 (54, (.iconst 1, 1)) (List.mem_of_getElem? (i := 31) rfl)
theorem dX5_sinks_55 : decode cX5_sinks 55 = .ok (.goto 4, 3) := ta_cX5_sinks_88 (55, (.goto 4, 3)) (List.mem_of_getElem? (i := 32) rfl)
theorem dX5_sinks_58 : decode cX5_sinks 58 = .ok (.iconst 0, 1) := ta_cX5_sinks_88 (58, (.iconst 0, 1)) (List.mem_of_getElem? (i := 33) rfl)
theorem dX5_sinks_59 : decode cX5_sinks 59 = .ok (.ireturn, 1) := ta_cX5_sinks_88 (59, (.ireturn, 1)) (List.mem_of_getElem? (i := 34) rfl)
set_option maxRecDepth 20000 in
theorem ggX5_isGrid_X5_within : GoodIn wsX5_isGrid wsX5_within := goodIn_r _ [4] rfl (by decide +kernel)
set_option maxRecDepth 20000 in
theorem gX5_isGrid_X5_within : GoodIn wsX5_isGrid (va_wsS RX5 75 yX5_within wsX5_within) := goodIn_app (goodIn_r _ [1, 2, 3] rfl (by decide +kernel)) ggX5_isGrid_X5_within
def tb_cX5_isGrid_89 : List (Nat × (Instr × Nat)) := [(0, (.iload_n 1, 1)), (1, (.iconst 0, 1)), (2, (.bipush 20, 2)), (4, (.invokestatic 75, 3)), (7, (.ifCond .eq 42, 3)), (10, (.iload_n 3, 1)), (11, (.iconst 0, 1)), (12, (.bipush 10, 2)), (14, (.invokestatic 75, 3)), (17, (.ifCond .eq 32, 3)), (20, (.iload_n 0, 1)), (21, (.iconst 1, 1)), (22, (.sipush 300, 3)), (25, (.iload_n 1, 1)), (26, (.isub, 1)), (27, (.invokestatic 75, 3)), (30, (.ifCond .eq 19, 3)), (33, (.iload_n 2, 1)), (34, (.iconst 0, 1)), (35, (.bipush 45, 2)), (37, (.iload_n 3, 1)), (38, (.isub, 1)), (39, (.invokestatic 75, 3)), (42, (.ifCond .eq 7, 3)), (45, (.iconst 1, 1)), (46, (.goto 4, 3)), (49, (.iconst 0, 1)), (50, (.ireturn, 1))]
set_option maxRecDepth 20000 in
theorem ta_cX5_isGrid_89 : ∀ q ∈ tb_cX5_isGrid_89, decode cX5_isGrid q.1 = .ok q.2 := by decide +kernel
theorem dX5_isGrid_0 : decode cX5_isGrid 0 = .ok (.iload_n 1, 1) := ta_cX5_isGrid_89 (0, (.iload_n 1, 1)) (List.mem_of_getElem? (i := 0) rfl)
theorem dX5_isGrid_1 : decode cX5_isGrid 1 = .ok (.iconst 0, 1) := ta_cX5_isGrid_89 (1, (.iconst 0, 1)) (List.mem_of_getElem? (i := 1) rfl)
theorem dX5_isGrid_2 : decode cX5_isGrid 2 = .ok (.bipush 20, 2) := ta_cX5_isGrid_89 (2, (.bipush 20, 2)) (List.mem_of_getElem? (i := 2) rfl)
theorem dX5_isGrid_4 : decode cX5_isGrid 4 = .ok (.invokestatic 75, 3) := ta_cX5_isGrid_89 (4, (.invokestatic 75, 3)) (List.mem_of_getElem? (i := 3) rfl)
theorem dX5_isGrid_7 : decode cX5_isGrid 7 = .ok (.ifCond .eq 42, 3) := ta_cX5_isGrid_89 (7, (.ifCond .eq 42, 3)) (List.mem_of_getElem? (i := 4) rfl)
theorem dX5_isGrid_10 : decode cX5_isGrid 10 = .ok (.iload_n 3, 1) := ta_cX5_isGrid_89 (10, (.iload_n 3, 1)) (List.mem_of_getElem? (i := 5) rfl)
theorem dX5_isGrid_11 : decode cX5_isGrid 11 = .ok (.iconst 0, 1) := ta_cX5_isGrid_89 (11, (.iconst 0, 1)) (List.mem_of_getElem? (i := 6) rfl)
theorem dX5_isGrid_12 : decode cX5_isGrid 12 = .ok (.bipush 10, 2) := ta_cX5_isGrid_89 (12, (.bipush 10, 2)) (List.mem_of_getElem? (i := 7) rfl)
theorem dX5_isGrid_14 : decode cX5_isGrid 14 = .ok (.invokestatic 75, 3) := ta_cX5_isGrid_89 (14, (.invokestatic 75, 3)) (List.mem_of_getElem? (i := 8) rfl)
theorem dX5_isGrid_17 : decode cX5_isGrid 17 = .ok (.ifCond .eq 32, 3) := ta_cX5_isGrid_89 (17, (.ifCond .eq 32, 3)) (List.mem_of_getElem? (i := 9) rfl)
theorem dX5_isGrid_20 : decode cX5_isGrid 20 = .ok (.iload_n 0, 1) := ta_cX5_isGrid_89 (20, (.iload_n 0, 1)) (List.mem_of_getElem? (i := 10) rfl)
theorem dX5_isGrid_21 : decode cX5_isGrid 21 = .ok (.iconst 1, 1) := ta_cX5_isGrid_89 (21, (.iconst 1, 1)) (List.mem_of_getElem? (i := 11) rfl)
theorem dX5_isGrid_22 : decode cX5_isGrid 22 = .ok (.sipush 300, 3) := ta_cX5_isGrid_89 (22, (.sipush 300, 3)) (List.mem_of_getElem? (i := 12) rfl)
theorem dX5_isGrid_25 : decode cX5_isGrid 25 = .ok (.iload_n 1, 1) := ta_cX5_isGrid_89 (25, (.iload_n 1, 1)) (List.mem_of_getElem? (i := 13) rfl)
theorem dX5_isGrid_26 : decode cX5_isGrid 26 = .ok (.isub, 1) := ta_cX5_isGrid_89 (26, (.isub, 1)) (List.mem_of_getElem? (i := 14) rfl)
theorem dX5_isGrid_27 : decode cX5_isGrid 27 = .ok (.invokestatic 75, 3) := ta_cX5_isGrid_89 (27, (.invokestatic 75, 3)) (List.mem_of_getElem? (i := 15) rfl)
theorem dX5_isGrid_30 : decode cX5_isGrid 30 = .ok (.ifCond .eq 19, 3) := ta_cX5_isGrid_89 (30, (.ifCond .eq 19, 3)) (List.mem_of_getElem? (i := 16) rfl)
theorem dX5_isGrid_33 : decode cX5_isGrid 33 = .ok (.iload_n 2, 1) := ta_cX5_isGrid_89 (33, (.iload_n 2, 1)) (List.mem_of_getElem? (i := 17) rfl)
theorem dX5_isGrid_34 : decode cX5_isGrid 34 = .ok (.iconst 0, 1) := ta_cX5_isGrid_89 (34, (.iconst 0, 1)) (List.mem_of_getElem? (i := 18) rfl)
theorem dX5_isGrid_35 : decode cX5_isGrid 35 = .ok (.bipush 45, 2) := ta_cX5_isGrid_89 (35, (.bipush 45, 2)) (List.mem_of_getElem? (i := 19) rfl)
theorem dX5_isGrid_37 : decode cX5_isGrid 37 = .ok (.iload_n 3, 1) := ta_cX5_isGrid_89 (37, (.iload_n 3, 1)) (List.mem_of_getElem? (i := 20) rfl)
theorem dX5_isGrid_38 : decode cX5_isGrid 38 = .ok (.isub, 1) := ta_cX5_isGrid_89 (38, (.isub, 1)) (List.mem_of_getElem? (i := 21) rfl)
theorem dX5_isGrid_39 : decode cX5_isGrid 39 = .ok (.invokestatic 75, 3) := ta_cX5_isGrid_89 (39, (.invokestatic 75, 3)) (List.mem_of_getElem? (i := 22) rfl)
theorem dX5_isGrid_42 : decode cX5_isGrid 42 = .ok (.ifCond .eq 7, 3) := ta_cX5_isGrid_89 (42, (.ifCond .eq 7, 3)) (List.mem_of_getElem? (i := 23) rfl)
theorem dX5_isGrid_45 : decode cX5_isGrid 45 = .ok (.iconst 1, 1) := ta_cX5_isGrid_89 (45, (.iconst 1, 1)) (List.mem_of_getElem? (i := 24) rfl)
theorem dX5_isGrid_46 : decode cX5_isGrid 46 = .ok (.goto 4, 3) := ta_cX5_isGrid_89 (46, (.goto 4, 3)) (List.mem_of_getElem? (i := 25) rfl)
theorem dX5_isGrid_49 : decode cX5_isGrid 49 = .ok (.iconst 0, 1) := ta_cX5_isGrid_89 (49, (.iconst 0, 1)) (List.mem_of_getElem? (i := 26) rfl)
theorem dX5_isGrid_50 : decode cX5_isGrid 50 = .ok (.ireturn, 1) := ta_cX5_isGrid_89 (50, (.ireturn, 1)) (List.mem_of_getElem? (i := 27) rfl)
def tb_cX5_throwsOf_90 : List (Nat × (Instr × Nat)) := [(0, (.iload_n 0, 1)), (1, (.iconst 1, 1)), (2, (.iadd, 1)), (3, (.iload_n 1, 1)), (4, (.iconst 1, 1)), (5, (.iadd, 1)), (6, (.imul, 1)), (7, (.ireturn, 1))]
set_option maxRecDepth 20000 in
theorem ta_cX5_throwsOf_90 : ∀ q ∈ tb_cX5_throwsOf_90, decode cX5_throwsOf q.1 = .ok q.2 := by decide +kernel
theorem dX5_throwsOf_0 : decode cX5_throwsOf 0 = .ok (.iload_n 0, 1) := ta_cX5_throwsOf_90 (0, (.iload_n 0, 1)) (List.mem_of_getElem? (i := 0) rfl)
theorem dX5_throwsOf_1 : decode cX5_throwsOf 1 = .ok (.iconst 1, 1) := ta_cX5_throwsOf_90 (1, (.iconst 1, 1)) (List.mem_of_getElem? (i := 1) rfl)
theorem dX5_throwsOf_2 : decode cX5_throwsOf 2 = .ok (.iadd, 1) := ta_cX5_throwsOf_90 (2, (.iadd, 1)) (List.mem_of_getElem? (i := 2) rfl)
theorem dX5_throwsOf_3 : decode cX5_throwsOf 3 = .ok (.iload_n 1, 1) := ta_cX5_throwsOf_90 (3, (.iload_n 1, 1)) (List.mem_of_getElem? (i := 3) rfl)
theorem dX5_throwsOf_4 : decode cX5_throwsOf 4 = .ok (.iconst 1, 1) := ta_cX5_throwsOf_90 (4, (.iconst 1, 1)) (List.mem_of_getElem? (i := 4) rfl)
theorem dX5_throwsOf_5 : decode cX5_throwsOf 5 = .ok (.iadd, 1) := ta_cX5_throwsOf_90 (5, (.iadd, 1)) (List.mem_of_getElem? (i := 5) rfl)
theorem dX5_throwsOf_6 : decode cX5_throwsOf 6 = .ok (.imul, 1) := ta_cX5_throwsOf_90 (6, (.imul, 1)) (List.mem_of_getElem? (i := 6) rfl)
theorem dX5_throwsOf_7 : decode cX5_throwsOf 7 = .ok (.ireturn, 1) := ta_cX5_throwsOf_90 (7, (.ireturn, 1)) (List.mem_of_getElem? (i := 7) rfl)
set_option maxRecDepth 20000 in
theorem ggX5_tryOut_X0_begin : GoodIn wsX5_tryOut wsX0_begin := goodIn_r _ [9, 10, 11, 12, 13, 14, 15, 16, 70, 71, 72, 73, 74, 75, 76, 77] rfl (by decide +kernel)
set_option maxRecDepth 20000 in
theorem gX5_tryOut_X0_begin : GoodIn wsX5_tryOut (wsV RX5 156 RX0 yX0_begin wsX0_begin) := goodIn_app (goodIn_r _ [5, 6, 7, 8] rfl (by decide +kernel)) ggX5_tryOut_X0_begin
set_option maxRecDepth 20000 in
theorem ggX5_tryOut_X0_goOn : GoodIn wsX5_tryOut wsX0_goOn := goodIn_r _ [20, 12, 14, 21, 22, 23, 24, 25, 26, 27, 28, 29, 30, 8, 31, 10, 11, 32, 33, 34, 35, 36, 37, 38, 39, 40, 41, 15, 42, 43, 44, 45, 46, 47, 48, 49, 50, 51, 16, 52, 13, 53, 54, 55, 56, 70, 71, 72, 73, 74, 75, 76, 77, 78, 79, 80, 81, 82, 83, 84, 85, 86, 87, 88, 89, 90, 91] rfl (by decide +kernel)
set_option maxRecDepth 20000 in
theorem gX5_tryOut_X0_goOn : GoodIn wsX5_tryOut (wsV RX5 160 RX0 yX0_goOn wsX0_goOn) := goodIn_app (goodIn_r _ [17, 18, 19, 8] rfl (by decide +kernel)) ggX5_tryOut_X0_goOn
def tb_cX5_tryOut_91 : List (Nat × (Instr × Nat)) := [(0, (.aload_n 0, 1)), (1, (.getfield 42, 3)), (4, (.iload_n 2, 1)), (5, (.aload_n 0, 1)), (6, (.getfield 45, 3)), (9, (.iload_n 3, 1)), (10, (.aload_n 0, 1)), (11, (.getfield 48, 3)), (14, (.invokevirtual 156, 3)), (17, (.aload_n 0, 1)), (18, (.getfield 42, 3)), (21, (.aload_n 1, 1)), (22, (.aload_n 0, 1)), (23, (.getfield 24, 3)), (26, (.iload 4, 2)), (28, (.invokevirtual 160, 3)), (31, (.return_, 1))]
set_option maxRecDepth 20000 in
theorem ta_cX5_tryOut_91 : ∀ q ∈ tb_cX5_tryOut_91, decode cX5_tryOut q.1 = .ok q.2 := by decide +kernel
theorem dX5_tryOut_0 : decode cX5_tryOut 0 = .ok (.aload_n 0, 1) := ta_cX5_tryOut_91 (0, (.aload_n 0, 1)) (List.mem_of_getElem? (i := 0) rfl)
theorem dX5_tryOut_1 : decode cX5_tryOut 1 = .ok (.getfield 42, 3) := ta_cX5_tryOut_91 (1, (.getfield 42, 3)) (List.mem_of_getElem? (i := 1) rfl)
theorem dX5_tryOut_4 : decode cX5_tryOut 4 = .ok (.iload_n 2, 1) := ta_cX5_tryOut_91 (4, (.iload_n 2, 1)) (List.mem_of_getElem? (i := 2) rfl)
theorem dX5_tryOut_5 : decode cX5_tryOut 5 = .ok (.aload_n 0, 1) := ta_cX5_tryOut_91 (5, (.aload_n 0, 1)) (List.mem_of_getElem? (i := 3) rfl)
theorem dX5_tryOut_6 : decode cX5_tryOut 6 = .ok (.getfield 45, 3) := ta_cX5_tryOut_91 (6, (.getfield 45, 3)) (List.mem_of_getElem? (i := 4) rfl)
theorem dX5_tryOut_9 : decode cX5_tryOut 9 = .ok (.iload_n 3, 1) := ta_cX5_tryOut_91 (9, (.iload_n 3, 1)) (List.mem_of_getElem? (i := 5) rfl)
theorem dX5_tryOut_10 : decode cX5_tryOut 10 = .ok (.aload_n 0, 1) := ta_cX5_tryOut_91 (10, (.aload_n 0, 1)) (List.mem_of_getElem? (i := 6) rfl)
theorem dX5_tryOut_11 : decode cX5_tryOut 11 = .ok (.getfield 48, 3) := ta_cX5_tryOut_91 (11, (.getfield 48, 3)) (List.mem_of_getElem? (i := 7) rfl)
theorem dX5_tryOut_14 : decode cX5_tryOut 14 = .ok (.invokevirtual 156, 3) := ta_cX5_tryOut_91 (14, (.invokevirtual 156, 3)) (List.mem_of_getElem? (i := 8) rfl)
theorem dX5_tryOut_17 : decode cX5_tryOut 17 = .ok (.aload_n 0, 1) := ta_cX5_tryOut_91 (17, (.aload_n 0, 1)) (List.mem_of_getElem? (i := 9) rfl)
theorem dX5_tryOut_18 : decode cX5_tryOut 18 = .ok (.getfield 42, 3) := ta_cX5_tryOut_91 (18, (.getfield 42, 3)) (List.mem_of_getElem? (i := 10) rfl)
theorem dX5_tryOut_21 : decode cX5_tryOut 21 = .ok (.aload_n 1, 1) := ta_cX5_tryOut_91 (21, (.aload_n 1, 1)) (List.mem_of_getElem? (i := 11) rfl)
theorem dX5_tryOut_22 : decode cX5_tryOut 22 = .ok (.aload_n 0, 1) := ta_cX5_tryOut_91 (22, (.aload_n 0, 1)) (List.mem_of_getElem? (i := 12) rfl)
theorem dX5_tryOut_23 : decode cX5_tryOut 23 = .ok (.getfield 24, 3) := ta_cX5_tryOut_91 (23, (.getfield 24, 3)) (List.mem_of_getElem? (i := 13) rfl)
theorem dX5_tryOut_26 : decode cX5_tryOut 26 = .ok (.iload 4, 2) := ta_cX5_tryOut_91 (26, (.iload 4, 2)) (List.mem_of_getElem? (i := 14) rfl)
theorem dX5_tryOut_28 : decode cX5_tryOut 28 = .ok (.invokevirtual 160, 3) := ta_cX5_tryOut_91 (28, (.invokevirtual 160, 3)) (List.mem_of_getElem? (i := 15) rfl)
theorem dX5_tryOut_31 : decode cX5_tryOut 31 = .ok (.return_, 1) := ta_cX5_tryOut_91 (31, (.return_, 1)) (List.mem_of_getElem? (i := 16) rfl)
set_option maxRecDepth 20000 in
theorem ggX5_countOf_X5_tryOut : GoodIn wsX5_countOf wsX5_tryOut := goodIn_r _ [6, 1, 7, 8, 9, 10, 11, 12, 13, 14, 15, 16, 17, 18, 19, 20, 21, 22, 23, 24, 25, 26, 27, 28, 29, 30, 31, 32, 33, 34, 35, 36, 37, 38, 39, 40, 41, 42, 43, 44, 45, 46, 47, 5, 48, 49, 50, 51, 52, 53, 54, 55, 56, 57, 58, 59, 60, 73, 74, 75, 76, 77, 78, 79, 80, 81, 82, 83, 84, 85, 86, 87, 88, 89, 90, 91, 92, 93, 94, 95, 96, 97, 98, 99, 100, 101, 102, 103, 104, 105, 106, 107] rfl (by decide +kernel)
set_option maxRecDepth 20000 in
theorem gX5_countOf_X5_tryOut : GoodIn wsX5_countOf (wsV RX5 210 RX5 yX5_tryOut wsX5_tryOut) := goodIn_app (goodIn_r _ [2, 3, 4, 5] rfl (by decide +kernel)) ggX5_countOf_X5_tryOut
set_option maxRecDepth 20000 in
theorem ggX5_countOf_X0_counted : GoodIn wsX5_countOf wsX0_counted := goodIn_r _ [64, 21, 65, 66, 67, 13, 68, 56, 69, 70, 71, 72, 86, 87, 88, 89, 90, 91, 92, 93] rfl (by decide +kernel)
set_option maxRecDepth 20000 in
theorem gX5_countOf_X0_counted : GoodIn wsX5_countOf (wsV RX5 177 RX0 yX0_counted wsX0_counted) := goodIn_app (goodIn_r _ [61, 62, 63, 13] rfl (by decide +kernel)) ggX5_countOf_X0_counted
def tb_cX5_countOf_92 : List (Nat × (Instr × Nat)) := [(0, (.aload_n 0, 1)), (1, (.aload_n 1, 1)), (2, (.iload_n 2, 1)), (3, (.iload_n 3, 1)), (4, (.iload 5, 2)), (6, (.invokevirtual 210, 3)), (9, (.aload_n 0, 1)), (10, (.getfield 42, 3)), (13, (.iload 4, 2)), (15, (.invokevirtual 177, 3)), (18, (.ireturn, 1))]
set_option maxRecDepth 20000 in
theorem ta_cX5_countOf_92 : ∀ q ∈ tb_cX5_countOf_92, decode cX5_countOf q.1 = .ok q.2 := by decide +kernel
theorem dX5_countOf_0 : decode cX5_countOf 0 = .ok (.aload_n 0, 1) := ta_cX5_countOf_92 (0, (.aload_n 0, 1)) (List.mem_of_getElem? (i := 0) rfl)
theorem dX5_countOf_1 : decode cX5_countOf 1 = .ok (.aload_n 1, 1) := ta_cX5_countOf_92 (1, (.aload_n 1, 1)) (List.mem_of_getElem? (i := 1) rfl)
theorem dX5_countOf_2 : decode cX5_countOf 2 = .ok (.iload_n 2, 1) := ta_cX5_countOf_92 (2, (.iload_n 2, 1)) (List.mem_of_getElem? (i := 2) rfl)
theorem dX5_countOf_3 : decode cX5_countOf 3 = .ok (.iload_n 3, 1) := ta_cX5_countOf_92 (3, (.iload_n 3, 1)) (List.mem_of_getElem? (i := 3) rfl)
theorem dX5_countOf_4 : decode cX5_countOf 4 = .ok (.iload 5, 2) := ta_cX5_countOf_92 (4, (.iload 5, 2)) (List.mem_of_getElem? (i := 4) rfl)
theorem dX5_countOf_6 : decode cX5_countOf 6 = .ok (.invokevirtual 210, 3) := ta_cX5_countOf_92 (6, (.invokevirtual 210, 3)) (List.mem_of_getElem? (i := 5) rfl)
theorem dX5_countOf_9 : decode cX5_countOf 9 = .ok (.aload_n 0, 1) := ta_cX5_countOf_92 (9, (.aload_n 0, 1)) (List.mem_of_getElem? (i := 6) rfl)
theorem dX5_countOf_10 : decode cX5_countOf 10 = .ok (.getfield 42, 3) := ta_cX5_countOf_92 (10, (.getfield 42, 3)) (List.mem_of_getElem? (i := 7) rfl)
theorem dX5_countOf_13 : decode cX5_countOf 13 = .ok (.iload 4, 2) := ta_cX5_countOf_92 (13, (.iload 4, 2)) (List.mem_of_getElem? (i := 8) rfl)
theorem dX5_countOf_15 : decode cX5_countOf 15 = .ok (.invokevirtual 177, 3) := ta_cX5_countOf_92 (15, (.invokevirtual 177, 3)) (List.mem_of_getElem? (i := 9) rfl)
theorem dX5_countOf_18 : decode cX5_countOf 18 = .ok (.ireturn, 1) := ta_cX5_countOf_92 (18, (.ireturn, 1)) (List.mem_of_getElem? (i := 10) rfl)
set_option maxRecDepth 20000 in
theorem ggX5_hits_X5_countOf : GoodIn wsX5_hits wsX5_countOf := goodIn_r _ [7, 8, 9, 10, 11, 6, 12, 13, 14, 1, 15, 16, 17, 18, 19, 20, 21, 22, 23, 24, 25, 26, 27, 28, 29, 30, 31, 32, 33, 34, 35, 36, 37, 38, 39, 40, 41, 42, 43, 44, 45, 46, 47, 48, 49, 50, 51, 52, 53, 54, 55, 56, 57, 58, 59, 60, 61, 62, 63, 64, 65, 66, 67, 68, 69, 70, 71, 72, 73, 74, 75, 76, 77, 78, 79, 80, 81, 82, 83, 84, 85, 86, 87, 88, 89, 90, 100, 101, 102, 103, 104, 105, 106, 107, 91, 92, 93, 94, 95, 96, 97, 98, 99, 108, 109, 110, 111, 112] rfl (by decide +kernel)
set_option maxRecDepth 20000 in
theorem gX5_hits_X5_countOf : GoodIn wsX5_hits (wsV RX5 189 RX5 yX5_countOf wsX5_countOf) := goodIn_app (goodIn_r _ [3, 4, 5, 6] rfl (by decide +kernel)) ggX5_hits_X5_countOf
def tb_cX5_hits_93 : List (Nat × (Instr × Nat)) := [(0, (.iconst 0, 1)), (1, (.istore 8, 2)), (3, (.iload_n 2, 1)), (4, (.istore 9, 2)), (6, (.iload 9, 2)), (8, (.iload_n 2, 1)), (9, (.iload_n 3, 1)), (10, (.iadd, 1)), (11, (.if_icmp .gt 55, 3)), (14, (.iload 4, 2)), (16, (.istore 10, 2)), (18, (.iload 10, 2)), (20, (.iload 4, 2)), (22, (.iload 5, 2)), (24, (.iadd, 1)), (25, (.if_icmp .gt 35, 3)), (28, (.aload_n 0, 1)), (29, (.aload_n 1, 1)), (30, (.iload 9, 2)), (32, (.iload 10, 2)), (34, (.iload 6, 2)), (36, (.aload_n 0, 1)), (37, (.getfield 24, 3)), (40, (.getfield 148, 3)), (43, (.invokevirtual 189, 3)), (46, (.iload 7, 2)), (48, (.if_icmp .lt 6, 3)), (51, (.iinc 8 1, 3)), (54, (.iinc 10 1, 3)), (57, (.goto (-39), 3)), (60, (.iinc 9 1, 3)), (63, (.goto (-57), 3)), (66, (.iload 8, 2)), (68, (.ireturn, 1))]
set_option maxRecDepth 20000 in
theorem ta_cX5_hits_93 : ∀ q ∈ tb_cX5_hits_93, decode cX5_hits q.1 = .ok q.2 := by decide +kernel
theorem dX5_hits_0 : decode cX5_hits 0 = .ok (.iconst 0, 1) := ta_cX5_hits_93 (0, (.iconst 0, 1)) (List.mem_of_getElem? (i := 0) rfl)
theorem dX5_hits_1 : decode cX5_hits 1 = .ok (.istore 8, 2) := ta_cX5_hits_93 (1, (.istore 8, 2)) (List.mem_of_getElem? (i := 1) rfl)
theorem dX5_hits_3 : decode cX5_hits 3 = .ok (.iload_n 2, 1) := ta_cX5_hits_93 (3, (.iload_n 2, 1)) (List.mem_of_getElem? (i := 2) rfl)
theorem dX5_hits_4 : decode cX5_hits 4 = .ok (.istore 9, 2) := ta_cX5_hits_93 (4, (.istore 9, 2)) (List.mem_of_getElem? (i := 3) rfl)
theorem dX5_hits_6 : decode cX5_hits 6 = .ok (.iload 9, 2) := ta_cX5_hits_93 (6, (.iload 9, 2)) (List.mem_of_getElem? (i := 4) rfl)
theorem dX5_hits_8 : decode cX5_hits 8 = .ok (.iload_n 2, 1) := ta_cX5_hits_93 (8, (.iload_n 2, 1)) (List.mem_of_getElem? (i := 5) rfl)
theorem dX5_hits_9 : decode cX5_hits 9 = .ok (.iload_n 3, 1) := ta_cX5_hits_93 (9, (.iload_n 3, 1)) (List.mem_of_getElem? (i := 6) rfl)
theorem dX5_hits_10 : decode cX5_hits 10 = .ok (.iadd, 1) := ta_cX5_hits_93 (10, (.iadd, 1)) (List.mem_of_getElem? (i := 7) rfl)
theorem dX5_hits_11 : decode cX5_hits 11 = .ok (.if_icmp .gt 55, 3) := ta_cX5_hits_93 (11, (.if_icmp .gt 55, 3)) (List.mem_of_getElem? (i := 8) rfl)
theorem dX5_hits_14 : decode cX5_hits 14 = .ok (.iload 4, 2) := ta_cX5_hits_93 (14, (.iload 4, 2)) (List.mem_of_getElem? (i := 9) rfl)
theorem dX5_hits_16 : decode cX5_hits 16 = .ok (.istore 10, 2) := ta_cX5_hits_93 (16, (.istore 10, 2)) (List.mem_of_getElem? (i := 10) rfl)
theorem dX5_hits_18 : decode cX5_hits 18 = .ok (.iload 10, 2) := ta_cX5_hits_93 (18, (.iload 10, 2)) (List.mem_of_getElem? (i := 11) rfl)
theorem dX5_hits_20 : decode cX5_hits 20 = .ok (.iload 4, 2) := ta_cX5_hits_93 (20, (.iload 4, 2)) (List.mem_of_getElem? (i := 12) rfl)
theorem dX5_hits_22 : decode cX5_hits 22 = .ok (.iload 5, 2) := ta_cX5_hits_93 (22, (.iload 5, 2)) (List.mem_of_getElem? (i := 13) rfl)
theorem dX5_hits_24 : decode cX5_hits 24 = .ok (.iadd, 1) := ta_cX5_hits_93 (24, (.iadd, 1)) (List.mem_of_getElem? (i := 14) rfl)
theorem dX5_hits_25 : decode cX5_hits 25 = .ok (.if_icmp .gt 35, 3) := ta_cX5_hits_93 (25, (.if_icmp .gt 35, 3)) (List.mem_of_getElem? (i := 15) rfl)
theorem dX5_hits_28 : decode cX5_hits 28 = .ok (.aload_n 0, 1) := ta_cX5_hits_93 (28, (.aload_n 0, 1)) (List.mem_of_getElem? (i := 16) rfl)
theorem dX5_hits_29 : decode cX5_hits 29 = .ok (.aload_n 1, 1) := ta_cX5_hits_93 (29, (.aload_n 1, 1)) (List.mem_of_getElem? (i := 17) rfl)
theorem dX5_hits_30 : decode cX5_hits 30 = .ok (.iload 9, 2) := ta_cX5_hits_93 (30, (.iload 9, 2)) (List.mem_of_getElem? (i := 18) rfl)
theorem dX5_hits_32 : decode cX5_hits 32 = .ok (.iload 10, 2) := ta_cX5_hits_93 (32, (.iload 10, 2)) (List.mem_of_getElem? (i := 19) rfl)
theorem dX5_hits_34 : decode cX5_hits 34 = .ok (.iload 6, 2) := ta_cX5_hits_93 (34, (.iload 6, 2)) (List.mem_of_getElem? (i := 20) rfl)
theorem dX5_hits_36 : decode cX5_hits 36 = .ok (.aload_n 0, 1) := ta_cX5_hits_93 (36, (.aload_n 0, 1)) (List.mem_of_getElem? (i := 21) rfl)
theorem dX5_hits_37 : decode cX5_hits 37 = .ok (.getfield 24, 3) := ta_cX5_hits_93 (37, (.getfield 24, 3)) (List.mem_of_getElem? (i := 22) rfl)
theorem dX5_hits_40 : decode cX5_hits 40 = .ok (.getfield 148, 3) := ta_cX5_hits_93 (40, (.getfield 148, 3)) (List.mem_of_getElem? (i := 23) rfl)
theorem dX5_hits_43 : decode cX5_hits 43 = .ok (.invokevirtual 189, 3) := ta_cX5_hits_93 (43, (.invokevirtual 189, 3)) (List.mem_of_getElem? (i := 24) rfl)
theorem dX5_hits_46 : decode cX5_hits 46 = .ok (.iload 7, 2) := ta_cX5_hits_93 (46, (.iload 7, 2)) (List.mem_of_getElem? (i := 25) rfl)
theorem dX5_hits_48 : decode cX5_hits 48 = .ok (.if_icmp .lt 6, 3) := ta_cX5_hits_93 (48, (.if_icmp .lt 6, 3)) (List.mem_of_getElem? (i := 26) rfl)
theorem dX5_hits_51 : decode cX5_hits 51 = .ok (.iinc 8 1, 3) := ta_cX5_hits_93 (51, (.iinc 8 1, 3)) (List.mem_of_getElem? (i := 27) rfl)
theorem dX5_hits_54 : decode cX5_hits 54 = .ok (.iinc 10 1, 3) := ta_cX5_hits_93 (54, (.iinc 10 1, 3)) (List.mem_of_getElem? (i := 28) rfl)
theorem dX5_hits_57 : decode cX5_hits 57 = .ok (.goto (-39), 3) := ta_cX5_hits_93 (57, (.goto (-39), 3)) (List.mem_of_getElem? (i := 29) rfl)
theorem dX5_hits_60 : decode cX5_hits 60 = .ok (.iinc 9 1, 3) := ta_cX5_hits_93 (60, (.iinc 9 1, 3)) (List.mem_of_getElem? (i := 30) rfl)
theorem dX5_hits_63 : decode cX5_hits 63 = .ok (.goto (-57), 3) := ta_cX5_hits_93 (63, (.goto (-57), 3)) (List.mem_of_getElem? (i := 31) rfl)
theorem dX5_hits_66 : decode cX5_hits 66 = .ok (.iload 8, 2) := ta_cX5_hits_93 (66, (.iload 8, 2)) (List.mem_of_getElem? (i := 32) rfl)
theorem dX5_hits_68 : decode cX5_hits 68 = .ok (.ireturn, 1) := ta_cX5_hits_93 (68, (.ireturn, 1)) (List.mem_of_getElem? (i := 33) rfl)
set_option maxRecDepth 20000 in
theorem ggX5_share_X5_commonDivisor : GoodIn wsX5_share wsX5_commonDivisor := goodIn_r _ [5] rfl (by decide +kernel)
set_option maxRecDepth 20000 in
theorem gX5_share_X5_commonDivisor : GoodIn wsX5_share (va_wsS RX5 287 yX5_commonDivisor wsX5_commonDivisor) := goodIn_app (goodIn_r _ [2, 3, 4] rfl (by decide +kernel)) ggX5_share_X5_commonDivisor
def tb_cX5_share_94 : List (Nat × (Instr × Nat)) := [(0, (.lload_n 0, 1)), (1, (.lload_n 2, 1)), (2, (.invokestatic 287, 3)), (5, (.lstore 5, 2)), (7, (.lload 5, 2)), (9, (.lconst 1, 1)), (10, (.lcmp, 1)), (11, (.ifCond .ge 7, 3)), (14, (.ldc2_w 196, 3)), (17, (.lreturn, 1)), (18, (.iload 4, 2)), (20, (.ifCond .ne 10, 3)), (23, (.lload_n 0, 1)), (24, (.lload 5, 2)), (26, (.ldiv, 1)), (27, (.goto 7, 3)), (30, (.lload_n 2, 1)), (31, (.lload 5, 2)), (33, (.ldiv, 1)), (34, (.lreturn, 1))]
set_option maxRecDepth 20000 in
theorem ta_cX5_share_94 : ∀ q ∈ tb_cX5_share_94, decode cX5_share q.1 = .ok q.2 := by decide +kernel
theorem dX5_share_0 : decode cX5_share 0 = .ok (.lload_n 0, 1) := ta_cX5_share_94 (0, (.lload_n 0, 1)) (List.mem_of_getElem? (i := 0) rfl)
theorem dX5_share_1 : decode cX5_share 1 = .ok (.lload_n 2, 1) := ta_cX5_share_94 (1, (.lload_n 2, 1)) (List.mem_of_getElem? (i := 1) rfl)
theorem dX5_share_2 : decode cX5_share 2 = .ok (.invokestatic 287, 3) := ta_cX5_share_94 (2, (.invokestatic 287, 3)) (List.mem_of_getElem? (i := 2) rfl)
theorem dX5_share_5 : decode cX5_share 5 = .ok (.lstore 5, 2) := ta_cX5_share_94 (5, (.lstore 5, 2)) (List.mem_of_getElem? (i := 3) rfl)
theorem dX5_share_7 : decode cX5_share 7 = .ok (.lload 5, 2) := ta_cX5_share_94 (7, (.lload 5, 2)) (List.mem_of_getElem? (i := 4) rfl)
theorem dX5_share_9 : decode cX5_share 9 = .ok (.lconst 1, 1) := ta_cX5_share_94 (9, (.lconst 1, 1)) (List.mem_of_getElem? (i := 5) rfl)
theorem dX5_share_10 : decode cX5_share 10 = .ok (.lcmp, 1) := ta_cX5_share_94 (10, (.lcmp, 1)) (List.mem_of_getElem? (i := 6) rfl)
theorem dX5_share_11 : decode cX5_share 11 = .ok (.ifCond .ge 7, 3) := ta_cX5_share_94 (11, (.ifCond .ge 7, 3)) (List.mem_of_getElem? (i := 7) rfl)
theorem dX5_share_14 : decode cX5_share 14 = .ok (.ldc2_w 196, 3) := ta_cX5_share_94 (14, (.ldc2_w 196, 3)) (List.mem_of_getElem? (i := 8) rfl)
theorem dX5_share_17 : decode cX5_share 17 = .ok (.lreturn, 1) := ta_cX5_share_94 (17, (.lreturn, 1)) (List.mem_of_getElem? (i := 9) rfl)
theorem dX5_share_18 : decode cX5_share 18 = .ok (.iload 4, 2) := ta_cX5_share_94 (18, (.iload 4, 2)) (List.mem_of_getElem? (i := 10) rfl)
theorem dX5_share_20 : decode cX5_share 20 = .ok (.ifCond .ne 10, 3) := ta_cX5_share_94 (20, (.ifCond .ne 10, 3)) (List.mem_of_getElem? (i := 11) rfl)
theorem dX5_share_23 : decode cX5_share 23 = .ok (.lload_n 0, 1) := ta_cX5_share_94 (23, (.lload_n 0, 1)) (List.mem_of_getElem? (i := 12) rfl)
theorem dX5_share_24 : decode cX5_share 24 = .ok (.lload 5, 2) := ta_cX5_share_94 (24, (.lload 5, 2)) (List.mem_of_getElem? (i := 13) rfl)
theorem dX5_share_26 : decode cX5_share 26 = .ok (.ldiv, 1) := ta_cX5_share_94 (26, (.ldiv, 1)) (List.mem_of_getElem? (i := 14) rfl)
theorem dX5_share_27 : decode cX5_share 27 = .ok (.goto 7, 3) := ta_cX5_share_94 (27, (.goto 7, 3)) (List.mem_of_getElem? (i := 15) rfl)
theorem dX5_share_30 : decode cX5_share 30 = .ok (.lload_n 2, 1) := ta_cX5_share_94 (30, (.lload_n 2, 1)) (List.mem_of_getElem? (i := 16) rfl)
theorem dX5_share_31 : decode cX5_share 31 = .ok (.lload 5, 2) := ta_cX5_share_94 (31, (.lload 5, 2)) (List.mem_of_getElem? (i := 17) rfl)
theorem dX5_share_33 : decode cX5_share 33 = .ok (.ldiv, 1) := ta_cX5_share_94 (33, (.ldiv, 1)) (List.mem_of_getElem? (i := 18) rfl)
theorem dX5_share_34 : decode cX5_share 34 = .ok (.lreturn, 1) := ta_cX5_share_94 (34, (.lreturn, 1)) (List.mem_of_getElem? (i := 19) rfl)
def tb_cX5_commonDivisor_95 : List (Nat × (Instr × Nat)) := [(0, (.iconst 0, 1)), (1, (.istore 4, 2)), (3, (.iload 4, 2)), (5, (.sipush 200, 3)), (8, (.if_icmp .ge 25, 3)), (11, (.lload_n 2, 1)), (12, (.lconst 0, 1)), (13, (.lcmp, 1)), (14, (.ifCond .eq 19, 3)), (17, (.lload_n 0, 1)), (18, (.lload_n 2, 1)), (19, (.lrem, 1)), (20, (.lstore 5, 2)), (22, (.lload_n 2, 1)), (23, (.lstore_n 0, 1)), (24, (.lload 5, 2)), (26, (.lstore_n 2, 1)), (27, (.iinc 4 1, 3)), (30, (.goto (-27), 3)), (33, (.lload_n 0, 1)), (34, (.lreturn, 1))]
set_option maxRecDepth 20000 in
theorem ta_cX5_commonDivisor_95 : ∀ q ∈ tb_cX5_commonDivisor_95, decode cX5_commonDivisor q.1 = .ok q.2 := by decide +kernel
theorem dX5_commonDivisor_0 : decode cX5_commonDivisor 0 = .ok (.iconst 0, 1) := ta_cX5_commonDivisor_95 (0, (.iconst 0, 1)) (List.mem_of_getElem? (i := 0) rfl)
theorem dX5_commonDivisor_1 : decode cX5_commonDivisor 1 = .ok (.istore 4, 2) := ta_cX5_commonDivisor_95 (1, (.istore 4, 2)) (List.mem_of_getElem? (i := 1) rfl)
theorem dX5_commonDivisor_3 : decode cX5_commonDivisor 3 = .ok (.iload 4, 2) := ta_cX5_commonDivisor_95 (3, (.iload 4, 2)) (List.mem_of_getElem? (i := 2) rfl)
theorem dX5_commonDivisor_5 : decode cX5_commonDivisor 5 = .ok (.sipush 200, 3) := ta_cX5_commonDivisor_95 (5, (.sipush 200, 3)) (List.mem_of_getElem? (i := 3) rfl)
theorem dX5_commonDivisor_8 : decode cX5_commonDivisor 8 = .ok (.if_icmp .ge 25, 3) := ta_cX5_commonDivisor_95 (8, (.if_icmp .ge 25, 3)) (List.mem_of_getElem? (i := 4) rfl)
theorem dX5_commonDivisor_11 : decode cX5_commonDivisor 11 = .ok (.lload_n 2, 1) := ta_cX5_commonDivisor_95 (11, (.lload_n 2, 1)) (List.mem_of_getElem? (i := 5) rfl)
theorem dX5_commonDivisor_12 : decode cX5_commonDivisor 12 = .ok (.lconst 0, 1) := ta_cX5_commonDivisor_95 (12, (.lconst 0, 1)) (List.mem_of_getElem? (i := 6) rfl)
theorem dX5_commonDivisor_13 : decode cX5_commonDivisor 13 = .ok (.lcmp, 1) := ta_cX5_commonDivisor_95 (13, (.lcmp, 1)) (List.mem_of_getElem? (i := 7) rfl)
theorem dX5_commonDivisor_14 : decode cX5_commonDivisor 14 = .ok (.ifCond .eq 19, 3) := ta_cX5_commonDivisor_95 (14, (.ifCond .eq 19, 3)) (List.mem_of_getElem? (i := 8) rfl)
theorem dX5_commonDivisor_17 : decode cX5_commonDivisor 17 = .ok (.lload_n 0, 1) := ta_cX5_commonDivisor_95 (17, (.lload_n 0, 1)) (List.mem_of_getElem? (i := 9) rfl)
theorem dX5_commonDivisor_18 : decode cX5_commonDivisor 18 = .ok (.lload_n 2, 1) := ta_cX5_commonDivisor_95 (18, (.lload_n 2, 1)) (List.mem_of_getElem? (i := 10) rfl)
theorem dX5_commonDivisor_19 : decode cX5_commonDivisor 19 = .ok (.lrem, 1) := ta_cX5_commonDivisor_95 (19, (.lrem, 1)) (List.mem_of_getElem? (i := 11) rfl)
theorem dX5_commonDivisor_20 : decode cX5_commonDivisor 20 = .ok (.lstore 5, 2) := ta_cX5_commonDivisor_95 (20, (.lstore 5, 2)) (List.mem_of_getElem? (i := 12) rfl)
theorem dX5_commonDivisor_22 : decode cX5_commonDivisor 22 = .ok (.lload_n 2, 1) := ta_cX5_commonDivisor_95 (22, (.lload_n 2, 1)) (List.mem_of_getElem? (i := 13) rfl)
theorem dX5_commonDivisor_23 : decode cX5_commonDivisor 23 = .ok (.lstore_n 0, 1) := ta_cX5_commonDivisor_95 (23, (.lstore_n 0, 1)) (List.mem_of_getElem? (i := 14) rfl)
theorem dX5_commonDivisor_24 : decode cX5_commonDivisor 24 = .ok (.lload 5, 2) := ta_cX5_commonDivisor_95 (24, (.lload 5, 2)) (List.mem_of_getElem? (i := 15) rfl)
theorem dX5_commonDivisor_26 : decode cX5_commonDivisor 26 = .ok (.lstore_n 2, 1) := ta_cX5_commonDivisor_95 (26, (.lstore_n 2, 1)) (List.mem_of_getElem? (i := 16) rfl)
theorem dX5_commonDivisor_27 : decode cX5_commonDivisor 27 = .ok (.iinc 4 1, 3) := ta_cX5_commonDivisor_95 (27, (.iinc 4 1, 3)) (List.mem_of_getElem? (i := 17) rfl)
theorem dX5_commonDivisor_30 : decode cX5_commonDivisor 30 = .ok (.goto (-27), 3) := ta_cX5_commonDivisor_95 (30, (.goto (-27), 3)) (List.mem_of_getElem? (i := 18) rfl)
theorem dX5_commonDivisor_33 : decode cX5_commonDivisor 33 = .ok (.lload_n 0, 1) := ta_cX5_commonDivisor_95 (33, (.lload_n 0, 1)) (List.mem_of_getElem? (i := 19) rfl)
theorem dX5_commonDivisor_34 : decode cX5_commonDivisor 34 = .ok (.lreturn, 1) := ta_cX5_commonDivisor_95 (34, (.lreturn, 1)) (List.mem_of_getElem? (i := 20) rfl)
def tb_cX5_power_96 : List (Nat × (Instr × Nat)) := [(0, (.lconst 1, 1)), (1, (.lstore_n 3, 1)), (2, (.iconst 0, 1)), (3, (.istore 5, 2)), (5, (.iload 5, 2)), (7, (.iload_n 2, 1)), (8, (.if_icmp .ge 20, 3)), (11, (.iload 5, 2)), (13, (.bipush 6, 2)), (15, (.if_icmp .ge 13, 3)), (18, (.lload_n 3, 1)), (19, (.lload_n 0, 1)), (20, (.lmul, 1)), (21, (.lstore_n 3, 1)), (22, (.iinc 5 1, 3)), (25, (.goto (-20), 3)), (28, (.lload_n 3, 1)), (29, (.lreturn, 1))]
set_option maxRecDepth 20000 in
theorem ta_cX5_power_96 : ∀ q ∈ tb_cX5_power_96, decode cX5_power q.1 = .ok q.2 := by decide +kernel
theorem dX5_power_0 : decode cX5_power 0 = .ok (.lconst 1, 1) := ta_cX5_power_96 (0, (.lconst 1, 1)) (List.mem_of_getElem? (i := 0) rfl)
theorem dX5_power_1 : decode cX5_power 1 = .ok (.lstore_n 3, 1) := ta_cX5_power_96 (1, (.lstore_n 3, 1)) (List.mem_of_getElem? (i := 1) rfl)
theorem dX5_power_2 : decode cX5_power 2 = .ok (.iconst 0, 1) := ta_cX5_power_96 (2, (.iconst 0, 1)) (List.mem_of_getElem? (i := 2) rfl)
theorem dX5_power_3 : decode cX5_power 3 = .ok (.istore 5, 2) := ta_cX5_power_96 (3, (.istore 5, 2)) (List.mem_of_getElem? (i := 3) rfl)
theorem dX5_power_5 : decode cX5_power 5 = .ok (.iload 5, 2) := ta_cX5_power_96 (5, (.iload 5, 2)) (List.mem_of_getElem? (i := 4) rfl)
theorem dX5_power_7 : decode cX5_power 7 = .ok (.iload_n 2, 1) := ta_cX5_power_96 (7, (.iload_n 2, 1)) (List.mem_of_getElem? (i := 5) rfl)
theorem dX5_power_8 : decode cX5_power 8 = .ok (.if_icmp .ge 20, 3) := ta_cX5_power_96 (8, (.if_icmp .ge 20, 3)) (List.mem_of_getElem? (i := 6) rfl)
theorem dX5_power_11 : decode cX5_power 11 = .ok (.iload 5, 2) := ta_cX5_power_96 (11, (.iload 5, 2)) (List.mem_of_getElem? (i := 7) rfl)
theorem dX5_power_13 : decode cX5_power 13 = .ok (.bipush 6, 2) := ta_cX5_power_96 (13, (.bipush 6, 2)) (List.mem_of_getElem? (i := 8) rfl)
theorem dX5_power_15 : decode cX5_power 15 = .ok (.if_icmp .ge 13, 3) := ta_cX5_power_96 (15, (.if_icmp .ge 13, 3)) (List.mem_of_getElem? (i := 9) rfl)
theorem dX5_power_18 : decode cX5_power 18 = .ok (.lload_n 3, 1) := ta_cX5_power_96 (18, (.lload_n 3, 1)) (List.mem_of_getElem? (i := 10) rfl)
theorem dX5_power_19 : decode cX5_power 19 = .ok (.lload_n 0, 1) := ta_cX5_power_96 (19, (.lload_n 0, 1)) (List.mem_of_getElem? (i := 11) rfl)
theorem dX5_power_20 : decode cX5_power 20 = .ok (.lmul, 1) := ta_cX5_power_96 (20, (.lmul, 1)) (List.mem_of_getElem? (i := 12) rfl)
theorem dX5_power_21 : decode cX5_power 21 = .ok (.lstore_n 3, 1) := ta_cX5_power_96 (21, (.lstore_n 3, 1)) (List.mem_of_getElem? (i := 13) rfl)
theorem dX5_power_22 : decode cX5_power 22 = .ok (.iinc 5 1, 3) := ta_cX5_power_96 (22, (.iinc 5 1, 3)) (List.mem_of_getElem? (i := 14) rfl)
theorem dX5_power_25 : decode cX5_power 25 = .ok (.goto (-20), 3) := ta_cX5_power_96 (25, (.goto (-20), 3)) (List.mem_of_getElem? (i := 15) rfl)
theorem dX5_power_28 : decode cX5_power 28 = .ok (.lload_n 3, 1) := ta_cX5_power_96 (28, (.lload_n 3, 1)) (List.mem_of_getElem? (i := 16) rfl)
theorem dX5_power_29 : decode cX5_power 29 = .ok (.lreturn, 1) := ta_cX5_power_96 (29, (.lreturn, 1)) (List.mem_of_getElem? (i := 17) rfl)
set_option maxRecDepth 20000 in
theorem ggX5_lyingBelow_X5_stoneAt : GoodIn wsX5_lyingBelow wsX5_stoneAt := goodIn_r _ [8, 1, 9, 10, 11, 12, 13, 14, 15, 16, 17, 18, 19, 20, 21, 22] rfl (by decide +kernel)
set_option maxRecDepth 20000 in
theorem gX5_lyingBelow_X5_stoneAt : GoodIn wsX5_lyingBelow (wsV RX5 82 RX5 yX5_stoneAt wsX5_stoneAt) := goodIn_app (goodIn_r _ [4, 5, 6, 7] rfl (by decide +kernel)) ggX5_lyingBelow_X5_stoneAt
def tb_cX5_lyingBelow_97 : List (Nat × (Instr × Nat)) := [(0, (.lconst 0, 1)), (1, (.lstore_n 2, 1)), (2, (.iconst 0, 1)), (3, (.istore 4, 2)), (5, (.iload 4, 2)), (7, (.aload_n 0, 1)), (8, (.getfield 17, 3)), (11, (.if_icmp .ge 40, 3)), (14, (.aload_n 0, 1)), (15, (.iload 4, 2)), (17, (.invokevirtual 82, 3)), (20, (.astore 5, 2)), (22, (.aload 5, 2)), (24, (.ifnull 21, 3)), (27, (.aload 5, 2)), (29, (.getfield 98, 3)), (32, (.iload_n 1, 1)), (33, (.if_icmp .ge 12, 3)), (36, (.lload_n 2, 1)), (37, (.aload 5, 2)), (39, (.getfield 95, 3)), (42, (.i2l, 1)), (43, (.ladd, 1)), (44, (.lstore_n 2, 1)), (45, (.iinc 4 1, 3)), (48, (.goto (-43), 3)), (51, (.lload_n 2, 1)), (52, (.lreturn, 1))]
set_option maxRecDepth 20000 in
theorem ta_cX5_lyingBelow_97 : ∀ q ∈ tb_cX5_lyingBelow_97, decode cX5_lyingBelow q.1 = .ok q.2 := by decide +kernel
theorem dX5_lyingBelow_0 : decode cX5_lyingBelow 0 = .ok (.lconst 0, 1) := ta_cX5_lyingBelow_97 (0, (.lconst 0, 1)) (List.mem_of_getElem? (i := 0) rfl)
theorem dX5_lyingBelow_1 : decode cX5_lyingBelow 1 = .ok (.lstore_n 2, 1) := ta_cX5_lyingBelow_97 (1, (.lstore_n 2, 1)) (List.mem_of_getElem? (i := 1) rfl)
theorem dX5_lyingBelow_2 : decode cX5_lyingBelow 2 = .ok (.iconst 0, 1) := ta_cX5_lyingBelow_97 (2, (.iconst 0, 1)) (List.mem_of_getElem? (i := 2) rfl)
theorem dX5_lyingBelow_3 : decode cX5_lyingBelow 3 = .ok (.istore 4, 2) := ta_cX5_lyingBelow_97 (3, (.istore 4, 2)) (List.mem_of_getElem? (i := 3) rfl)
theorem dX5_lyingBelow_5 : decode cX5_lyingBelow 5 = .ok (.iload 4, 2) := ta_cX5_lyingBelow_97 (5, (.iload 4, 2)) (List.mem_of_getElem? (i := 4) rfl)
theorem dX5_lyingBelow_7 : decode cX5_lyingBelow 7 = .ok (.aload_n 0, 1) := ta_cX5_lyingBelow_97 (7, (.aload_n 0, 1)) (List.mem_of_getElem? (i := 5) rfl)
theorem dX5_lyingBelow_8 : decode cX5_lyingBelow 8 = .ok (.getfield 17, 3) := ta_cX5_lyingBelow_97 (8, (.getfield 17, 3)) (List.mem_of_getElem? (i := 6) rfl)
theorem dX5_lyingBelow_11 : decode cX5_lyingBelow 11 = .ok (.if_icmp .ge 40, 3) := ta_cX5_lyingBelow_97 (11, (.if_icmp .ge 40, 3)) (List.mem_of_getElem? (i := 7) rfl)
theorem dX5_lyingBelow_14 : decode cX5_lyingBelow 14 = .ok (.aload_n 0, 1) := ta_cX5_lyingBelow_97 (14, (.aload_n 0, 1)) (List.mem_of_getElem? (i := 8) rfl)
theorem dX5_lyingBelow_15 : decode cX5_lyingBelow 15 = .ok (.iload 4, 2) := ta_cX5_lyingBelow_97 (15, (.iload 4, 2)) (List.mem_of_getElem? (i := 9) rfl)
theorem dX5_lyingBelow_17 : decode cX5_lyingBelow 17 = .ok (.invokevirtual 82, 3) := ta_cX5_lyingBelow_97 (17, (.invokevirtual 82, 3)) (List.mem_of_getElem? (i := 10) rfl)
theorem dX5_lyingBelow_20 : decode cX5_lyingBelow 20 = .ok (.astore 5, 2) := ta_cX5_lyingBelow_97 (20, (.astore 5, 2)) (List.mem_of_getElem? (i := 11) rfl)
theorem dX5_lyingBelow_22 : decode cX5_lyingBelow 22 = .ok (.aload 5, 2) := ta_cX5_lyingBelow_97 (22, (.aload 5, 2)) (List.mem_of_getElem? (i := 12) rfl)
theorem dX5_lyingBelow_24 : decode cX5_lyingBelow 24 = .ok (.ifnull 21, 3) := ta_cX5_lyingBelow_97 (24, (.ifnull 21, 3)) (List.mem_of_getElem? (i := 13) rfl)
theorem dX5_lyingBelow_27 : decode cX5_lyingBelow 27 = .ok (.aload 5, 2) := ta_cX5_lyingBelow_97 (27, (.aload 5, 2)) (List.mem_of_getElem? (i := 14) rfl)
theorem dX5_lyingBelow_29 : decode cX5_lyingBelow 29 = .ok (.getfield 98, 3) := ta_cX5_lyingBelow_97 (29, (.getfield 98, 3)) (List.mem_of_getElem? (i := 15) rfl)
theorem dX5_lyingBelow_32 : decode cX5_lyingBelow 32 = .ok (.iload_n 1, 1) := ta_cX5_lyingBelow_97 (32, (.iload_n 1, 1)) (List.mem_of_getElem? (i := 16) rfl)
theorem dX5_lyingBelow_33 : decode cX5_lyingBelow 33 = .ok (.if_icmp .ge 12, 3) := ta_cX5_lyingBelow_97 (33, (.if_icmp .ge 12, 3)) (List.mem_of_getElem? (i := 17) rfl)
theorem dX5_lyingBelow_36 : decode cX5_lyingBelow 36 = .ok (.lload_n 2, 1) := ta_cX5_lyingBelow_97 (36, (.lload_n 2, 1)) (List.mem_of_getElem? (i := 18) rfl)
theorem dX5_lyingBelow_37 : decode cX5_lyingBelow 37 = .ok (.aload 5, 2) := ta_cX5_lyingBelow_97 (37, (.aload 5, 2)) (List.mem_of_getElem? (i := 19) rfl)
theorem dX5_lyingBelow_39 : decode cX5_lyingBelow 39 = .ok (.getfield 95, 3) := ta_cX5_lyingBelow_97 (39, (.getfield 95, 3)) (List.mem_of_getElem? (i := 20) rfl)
theorem dX5_lyingBelow_42 : decode cX5_lyingBelow 42 = .ok (.i2l, 1) := ta_cX5_lyingBelow_97 (42, (.i2l, 1)) (List.mem_of_getElem? (i := 21) rfl)
theorem dX5_lyingBelow_43 : decode cX5_lyingBelow 43 = .ok (.ladd, 1) := ta_cX5_lyingBelow_97 (43, (.ladd, 1)) (List.mem_of_getElem? (i := 22) rfl)
theorem dX5_lyingBelow_44 : decode cX5_lyingBelow 44 = .ok (.lstore_n 2, 1) := ta_cX5_lyingBelow_97 (44, (.lstore_n 2, 1)) (List.mem_of_getElem? (i := 23) rfl)
theorem dX5_lyingBelow_45 : decode cX5_lyingBelow 45 = .ok (.iinc 4 1, 3) := ta_cX5_lyingBelow_97 (45, (.iinc 4 1, 3)) (List.mem_of_getElem? (i := 24) rfl)
theorem dX5_lyingBelow_48 : decode cX5_lyingBelow 48 = .ok (.goto (-43), 3) := ta_cX5_lyingBelow_97 (48, (.goto (-43), 3)) (List.mem_of_getElem? (i := 25) rfl)
theorem dX5_lyingBelow_51 : decode cX5_lyingBelow 51 = .ok (.lload_n 2, 1) := ta_cX5_lyingBelow_97 (51, (.lload_n 2, 1)) (List.mem_of_getElem? (i := 26) rfl)
theorem dX5_lyingBelow_52 : decode cX5_lyingBelow 52 = .ok (.lreturn, 1) := ta_cX5_lyingBelow_97 (52, (.lreturn, 1)) (List.mem_of_getElem? (i := 27) rfl)
set_option maxRecDepth 20000 in
theorem ggX5_bestWorths_X5_lyingBelow : GoodIn wsX5_bestWorths wsX5_lyingBelow := goodIn_r _ [5, 6, 7, 8, 9, 10, 11, 4, 12, 13, 17, 18, 19, 20, 21, 22, 23, 24, 25, 26, 27, 28, 29, 30, 31, 32, 33, 34] rfl (by decide +kernel)
set_option maxRecDepth 20000 in
theorem gX5_bestWorths_X5_lyingBelow : GoodIn wsX5_bestWorths (wsV RX5 218 RX5 yX5_lyingBelow wsX5_lyingBelow) := goodIn_app (goodIn_r _ [1, 2, 3, 4] rfl (by decide +kernel)) ggX5_bestWorths_X5_lyingBelow
set_option maxRecDepth 20000 in
theorem ggX5_bestWorths_X5_power : GoodIn wsX5_bestWorths wsX5_power := goodIn_r _ [16] rfl (by decide +kernel)
set_option maxRecDepth 20000 in
theorem gX5_bestWorths_X5_power : GoodIn wsX5_bestWorths (va_wsS RX5 225 yX5_power wsX5_power) := goodIn_app (goodIn_r _ [14, 15, 4] rfl (by decide +kernel)) ggX5_bestWorths_X5_power
def tb_cX5_bestWorths_98 : List (Nat × (Instr × Nat)) := [(0, (.aload_n 0, 1)), (1, (.bipush 100, 2)), (3, (.invokevirtual 218, 3)), (6, (.iload_n 1, 1)), (7, (.invokestatic 225, 3)), (10, (.lstore_n 2, 1)), (11, (.lconst 0, 1)), (12, (.lstore 4, 2)), (14, (.iconst 1, 1)), (15, (.istore 6, 2)), (17, (.iload 6, 2)), (19, (.bipush 99, 2)), (21, (.if_icmp .gt 26, 3)), (24, (.lload 4, 2)), (26, (.lload_n 2, 1)), (27, (.aload_n 0, 1)), (28, (.iload 6, 2)), (30, (.invokevirtual 218, 3)), (33, (.iload_n 1, 1)), (34, (.invokestatic 225, 3)), (37, (.lsub, 1)), (38, (.ladd, 1)), (39, (.lstore 4, 2)), (41, (.iinc 6 1, 3)), (44, (.goto (-27), 3)), (47, (.lload 4, 2)), (49, (.lreturn, 1))]
set_option maxRecDepth 20000 in
theorem ta_cX5_bestWorths_98 : ∀ q ∈ tb_cX5_bestWorths_98, decode cX5_bestWorths q.1 = .ok q.2 := by decide +kernel
theorem dX5_bestWorths_0 : decode cX5_bestWorths 0 = .ok (.aload_n 0, 1) := ta_cX5_bestWorths_98 (0, (.aload_n 0, 1)) (List.mem_of_getElem? (i := 0) rfl)
theorem dX5_bestWorths_1 : decode cX5_bestWorths 1 = .ok (.bipush 100, 2) := ta_cX5_bestWorths_98 (1, (.bipush 100, 2)) (List.mem_of_getElem? (i := 1) rfl)
theorem dX5_bestWorths_3 : decode cX5_bestWorths 3 = .ok (.invokevirtual 218, 3) := ta_cX5_bestWorths_98 (3, (.invokevirtual 218, 3)) (List.mem_of_getElem? (i := 2) rfl)
theorem dX5_bestWorths_6 : decode cX5_bestWorths 6 = .ok (.iload_n 1, 1) := ta_cX5_bestWorths_98 (6, (.iload_n 1, 1)) (List.mem_of_getElem? (i := 3) rfl)
theorem dX5_bestWorths_7 : decode cX5_bestWorths 7 = .ok (.invokestatic 225, 3) := ta_cX5_bestWorths_98 (7, (.invokestatic 225, 3)) (List.mem_of_getElem? (i := 4) rfl)
theorem dX5_bestWorths_10 : decode cX5_bestWorths 10 = .ok (.lstore_n 2, 1) := ta_cX5_bestWorths_98 (10, (.lstore_n 2, 1)) (List.mem_of_getElem? (i := 5) rfl)
theorem dX5_bestWorths_11 : decode cX5_bestWorths 11 = .ok (.lconst 0, 1) := ta_cX5_bestWorths_98 (11, (.lconst 0, 1)) (List.mem_of_getElem? (i := 6) rfl)
theorem dX5_bestWorths_12 : decode cX5_bestWorths 12 = .ok (.lstore 4, 2) := ta_cX5_bestWorths_98 (12, (.lstore 4, 2)) (List.mem_of_getElem? (i := 7) rfl)
theorem dX5_bestWorths_14 : decode cX5_bestWorths 14 = .ok (.iconst 1, 1) := ta_cX5_bestWorths_98 (14, (.iconst 1, 1)) (List.mem_of_getElem? (i := 8) rfl)
theorem dX5_bestWorths_15 : decode cX5_bestWorths 15 = .ok (.istore 6, 2) := ta_cX5_bestWorths_98 (15, (.istore 6, 2)) (List.mem_of_getElem? (i := 9) rfl)
theorem dX5_bestWorths_17 : decode cX5_bestWorths 17 = .ok (.iload 6, 2) := ta_cX5_bestWorths_98 (17, (.iload 6, 2)) (List.mem_of_getElem? (i := 10) rfl)
theorem dX5_bestWorths_19 : decode cX5_bestWorths 19 = .ok (.bipush 99, 2) := ta_cX5_bestWorths_98 (19, (.bipush 99, 2)) (List.mem_of_getElem? (i := 11) rfl)
theorem dX5_bestWorths_21 : decode cX5_bestWorths 21 = .ok (.if_icmp .gt 26, 3) := ta_cX5_bestWorths_98 (21, (.if_icmp .gt 26, 3)) (List.mem_of_getElem? (i := 12) rfl)
theorem dX5_bestWorths_24 : decode cX5_bestWorths 24 = .ok (.lload 4, 2) := ta_cX5_bestWorths_98 (24, (.lload 4, 2)) (List.mem_of_getElem? (i := 13) rfl)
theorem dX5_bestWorths_26 : decode cX5_bestWorths 26 = .ok (.lload_n 2, 1) := ta_cX5_bestWorths_98 (26, (.lload_n 2, 1)) (List.mem_of_getElem? (i := 14) rfl)
theorem dX5_bestWorths_27 : decode cX5_bestWorths 27 = .ok (.aload_n 0, 1) := ta_cX5_bestWorths_98 (27, (.aload_n 0, 1)) (List.mem_of_getElem? (i := 15) rfl)
theorem dX5_bestWorths_28 : decode cX5_bestWorths 28 = .ok (.iload 6, 2) := ta_cX5_bestWorths_98 (28, (.iload 6, 2)) (List.mem_of_getElem? (i := 16) rfl)
theorem dX5_bestWorths_30 : decode cX5_bestWorths 30 = .ok (.invokevirtual 218, 3) := ta_cX5_bestWorths_98 (30, (.invokevirtual 218, 3)) (List.mem_of_getElem? (i := 17) rfl)
theorem dX5_bestWorths_33 : decode cX5_bestWorths 33 = .ok (.iload_n 1, 1) := ta_cX5_bestWorths_98 (33, (.iload_n 1, 1)) (List.mem_of_getElem? (i := 18) rfl)
theorem dX5_bestWorths_34 : decode cX5_bestWorths 34 = .ok (.invokestatic 225, 3) := ta_cX5_bestWorths_98 (34, (.invokestatic 225, 3)) (List.mem_of_getElem? (i := 19) rfl)
theorem dX5_bestWorths_37 : decode cX5_bestWorths 37 = .ok (.lsub, 1) := ta_cX5_bestWorths_98 (37, (.lsub, 1)) (List.mem_of_getElem? (i := 20) rfl)
theorem dX5_bestWorths_38 : decode cX5_bestWorths 38 = .ok (.ladd, 1) := ta_cX5_bestWorths_98 (38, (.ladd, 1)) (List.mem_of_getElem? (i := 21) rfl)
theorem dX5_bestWorths_39 : decode cX5_bestWorths 39 = .ok (.lstore 4, 2) := ta_cX5_bestWorths_98 (39, (.lstore 4, 2)) (List.mem_of_getElem? (i := 22) rfl)
theorem dX5_bestWorths_41 : decode cX5_bestWorths 41 = .ok (.iinc 6 1, 3) := ta_cX5_bestWorths_98 (41, (.iinc 6 1, 3)) (List.mem_of_getElem? (i := 23) rfl)
theorem dX5_bestWorths_44 : decode cX5_bestWorths 44 = .ok (.goto (-27), 3) := ta_cX5_bestWorths_98 (44, (.goto (-27), 3)) (List.mem_of_getElem? (i := 24) rfl)
theorem dX5_bestWorths_47 : decode cX5_bestWorths 47 = .ok (.lload 4, 2) := ta_cX5_bestWorths_98 (47, (.lload 4, 2)) (List.mem_of_getElem? (i := 25) rfl)
theorem dX5_bestWorths_49 : decode cX5_bestWorths 49 = .ok (.lreturn, 1) := ta_cX5_bestWorths_98 (49, (.lreturn, 1)) (List.mem_of_getElem? (i := 26) rfl)
def tb_cX5_faulted_99 : List (Nat × (Instr × Nat)) := [(0, (.aload_n 0, 1)), (1, (.iload_n 1, 1)), (2, (.putfield 67, 3)), (5, (.bipush (-10), 2)), (7, (.iload_n 1, 1)), (8, (.isub, 1)), (9, (.ireturn, 1))]
set_option maxRecDepth 20000 in
theorem ta_cX5_faulted_99 : ∀ q ∈ tb_cX5_faulted_99, decode cX5_faulted q.1 = .ok q.2 := by decide +kernel
theorem dX5_faulted_0 : decode cX5_faulted 0 = .ok (.aload_n 0, 1) := ta_cX5_faulted_99 (0, (.aload_n 0, 1)) (List.mem_of_getElem? (i := 0) rfl)
theorem dX5_faulted_1 : decode cX5_faulted 1 = .ok (.iload_n 1, 1) := ta_cX5_faulted_99 (1, (.iload_n 1, 1)) (List.mem_of_getElem? (i := 1) rfl)
theorem dX5_faulted_2 : decode cX5_faulted 2 = .ok (.putfield 67, 3) := ta_cX5_faulted_99 (2, (.putfield 67, 3)) (List.mem_of_getElem? (i := 2) rfl)
theorem dX5_faulted_5 : decode cX5_faulted 5 = .ok (.bipush (-10), 2) := ta_cX5_faulted_99 (5, (.bipush (-10), 2)) (List.mem_of_getElem? (i := 3) rfl)
theorem dX5_faulted_7 : decode cX5_faulted 7 = .ok (.iload_n 1, 1) := ta_cX5_faulted_99 (7, (.iload_n 1, 1)) (List.mem_of_getElem? (i := 4) rfl)
theorem dX5_faulted_8 : decode cX5_faulted 8 = .ok (.isub, 1) := ta_cX5_faulted_99 (8, (.isub, 1)) (List.mem_of_getElem? (i := 5) rfl)
theorem dX5_faulted_9 : decode cX5_faulted 9 = .ok (.ireturn, 1) := ta_cX5_faulted_99 (9, (.ireturn, 1)) (List.mem_of_getElem? (i := 6) rfl)
set_option maxRecDepth 20000 in
theorem ggX5_refusalOfCells_X5_sheetAt : GoodIn wsX5_refusalOfCells wsX5_sheetAt := goodIn_r _ [6, 7, 30, 31, 32, 33, 34, 35, 36, 37, 38, 39, 40, 41, 42] rfl (by decide +kernel)
set_option maxRecDepth 20000 in
theorem gX5_refusalOfCells_X5_sheetAt : GoodIn wsX5_refusalOfCells (wsV RX5 105 RX5 yX5_sheetAt wsX5_sheetAt) := goodIn_app (goodIn_r _ [2, 3, 4, 5] rfl (by decide +kernel)) ggX5_refusalOfCells_X5_sheetAt
set_option maxRecDepth 20000 in
theorem ggX5_refusalOfCells_X5_isLane : GoodIn wsX5_refusalOfCells wsX5_isLane := goodIn_r _ [10, 11, 12, 5, 13] rfl (by decide +kernel)
set_option maxRecDepth 20000 in
theorem gX5_refusalOfCells_X5_isLane : GoodIn wsX5_refusalOfCells (va_wsS RX5 229 yX5_isLane wsX5_isLane) := goodIn_app (goodIn_r _ [8, 9, 5] rfl (by decide +kernel)) ggX5_refusalOfCells_X5_isLane
set_option maxRecDepth 20000 in
theorem ggX5_refusalOfCells_X2_faultAs : GoodIn wsX5_refusalOfCells wsX2_faultAs := goodIn_r _ [18, 19, 20, 43, 44, 45, 46] rfl (by decide +kernel)
set_option maxRecDepth 20000 in
theorem gX5_refusalOfCells_X2_faultAs : GoodIn wsX5_refusalOfCells (wsV RX5 249 RX2 yX2_faultAs wsX2_faultAs) := goodIn_app (goodIn_r _ [14, 15, 16, 17] rfl (by decide +kernel)) ggX5_refusalOfCells_X2_faultAs
set_option maxRecDepth 20000 in
theorem ggX5_refusalOfCells_X5_faulted : GoodIn wsX5_refusalOfCells wsX5_faulted := goodIn_r _ [24, 1, 30, 31, 32, 33, 34, 35, 36, 37, 38, 39, 40, 41, 42] rfl (by decide +kernel)
set_option maxRecDepth 20000 in
theorem gX5_refusalOfCells_X5_faulted : GoodIn wsX5_refusalOfCells (wsV RX5 232 RX5 yX5_faulted wsX5_faulted) := goodIn_app (goodIn_r _ [21, 22, 23, 5] rfl (by decide +kernel)) ggX5_refusalOfCells_X5_faulted
set_option maxRecDepth 20000 in
theorem ggX5_refusalOfCells_X2_hasFrom : GoodIn wsX5_refusalOfCells wsX2_hasFrom := goodIn_r _ [28, 29, 43, 44, 45, 46] rfl (by decide +kernel)
set_option maxRecDepth 20000 in
theorem gX5_refusalOfCells_X2_hasFrom : GoodIn wsX5_refusalOfCells (wsV RX5 258 RX2 yX2_hasFrom wsX2_hasFrom) := goodIn_app (goodIn_r _ [25, 26, 27, 17] rfl (by decide +kernel)) ggX5_refusalOfCells_X2_hasFrom
def tb_cX5_refusalOfCells_100 : List (Nat × (Instr × Nat)) := [(0, (.aload_n 0, 1)), (1, (.iconst 0, 1)), (2, (.putfield 67, 3)), (5, (.aload_n 0, 1)), (6, (.iload_n 1, 1)), (7, (.invokevirtual 105, 3)), (10, (.astore 5, 2)), (12, (.aload 5, 2)), (14, (.ifnonnull 5, 3)), (17, (.iconst (-1), 1)), (18, (.ireturn, 1)), (19, (.iload_n 2, 1)), (20, (.invokestatic 229, 3)), (23, (.ifCond .ne 6, 3)), (26, (.bipush (-2), 2)), (28, (.ireturn, 1)), (29, (.aload 5, 2)), (31, (.iload_n 2, 1)), (32, (.invokevirtual 249, 3)), (35, (.istore 6, 2)), (37, (.iload 6, 2)), (39, (.ifCond .eq 10, 3)), (42, (.aload_n 0, 1)), (43, (.iload 6, 2)), (45, (.invokevirtual 232, 3)), (48, (.ireturn, 1)), (49, (.iload 4, 2)), (51, (.ifCond .ge 9, 3)), (54, (.aload_n 0, 1)), (55, (.iconst 4, 1)), (56, (.invokevirtual 232, 3)), (59, (.ireturn, 1)), (60, (.aload 5, 2)), (62, (.iload_n 3, 1)), (63, (.iload 4, 2)), (65, (.invokevirtual 258, 3)), (68, (.ifCond .eq 7, 3)), (71, (.iconst 0, 1)), (72, (.goto 8, 3)), (75, (.aload_n 0, 1)), (76, (.iconst 3, 1)), (77, (.invokevirtual 232, 3)), (80, (.ireturn, 1))]
set_option maxRecDepth 20000 in
theorem ta_cX5_refusalOfCells_100 : ∀ q ∈ tb_cX5_refusalOfCells_100, decode cX5_refusalOfCells q.1 = .ok q.2 := by decide +kernel
theorem dX5_refusalOfCells_0 : decode cX5_refusalOfCells 0 = .ok (.aload_n 0, 1) := ta_cX5_refusalOfCells_100 (0, (.aload_n 0, 1)) (List.mem_of_getElem? (i := 0) rfl)
theorem dX5_refusalOfCells_1 : decode cX5_refusalOfCells 1 = .ok (.iconst 0, 1) := ta_cX5_refusalOfCells_100 (1, (.iconst 0, 1)) (List.mem_of_getElem? (i := 1) rfl)
theorem dX5_refusalOfCells_2 : decode cX5_refusalOfCells 2 = .ok (.putfield 67, 3) := ta_cX5_refusalOfCells_100 (2, (.putfield 67, 3)) (List.mem_of_getElem? (i := 2) rfl)
theorem dX5_refusalOfCells_5 : decode cX5_refusalOfCells 5 = .ok (.aload_n 0, 1) := ta_cX5_refusalOfCells_100 (5, (.aload_n 0, 1)) (List.mem_of_getElem? (i := 3) rfl)
theorem dX5_refusalOfCells_6 : decode cX5_refusalOfCells 6 = .ok (.iload_n 1, 1) := ta_cX5_refusalOfCells_100 (6, (.iload_n 1, 1)) (List.mem_of_getElem? (i := 4) rfl)
theorem dX5_refusalOfCells_7 : decode cX5_refusalOfCells 7 = .ok (.invokevirtual 105, 3) := ta_cX5_refusalOfCells_100 (7, (.invokevirtual 105, 3)) (List.mem_of_getElem? (i := 5) rfl)
theorem dX5_refusalOfCells_10 : decode cX5_refusalOfCells 10 = .ok (.astore 5, 2) := ta_cX5_refusalOfCells_100 (10, (.astore 5, 2)) (List.mem_of_getElem? (i := 6) rfl)
theorem dX5_refusalOfCells_12 : decode cX5_refusalOfCells 12 = .ok (.aload 5, 2) := ta_cX5_refusalOfCells_100 (12, (.aload 5, 2)) (List.mem_of_getElem? (i := 7) rfl)
theorem dX5_refusalOfCells_14 : decode cX5_refusalOfCells 14 = .ok (.ifnonnull 5, 3) := ta_cX5_refusalOfCells_100 (14, (.ifnonnull 5, 3)) (List.mem_of_getElem? (i := 8) rfl)
theorem dX5_refusalOfCells_17 : decode cX5_refusalOfCells 17 = .ok (.iconst (-1), 1) := ta_cX5_refusalOfCells_100 (17, (.iconst (-1), 1)) (List.mem_of_getElem? (i := 9) rfl)
theorem dX5_refusalOfCells_18 : decode cX5_refusalOfCells 18 = .ok (.ireturn, 1) := ta_cX5_refusalOfCells_100 (18, (.ireturn, 1)) (List.mem_of_getElem? (i := 10) rfl)
theorem dX5_refusalOfCells_19 : decode cX5_refusalOfCells 19 = .ok (.iload_n 2, 1) := ta_cX5_refusalOfCells_100 (19, (.iload_n 2, 1)) (List.mem_of_getElem? (i := 11) rfl)
theorem dX5_refusalOfCells_20 : decode cX5_refusalOfCells 20 = .ok (.invokestatic 229, 3) := ta_cX5_refusalOfCells_100 (20, (.invokestatic 229, 3)) (List.mem_of_getElem? (i := 12) rfl)
theorem dX5_refusalOfCells_23 : decode cX5_refusalOfCells 23 = .ok (.ifCond .ne 6, 3) := ta_cX5_refusalOfCells_100 (23, (.ifCond .ne 6, 3)) (List.mem_of_getElem? (i := 13) rfl)
theorem dX5_refusalOfCells_26 : decode cX5_refusalOfCells 26 = .ok (.bipush (-2), 2) := ta_cX5_refusalOfCells_100 (26, (.bipush (-2), 2)) (List.mem_of_getElem? (i := 14) rfl)
theorem dX5_refusalOfCells_28 : decode cX5_refusalOfCells 28 = .ok (.ireturn, 1) := ta_cX5_refusalOfCells_100 (28, (.ireturn, 1)) (List.mem_of_getElem? (i := 15) rfl)
theorem dX5_refusalOfCells_29 : decode cX5_refusalOfCells 29 = .ok (.aload 5, 2) := ta_cX5_refusalOfCells_100 (29, (.aload 5, 2)) (List.mem_of_getElem? (i := 16) rfl)
theorem dX5_refusalOfCells_31 : decode cX5_refusalOfCells 31 = .ok (.iload_n 2, 1) := ta_cX5_refusalOfCells_100 (31, (.iload_n 2, 1)) (List.mem_of_getElem? (i := 17) rfl)
theorem dX5_refusalOfCells_32 : decode cX5_refusalOfCells 32 = .ok (.invokevirtual 249, 3) := ta_cX5_refusalOfCells_100 (32, (.invokevirtual 249, 3)) (List.mem_of_getElem? (i := 18) rfl)
theorem dX5_refusalOfCells_35 : decode cX5_refusalOfCells 35 = .ok (.istore 6, 2) := ta_cX5_refusalOfCells_100 (35, (.istore 6, 2)) (List.mem_of_getElem? (i := 19) rfl)
theorem dX5_refusalOfCells_37 : decode cX5_refusalOfCells 37 = .ok (.iload 6, 2) := ta_cX5_refusalOfCells_100 (37, (.iload 6, 2)) (List.mem_of_getElem? (i := 20) rfl)
theorem dX5_refusalOfCells_39 : decode cX5_refusalOfCells 39 = .ok (.ifCond .eq 10, 3) := ta_cX5_refusalOfCells_100 (39, (.ifCond .eq 10, 3)) (List.mem_of_getElem? (i := 21) rfl)
theorem dX5_refusalOfCells_42 : decode cX5_refusalOfCells 42 = .ok (.aload_n 0, 1) := ta_cX5_refusalOfCells_100 (42, (.aload_n 0, 1)) (List.mem_of_getElem? (i := 22) rfl)
theorem dX5_refusalOfCells_43 : decode cX5_refusalOfCells 43 = .ok (.iload 6, 2) := ta_cX5_refusalOfCells_100 (43, (.iload 6, 2)) (List.mem_of_getElem? (i := 23) rfl)
theorem dX5_refusalOfCells_45 : decode cX5_refusalOfCells 45 = .ok (.invokevirtual 232, 3) := ta_cX5_refusalOfCells_100 (45, (.invokevirtual 232, 3)) (List.mem_of_getElem? (i := 24) rfl)
theorem dX5_refusalOfCells_48 : decode cX5_refusalOfCells 48 = .ok (.ireturn, 1) := ta_cX5_refusalOfCells_100 (48, (.ireturn, 1)) (List.mem_of_getElem? (i := 25) rfl)
theorem dX5_refusalOfCells_49 : decode cX5_refusalOfCells 49 = .ok (.iload 4, 2) := ta_cX5_refusalOfCells_100 (49, (.iload 4, 2)) (List.mem_of_getElem? (i := 26) rfl)
theorem dX5_refusalOfCells_51 : decode cX5_refusalOfCells 51 = .ok (.ifCond .ge 9, 3) := ta_cX5_refusalOfCells_100 (51, (.ifCond .ge 9, 3)) (List.mem_of_getElem? (i := 27) rfl)
theorem dX5_refusalOfCells_54 : decode cX5_refusalOfCells 54 = .ok (.aload_n 0, 1) := ta_cX5_refusalOfCells_100 (54, (.aload_n 0, 1)) (List.mem_of_getElem? (i := 28) rfl)
theorem dX5_refusalOfCells_55 : decode cX5_refusalOfCells 55 = .ok (.iconst 4, 1) := ta_cX5_refusalOfCells_100 (55, (.iconst 4, 1)) (List.mem_of_getElem? (i := 29) rfl)
theorem dX5_refusalOfCells_56 : decode cX5_refusalOfCells 56 = .ok (.invokevirtual 232, 3) := ta_cX5_refusalOfCells_100 (56, (.invokevirtual 232, 3)) (List.mem_of_getElem? (i := 30) rfl)
theorem dX5_refusalOfCells_59 : decode cX5_refusalOfCells 59 = .ok (.ireturn, 1) := ta_cX5_refusalOfCells_100 (59, (.ireturn, 1)) (List.mem_of_getElem? (i := 31) rfl)
theorem dX5_refusalOfCells_60 : decode cX5_refusalOfCells 60 = .ok (.aload 5, 2) := ta_cX5_refusalOfCells_100 (60, (.aload 5, 2)) (List.mem_of_getElem? (i := 32) rfl)
theorem dX5_refusalOfCells_62 : decode cX5_refusalOfCells 62 = .ok (.iload_n 3, 1) := ta_cX5_refusalOfCells_100 (62, (.iload_n 3, 1)) (List.mem_of_getElem? (i := 33) rfl)
theorem dX5_refusalOfCells_63 : decode cX5_refusalOfCells 63 = .ok (.iload 4, 2) := ta_cX5_refusalOfCells_100 (63, (.iload 4, 2)) (List.mem_of_getElem? (i := 34) rfl)
theorem dX5_refusalOfCells_65 : decode cX5_refusalOfCells 65 = .ok (.invokevirtual 258, 3) := ta_cX5_refusalOfCells_100 (65, (.invokevirtual 258, 3)) (List.mem_of_getElem? (i := 35) rfl)
theorem dX5_refusalOfCells_68 : decode cX5_refusalOfCells 68 = .ok (.ifCond .eq 7, 3) := ta_cX5_refusalOfCells_100 (68, (.ifCond .eq 7, 3)) (List.mem_of_getElem? (i := 36) rfl)
theorem dX5_refusalOfCells_71 : decode cX5_refusalOfCells 71 = .ok (.iconst 0, 1) := ta_cX5_refusalOfCells_100 (71, (.iconst 0, 1)) (List.mem_of_getElem? (i := 37) rfl)
theorem dX5_refusalOfCells_72 : decode cX5_refusalOfCells 72 = .ok (.goto 8, 3) := ta_cX5_refusalOfCells_100 (72, (.goto 8, 3)) (List.mem_of_getElem? (i := 38) rfl)
theorem dX5_refusalOfCells_75 : decode cX5_refusalOfCells 75 = .ok (.aload_n 0, 1) := ta_cX5_refusalOfCells_100 (75, (.aload_n 0, 1)) (List.mem_of_getElem? (i := 39) rfl)
theorem dX5_refusalOfCells_76 : decode cX5_refusalOfCells 76 = .ok (.iconst 3, 1) := ta_cX5_refusalOfCells_100 (76, (.iconst 3, 1)) (List.mem_of_getElem? (i := 40) rfl)
theorem dX5_refusalOfCells_77 : decode cX5_refusalOfCells 77 = .ok (.invokevirtual 232, 3) := ta_cX5_refusalOfCells_100 (77, (.invokevirtual 232, 3)) (List.mem_of_getElem? (i := 41) rfl)
theorem dX5_refusalOfCells_80 : decode cX5_refusalOfCells 80 = .ok (.ireturn, 1) := ta_cX5_refusalOfCells_100 (80, (.ireturn, 1)) (List.mem_of_getElem? (i := 42) rfl)
set_option maxRecDepth 20000 in
theorem ggX5_refusalOfRow_X5_refusalOfCells : GoodIn wsX5_refusalOfRow wsX5_refusalOfCells := goodIn_r _ [5, 6, 7, 8, 9, 4, 10, 11, 12, 13, 14, 15, 16, 17, 18, 19, 20, 21, 22, 23, 24, 25, 26, 27, 28, 29, 30, 31, 32, 33, 43, 44, 45, 46, 47, 48, 49, 50, 51, 52, 53, 54, 55, 56, 57, 58, 59] rfl (by decide +kernel)
set_option maxRecDepth 20000 in
theorem gX5_refusalOfRow_X5_refusalOfCells : GoodIn wsX5_refusalOfRow (wsV RX5 101 RX5 yX5_refusalOfCells wsX5_refusalOfCells) := goodIn_app (goodIn_r _ [1, 2, 3, 4] rfl (by decide +kernel)) ggX5_refusalOfRow_X5_refusalOfCells
set_option maxRecDepth 20000 in
theorem ggX5_refusalOfRow_X5_sheetAt : GoodIn wsX5_refusalOfRow wsX5_sheetAt := goodIn_r _ [10, 11, 43, 44, 45, 46, 47, 48, 49, 50, 51, 52, 53, 54, 55] rfl (by decide +kernel)
set_option maxRecDepth 20000 in
theorem gX5_refusalOfRow_X5_sheetAt : GoodIn wsX5_refusalOfRow (wsV RX5 105 RX5 yX5_sheetAt wsX5_sheetAt) := goodIn_app (goodIn_r _ [7, 8, 9, 4] rfl (by decide +kernel)) ggX5_refusalOfRow_X5_sheetAt
set_option maxRecDepth 20000 in
theorem ggX5_refusalOfRow_X5_within : GoodIn wsX5_refusalOfRow wsX5_within := goodIn_r _ [17] rfl (by decide +kernel)
set_option maxRecDepth 20000 in
theorem gX5_refusalOfRow_X5_within : GoodIn wsX5_refusalOfRow (va_wsS RX5 75 yX5_within wsX5_within) := goodIn_app (goodIn_r _ [15, 16, 4] rfl (by decide +kernel)) ggX5_refusalOfRow_X5_within
set_option maxRecDepth 20000 in
theorem ggX5_refusalOfRow_X2_number : GoodIn wsX5_refusalOfRow wsX2_number := goodIn_r _ [37, 38, 39, 40, 41, 21, 42, 33, 56, 57, 58, 59] rfl (by decide +kernel)
set_option maxRecDepth 20000 in
theorem gX5_refusalOfRow_X2_number : GoodIn wsX5_refusalOfRow (wsV RX5 252 RX2 yX2_number wsX2_number) := goodIn_app (goodIn_r _ [34, 35, 36, 21] rfl (by decide +kernel)) ggX5_refusalOfRow_X2_number
def tb_cX5_refusalOfRow_101 : List (Nat × (Instr × Nat)) := [(0, (.aload_n 0, 1)), (1, (.iload_n 1, 1)), (2, (.iload_n 2, 1)), (3, (.iload_n 3, 1)), (4, (.iload 4, 2)), (6, (.invokevirtual 101, 3)), (9, (.istore 7, 2)), (11, (.aload_n 0, 1)), (12, (.iload_n 1, 1)), (13, (.invokevirtual 105, 3)), (16, (.astore 8, 2)), (18, (.iload 7, 2)), (20, (.ifCond .ne 8, 3)), (23, (.aload 8, 2)), (25, (.ifnonnull 6, 3)), (28, (.iload 7, 2)), (30, (.ireturn, 1)), (31, (.iload 4, 2)), (33, (.iconst 1, 1)), (34, (.bipush 20, 2)), (36, (.invokestatic 75, 3)), (39, (.ifCond .ne 6, 3)), (42, (.bipush (-2), 2)), (44, (.ireturn, 1)), (45, (.iconst 0, 1)), (46, (.istore 9, 2)), (48, (.iload 9, 2)), (50, (.iload 4, 2)), (52, (.if_icmp .ge 31, 3)), (55, (.aload 8, 2)), (57, (.iload_n 3, 1)), (58, (.iload 9, 2)), (60, (.iadd, 1)), (61, (.invokevirtual 252, 3)), (64, (.iload 5, 2)), (66, (.iload 6, 2)), (68, (.invokestatic 75, 3)), (71, (.ifCond .ne 6, 3)), (74, (.bipush (-2), 2)), (76, (.ireturn, 1)), (77, (.iinc 9 1, 3)), (80, (.goto (-32), 3)), (83, (.iconst 0, 1)), (84, (.ireturn, 1))]
set_option maxRecDepth 20000 in
theorem ta_cX5_refusalOfRow_101 : ∀ q ∈ tb_cX5_refusalOfRow_101, decode cX5_refusalOfRow q.1 = .ok q.2 := by decide +kernel
theorem dX5_refusalOfRow_0 : decode cX5_refusalOfRow 0 = .ok (.aload_n 0, 1) := ta_cX5_refusalOfRow_101 (0, (.aload_n 0, 1)) (List.mem_of_getElem? (i := 0) rfl)
theorem dX5_refusalOfRow_1 : decode cX5_refusalOfRow 1 = .ok (.iload_n 1, 1) := ta_cX5_refusalOfRow_101 (1, (.iload_n 1, 1)) (List.mem_of_getElem? (i := 1) rfl)
theorem dX5_refusalOfRow_2 : decode cX5_refusalOfRow 2 = .ok (.iload_n 2, 1) := ta_cX5_refusalOfRow_101 (2, (.iload_n 2, 1)) (List.mem_of_getElem? (i := 2) rfl)
theorem dX5_refusalOfRow_3 : decode cX5_refusalOfRow 3 = .ok (.iload_n 3, 1) := ta_cX5_refusalOfRow_101 (3, (.iload_n 3, 1)) (List.mem_of_getElem? (i := 3) rfl)
theorem dX5_refusalOfRow_4 : decode cX5_refusalOfRow 4 = .ok (.iload 4, 2) := ta_cX5_refusalOfRow_101 (4, (.iload 4, 2)) (List.mem_of_getElem? (i := 4) rfl)
theorem dX5_refusalOfRow_6 : decode cX5_refusalOfRow 6 = .ok (.invokevirtual 101, 3) := ta_cX5_refusalOfRow_101 (6, (.invokevirtual 101, 3)) (List.mem_of_getElem? (i := 5) rfl)
theorem dX5_refusalOfRow_9 : decode cX5_refusalOfRow 9 = .ok (.istore 7, 2) := ta_cX5_refusalOfRow_101 (9, (.istore 7, 2)) (List.mem_of_getElem? (i := 6) rfl)
theorem dX5_refusalOfRow_11 : decode cX5_refusalOfRow 11 = .ok (.aload_n 0, 1) := ta_cX5_refusalOfRow_101 (11, (.aload_n 0, 1)) (List.mem_of_getElem? (i := 7) rfl)
theorem dX5_refusalOfRow_12 : decode cX5_refusalOfRow 12 = .ok (.iload_n 1, 1) := ta_cX5_refusalOfRow_101 (12, (.iload_n 1, 1)) (List.mem_of_getElem? (i := 8) rfl)
theorem dX5_refusalOfRow_13 : decode cX5_refusalOfRow 13 = .ok (.invokevirtual 105, 3) := ta_cX5_refusalOfRow_101 (13, (.invokevirtual 105, 3)) (List.mem_of_getElem? (i := 9) rfl)
theorem dX5_refusalOfRow_16 : decode cX5_refusalOfRow 16 = .ok (.astore 8, 2) := ta_cX5_refusalOfRow_101 (16, (.astore 8, 2)) (List.mem_of_getElem? (i := 10) rfl)
theorem dX5_refusalOfRow_18 : decode cX5_refusalOfRow 18 = .ok (.iload 7, 2) := ta_cX5_refusalOfRow_101 (18, (.iload 7, 2)) (List.mem_of_getElem? (i := 11) rfl)
theorem dX5_refusalOfRow_20 : decode cX5_refusalOfRow 20 = .ok (.ifCond .ne 8, 3) := ta_cX5_refusalOfRow_101 (20, (.ifCond .ne 8, 3)) (List.mem_of_getElem? (i := 12) rfl)
theorem dX5_refusalOfRow_23 : decode cX5_refusalOfRow 23 = .ok (.aload 8, 2) := ta_cX5_refusalOfRow_101 (23, (.aload 8, 2)) (List.mem_of_getElem? (i := 13) rfl)
theorem dX5_refusalOfRow_25 : decode cX5_refusalOfRow 25 = .ok (.ifnonnull 6, 3) := ta_cX5_refusalOfRow_101 (25, (.ifnonnull 6, 3)) (List.mem_of_getElem? (i := 14) rfl)
theorem dX5_refusalOfRow_28 : decode cX5_refusalOfRow 28 = .ok (.iload 7, 2) := ta_cX5_refusalOfRow_101 (28, (.iload 7, 2)) (List.mem_of_getElem? (i := 15) rfl)
theorem dX5_refusalOfRow_30 : decode cX5_refusalOfRow 30 = .ok (.ireturn, 1) := ta_cX5_refusalOfRow_101 (30, (.ireturn, 1)) (List.mem_of_getElem? (i := 16) rfl)
theorem dX5_refusalOfRow_31 : decode cX5_refusalOfRow 31 = .ok (.iload 4, 2) := ta_cX5_refusalOfRow_101 (31, (.iload 4, 2)) (List.mem_of_getElem? (i := 17) rfl)
theorem dX5_refusalOfRow_33 : decode cX5_refusalOfRow 33 = .ok (.iconst 1, 1) := ta_cX5_refusalOfRow_101 (33, (.iconst 1, 1)) (List.mem_of_getElem? (i := 18) rfl)
theorem dX5_refusalOfRow_34 : decode cX5_refusalOfRow 34 = .ok (.bipush 20, 2) := ta_cX5_refusalOfRow_101 (34, (.bipush 20, 2)) (List.mem_of_getElem? (i := 19) rfl)
theorem dX5_refusalOfRow_36 : decode cX5_refusalOfRow 36 = .ok (.invokestatic 75, 3) := ta_cX5_refusalOfRow_101 (36, (.invokestatic 75, 3)) (List.mem_of_getElem? (i := 20) rfl)
theorem dX5_refusalOfRow_39 : decode cX5_refusalOfRow 39 = .ok (.ifCond .ne 6, 3) := ta_cX5_refusalOfRow_101 (39, (.ifCond .ne 6, 3)) (List.mem_of_getElem? (i := 21) rfl)
theorem dX5_refusalOfRow_42 : decode cX5_refusalOfRow 42 = .ok (.bipush (-2), 2) := ta_cX5_refusalOfRow_101 (42, (.bipush (-2), 2)) (List.mem_of_getElem? (i := 22) rfl)
theorem dX5_refusalOfRow_44 : decode cX5_refusalOfRow 44 = .ok (.ireturn, 1) := ta_cX5_refusalOfRow_101 (44, (.ireturn, 1)) (List.mem_of_getElem? (i := 23) rfl)
theorem dX5_refusalOfRow_45 : decode cX5_refusalOfRow 45 = .ok (.iconst 0, 1) := ta_cX5_refusalOfRow_101 (45, (.iconst 0, 1)) (List.mem_of_getElem? (i := 24) rfl)
theorem dX5_refusalOfRow_46 : decode cX5_refusalOfRow 46 = .ok (.istore 9, 2) := ta_cX5_refusalOfRow_101 (46, (.istore 9, 2)) (List.mem_of_getElem? (i := 25) rfl)
theorem dX5_refusalOfRow_48 : decode cX5_refusalOfRow 48 = .ok (.iload 9, 2) := ta_cX5_refusalOfRow_101 (48, (.iload 9, 2)) (List.mem_of_getElem? (i := 26) rfl)
theorem dX5_refusalOfRow_50 : decode cX5_refusalOfRow 50 = .ok (.iload 4, 2) := ta_cX5_refusalOfRow_101 (50, (.iload 4, 2)) (List.mem_of_getElem? (i := 27) rfl)
theorem dX5_refusalOfRow_52 : decode cX5_refusalOfRow 52 = .ok (.if_icmp .ge 31, 3) := ta_cX5_refusalOfRow_101 (52, (.if_icmp .ge 31, 3)) (List.mem_of_getElem? (i := 28) rfl)
theorem dX5_refusalOfRow_55 : decode cX5_refusalOfRow 55 = .ok (.aload 8, 2) := ta_cX5_refusalOfRow_101 (55, (.aload 8, 2)) (List.mem_of_getElem? (i := 29) rfl)
theorem dX5_refusalOfRow_57 : decode cX5_refusalOfRow 57 = .ok (.iload_n 3, 1) := ta_cX5_refusalOfRow_101 (57, (.iload_n 3, 1)) (List.mem_of_getElem? (i := 30) rfl)
theorem dX5_refusalOfRow_58 : decode cX5_refusalOfRow 58 = .ok (.iload 9, 2) := ta_cX5_refusalOfRow_101 (58, (.iload 9, 2)) (List.mem_of_getElem? (i := 31) rfl)
theorem dX5_refusalOfRow_60 : decode cX5_refusalOfRow 60 = .ok (.iadd, 1) := ta_cX5_refusalOfRow_101 (60, (.iadd, 1)) (List.mem_of_getElem? (i := 32) rfl)
theorem dX5_refusalOfRow_61 : decode cX5_refusalOfRow 61 = .ok (.invokevirtual 252, 3) := ta_cX5_refusalOfRow_101 (61, (.invokevirtual 252, 3)) (List.mem_of_getElem? (i := 33) rfl)
theorem dX5_refusalOfRow_64 : decode cX5_refusalOfRow 64 = .ok (.iload 5, 2) := ta_cX5_refusalOfRow_101 (64, (.iload 5, 2)) (List.mem_of_getElem? (i := 34) rfl)
theorem dX5_refusalOfRow_66 : decode cX5_refusalOfRow 66 = .ok (.iload 6, 2) := ta_cX5_refusalOfRow_101 (66, (.iload 6, 2)) (List.mem_of_getElem? (i := 35) rfl)
theorem dX5_refusalOfRow_68 : decode cX5_refusalOfRow 68 = .ok (.invokestatic 75, 3) := ta_cX5_refusalOfRow_101 (68, (.invokestatic 75, 3)) (List.mem_of_getElem? (i := 36) rfl)
theorem dX5_refusalOfRow_71 : decode cX5_refusalOfRow 71 = .ok (.ifCond .ne 6, 3) := ta_cX5_refusalOfRow_101 (71, (.ifCond .ne 6, 3)) (List.mem_of_getElem? (i := 37) rfl)
theorem dX5_refusalOfRow_74 : decode cX5_refusalOfRow 74 = .ok (.bipush (-2), 2) := ta_cX5_refusalOfRow_101 (74, (.bipush (-2), 2)) (List.mem_of_getElem? (i := 38) rfl)
theorem dX5_refusalOfRow_76 : decode cX5_refusalOfRow 76 = .ok (.ireturn, 1) := ta_cX5_refusalOfRow_101 (76, (.ireturn, 1)) (List.mem_of_getElem? (i := 39) rfl)
theorem dX5_refusalOfRow_77 : decode cX5_refusalOfRow 77 = .ok (.iinc 9 1, 3) := ta_cX5_refusalOfRow_101 (77, (.iinc 9 1, 3)) (List.mem_of_getElem? (i := 40) rfl)
theorem dX5_refusalOfRow_80 : decode cX5_refusalOfRow 80 = .ok (.goto (-32), 3) := ta_cX5_refusalOfRow_101 (80, (.goto (-32), 3)) (List.mem_of_getElem? (i := 41) rfl)
theorem dX5_refusalOfRow_83 : decode cX5_refusalOfRow 83 = .ok (.iconst 0, 1) := ta_cX5_refusalOfRow_101 (83, (.iconst 0, 1)) (List.mem_of_getElem? (i := 42) rfl)
theorem dX5_refusalOfRow_84 : decode cX5_refusalOfRow 84 = .ok (.ireturn, 1) := ta_cX5_refusalOfRow_101 (84, (.ireturn, 1)) (List.mem_of_getElem? (i := 43) rfl)
set_option maxRecDepth 20000 in
theorem ggX5_takeCells_X5_sheetAt : GoodIn wsX5_takeCells wsX5_sheetAt := goodIn_r _ [5, 6, 18, 19, 20, 21, 22, 23, 24, 25, 26, 27, 28, 29, 30] rfl (by decide +kernel)
set_option maxRecDepth 20000 in
theorem gX5_takeCells_X5_sheetAt : GoodIn wsX5_takeCells (wsV RX5 105 RX5 yX5_sheetAt wsX5_sheetAt) := goodIn_app (goodIn_r _ [1, 2, 3, 4] rfl (by decide +kernel)) ggX5_takeCells_X5_sheetAt
set_option maxRecDepth 20000 in
theorem ggX5_takeCells_X2_number : GoodIn wsX5_takeCells wsX2_number := goodIn_r _ [11, 12, 13, 14, 15, 10, 16, 17, 31, 32, 33, 34] rfl (by decide +kernel)
set_option maxRecDepth 20000 in
theorem gX5_takeCells_X2_number : GoodIn wsX5_takeCells (wsV RX5 252 RX2 yX2_number wsX2_number) := goodIn_app (goodIn_r _ [7, 8, 9, 10] rfl (by decide +kernel)) ggX5_takeCells_X2_number
def tb_cX5_takeCells_102 : List (Nat × (Instr × Nat)) := [(0, (.aload_n 0, 1)), (1, (.iload_n 1, 1)), (2, (.invokevirtual 105, 3)), (5, (.astore 5, 2)), (7, (.aload 5, 2)), (9, (.ifnonnull 4, 3)), (12, (.return_, 1)), (13, (.iconst 0, 1)), (14, (.istore 6, 2)), (16, (.iload 6, 2)), (18, (.iload_n 3, 1)), (19, (.if_icmp .ge 31, 3)), (22, (.iload 6, 2)), (24, (.aload 4, 2)), (26, (.arraylength, 1)), (27, (.if_icmp .ge 23, 3)), (30, (.aload 4, 2)), (32, (.iload 6, 2)), (34, (.aload 5, 2)), (36, (.iload_n 2, 1)), (37, (.iload 6, 2)), (39, (.iadd, 1)), (40, (.invokevirtual 252, 3)), (43, (.iastore, 1)), (44, (.iinc 6 1, 3)), (47, (.goto (-31), 3)), (50, (.return_, 1))]
set_option maxRecDepth 20000 in
theorem ta_cX5_takeCells_102 : ∀ q ∈ tb_cX5_takeCells_102, decode cX5_takeCells q.1 = .ok q.2 := by decide +kernel
theorem dX5_takeCells_0 : decode cX5_takeCells 0 = .ok (.aload_n 0, 1) := ta_cX5_takeCells_102 (0, (.aload_n 0, 1)) (List.mem_of_getElem? (i := 0) rfl)
theorem dX5_takeCells_1 : decode cX5_takeCells 1 = .ok (.iload_n 1, 1) := ta_cX5_takeCells_102 (1, (.iload_n 1, 1)) (List.mem_of_getElem? (i := 1) rfl)
theorem dX5_takeCells_2 : decode cX5_takeCells 2 = .ok (.invokevirtual 105, 3) := ta_cX5_takeCells_102 (2, (.invokevirtual 105, 3)) (List.mem_of_getElem? (i := 2) rfl)
theorem dX5_takeCells_5 : decode cX5_takeCells 5 = .ok (.astore 5, 2) := ta_cX5_takeCells_102 (5, (.astore 5, 2)) (List.mem_of_getElem? (i := 3) rfl)
theorem dX5_takeCells_7 : decode cX5_takeCells 7 = .ok (.aload 5, 2) := ta_cX5_takeCells_102 (7, (.aload 5, 2)) (List.mem_of_getElem? (i := 4) rfl)
theorem dX5_takeCells_9 : decode cX5_takeCells 9 = .ok (.ifnonnull 4, 3) := ta_cX5_takeCells_102 (9, (.ifnonnull 4, 3)) (List.mem_of_getElem? (i := 5) rfl)
theorem dX5_takeCells_12 : decode cX5_takeCells 12 = .ok (.return_, 1) := ta_cX5_takeCells_102 (12, (.return_, 1)) (List.mem_of_getElem? (i := 6) rfl)
theorem dX5_takeCells_13 : decode cX5_takeCells 13 = .ok (.iconst 0, 1) := ta_cX5_takeCells_102 (13, (.iconst 0, 1)) (List.mem_of_getElem? (i := 7) rfl)
theorem dX5_takeCells_14 : decode cX5_takeCells 14 = .ok (.istore 6, 2) := ta_cX5_takeCells_102 (14, (.istore 6, 2)) (List.mem_of_getElem? (i := 8) rfl)
theorem dX5_takeCells_16 : decode cX5_takeCells 16 = .ok (.iload 6, 2) := ta_cX5_takeCells_102 (16, (.iload 6, 2)) (List.mem_of_getElem? (i := 9) rfl)
theorem dX5_takeCells_18 : decode cX5_takeCells 18 = .ok (.iload_n 3, 1) := ta_cX5_takeCells_102 (18, (.iload_n 3, 1)) (List.mem_of_getElem? (i := 10) rfl)
theorem dX5_takeCells_19 : decode cX5_takeCells 19 = .ok (.if_icmp .ge 31, 3) := ta_cX5_takeCells_102 (19, (.if_icmp .ge 31, 3)) (List.mem_of_getElem? (i := 11) rfl)
theorem dX5_takeCells_22 : decode cX5_takeCells 22 = .ok (.iload 6, 2) := ta_cX5_takeCells_102 (22, (.iload 6, 2)) (List.mem_of_getElem? (i := 12) rfl)
theorem dX5_takeCells_24 : decode cX5_takeCells 24 = .ok (.aload 4, 2) := ta_cX5_takeCells_102 (24, (.aload 4, 2)) (List.mem_of_getElem? (i := 13) rfl)
theorem dX5_takeCells_26 : decode cX5_takeCells 26 = .ok (.arraylength, 1) := ta_cX5_takeCells_102 (26, (.arraylength, 1)) (List.mem_of_getElem? (i := 14) rfl)
theorem dX5_takeCells_27 : decode cX5_takeCells 27 = .ok (.if_icmp .ge 23, 3) := ta_cX5_takeCells_102 (27, (.if_icmp .ge 23, 3)) (List.mem_of_getElem? (i := 15) rfl)
theorem dX5_takeCells_30 : decode cX5_takeCells 30 = .ok (.aload 4, 2) := ta_cX5_takeCells_102 (30, (.aload 4, 2)) (List.mem_of_getElem? (i := 16) rfl)
theorem dX5_takeCells_32 : decode cX5_takeCells 32 = .ok (.iload 6, 2) := ta_cX5_takeCells_102 (32, (.iload 6, 2)) (List.mem_of_getElem? (i := 17) rfl)
theorem dX5_takeCells_34 : decode cX5_takeCells 34 = .ok (.aload 5, 2) := ta_cX5_takeCells_102 (34, (.aload 5, 2)) (List.mem_of_getElem? (i := 18) rfl)
theorem dX5_takeCells_36 : decode cX5_takeCells 36 = .ok (.iload_n 2, 1) := ta_cX5_takeCells_102 (36, (.iload_n 2, 1)) (List.mem_of_getElem? (i := 19) rfl)
theorem dX5_takeCells_37 : decode cX5_takeCells 37 = .ok (.iload 6, 2) := ta_cX5_takeCells_102 (37, (.iload 6, 2)) (List.mem_of_getElem? (i := 20) rfl)
theorem dX5_takeCells_39 : decode cX5_takeCells 39 = .ok (.iadd, 1) := ta_cX5_takeCells_102 (39, (.iadd, 1)) (List.mem_of_getElem? (i := 21) rfl)
theorem dX5_takeCells_40 : decode cX5_takeCells 40 = .ok (.invokevirtual 252, 3) := ta_cX5_takeCells_102 (40, (.invokevirtual 252, 3)) (List.mem_of_getElem? (i := 22) rfl)
theorem dX5_takeCells_43 : decode cX5_takeCells 43 = .ok (.iastore, 1) := ta_cX5_takeCells_102 (43, (.iastore, 1)) (List.mem_of_getElem? (i := 23) rfl)
theorem dX5_takeCells_44 : decode cX5_takeCells 44 = .ok (.iinc 6 1, 3) := ta_cX5_takeCells_102 (44, (.iinc 6 1, 3)) (List.mem_of_getElem? (i := 24) rfl)
theorem dX5_takeCells_47 : decode cX5_takeCells 47 = .ok (.goto (-31), 3) := ta_cX5_takeCells_102 (47, (.goto (-31), 3)) (List.mem_of_getElem? (i := 25) rfl)
theorem dX5_takeCells_50 : decode cX5_takeCells 50 = .ok (.return_, 1) := ta_cX5_takeCells_102 (50, (.return_, 1)) (List.mem_of_getElem? (i := 26) rfl)
def tb_cX5_leave_103 : List (Nat × (Instr × Nat)) := [(0, (.aload_n 0, 1)), (1, (.bipush 31, 2)), (3, (.aload_n 0, 1)), (4, (.getfield 64, 3)), (7, (.imul, 1)), (8, (.iload_n 1, 1)), (9, (.iadd, 1)), (10, (.putfield 64, 3)), (13, (.return_, 1))]
set_option maxRecDepth 20000 in
theorem ta_cX5_leave_103 : ∀ q ∈ tb_cX5_leave_103, decode cX5_leave q.1 = .ok q.2 := by decide +kernel
theorem dX5_leave_0 : decode cX5_leave 0 = .ok (.aload_n 0, 1) := ta_cX5_leave_103 (0, (.aload_n 0, 1)) (List.mem_of_getElem? (i := 0) rfl)
theorem dX5_leave_1 : decode cX5_leave 1 = .ok (.bipush 31, 2) := ta_cX5_leave_103 (1, (.bipush 31, 2)) (List.mem_of_getElem? (i := 1) rfl)
theorem dX5_leave_3 : decode cX5_leave 3 = .ok (.aload_n 0, 1) := ta_cX5_leave_103 (3, (.aload_n 0, 1)) (List.mem_of_getElem? (i := 2) rfl)
theorem dX5_leave_4 : decode cX5_leave 4 = .ok (.getfield 64, 3) := ta_cX5_leave_103 (4, (.getfield 64, 3)) (List.mem_of_getElem? (i := 3) rfl)
theorem dX5_leave_7 : decode cX5_leave 7 = .ok (.imul, 1) := ta_cX5_leave_103 (7, (.imul, 1)) (List.mem_of_getElem? (i := 4) rfl)
theorem dX5_leave_8 : decode cX5_leave 8 = .ok (.iload_n 1, 1) := ta_cX5_leave_103 (8, (.iload_n 1, 1)) (List.mem_of_getElem? (i := 5) rfl)
theorem dX5_leave_9 : decode cX5_leave 9 = .ok (.iadd, 1) := ta_cX5_leave_103 (9, (.iadd, 1)) (List.mem_of_getElem? (i := 6) rfl)
theorem dX5_leave_10 : decode cX5_leave 10 = .ok (.putfield 64, 3) := ta_cX5_leave_103 (10, (.putfield 64, 3)) (List.mem_of_getElem? (i := 7) rfl)
theorem dX5_leave_13 : decode cX5_leave 13 = .ok (.return_, 1) := ta_cX5_leave_103 (13, (.return_, 1)) (List.mem_of_getElem? (i := 8) rfl)
set_option maxRecDepth 20000 in
theorem ggX5_tellSunk_X5_leave : GoodIn wsX5_tellSunk wsX5_leave := goodIn_r _ [6, 7, 15, 16, 17, 18, 19, 20, 21, 22, 23, 24, 25, 26, 27] rfl (by decide +kernel)
set_option maxRecDepth 20000 in
theorem gX5_tellSunk_X5_leave : GoodIn wsX5_tellSunk (wsV RX5 283 RX5 yX5_leave wsX5_leave) := goodIn_app (goodIn_r _ [2, 3, 4, 5] rfl (by decide +kernel)) ggX5_tellSunk_X5_leave
set_option maxRecDepth 20000 in
theorem ggX5_tellSunk_X0_value : GoodIn wsX5_tellSunk wsX0_value := goodIn_r _ [12, 13, 14, 28, 29, 30, 31, 32, 33, 34, 35] rfl (by decide +kernel)
set_option maxRecDepth 20000 in
theorem gX5_tellSunk_X0_value : GoodIn wsX5_tellSunk (wsV RX5 171 RX0 yX0_value wsX0_value) := goodIn_app (goodIn_r _ [8, 9, 10, 11] rfl (by decide +kernel)) ggX5_tellSunk_X0_value
def tb_cX5_tellSunk_104 : List (Nat × (Instr × Nat)) := [(0, (.aload_n 0, 1)), (1, (.iconst 1, 1)), (2, (.invokevirtual 283, 3)), (5, (.aload_n 0, 1)), (6, (.getfield 38, 3)), (9, (.iload_n 1, 1)), (10, (.iconst 1, 1)), (11, (.invokevirtual 171, 3)), (14, (.ireturn, 1))]
set_option maxRecDepth 20000 in
theorem ta_cX5_tellSunk_104 : ∀ q ∈ tb_cX5_tellSunk_104, decode cX5_tellSunk q.1 = .ok q.2 := by decide +kernel
theorem dX5_tellSunk_0 : decode cX5_tellSunk 0 = .ok (.aload_n 0, 1) := ta_cX5_tellSunk_104 (0, (.aload_n 0, 1)) (List.mem_of_getElem? (i := 0) rfl)
theorem dX5_tellSunk_1 : decode cX5_tellSunk 1 = .ok (.iconst 1, 1) := ta_cX5_tellSunk_104 (1, (.iconst 1, 1)) (List.mem_of_getElem? (i := 1) rfl)
theorem dX5_tellSunk_2 : decode cX5_tellSunk 2 = .ok (.invokevirtual 283, 3) := ta_cX5_tellSunk_104 (2, (.invokevirtual 283, 3)) (List.mem_of_getElem? (i := 2) rfl)
theorem dX5_tellSunk_5 : decode cX5_tellSunk 5 = .ok (.aload_n 0, 1) := ta_cX5_tellSunk_104 (5, (.aload_n 0, 1)) (List.mem_of_getElem? (i := 3) rfl)
theorem dX5_tellSunk_6 : decode cX5_tellSunk 6 = .ok (.getfield 38, 3) := ta_cX5_tellSunk_104 (6, (.getfield 38, 3)) (List.mem_of_getElem? (i := 4) rfl)
theorem dX5_tellSunk_9 : decode cX5_tellSunk 9 = .ok (.iload_n 1, 1) := ta_cX5_tellSunk_104 (9, (.iload_n 1, 1)) (List.mem_of_getElem? (i := 5) rfl)
theorem dX5_tellSunk_10 : decode cX5_tellSunk 10 = .ok (.iconst 1, 1) := ta_cX5_tellSunk_104 (10, (.iconst 1, 1)) (List.mem_of_getElem? (i := 6) rfl)
theorem dX5_tellSunk_11 : decode cX5_tellSunk 11 = .ok (.invokevirtual 171, 3) := ta_cX5_tellSunk_104 (11, (.invokevirtual 171, 3)) (List.mem_of_getElem? (i := 7) rfl)
theorem dX5_tellSunk_14 : decode cX5_tellSunk 14 = .ok (.ireturn, 1) := ta_cX5_tellSunk_104 (14, (.ireturn, 1)) (List.mem_of_getElem? (i := 8) rfl)
set_option maxRecDepth 20000 in
theorem ggX5_tellClean_X5_leave : GoodIn wsX5_tellClean wsX5_leave := goodIn_r _ [5, 6, 19, 20, 21, 22, 23, 24, 25, 26, 27, 28, 29, 30, 31] rfl (by decide +kernel)
set_option maxRecDepth 20000 in
theorem gX5_tellClean_X5_leave : GoodIn wsX5_tellClean (wsV RX5 283 RX5 yX5_leave wsX5_leave) := goodIn_app (goodIn_r _ [1, 2, 3, 4] rfl (by decide +kernel)) ggX5_tellClean_X5_leave
set_option maxRecDepth 20000 in
theorem ggX5_tellClean_X5_tellSunk : GoodIn wsX5_tellClean wsX5_tellSunk := goodIn_r _ [10, 11, 1, 2, 3, 4, 5, 6, 12, 13, 14, 15, 16, 17, 18, 19, 20, 21, 22, 23, 24, 25, 26, 27, 28, 29, 30, 31, 32, 33, 34, 35, 36, 37, 38, 39] rfl (by decide +kernel)
set_option maxRecDepth 20000 in
theorem gX5_tellClean_X5_tellSunk : GoodIn wsX5_tellClean (wsV RX5 280 RX5 yX5_tellSunk wsX5_tellSunk) := goodIn_app (goodIn_r _ [7, 8, 9, 4] rfl (by decide +kernel)) ggX5_tellClean_X5_tellSunk
def tb_cX5_tellClean_105 : List (Nat × (Instr × Nat)) := [(0, (.aload_n 0, 1)), (1, (.iconst 2, 1)), (2, (.invokevirtual 283, 3)), (5, (.aload_n 0, 1)), (6, (.iload_n 1, 1)), (7, (.invokevirtual 280, 3)), (10, (.sipush 1000, 3)), (13, (.iadd, 1)), (14, (.ireturn, 1))]
set_option maxRecDepth 20000 in
theorem ta_cX5_tellClean_105 : ∀ q ∈ tb_cX5_tellClean_105, decode cX5_tellClean q.1 = .ok q.2 := by decide +kernel
theorem dX5_tellClean_0 : decode cX5_tellClean 0 = .ok (.aload_n 0, 1) := ta_cX5_tellClean_105 (0, (.aload_n 0, 1)) (List.mem_of_getElem? (i := 0) rfl)
theorem dX5_tellClean_1 : decode cX5_tellClean 1 = .ok (.iconst 2, 1) := ta_cX5_tellClean_105 (1, (.iconst 2, 1)) (List.mem_of_getElem? (i := 1) rfl)
theorem dX5_tellClean_2 : decode cX5_tellClean 2 = .ok (.invokevirtual 283, 3) := ta_cX5_tellClean_105 (2, (.invokevirtual 283, 3)) (List.mem_of_getElem? (i := 2) rfl)
theorem dX5_tellClean_5 : decode cX5_tellClean 5 = .ok (.aload_n 0, 1) := ta_cX5_tellClean_105 (5, (.aload_n 0, 1)) (List.mem_of_getElem? (i := 3) rfl)
theorem dX5_tellClean_6 : decode cX5_tellClean 6 = .ok (.iload_n 1, 1) := ta_cX5_tellClean_105 (6, (.iload_n 1, 1)) (List.mem_of_getElem? (i := 4) rfl)
theorem dX5_tellClean_7 : decode cX5_tellClean 7 = .ok (.invokevirtual 280, 3) := ta_cX5_tellClean_105 (7, (.invokevirtual 280, 3)) (List.mem_of_getElem? (i := 5) rfl)
theorem dX5_tellClean_10 : decode cX5_tellClean 10 = .ok (.sipush 1000, 3) := ta_cX5_tellClean_105 (10, (.sipush 1000, 3)) (List.mem_of_getElem? (i := 6) rfl)
theorem dX5_tellClean_13 : decode cX5_tellClean 13 = .ok (.iadd, 1) := ta_cX5_tellClean_105 (13, (.iadd, 1)) (List.mem_of_getElem? (i := 7) rfl)
theorem dX5_tellClean_14 : decode cX5_tellClean 14 = .ok (.ireturn, 1) := ta_cX5_tellClean_105 (14, (.ireturn, 1)) (List.mem_of_getElem? (i := 8) rfl)
set_option maxRecDepth 20000 in
theorem ggX5_tellSkating_X5_leave : GoodIn wsX5_tellSkating wsX5_leave := goodIn_r _ [5, 6, 23, 24, 25, 26, 27, 28, 29, 30, 31, 32, 33, 34, 35] rfl (by decide +kernel)
set_option maxRecDepth 20000 in
theorem gX5_tellSkating_X5_leave : GoodIn wsX5_tellSkating (wsV RX5 283 RX5 yX5_leave wsX5_leave) := goodIn_app (goodIn_r _ [1, 2, 3, 4] rfl (by decide +kernel)) ggX5_tellSkating_X5_leave
set_option maxRecDepth 20000 in
theorem ggX5_tellSkating_X5_tellClean : GoodIn wsX5_tellSkating wsX5_tellClean := goodIn_r _ [10, 1, 2, 3, 4, 5, 6, 11, 12, 13, 14, 15, 16, 17, 18, 19, 20, 21, 22, 23, 24, 25, 26, 27, 28, 29, 30, 31, 32, 33, 34, 35, 36, 37, 38, 39, 40, 41, 42, 43] rfl (by decide +kernel)
set_option maxRecDepth 20000 in
theorem gX5_tellSkating_X5_tellClean : GoodIn wsX5_tellSkating (wsV RX5 271 RX5 yX5_tellClean wsX5_tellClean) := goodIn_app (goodIn_r _ [7, 8, 9, 4] rfl (by decide +kernel)) ggX5_tellSkating_X5_tellClean
set_option maxRecDepth 20000 in
theorem ggX5_tellSkating_X5_tellSunk : GoodIn wsX5_tellSkating wsX5_tellSunk := goodIn_r _ [14, 15, 1, 2, 3, 4, 5, 6, 16, 17, 18, 19, 20, 21, 22, 23, 24, 25, 26, 27, 28, 29, 30, 31, 32, 33, 34, 35, 36, 37, 38, 39, 40, 41, 42, 43] rfl (by decide +kernel)
set_option maxRecDepth 20000 in
theorem gX5_tellSkating_X5_tellSunk : GoodIn wsX5_tellSkating (wsV RX5 280 RX5 yX5_tellSunk wsX5_tellSunk) := goodIn_app (goodIn_r _ [11, 12, 13, 4] rfl (by decide +kernel)) ggX5_tellSkating_X5_tellSunk
def tb_cX5_tellSkating_106 : List (Nat × (Instr × Nat)) := [(0, (.aload_n 0, 1)), (1, (.iconst 3, 1)), (2, (.invokevirtual 283, 3)), (5, (.aload_n 0, 1)), (6, (.iload_n 1, 1)), (7, (.invokevirtual 271, 3)), (10, (.istore_n 2, 1)), (11, (.iload_n 2, 1)), (12, (.aload_n 0, 1)), (13, (.iload_n 1, 1)), (14, (.invokevirtual 280, 3)), (17, (.iadd, 1)), (18, (.ireturn, 1))]
set_option maxRecDepth 20000 in
theorem ta_cX5_tellSkating_106 : ∀ q ∈ tb_cX5_tellSkating_106, decode cX5_tellSkating q.1 = .ok q.2 := by decide +kernel
theorem dX5_tellSkating_0 : decode cX5_tellSkating 0 = .ok (.aload_n 0, 1) := ta_cX5_tellSkating_106 (0, (.aload_n 0, 1)) (List.mem_of_getElem? (i := 0) rfl)
theorem dX5_tellSkating_1 : decode cX5_tellSkating 1 = .ok (.iconst 3, 1) := ta_cX5_tellSkating_106 (1, (.iconst 3, 1)) (List.mem_of_getElem? (i := 1) rfl)
theorem dX5_tellSkating_2 : decode cX5_tellSkating 2 = .ok (.invokevirtual 283, 3) := ta_cX5_tellSkating_106 (2, (.invokevirtual 283, 3)) (List.mem_of_getElem? (i := 2) rfl)
theorem dX5_tellSkating_5 : decode cX5_tellSkating 5 = .ok (.aload_n 0, 1) := ta_cX5_tellSkating_106 (5, (.aload_n 0, 1)) (List.mem_of_getElem? (i := 3) rfl)
theorem dX5_tellSkating_6 : decode cX5_tellSkating 6 = .ok (.iload_n 1, 1) := ta_cX5_tellSkating_106 (6, (.iload_n 1, 1)) (List.mem_of_getElem? (i := 4) rfl)
theorem dX5_tellSkating_7 : decode cX5_tellSkating 7 = .ok (.invokevirtual 271, 3) := ta_cX5_tellSkating_106 (7, (.invokevirtual 271, 3)) (List.mem_of_getElem? (i := 5) rfl)
theorem dX5_tellSkating_10 : decode cX5_tellSkating 10 = .ok (.istore_n 2, 1) := ta_cX5_tellSkating_106 (10, (.istore_n 2, 1)) (List.mem_of_getElem? (i := 6) rfl)
theorem dX5_tellSkating_11 : decode cX5_tellSkating 11 = .ok (.iload_n 2, 1) := ta_cX5_tellSkating_106 (11, (.iload_n 2, 1)) (List.mem_of_getElem? (i := 7) rfl)
theorem dX5_tellSkating_12 : decode cX5_tellSkating 12 = .ok (.aload_n 0, 1) := ta_cX5_tellSkating_106 (12, (.aload_n 0, 1)) (List.mem_of_getElem? (i := 8) rfl)
theorem dX5_tellSkating_13 : decode cX5_tellSkating 13 = .ok (.iload_n 1, 1) := ta_cX5_tellSkating_106 (13, (.iload_n 1, 1)) (List.mem_of_getElem? (i := 9) rfl)
theorem dX5_tellSkating_14 : decode cX5_tellSkating 14 = .ok (.invokevirtual 280, 3) := ta_cX5_tellSkating_106 (14, (.invokevirtual 280, 3)) (List.mem_of_getElem? (i := 10) rfl)
theorem dX5_tellSkating_17 : decode cX5_tellSkating 17 = .ok (.iadd, 1) := ta_cX5_tellSkating_106 (17, (.iadd, 1)) (List.mem_of_getElem? (i := 11) rfl)
theorem dX5_tellSkating_18 : decode cX5_tellSkating 18 = .ok (.ireturn, 1) := ta_cX5_tellSkating_106 (18, (.ireturn, 1)) (List.mem_of_getElem? (i := 12) rfl)
set_option maxRecDepth 20000 in
theorem ggX5_tellSteep_X5_leave : GoodIn wsX5_tellSteep wsX5_leave := goodIn_r _ [5, 6, 23, 24, 25, 26, 27, 28, 29, 30, 31, 32, 33, 34, 35] rfl (by decide +kernel)
set_option maxRecDepth 20000 in
theorem gX5_tellSteep_X5_leave : GoodIn wsX5_tellSteep (wsV RX5 283 RX5 yX5_leave wsX5_leave) := goodIn_app (goodIn_r _ [1, 2, 3, 4] rfl (by decide +kernel)) ggX5_tellSteep_X5_leave
set_option maxRecDepth 20000 in
theorem ggX5_tellSteep_X5_tellClean : GoodIn wsX5_tellSteep wsX5_tellClean := goodIn_r _ [10, 1, 2, 3, 4, 5, 6, 11, 12, 13, 14, 15, 16, 17, 18, 19, 20, 21, 22, 23, 24, 25, 26, 27, 28, 29, 30, 31, 32, 33, 34, 35, 36, 37, 38, 39, 40, 41, 42, 43] rfl (by decide +kernel)
set_option maxRecDepth 20000 in
theorem gX5_tellSteep_X5_tellClean : GoodIn wsX5_tellSteep (wsV RX5 271 RX5 yX5_tellClean wsX5_tellClean) := goodIn_app (goodIn_r _ [7, 8, 9, 4] rfl (by decide +kernel)) ggX5_tellSteep_X5_tellClean
def tb_cX5_tellSteep_107 : List (Nat × (Instr × Nat)) := [(0, (.aload_n 0, 1)), (1, (.bipush 6, 2)), (3, (.invokevirtual 283, 3)), (6, (.aload_n 0, 1)), (7, (.iload_n 1, 1)), (8, (.invokevirtual 271, 3)), (11, (.sipush 5000, 3)), (14, (.iadd, 1)), (15, (.ireturn, 1))]
set_option maxRecDepth 20000 in
theorem ta_cX5_tellSteep_107 : ∀ q ∈ tb_cX5_tellSteep_107, decode cX5_tellSteep q.1 = .ok q.2 := by decide +kernel
theorem dX5_tellSteep_0 : decode cX5_tellSteep 0 = .ok (.aload_n 0, 1) := ta_cX5_tellSteep_107 (0, (.aload_n 0, 1)) (List.mem_of_getElem? (i := 0) rfl)
theorem dX5_tellSteep_1 : decode cX5_tellSteep 1 = .ok (.bipush 6, 2) := ta_cX5_tellSteep_107 (1, (.bipush 6, 2)) (List.mem_of_getElem? (i := 1) rfl)
theorem dX5_tellSteep_3 : decode cX5_tellSteep 3 = .ok (.invokevirtual 283, 3) := ta_cX5_tellSteep_107 (3, (.invokevirtual 283, 3)) (List.mem_of_getElem? (i := 2) rfl)
theorem dX5_tellSteep_6 : decode cX5_tellSteep 6 = .ok (.aload_n 0, 1) := ta_cX5_tellSteep_107 (6, (.aload_n 0, 1)) (List.mem_of_getElem? (i := 3) rfl)
theorem dX5_tellSteep_7 : decode cX5_tellSteep 7 = .ok (.iload_n 1, 1) := ta_cX5_tellSteep_107 (7, (.iload_n 1, 1)) (List.mem_of_getElem? (i := 4) rfl)
theorem dX5_tellSteep_8 : decode cX5_tellSteep 8 = .ok (.invokevirtual 271, 3) := ta_cX5_tellSteep_107 (8, (.invokevirtual 271, 3)) (List.mem_of_getElem? (i := 5) rfl)
theorem dX5_tellSteep_11 : decode cX5_tellSteep 11 = .ok (.sipush 5000, 3) := ta_cX5_tellSteep_107 (11, (.sipush 5000, 3)) (List.mem_of_getElem? (i := 6) rfl)
theorem dX5_tellSteep_14 : decode cX5_tellSteep 14 = .ok (.iadd, 1) := ta_cX5_tellSteep_107 (14, (.iadd, 1)) (List.mem_of_getElem? (i := 7) rfl)
theorem dX5_tellSteep_15 : decode cX5_tellSteep 15 = .ok (.ireturn, 1) := ta_cX5_tellSteep_107 (15, (.ireturn, 1)) (List.mem_of_getElem? (i := 8) rfl)
