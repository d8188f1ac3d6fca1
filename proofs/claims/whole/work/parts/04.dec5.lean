set_option maxRecDepth 20000 in
theorem ggX5_init_X4_init : GoodIn wsX5_init wsX4_init := goodIn_r _ [32, 33, 2, 3, 34, 35, 36, 37, 38, 39, 22, 40, 41, 42, 98, 99, 100, 101, 102, 103, 104, 105, 106] (by decide +kernel) (by decide +kernel)
set_option maxRecDepth 20000 in
theorem gX5_init_X4_init_n23 : GoodIn wsX5_init (wsX4_init) := ggX5_init_X4_init
set_option maxRecDepth 20000 in
theorem ggX5_init_X1_init : GoodIn wsX5_init wsX1_init := goodIn_r _ [44, 45, 2, 3, 46, 47, 48, 49, 50, 51, 52, 22, 53, 54, 55, 56, 57, 58, 107, 108, 109, 110, 111, 112, 113] (by decide +kernel) (by decide +kernel)
set_option maxRecDepth 20000 in
theorem gX5_init_X1_init_n30 : GoodIn wsX5_init (wsX1_init) := ggX5_init_X1_init
set_option maxRecDepth 20000 in
theorem ggX5_init_X0_init : GoodIn wsX5_init wsX0_init := goodIn_r _ [60, 61, 2, 3, 22, 62, 63, 64, 65, 66, 67, 68, 69, 114, 115, 116, 117, 118, 119, 120, 121] (by decide +kernel) (by decide +kernel)
set_option maxRecDepth 20000 in
theorem gX5_init_X0_init_n37 : GoodIn wsX5_init (wsX0_init) := ggX5_init_X0_init
set_option maxRecDepth 20000 in
theorem ggX5_init_X4_takeLaw : GoodIn wsX5_init wsX4_takeLaw := goodIn_r _ [73, 34, 35, 36, 37, 38, 39, 74, 75, 76, 13, 77, 52, 98, 99, 100, 101, 102, 103, 104, 105, 106, 107, 108, 109, 110, 111, 112, 113] (by decide +kernel) (by decide +kernel)
set_option maxRecDepth 20000 in
theorem gX5_init_X4_takeLaw : GoodIn wsX5_init (wsV RX5 70 RX4 yX4_takeLaw wsX4_takeLaw) := goodIn_app (goodIn_of _ (by decide +kernel)) ggX5_init_X4_takeLaw
set_option maxRecDepth 20000 in
theorem ggX5_init_X2_init : GoodIn wsX5_init wsX2_init := goodIn_r _ [79, 80, 2, 3, 22, 81, 82, 83, 84, 122, 123, 124, 125] (by decide +kernel) (by decide +kernel)
set_option maxRecDepth 20000 in
theorem gX5_init_X2_init_n74 : GoodIn wsX5_init (wsX2_init) := ggX5_init_X2_init
theorem dX5_init_0 : decode cX5_init 0 = .ok (.aload_n 0, 1) := by decide +kernel
theorem dX5_init_1 : decode cX5_init 1 = .ok (.invokespecial 3, 3) := by decide +kernel
theorem dX5_init_4 : decode cX5_init 4 = .ok (.aload_n 0, 1) := by decide +kernel
theorem dX5_init_5 : decode cX5_init 5 = .ok (.bipush 8, 2) := by decide +kernel
theorem dX5_init_7 : decode cX5_init 7 = .ok (.anewarray 11, 3) := by decide +kernel
theorem dX5_init_10 : decode cX5_init 10 = .ok (.putfield 13, 3) := by decide +kernel
theorem dX5_init_13 : decode cX5_init 13 = .ok (.aload_n 0, 1) := by decide +kernel
theorem dX5_init_14 : decode cX5_init 14 = .ok (.iconst 0, 1) := by decide +kernel
theorem dX5_init_15 : decode cX5_init 15 = .ok (.putfield 17, 3) := by decide +kernel
theorem dX5_init_18 : decode cX5_init 18 = .ok (.aload_n 0, 1) := by decide +kernel
theorem dX5_init_19 : decode cX5_init 19 = .ok (.new 21, 3) := by decide +kernel
theorem dX5_init_22 : decode cX5_init 22 = .ok (.dup, 1) := by decide +kernel
theorem dX5_init_23 : decode cX5_init 23 = .ok (.invokespecial 23, 3) := by decide +kernel
theorem dX5_init_26 : decode cX5_init 26 = .ok (.putfield 24, 3) := by decide +kernel
theorem dX5_init_29 : decode cX5_init 29 = .ok (.aload_n 0, 1) := by decide +kernel
theorem dX5_init_30 : decode cX5_init 30 = .ok (.new 28, 3) := by decide +kernel
theorem dX5_init_33 : decode cX5_init 33 = .ok (.dup, 1) := by decide +kernel
theorem dX5_init_34 : decode cX5_init 34 = .ok (.invokespecial 30, 3) := by decide +kernel
theorem dX5_init_37 : decode cX5_init 37 = .ok (.putfield 31, 3) := by decide +kernel
theorem dX5_init_40 : decode cX5_init 40 = .ok (.aload_n 0, 1) := by decide +kernel
theorem dX5_init_41 : decode cX5_init 41 = .ok (.new 35, 3) := by decide +kernel
theorem dX5_init_44 : decode cX5_init 44 = .ok (.dup, 1) := by decide +kernel
theorem dX5_init_45 : decode cX5_init 45 = .ok (.invokespecial 37, 3) := by decide +kernel
theorem dX5_init_48 : decode cX5_init 48 = .ok (.putfield 38, 3) := by decide +kernel
theorem dX5_init_51 : decode cX5_init 51 = .ok (.aload_n 0, 1) := by decide +kernel
theorem dX5_init_52 : decode cX5_init 52 = .ok (.new 35, 3) := by decide +kernel
theorem dX5_init_55 : decode cX5_init 55 = .ok (.dup, 1) := by decide +kernel
theorem dX5_init_56 : decode cX5_init 56 = .ok (.invokespecial 37, 3) := by decide +kernel
theorem dX5_init_59 : decode cX5_init 59 = .ok (.putfield 42, 3) := by decide +kernel
theorem dX5_init_62 : decode cX5_init 62 = .ok (.aload_n 0, 1) := by decide +kernel
theorem dX5_init_63 : decode cX5_init 63 = .ok (.bipush 30, 2) := by decide +kernel
theorem dX5_init_65 : decode cX5_init 65 = .ok (.putfield 45, 3) := by decide +kernel
theorem dX5_init_68 : decode cX5_init 68 = .ok (.aload_n 0, 1) := by decide +kernel
theorem dX5_init_69 : decode cX5_init 69 = .ok (.bipush 60, 2) := by decide +kernel
theorem dX5_init_71 : decode cX5_init 71 = .ok (.putfield 48, 3) := by decide +kernel
theorem dX5_init_74 : decode cX5_init 74 = .ok (.aload_n 0, 1) := by decide +kernel
theorem dX5_init_75 : decode cX5_init 75 = .ok (.bipush 20, 2) := by decide +kernel
theorem dX5_init_77 : decode cX5_init 77 = .ok (.newarray .int, 2) := by decide +kernel
theorem dX5_init_79 : decode cX5_init 79 = .ok (.putfield 51, 3) := by decide +kernel
theorem dX5_init_82 : decode cX5_init 82 = .ok (.aload_n 0, 1) := by decide +kernel
theorem dX5_init_83 : decode cX5_init 83 = .ok (.iconst 0, 1) := by decide +kernel
theorem dX5_init_84 : decode cX5_init 84 = .ok (.putfield 55, 3) := by decide +kernel
theorem dX5_init_87 : decode cX5_init 87 = .ok (.aload_n 0, 1) := by decide +kernel
theorem dX5_init_88 : decode cX5_init 88 = .ok (.iconst 4, 1) := by decide +kernel
theorem dX5_init_89 : decode cX5_init 89 = .ok (.anewarray 58, 3) := by decide +kernel
theorem dX5_init_92 : decode cX5_init 92 = .ok (.putfield 60, 3) := by decide +kernel
theorem dX5_init_95 : decode cX5_init 95 = .ok (.aload_n 0, 1) := by decide +kernel
theorem dX5_init_96 : decode cX5_init 96 = .ok (.iconst 0, 1) := by decide +kernel
theorem dX5_init_97 : decode cX5_init 97 = .ok (.putfield 64, 3) := by decide +kernel
theorem dX5_init_100 : decode cX5_init 100 = .ok (.aload_n 0, 1) := by decide +kernel
theorem dX5_init_101 : decode cX5_init 101 = .ok (.iconst 0, 1) := by decide +kernel
theorem dX5_init_102 : decode cX5_init 102 = .ok (.putfield 67, 3) := by decide +kernel
theorem dX5_init_105 : decode cX5_init 105 = .ok (.aload_n 0, 1) := by decide +kernel
theorem dX5_init_106 : decode cX5_init 106 = .ok (.getfield 24, 3) := by decide +kernel
theorem dX5_init_109 : decode cX5_init 109 = .ok (.aload_n 0, 1) := by decide +kernel
theorem dX5_init_110 : decode cX5_init 110 = .ok (.getfield 31, 3) := by decide +kernel
theorem dX5_init_113 : decode cX5_init 113 = .ok (.invokevirtual 70, 3) := by decide +kernel
theorem dX5_init_116 : decode cX5_init 116 = .ok (.iconst 0, 1) := by decide +kernel
theorem dX5_init_117 : decode cX5_init 117 = .ok (.istore_n 1, 1) := by decide +kernel
theorem dX5_init_118 : decode cX5_init 118 = .ok (.iload_n 1, 1) := by decide +kernel
theorem dX5_init_119 : decode cX5_init 119 = .ok (.aload_n 0, 1) := by decide +kernel
theorem dX5_init_120 : decode cX5_init 120 = .ok (.getfield 60, 3) := by decide +kernel
theorem dX5_init_123 : decode cX5_init 123 = .ok (.arraylength, 1) := by decide +kernel
theorem dX5_init_124 : decode cX5_init 124 = .ok (.if_icmp .ge 22, 3) := by decide +kernel
theorem dX5_init_127 : decode cX5_init 127 = .ok (.aload_n 0, 1) := by decide +kernel
theorem dX5_init_128 : decode cX5_init 128 = .ok (.getfield 60, 3) := by decide +kernel
theorem dX5_init_131 : decode cX5_init 131 = .ok (.iload_n 1, 1) := by decide +kernel
theorem dX5_init_132 : decode cX5_init 132 = .ok (.new 58, 3) := by decide +kernel
theorem dX5_init_135 : decode cX5_init 135 = .ok (.dup, 1) := by decide +kernel
theorem dX5_init_136 : decode cX5_init 136 = .ok (.invokespecial 74, 3) := by decide +kernel
theorem dX5_init_139 : decode cX5_init 139 = .ok (.aastore, 1) := by decide +kernel
theorem dX5_init_140 : decode cX5_init 140 = .ok (.iinc 1 1, 3) := by decide +kernel
theorem dX5_init_143 : decode cX5_init 143 = .ok (.goto (-25), 3) := by decide +kernel
theorem dX5_init_146 : decode cX5_init 146 = .ok (.return_, 1) := by decide +kernel
set_option maxRecDepth 20000 in
theorem ggX5_stone_X5_within : GoodIn wsX5_stone wsX5_within := goodIn_r _ [9] (by decide +kernel) (by decide +kernel)
set_option maxRecDepth 20000 in
theorem gX5_stone_X5_within : GoodIn wsX5_stone (va_wsS RX5 75 yX5_within wsX5_within) := goodIn_app (goodIn_of _ (by decide +kernel)) ggX5_stone_X5_within
set_option maxRecDepth 20000 in
theorem ggX5_stone_X3_init : GoodIn wsX5_stone wsX3_init := goodIn_r _ [12, 13, 14, 15, 16, 17, 18, 19, 20, 34, 35, 36, 37, 38] (by decide +kernel) (by decide +kernel)
set_option maxRecDepth 20000 in
theorem gX5_stone_X3_init : GoodIn wsX5_stone (wsX3_init) := ggX5_stone_X3_init
theorem dX5_stone_0 : decode cX5_stone 0 = .ok (.iload_n 1, 1) := by decide +kernel
theorem dX5_stone_1 : decode cX5_stone 1 = .ok (.iconst 1, 1) := by decide +kernel
theorem dX5_stone_2 : decode cX5_stone 2 = .ok (.bipush 99, 2) := by decide +kernel
theorem dX5_stone_4 : decode cX5_stone 4 = .ok (.invokestatic 75, 3) := by decide +kernel
theorem dX5_stone_7 : decode cX5_stone 7 = .ok (.ifCond .eq 23, 3) := by decide +kernel
theorem dX5_stone_10 : decode cX5_stone 10 = .ok (.iload_n 2, 1) := by decide +kernel
theorem dX5_stone_11 : decode cX5_stone 11 = .ok (.iconst 1, 1) := by decide +kernel
theorem dX5_stone_12 : decode cX5_stone 12 = .ok (.bipush 99, 2) := by decide +kernel
theorem dX5_stone_14 : decode cX5_stone 14 = .ok (.invokestatic 75, 3) := by decide +kernel
theorem dX5_stone_17 : decode cX5_stone 17 = .ok (.ifCond .eq 13, 3) := by decide +kernel
theorem dX5_stone_20 : decode cX5_stone 20 = .ok (.iload_n 3, 1) := by decide +kernel
theorem dX5_stone_21 : decode cX5_stone 21 = .ok (.iconst 0, 1) := by decide +kernel
theorem dX5_stone_22 : decode cX5_stone 22 = .ok (.bipush 9, 2) := by decide +kernel
theorem dX5_stone_24 : decode cX5_stone 24 = .ok (.invokestatic 75, 3) := by decide +kernel
theorem dX5_stone_27 : decode cX5_stone 27 = .ok (.ifCond .ne 6, 3) := by decide +kernel
theorem dX5_stone_30 : decode cX5_stone 30 = .ok (.bipush (-2), 2) := by decide +kernel
theorem dX5_stone_32 : decode cX5_stone 32 = .ok (.ireturn, 1) := by decide +kernel
theorem dX5_stone_33 : decode cX5_stone 33 = .ok (.aload_n 0, 1) := by decide +kernel
theorem dX5_stone_34 : decode cX5_stone 34 = .ok (.getfield 17, 3) := by decide +kernel
theorem dX5_stone_37 : decode cX5_stone 37 = .ok (.ifCond .lt 15, 3) := by decide +kernel
theorem dX5_stone_40 : decode cX5_stone 40 = .ok (.aload_n 0, 1) := by decide +kernel
theorem dX5_stone_41 : decode cX5_stone 41 = .ok (.getfield 17, 3) := by decide +kernel
theorem dX5_stone_44 : decode cX5_stone 44 = .ok (.aload_n 0, 1) := by decide +kernel
theorem dX5_stone_45 : decode cX5_stone 45 = .ok (.getfield 13, 3) := by decide +kernel
theorem dX5_stone_48 : decode cX5_stone 48 = .ok (.arraylength, 1) := by decide +kernel
theorem dX5_stone_49 : decode cX5_stone 49 = .ok (.if_icmp .lt 6, 3) := by decide +kernel
theorem dX5_stone_52 : decode cX5_stone 52 = .ok (.bipush (-4), 2) := by decide +kernel
theorem dX5_stone_54 : decode cX5_stone 54 = .ok (.ireturn, 1) := by decide +kernel
theorem dX5_stone_55 : decode cX5_stone 55 = .ok (.aload_n 0, 1) := by decide +kernel
theorem dX5_stone_56 : decode cX5_stone 56 = .ok (.getfield 13, 3) := by decide +kernel
theorem dX5_stone_59 : decode cX5_stone 59 = .ok (.aload_n 0, 1) := by decide +kernel
theorem dX5_stone_60 : decode cX5_stone 60 = .ok (.getfield 17, 3) := by decide +kernel
theorem dX5_stone_63 : decode cX5_stone 63 = .ok (.new 11, 3) := by decide +kernel
theorem dX5_stone_66 : decode cX5_stone 66 = .ok (.dup, 1) := by decide +kernel
theorem dX5_stone_67 : decode cX5_stone 67 = .ok (.iload_n 1, 1) := by decide +kernel
theorem dX5_stone_68 : decode cX5_stone 68 = .ok (.iload_n 2, 1) := by decide +kernel
theorem dX5_stone_69 : decode cX5_stone 69 = .ok (.iload_n 3, 1) := by decide +kernel
theorem dX5_stone_70 : decode cX5_stone 70 = .ok (.invokespecial 79, 3) := by decide +kernel
theorem dX5_stone_73 : decode cX5_stone 73 = .ok (.aastore, 1) := by decide +kernel
theorem dX5_stone_74 : decode cX5_stone 74 = .ok (.aload_n 0, 1) := by decide +kernel
theorem dX5_stone_75 : decode cX5_stone 75 = .ok (.dup, 1) := by decide +kernel
theorem dX5_stone_76 : decode cX5_stone 76 = .ok (.getfield 17, 3) := by decide +kernel
theorem dX5_stone_79 : decode cX5_stone 79 = .ok (.iconst 1, 1) := by decide +kernel
theorem dX5_stone_80 : decode cX5_stone 80 = .ok (.iadd, 1) := by decide +kernel
theorem dX5_stone_81 : decode cX5_stone 81 = .ok (.putfield 17, 3) := by decide +kernel
theorem dX5_stone_84 : decode cX5_stone 84 = .ok (.aload_n 0, 1) := by decide +kernel
theorem dX5_stone_85 : decode cX5_stone 85 = .ok (.getfield 17, 3) := by decide +kernel
theorem dX5_stone_88 : decode cX5_stone 88 = .ok (.iconst 1, 1) := by decide +kernel
theorem dX5_stone_89 : decode cX5_stone 89 = .ok (.isub, 1) := by decide +kernel
theorem dX5_stone_90 : decode cX5_stone 90 = .ok (.ireturn, 1) := by decide +kernel
set_option maxRecDepth 20000 in
theorem ggX5_ofStone_X5_stoneAt : GoodIn wsX5_ofStone wsX5_stoneAt := goodIn_r _ [10, 11, 12, 18, 19, 20, 21, 22, 23, 24, 25, 26, 27, 28, 29, 30] (by decide +kernel) (by decide +kernel)
set_option maxRecDepth 20000 in
theorem gX5_ofStone_X5_stoneAt : GoodIn wsX5_ofStone (wsV RX5 82 RX5 yX5_stoneAt wsX5_stoneAt) := goodIn_app (goodIn_of _ (by decide +kernel)) ggX5_ofStone_X5_stoneAt
theorem dX5_ofStone_0 : decode cX5_ofStone 0 = .ok (.aload_n 0, 1) := by decide +kernel
theorem dX5_ofStone_1 : decode cX5_ofStone 1 = .ok (.iload_n 1, 1) := by decide +kernel
theorem dX5_ofStone_2 : decode cX5_ofStone 2 = .ok (.invokevirtual 82, 3) := by decide +kernel
theorem dX5_ofStone_5 : decode cX5_ofStone 5 = .ok (.astore_n 3, 1) := by decide +kernel
theorem dX5_ofStone_6 : decode cX5_ofStone 6 = .ok (.aload_n 3, 1) := by decide +kernel
theorem dX5_ofStone_7 : decode cX5_ofStone 7 = .ok (.ifnonnull 5, 3) := by decide +kernel
theorem dX5_ofStone_10 : decode cX5_ofStone 10 = .ok (.iconst (-1), 1) := by decide +kernel
theorem dX5_ofStone_11 : decode cX5_ofStone 11 = .ok (.ireturn, 1) := by decide +kernel
theorem dX5_ofStone_12 : decode cX5_ofStone 12 = .ok (.iload_n 2, 1) := by decide +kernel
theorem dX5_ofStone_13 : decode cX5_ofStone 13 = .ok (.tableswitch 60 0 4 #[35, 40, 45, 50, 55], 35) := by decide +kernel
theorem dX5_ofStone_48 : decode cX5_ofStone 48 = .ok (.aload_n 3, 1) := by decide +kernel
theorem dX5_ofStone_49 : decode cX5_ofStone 49 = .ok (.getfield 86, 3) := by decide +kernel
theorem dX5_ofStone_52 : decode cX5_ofStone 52 = .ok (.ireturn, 1) := by decide +kernel
theorem dX5_ofStone_53 : decode cX5_ofStone 53 = .ok (.aload_n 3, 1) := by decide +kernel
theorem dX5_ofStone_54 : decode cX5_ofStone 54 = .ok (.getfield 89, 3) := by decide +kernel
theorem dX5_ofStone_57 : decode cX5_ofStone 57 = .ok (.ireturn, 1) := by decide +kernel
theorem dX5_ofStone_58 : decode cX5_ofStone 58 = .ok (.aload_n 3, 1) := by decide +kernel
theorem dX5_ofStone_59 : decode cX5_ofStone 59 = .ok (.getfield 92, 3) := by decide +kernel
theorem dX5_ofStone_62 : decode cX5_ofStone 62 = .ok (.ireturn, 1) := by decide +kernel
theorem dX5_ofStone_63 : decode cX5_ofStone 63 = .ok (.aload_n 3, 1) := by decide +kernel
theorem dX5_ofStone_64 : decode cX5_ofStone 64 = .ok (.getfield 95, 3) := by decide +kernel
theorem dX5_ofStone_67 : decode cX5_ofStone 67 = .ok (.ireturn, 1) := by decide +kernel
theorem dX5_ofStone_68 : decode cX5_ofStone 68 = .ok (.aload_n 3, 1) := by decide +kernel
theorem dX5_ofStone_69 : decode cX5_ofStone 69 = .ok (.getfield 98, 3) := by decide +kernel
theorem dX5_ofStone_72 : decode cX5_ofStone 72 = .ok (.ireturn, 1) := by decide +kernel
theorem dX5_ofStone_73 : decode cX5_ofStone 73 = .ok (.bipush (-2), 2) := by decide +kernel
theorem dX5_ofStone_75 : decode cX5_ofStone 75 = .ok (.ireturn, 1) := by decide +kernel
set_option maxRecDepth 20000 in
theorem ggX5_law_X5_refusalOfCells : GoodIn wsX5_law wsX5_refusalOfCells := goodIn_r _ [8, 9, 10, 11, 12, 7, 13, 14, 15, 16, 17, 18, 19, 20, 21, 22, 23, 24, 25, 26, 27, 28, 29, 30, 31, 32, 33, 34, 35, 36, 105, 106, 107, 108, 109, 110, 111, 112, 113, 114, 115, 116, 117, 125, 126, 127, 128] (by decide +kernel) (by decide +kernel)
set_option maxRecDepth 20000 in
theorem gX5_law_X5_refusalOfCells : GoodIn wsX5_law (wsV RX5 101 RX5 yX5_refusalOfCells wsX5_refusalOfCells) := goodIn_app (goodIn_of _ (by decide +kernel)) ggX5_law_X5_refusalOfCells
set_option maxRecDepth 20000 in
theorem ggX5_law_X5_sheetAt : GoodIn wsX5_law wsX5_sheetAt := goodIn_r _ [13, 14, 105, 106, 107, 108, 109, 110, 111, 112, 113, 114, 115, 116, 117] (by decide +kernel) (by decide +kernel)
set_option maxRecDepth 20000 in
theorem gX5_law_X5_sheetAt : GoodIn wsX5_law (wsV RX5 105 RX5 yX5_sheetAt wsX5_sheetAt) := goodIn_app (goodIn_of _ (by decide +kernel)) ggX5_law_X5_sheetAt
set_option maxRecDepth 20000 in
theorem ggX5_law_X1_firstFault : GoodIn wsX5_law wsX1_firstFault := goodIn_r _ [41, 42, 43, 44, 45, 46, 47, 48, 49, 50, 51, 52, 53, 54, 55, 56, 57, 58, 59, 40, 60, 61, 62, 63, 64, 65, 66, 67, 68, 69, 70, 71, 24, 72, 73, 74, 75, 76, 77, 36, 78, 79, 80, 81, 82, 83, 84, 85, 19, 7, 20, 86, 87, 88, 89, 118, 119, 120, 121, 122, 123, 124, 125, 126, 127, 128] (by decide +kernel) (by decide +kernel)
set_option maxRecDepth 20000 in
theorem gX5_law_X1_firstFault : GoodIn wsX5_law (wsV RX5 109 RX1 yX1_firstFault wsX1_firstFault) := goodIn_app (goodIn_of _ (by decide +kernel)) ggX5_law_X1_firstFault
set_option maxRecDepth 20000 in
theorem ggX5_law_X4_takeLaw : GoodIn wsX5_law wsX4_takeLaw := goodIn_r _ [94, 95, 96, 97, 98, 99, 100, 101, 102, 103, 40, 104, 47, 129, 130, 131, 132, 133, 134, 135, 136, 137, 118, 119, 120, 121, 122, 123, 124] (by decide +kernel) (by decide +kernel)
set_option maxRecDepth 20000 in
theorem gX5_law_X4_takeLaw : GoodIn wsX5_law (wsV RX5 70 RX4 yX4_takeLaw wsX4_takeLaw) := goodIn_app (goodIn_of _ (by decide +kernel)) ggX5_law_X4_takeLaw
theorem dX5_law_0 : decode cX5_law 0 = .ok (.aload_n 0, 1) := by decide +kernel
theorem dX5_law_1 : decode cX5_law 1 = .ok (.iload_n 1, 1) := by decide +kernel
theorem dX5_law_2 : decode cX5_law 2 = .ok (.iload_n 2, 1) := by decide +kernel
theorem dX5_law_3 : decode cX5_law 3 = .ok (.iload_n 3, 1) := by decide +kernel
theorem dX5_law_4 : decode cX5_law 4 = .ok (.iload 4, 2) := by decide +kernel
theorem dX5_law_6 : decode cX5_law 6 = .ok (.invokevirtual 101, 3) := by decide +kernel
theorem dX5_law_9 : decode cX5_law 9 = .ok (.istore 5, 2) := by decide +kernel
theorem dX5_law_11 : decode cX5_law 11 = .ok (.iload 5, 2) := by decide +kernel
theorem dX5_law_13 : decode cX5_law 13 = .ok (.ifCond .eq 6, 3) := by decide +kernel
theorem dX5_law_16 : decode cX5_law 16 = .ok (.iload 5, 2) := by decide +kernel
theorem dX5_law_18 : decode cX5_law 18 = .ok (.ireturn, 1) := by decide +kernel
theorem dX5_law_19 : decode cX5_law 19 = .ok (.aload_n 0, 1) := by decide +kernel
theorem dX5_law_20 : decode cX5_law 20 = .ok (.getfield 31, 3) := by decide +kernel
theorem dX5_law_23 : decode cX5_law 23 = .ok (.aload_n 0, 1) := by decide +kernel
theorem dX5_law_24 : decode cX5_law 24 = .ok (.iload_n 1, 1) := by decide +kernel
theorem dX5_law_25 : decode cX5_law 25 = .ok (.invokevirtual 105, 3) := by decide +kernel
theorem dX5_law_28 : decode cX5_law 28 = .ok (.iload_n 3, 1) := by decide +kernel
theorem dX5_law_29 : decode cX5_law 29 = .ok (.iload 4, 2) := by decide +kernel
theorem dX5_law_31 : decode cX5_law 31 = .ok (.invokevirtual 109, 3) := by decide +kernel
theorem dX5_law_34 : decode cX5_law 34 = .ok (.istore 6, 2) := by decide +kernel
theorem dX5_law_36 : decode cX5_law 36 = .ok (.iload 6, 2) := by decide +kernel
theorem dX5_law_38 : decode cX5_law 38 = .ok (.ifCond .lt 9, 3) := by decide +kernel
theorem dX5_law_41 : decode cX5_law 41 = .ok (.bipush (-100), 2) := by decide +kernel
theorem dX5_law_43 : decode cX5_law 43 = .ok (.iload 6, 2) := by decide +kernel
theorem dX5_law_45 : decode cX5_law 45 = .ok (.isub, 1) := by decide +kernel
theorem dX5_law_46 : decode cX5_law 46 = .ok (.ireturn, 1) := by decide +kernel
theorem dX5_law_47 : decode cX5_law 47 = .ok (.aload_n 0, 1) := by decide +kernel
theorem dX5_law_48 : decode cX5_law 48 = .ok (.getfield 24, 3) := by decide +kernel
theorem dX5_law_51 : decode cX5_law 51 = .ok (.aload_n 0, 1) := by decide +kernel
theorem dX5_law_52 : decode cX5_law 52 = .ok (.getfield 31, 3) := by decide +kernel
theorem dX5_law_55 : decode cX5_law 55 = .ok (.invokevirtual 70, 3) := by decide +kernel
theorem dX5_law_58 : decode cX5_law 58 = .ok (.aload_n 0, 1) := by decide +kernel
theorem dX5_law_59 : decode cX5_law 59 = .ok (.getfield 31, 3) := by decide +kernel
theorem dX5_law_62 : decode cX5_law 62 = .ok (.getfield 113, 3) := by decide +kernel
theorem dX5_law_65 : decode cX5_law 65 = .ok (.ireturn, 1) := by decide +kernel
theorem dX5_rule_0 : decode cX5_rule 0 = .ok (.iload_n 1, 1) := by decide +kernel
theorem dX5_rule_1 : decode cX5_rule 1 = .ok (.tableswitch 87 0 5 #[39, 47, 55, 63, 71, 79], 39) := by decide +kernel
theorem dX5_rule_40 : decode cX5_rule 40 = .ok (.aload_n 0, 1) := by decide +kernel
theorem dX5_rule_41 : decode cX5_rule 41 = .ok (.getfield 24, 3) := by decide +kernel
theorem dX5_rule_44 : decode cX5_rule 44 = .ok (.getfield 116, 3) := by decide +kernel
theorem dX5_rule_47 : decode cX5_rule 47 = .ok (.ireturn, 1) := by decide +kernel
theorem dX5_rule_48 : decode cX5_rule 48 = .ok (.aload_n 0, 1) := by decide +kernel
theorem dX5_rule_49 : decode cX5_rule 49 = .ok (.getfield 24, 3) := by decide +kernel
theorem dX5_rule_52 : decode cX5_rule 52 = .ok (.getfield 119, 3) := by decide +kernel
theorem dX5_rule_55 : decode cX5_rule 55 = .ok (.ireturn, 1) := by decide +kernel
theorem dX5_rule_56 : decode cX5_rule 56 = .ok (.aload_n 0, 1) := by decide +kernel
theorem dX5_rule_57 : decode cX5_rule 57 = .ok (.getfield 24, 3) := by decide +kernel
theorem dX5_rule_60 : decode cX5_rule 60 = .ok (.getfield 122, 3) := by decide +kernel
theorem dX5_rule_63 : decode cX5_rule 63 = .ok (.ireturn, 1) := by decide +kernel
theorem dX5_rule_64 : decode cX5_rule 64 = .ok (.aload_n 0, 1) := by decide +kernel
theorem dX5_rule_65 : decode cX5_rule 65 = .ok (.getfield 24, 3) := by decide +kernel
theorem dX5_rule_68 : decode cX5_rule 68 = .ok (.getfield 125, 3) := by decide +kernel
theorem dX5_rule_71 : decode cX5_rule 71 = .ok (.ireturn, 1) := by decide +kernel
theorem dX5_rule_72 : decode cX5_rule 72 = .ok (.aload_n 0, 1) := by decide +kernel
theorem dX5_rule_73 : decode cX5_rule 73 = .ok (.getfield 24, 3) := by decide +kernel
theorem dX5_rule_76 : decode cX5_rule 76 = .ok (.getfield 128, 3) := by decide +kernel
theorem dX5_rule_79 : decode cX5_rule 79 = .ok (.ireturn, 1) := by decide +kernel
theorem dX5_rule_80 : decode cX5_rule 80 = .ok (.aload_n 0, 1) := by decide +kernel
theorem dX5_rule_81 : decode cX5_rule 81 = .ok (.getfield 24, 3) := by decide +kernel
theorem dX5_rule_84 : decode cX5_rule 84 = .ok (.getfield 131, 3) := by decide +kernel
theorem dX5_rule_87 : decode cX5_rule 87 = .ok (.ireturn, 1) := by decide +kernel
theorem dX5_rule_88 : decode cX5_rule 88 = .ok (.iconst (-1), 1) := by decide +kernel
theorem dX5_rule_89 : decode cX5_rule 89 = .ok (.ireturn, 1) := by decide +kernel
set_option maxRecDepth 20000 in
theorem ggX5_waves_X5_refusalOfRow : GoodIn wsX5_waves wsX5_refusalOfRow := goodIn_r _ [8, 9, 10, 11, 7, 12, 13, 14, 15, 16, 17, 18, 19, 20, 21, 22, 23, 24, 25, 26, 27, 28, 29, 30, 31, 32, 33, 34, 35, 36, 37, 38, 39, 40, 41, 42, 43, 44, 45, 46, 47, 48, 49, 54, 55, 56, 57, 58, 59, 60, 61, 62, 63, 64, 65, 66, 76, 77, 78, 79] (by decide +kernel) (by decide +kernel)
set_option maxRecDepth 20000 in
theorem gX5_waves_X5_refusalOfRow : GoodIn wsX5_waves (wsV RX5 134 RX5 yX5_refusalOfRow wsX5_refusalOfRow) := goodIn_app (goodIn_of _ (by decide +kernel)) ggX5_waves_X5_refusalOfRow
set_option maxRecDepth 20000 in
theorem ggX5_waves_X5_takeCells : GoodIn wsX5_waves wsX5_takeCells := goodIn_r _ [53, 14, 15, 16, 7, 17, 18, 41, 42, 43, 28, 44, 45, 46, 47, 48, 49, 40, 54, 55, 56, 57, 58, 59, 60, 61, 62, 63, 64, 65, 66, 76, 77, 78, 79] (by decide +kernel) (by decide +kernel)
set_option maxRecDepth 20000 in
theorem gX5_waves_X5_takeCells : GoodIn wsX5_waves (wsV RX5 141 RX5 yX5_takeCells wsX5_takeCells) := goodIn_app (goodIn_of _ (by decide +kernel)) ggX5_waves_X5_takeCells
theorem dX5_waves_0 : decode cX5_waves 0 = .ok (.aload_n 0, 1) := by decide +kernel
theorem dX5_waves_1 : decode cX5_waves 1 = .ok (.iload_n 1, 1) := by decide +kernel
theorem dX5_waves_2 : decode cX5_waves 2 = .ok (.iload_n 2, 1) := by decide +kernel
theorem dX5_waves_3 : decode cX5_waves 3 = .ok (.iload_n 3, 1) := by decide +kernel
theorem dX5_waves_4 : decode cX5_waves 4 = .ok (.iload 4, 2) := by decide +kernel
theorem dX5_waves_6 : decode cX5_waves 6 = .ok (.bipush (-9), 2) := by decide +kernel
theorem dX5_waves_8 : decode cX5_waves 8 = .ok (.bipush 9, 2) := by decide +kernel
theorem dX5_waves_10 : decode cX5_waves 10 = .ok (.invokevirtual 134, 3) := by decide +kernel
theorem dX5_waves_13 : decode cX5_waves 13 = .ok (.istore 5, 2) := by decide +kernel
theorem dX5_waves_15 : decode cX5_waves 15 = .ok (.iload 5, 2) := by decide +kernel
theorem dX5_waves_17 : decode cX5_waves 17 = .ok (.ifCond .eq 6, 3) := by decide +kernel
theorem dX5_waves_20 : decode cX5_waves 20 = .ok (.iload 5, 2) := by decide +kernel
theorem dX5_waves_22 : decode cX5_waves 22 = .ok (.ireturn, 1) := by decide +kernel
theorem dX5_waves_23 : decode cX5_waves 23 = .ok (.aload_n 0, 1) := by decide +kernel
theorem dX5_waves_24 : decode cX5_waves 24 = .ok (.iload_n 1, 1) := by decide +kernel
theorem dX5_waves_25 : decode cX5_waves 25 = .ok (.iload_n 3, 1) := by decide +kernel
theorem dX5_waves_26 : decode cX5_waves 26 = .ok (.iload 4, 2) := by decide +kernel
theorem dX5_waves_28 : decode cX5_waves 28 = .ok (.aload_n 0, 1) := by decide +kernel
theorem dX5_waves_29 : decode cX5_waves 29 = .ok (.getfield 24, 3) := by decide +kernel
theorem dX5_waves_32 : decode cX5_waves 32 = .ok (.getfield 138, 3) := by decide +kernel
theorem dX5_waves_35 : decode cX5_waves 35 = .ok (.invokevirtual 141, 3) := by decide +kernel
theorem dX5_waves_38 : decode cX5_waves 38 = .ok (.aload_n 0, 1) := by decide +kernel
theorem dX5_waves_39 : decode cX5_waves 39 = .ok (.getfield 24, 3) := by decide +kernel
theorem dX5_waves_42 : decode cX5_waves 42 = .ok (.iload 4, 2) := by decide +kernel
theorem dX5_waves_44 : decode cX5_waves 44 = .ok (.putfield 145, 3) := by decide +kernel
theorem dX5_waves_47 : decode cX5_waves 47 = .ok (.iload 4, 2) := by decide +kernel
theorem dX5_waves_49 : decode cX5_waves 49 = .ok (.ireturn, 1) := by decide +kernel
set_option maxRecDepth 20000 in
theorem ggX5_shift_X5_within : GoodIn wsX5_shift wsX5_within := goodIn_r _ [6] (by decide +kernel) (by decide +kernel)
set_option maxRecDepth 20000 in
theorem gX5_shift_X5_within : GoodIn wsX5_shift (va_wsS RX5 75 yX5_within wsX5_within) := goodIn_app (goodIn_of _ (by decide +kernel)) ggX5_shift_X5_within
theorem dX5_shift_0 : decode cX5_shift 0 = .ok (.iload_n 1, 1) := by decide +kernel
theorem dX5_shift_1 : decode cX5_shift 1 = .ok (.iconst 0, 1) := by decide +kernel
theorem dX5_shift_2 : decode cX5_shift 2 = .ok (.bipush 19, 2) := by decide +kernel
theorem dX5_shift_4 : decode cX5_shift 4 = .ok (.invokestatic 75, 3) := by decide +kernel
theorem dX5_shift_7 : decode cX5_shift 7 = .ok (.ifCond .ne 6, 3) := by decide +kernel
theorem dX5_shift_10 : decode cX5_shift 10 = .ok (.bipush (-2), 2) := by decide +kernel
theorem dX5_shift_12 : decode cX5_shift 12 = .ok (.ireturn, 1) := by decide +kernel
theorem dX5_shift_13 : decode cX5_shift 13 = .ok (.aload_n 0, 1) := by decide +kernel
theorem dX5_shift_14 : decode cX5_shift 14 = .ok (.getfield 24, 3) := by decide +kernel
theorem dX5_shift_17 : decode cX5_shift 17 = .ok (.getfield 148, 3) := by decide +kernel
theorem dX5_shift_20 : decode cX5_shift 20 = .ok (.istore_n 2, 1) := by decide +kernel
theorem dX5_shift_21 : decode cX5_shift 21 = .ok (.aload_n 0, 1) := by decide +kernel
theorem dX5_shift_22 : decode cX5_shift 22 = .ok (.getfield 24, 3) := by decide +kernel
theorem dX5_shift_25 : decode cX5_shift 25 = .ok (.iload_n 1, 1) := by decide +kernel
theorem dX5_shift_26 : decode cX5_shift 26 = .ok (.putfield 148, 3) := by decide +kernel
theorem dX5_shift_29 : decode cX5_shift 29 = .ok (.iload_n 2, 1) := by decide +kernel
theorem dX5_shift_30 : decode cX5_shift 30 = .ok (.ireturn, 1) := by decide +kernel
set_option maxRecDepth 20000 in
theorem ggX5_wave_X5_within : GoodIn wsX5_wave wsX5_within := goodIn_r _ [7] (by decide +kernel) (by decide +kernel)
set_option maxRecDepth 20000 in
theorem gX5_wave_X5_within : GoodIn wsX5_wave (va_wsS RX5 75 yX5_within wsX5_within) := goodIn_app (goodIn_of _ (by decide +kernel)) ggX5_wave_X5_within
set_option maxRecDepth 20000 in
theorem ggX5_wave_X4_waveAt : GoodIn wsX5_wave wsX4_waveAt := goodIn_r _ [12, 13, 14, 28, 29, 30, 31, 32, 33, 34, 35, 36] (by decide +kernel) (by decide +kernel)
set_option maxRecDepth 20000 in
theorem gX5_wave_X4_waveAt : GoodIn wsX5_wave (wsV RX5 152 RX4 yX4_waveAt wsX4_waveAt) := goodIn_app (goodIn_of _ (by decide +kernel)) ggX5_wave_X4_waveAt
theorem dX5_wave_0 : decode cX5_wave 0 = .ok (.iload_n 1, 1) := by decide +kernel
theorem dX5_wave_1 : decode cX5_wave 1 = .ok (.iconst 0, 1) := by decide +kernel
theorem dX5_wave_2 : decode cX5_wave 2 = .ok (.ldc 151, 2) := by decide +kernel
theorem dX5_wave_4 : decode cX5_wave 4 = .ok (.invokestatic 75, 3) := by decide +kernel
theorem dX5_wave_7 : decode cX5_wave 7 = .ok (.ifCond .eq 21, 3) := by decide +kernel
theorem dX5_wave_10 : decode cX5_wave 10 = .ok (.aload_n 0, 1) := by decide +kernel
theorem dX5_wave_11 : decode cX5_wave 11 = .ok (.getfield 24, 3) := by decide +kernel
theorem dX5_wave_14 : decode cX5_wave 14 = .ok (.iload_n 1, 1) := by decide +kernel
theorem dX5_wave_15 : decode cX5_wave 15 = .ok (.aload_n 0, 1) := by decide +kernel
theorem dX5_wave_16 : decode cX5_wave 16 = .ok (.getfield 24, 3) := by decide +kernel
theorem dX5_wave_19 : decode cX5_wave 19 = .ok (.getfield 148, 3) := by decide +kernel
theorem dX5_wave_22 : decode cX5_wave 22 = .ok (.invokevirtual 152, 3) := by decide +kernel
theorem dX5_wave_25 : decode cX5_wave 25 = .ok (.goto 5, 3) := by decide +kernel
theorem dX5_wave_28 : decode cX5_wave 28 = .ok (.bipush (-99), 2) := by decide +kernel
theorem dX5_wave_30 : decode cX5_wave 30 = .ok (.ireturn, 1) := by decide +kernel
set_option maxRecDepth 20000 in
theorem ggX5_toss_X5_stoneAt : GoodIn wsX5_toss wsX5_stoneAt := goodIn_r _ [9, 10, 11, 70, 71, 72, 73, 74, 75, 76, 77, 78, 79, 80, 81, 82] (by decide +kernel) (by decide +kernel)
set_option maxRecDepth 20000 in
theorem gX5_toss_X5_stoneAt : GoodIn wsX5_toss (wsV RX5 82 RX5 yX5_stoneAt wsX5_stoneAt) := goodIn_app (goodIn_of _ (by decide +kernel)) ggX5_toss_X5_stoneAt
set_option maxRecDepth 20000 in
theorem ggX5_toss_X5_within : GoodIn wsX5_toss wsX5_within := goodIn_r _ [14] (by decide +kernel) (by decide +kernel)
set_option maxRecDepth 20000 in
theorem gX5_toss_X5_within : GoodIn wsX5_toss (va_wsS RX5 75 yX5_within wsX5_within) := goodIn_app (goodIn_of _ (by decide +kernel)) ggX5_toss_X5_within
set_option maxRecDepth 20000 in
theorem ggX5_toss_X0_begin : GoodIn wsX5_toss wsX0_begin := goodIn_r _ [19, 20, 21, 22, 23, 24, 25, 26, 92, 93, 94, 95, 96, 97, 98, 99] (by decide +kernel) (by decide +kernel)
set_option maxRecDepth 20000 in
theorem gX5_toss_X0_begin : GoodIn wsX5_toss (wsV RX5 156 RX0 yX0_begin wsX0_begin) := goodIn_app (goodIn_of _ (by decide +kernel)) ggX5_toss_X0_begin
set_option maxRecDepth 20000 in
theorem ggX5_toss_X0_goOn : GoodIn wsX5_toss wsX0_goOn := goodIn_r _ [30, 22, 24, 31, 32, 33, 34, 35, 36, 37, 38, 39, 40, 18, 41, 20, 21, 42, 43, 44, 45, 46, 47, 48, 49, 50, 51, 25, 52, 8, 53, 54, 55, 56, 57, 58, 59, 60, 26, 61, 23, 62, 63, 64, 65, 66, 67, 68, 69, 92, 93, 94, 95, 96, 97, 98, 99, 83, 84, 85, 86, 87, 88, 89, 90, 91, 100, 101, 102, 103, 104] (by decide +kernel) (by decide +kernel)
set_option maxRecDepth 20000 in
theorem gX5_toss_X0_goOn : GoodIn wsX5_toss (wsV RX5 160 RX0 yX0_goOn wsX0_goOn) := goodIn_app (goodIn_of _ (by decide +kernel)) ggX5_toss_X0_goOn
theorem dX5_toss_0 : decode cX5_toss 0 = .ok (.aload_n 0, 1) := by decide +kernel
theorem dX5_toss_1 : decode cX5_toss 1 = .ok (.iload_n 1, 1) := by decide +kernel
theorem dX5_toss_2 : decode cX5_toss 2 = .ok (.invokevirtual 82, 3) := by decide +kernel
theorem dX5_toss_5 : decode cX5_toss 5 = .ok (.astore 6, 2) := by decide +kernel
theorem dX5_toss_7 : decode cX5_toss 7 = .ok (.aload 6, 2) := by decide +kernel
theorem dX5_toss_9 : decode cX5_toss 9 = .ok (.ifnonnull 5, 3) := by decide +kernel
theorem dX5_toss_12 : decode cX5_toss 12 = .ok (.iconst (-1), 1) := by decide +kernel
theorem dX5_toss_13 : decode cX5_toss 13 = .ok (.ireturn, 1) := by decide +kernel
theorem dX5_toss_14 : decode cX5_toss 14 = .ok (.iload_n 2, 1) := by decide +kernel
theorem dX5_toss_15 : decode cX5_toss 15 = .ok (.iconst 1, 1) := by decide +kernel
theorem dX5_toss_16 : decode cX5_toss 16 = .ok (.sipush 300, 3) := by decide +kernel
theorem dX5_toss_19 : decode cX5_toss 19 = .ok (.invokestatic 75, 3) := by decide +kernel
theorem dX5_toss_22 : decode cX5_toss 22 = .ok (.ifCond .eq 35, 3) := by decide +kernel
theorem dX5_toss_25 : decode cX5_toss 25 = .ok (.iload_n 3, 1) := by decide +kernel
theorem dX5_toss_26 : decode cX5_toss 26 = .ok (.iconst 1, 1) := by decide +kernel
theorem dX5_toss_27 : decode cX5_toss 27 = .ok (.bipush 99, 2) := by decide +kernel
theorem dX5_toss_29 : decode cX5_toss 29 = .ok (.invokestatic 75, 3) := by decide +kernel
theorem dX5_toss_32 : decode cX5_toss 32 = .ok (.ifCond .eq 25, 3) := by decide +kernel
theorem dX5_toss_35 : decode cX5_toss 35 = .ok (.iload 4, 2) := by decide +kernel
theorem dX5_toss_37 : decode cX5_toss 37 = .ok (.iconst 0, 1) := by decide +kernel
theorem dX5_toss_38 : decode cX5_toss 38 = .ok (.bipush 45, 2) := by decide +kernel
theorem dX5_toss_40 : decode cX5_toss 40 = .ok (.invokestatic 75, 3) := by decide +kernel
theorem dX5_toss_43 : decode cX5_toss 43 = .ok (.ifCond .eq 14, 3) := by decide +kernel
theorem dX5_toss_46 : decode cX5_toss 46 = .ok (.iload 5, 2) := by decide +kernel
theorem dX5_toss_48 : decode cX5_toss 48 = .ok (.iconst 0, 1) := by decide +kernel
theorem dX5_toss_49 : decode cX5_toss 49 = .ok (.bipush 99, 2) := by decide +kernel
theorem dX5_toss_51 : decode cX5_toss 51 = .ok (.invokestatic 75, 3) := by decide +kernel
theorem dX5_toss_54 : decode cX5_toss 54 = .ok (.ifCond .ne 6, 3) := by decide +kernel
theorem dX5_toss_57 : decode cX5_toss 57 = .ok (.bipush (-2), 2) := by decide +kernel
theorem dX5_toss_59 : decode cX5_toss 59 = .ok (.ireturn, 1) := by decide +kernel
theorem dX5_toss_60 : decode cX5_toss 60 = .ok (.aload_n 0, 1) := by decide +kernel
theorem dX5_toss_61 : decode cX5_toss 61 = .ok (.getfield 38, 3) := by decide +kernel
theorem dX5_toss_64 : decode cX5_toss 64 = .ok (.iload_n 2, 1) := by decide +kernel
theorem dX5_toss_65 : decode cX5_toss 65 = .ok (.iload_n 3, 1) := by decide +kernel
theorem dX5_toss_66 : decode cX5_toss 66 = .ok (.iload 4, 2) := by decide +kernel
theorem dX5_toss_68 : decode cX5_toss 68 = .ok (.iload 5, 2) := by decide +kernel
theorem dX5_toss_70 : decode cX5_toss 70 = .ok (.invokevirtual 156, 3) := by decide +kernel
theorem dX5_toss_73 : decode cX5_toss 73 = .ok (.aload_n 0, 1) := by decide +kernel
theorem dX5_toss_74 : decode cX5_toss 74 = .ok (.getfield 38, 3) := by decide +kernel
theorem dX5_toss_77 : decode cX5_toss 77 = .ok (.aload 6, 2) := by decide +kernel
theorem dX5_toss_79 : decode cX5_toss 79 = .ok (.aload_n 0, 1) := by decide +kernel
theorem dX5_toss_80 : decode cX5_toss 80 = .ok (.getfield 24, 3) := by decide +kernel
theorem dX5_toss_83 : decode cX5_toss 83 = .ok (.aload_n 0, 1) := by decide +kernel
theorem dX5_toss_84 : decode cX5_toss 84 = .ok (.getfield 24, 3) := by decide +kernel
theorem dX5_toss_87 : decode cX5_toss 87 = .ok (.getfield 148, 3) := by decide +kernel
theorem dX5_toss_90 : decode cX5_toss 90 = .ok (.invokevirtual 160, 3) := by decide +kernel
theorem dX5_toss_93 : decode cX5_toss 93 = .ok (.aload_n 0, 1) := by decide +kernel
theorem dX5_toss_94 : decode cX5_toss 94 = .ok (.getfield 38, 3) := by decide +kernel
theorem dX5_toss_97 : decode cX5_toss 97 = .ok (.getfield 164, 3) := by decide +kernel
theorem dX5_toss_100 : decode cX5_toss 100 = .ok (.ireturn, 1) := by decide +kernel
set_option maxRecDepth 20000 in
theorem ggX5_touch_X5_isTouch : GoodIn wsX5_touch wsX5_isTouch := goodIn_r _ [6, 1, 7, 18, 19, 20, 21, 22, 23, 24, 25, 26, 27, 28, 29, 30, 31, 32, 33, 34, 35, 36, 37, 38] (by decide +kernel) (by decide +kernel)
set_option maxRecDepth 20000 in
theorem gX5_touch_X5_isTouch : GoodIn wsX5_touch (wsV RX5 167 RX5 yX5_isTouch wsX5_isTouch) := goodIn_app (goodIn_of _ (by decide +kernel)) ggX5_touch_X5_isTouch
set_option maxRecDepth 20000 in
theorem ggX5_touch_X5_within : GoodIn wsX5_touch wsX5_within := goodIn_r _ [10] (by decide +kernel) (by decide +kernel)
set_option maxRecDepth 20000 in
theorem gX5_touch_X5_within : GoodIn wsX5_touch (va_wsS RX5 75 yX5_within wsX5_within) := goodIn_app (goodIn_of _ (by decide +kernel)) ggX5_touch_X5_within
set_option maxRecDepth 20000 in
theorem ggX5_touch_X0_value : GoodIn wsX5_touch wsX0_value := goodIn_r _ [15, 16, 17, 31, 32, 33, 34, 35, 36, 37, 38] (by decide +kernel) (by decide +kernel)
set_option maxRecDepth 20000 in
theorem gX5_touch_X0_value : GoodIn wsX5_touch (wsV RX5 171 RX0 yX0_value wsX0_value) := goodIn_app (goodIn_of _ (by decide +kernel)) ggX5_touch_X0_value
theorem dX5_touch_0 : decode cX5_touch 0 = .ok (.aload_n 0, 1) := by decide +kernel
theorem dX5_touch_1 : decode cX5_touch 1 = .ok (.iload_n 1, 1) := by decide +kernel
theorem dX5_touch_2 : decode cX5_touch 2 = .ok (.invokevirtual 167, 3) := by decide +kernel
theorem dX5_touch_5 : decode cX5_touch 5 = .ok (.ifCond .ne 5, 3) := by decide +kernel
theorem dX5_touch_8 : decode cX5_touch 8 = .ok (.iconst (-1), 1) := by decide +kernel
theorem dX5_touch_9 : decode cX5_touch 9 = .ok (.ireturn, 1) := by decide +kernel
theorem dX5_touch_10 : decode cX5_touch 10 = .ok (.iload_n 2, 1) := by decide +kernel
theorem dX5_touch_11 : decode cX5_touch 11 = .ok (.iconst 0, 1) := by decide +kernel
theorem dX5_touch_12 : decode cX5_touch 12 = .ok (.bipush 8, 2) := by decide +kernel
theorem dX5_touch_14 : decode cX5_touch 14 = .ok (.invokestatic 75, 3) := by decide +kernel
theorem dX5_touch_17 : decode cX5_touch 17 = .ok (.ifCond .eq 15, 3) := by decide +kernel
theorem dX5_touch_20 : decode cX5_touch 20 = .ok (.aload_n 0, 1) := by decide +kernel
theorem dX5_touch_21 : decode cX5_touch 21 = .ok (.getfield 38, 3) := by decide +kernel
theorem dX5_touch_24 : decode cX5_touch 24 = .ok (.iload_n 1, 1) := by decide +kernel
theorem dX5_touch_25 : decode cX5_touch 25 = .ok (.iload_n 2, 1) := by decide +kernel
theorem dX5_touch_26 : decode cX5_touch 26 = .ok (.invokevirtual 171, 3) := by decide +kernel
theorem dX5_touch_29 : decode cX5_touch 29 = .ok (.goto 5, 3) := by decide +kernel
theorem dX5_touch_32 : decode cX5_touch 32 = .ok (.bipush (-2), 2) := by decide +kernel
theorem dX5_touch_34 : decode cX5_touch 34 = .ok (.ireturn, 1) := by decide +kernel
set_option maxRecDepth 20000 in
theorem ggX5_judge_X5_isJudge : GoodIn wsX5_judge wsX5_isJudge := goodIn_r _ [6, 7, 8, 5, 9] (by decide +kernel) (by decide +kernel)
set_option maxRecDepth 20000 in
theorem gX5_judge_X5_isJudge : GoodIn wsX5_judge (va_wsS RX5 174 yX5_isJudge wsX5_isJudge) := goodIn_app (goodIn_of _ (by decide +kernel)) ggX5_judge_X5_isJudge
set_option maxRecDepth 20000 in
theorem ggX5_judge_X0_counted : GoodIn wsX5_judge wsX0_counted := goodIn_r _ [14, 15, 16, 17, 18, 13, 19, 20, 21, 22, 23, 24, 38, 39, 40, 41, 42, 43, 44, 45] (by decide +kernel) (by decide +kernel)
set_option maxRecDepth 20000 in
theorem gX5_judge_X0_counted : GoodIn wsX5_judge (wsV RX5 177 RX0 yX0_counted wsX0_counted) := goodIn_app (goodIn_of _ (by decide +kernel)) ggX5_judge_X0_counted
theorem dX5_judge_0 : decode cX5_judge 0 = .ok (.iload_n 1, 1) := by decide +kernel
theorem dX5_judge_1 : decode cX5_judge 1 = .ok (.invokestatic 174, 3) := by decide +kernel
theorem dX5_judge_4 : decode cX5_judge 4 = .ok (.ifCond .ne 5, 3) := by decide +kernel
theorem dX5_judge_7 : decode cX5_judge 7 = .ok (.iconst (-1), 1) := by decide +kernel
theorem dX5_judge_8 : decode cX5_judge 8 = .ok (.ireturn, 1) := by decide +kernel
theorem dX5_judge_9 : decode cX5_judge 9 = .ok (.aload_n 0, 1) := by decide +kernel
theorem dX5_judge_10 : decode cX5_judge 10 = .ok (.getfield 38, 3) := by decide +kernel
theorem dX5_judge_13 : decode cX5_judge 13 = .ok (.getfield 164, 3) := by decide +kernel
theorem dX5_judge_16 : decode cX5_judge 16 = .ok (.ifCond .ne 8, 3) := by decide +kernel
theorem dX5_judge_19 : decode cX5_judge 19 = .ok (.bipush (-3), 2) := by decide +kernel
theorem dX5_judge_21 : decode cX5_judge 21 = .ok (.goto 11, 3) := by decide +kernel
theorem dX5_judge_24 : decode cX5_judge 24 = .ok (.aload_n 0, 1) := by decide +kernel
theorem dX5_judge_25 : decode cX5_judge 25 = .ok (.getfield 38, 3) := by decide +kernel
theorem dX5_judge_28 : decode cX5_judge 28 = .ok (.iload_n 1, 1) := by decide +kernel
theorem dX5_judge_29 : decode cX5_judge 29 = .ok (.invokevirtual 177, 3) := by decide +kernel
theorem dX5_judge_32 : decode cX5_judge 32 = .ok (.ireturn, 1) := by decide +kernel
set_option maxRecDepth 20000 in
theorem ggX5_line_X5_stoneAt : GoodIn wsX5_line wsX5_stoneAt := goodIn_r _ [7, 8, 9, 26, 27, 28, 29, 30, 31, 32, 33, 34, 35, 36, 37, 38] (by decide +kernel) (by decide +kernel)
set_option maxRecDepth 20000 in
theorem gX5_line_X5_stoneAt : GoodIn wsX5_line (wsV RX5 82 RX5 yX5_stoneAt wsX5_stoneAt) := goodIn_app (goodIn_of _ (by decide +kernel)) ggX5_line_X5_stoneAt
set_option maxRecDepth 20000 in
theorem ggX5_line_X5_within : GoodIn wsX5_line wsX5_within := goodIn_r _ [12] (by decide +kernel) (by decide +kernel)
set_option maxRecDepth 20000 in
theorem gX5_line_X5_within : GoodIn wsX5_line (va_wsS RX5 75 yX5_within wsX5_within) := goodIn_app (goodIn_of _ (by decide +kernel)) ggX5_line_X5_within
set_option maxRecDepth 20000 in
theorem ggX5_line_X4_waveAt : GoodIn wsX5_line wsX4_waveAt := goodIn_r _ [17, 18, 19, 39, 40, 41, 42, 43, 44, 45, 46, 47] (by decide +kernel) (by decide +kernel)
set_option maxRecDepth 20000 in
theorem gX5_line_X4_waveAt : GoodIn wsX5_line (wsV RX5 152 RX4 yX4_waveAt wsX4_waveAt) := goodIn_app (goodIn_of _ (by decide +kernel)) ggX5_line_X4_waveAt
set_option maxRecDepth 20000 in
theorem ggX5_line_X5_sinks : GoodIn wsX5_line wsX5_sinks := goodIn_r _ [22, 23, 24, 25, 39, 40, 41, 42, 43, 44, 45, 46, 47, 48, 49, 50, 51, 52] (by decide +kernel) (by decide +kernel)
set_option maxRecDepth 20000 in
theorem gX5_line_X5_sinks : GoodIn wsX5_line (va_wsS RX5 181 yX5_sinks wsX5_sinks) := goodIn_app (goodIn_of _ (by decide +kernel)) ggX5_line_X5_sinks
theorem dX5_line_0 : decode cX5_line 0 = .ok (.aload_n 0, 1) := by decide +kernel
theorem dX5_line_1 : decode cX5_line 1 = .ok (.iload_n 1, 1) := by decide +kernel
theorem dX5_line_2 : decode cX5_line 2 = .ok (.invokevirtual 82, 3) := by decide +kernel
theorem dX5_line_5 : decode cX5_line 5 = .ok (.astore 4, 2) := by decide +kernel
theorem dX5_line_7 : decode cX5_line 7 = .ok (.aload 4, 2) := by decide +kernel
theorem dX5_line_9 : decode cX5_line 9 = .ok (.ifnonnull 5, 3) := by decide +kernel
theorem dX5_line_12 : decode cX5_line 12 = .ok (.iconst (-1), 1) := by decide +kernel
theorem dX5_line_13 : decode cX5_line 13 = .ok (.ireturn, 1) := by decide +kernel
theorem dX5_line_14 : decode cX5_line 14 = .ok (.iload_n 2, 1) := by decide +kernel
theorem dX5_line_15 : decode cX5_line 15 = .ok (.iconst 0, 1) := by decide +kernel
theorem dX5_line_16 : decode cX5_line 16 = .ok (.bipush 45, 2) := by decide +kernel
theorem dX5_line_18 : decode cX5_line 18 = .ok (.invokestatic 75, 3) := by decide +kernel
theorem dX5_line_21 : decode cX5_line 21 = .ok (.ifCond .eq 13, 3) := by decide +kernel
theorem dX5_line_24 : decode cX5_line 24 = .ok (.iload_n 3, 1) := by decide +kernel
theorem dX5_line_25 : decode cX5_line 25 = .ok (.iconst 1, 1) := by decide +kernel
theorem dX5_line_26 : decode cX5_line 26 = .ok (.bipush 99, 2) := by decide +kernel
theorem dX5_line_28 : decode cX5_line 28 = .ok (.invokestatic 75, 3) := by decide +kernel
theorem dX5_line_31 : decode cX5_line 31 = .ok (.ifCond .ne 6, 3) := by decide +kernel
theorem dX5_line_34 : decode cX5_line 34 = .ok (.bipush (-2), 2) := by decide +kernel
theorem dX5_line_36 : decode cX5_line 36 = .ok (.ireturn, 1) := by decide +kernel
theorem dX5_line_37 : decode cX5_line 37 = .ok (.iload_n 2, 1) := by decide +kernel
theorem dX5_line_38 : decode cX5_line 38 = .ok (.aload_n 0, 1) := by decide +kernel
theorem dX5_line_39 : decode cX5_line 39 = .ok (.getfield 24, 3) := by decide +kernel
theorem dX5_line_42 : decode cX5_line 42 = .ok (.iconst 0, 1) := by decide +kernel
theorem dX5_line_43 : decode cX5_line 43 = .ok (.aload_n 0, 1) := by decide +kernel
theorem dX5_line_44 : decode cX5_line 44 = .ok (.getfield 24, 3) := by decide +kernel
theorem dX5_line_47 : decode cX5_line 47 = .ok (.getfield 148, 3) := by decide +kernel
theorem dX5_line_50 : decode cX5_line 50 = .ok (.invokevirtual 152, 3) := by decide +kernel
theorem dX5_line_53 : decode cX5_line 53 = .ok (.iadd, 1) := by decide +kernel
theorem dX5_line_54 : decode cX5_line 54 = .ok (.istore 5, 2) := by decide +kernel
theorem dX5_line_56 : decode cX5_line 56 = .ok (.iconst 1, 1) := by decide +kernel
theorem dX5_line_57 : decode cX5_line 57 = .ok (.istore 6, 2) := by decide +kernel
theorem dX5_line_59 : decode cX5_line 59 = .ok (.iload 6, 2) := by decide +kernel
theorem dX5_line_61 : decode cX5_line 61 = .ok (.sipush 300, 3) := by decide +kernel
theorem dX5_line_64 : decode cX5_line 64 = .ok (.if_icmp .gt 29, 3) := by decide +kernel
theorem dX5_line_67 : decode cX5_line 67 = .ok (.aload 4, 2) := by decide +kernel
theorem dX5_line_69 : decode cX5_line 69 = .ok (.aload_n 0, 1) := by decide +kernel
theorem dX5_line_70 : decode cX5_line 70 = .ok (.getfield 24, 3) := by decide +kernel
theorem dX5_line_73 : decode cX5_line 73 = .ok (.iload 6, 2) := by decide +kernel
theorem dX5_line_75 : decode cX5_line 75 = .ok (.iload_n 3, 1) := by decide +kernel
theorem dX5_line_76 : decode cX5_line 76 = .ok (.iload 5, 2) := by decide +kernel
theorem dX5_line_78 : decode cX5_line 78 = .ok (.invokestatic 181, 3) := by decide +kernel
theorem dX5_line_81 : decode cX5_line 81 = .ok (.ifCond .ne 6, 3) := by decide +kernel
theorem dX5_line_84 : decode cX5_line 84 = .ok (.iload 6, 2) := by decide +kernel
theorem dX5_line_86 : decode cX5_line 86 = .ok (.ireturn, 1) := by decide +kernel
theorem dX5_line_87 : decode cX5_line 87 = .ok (.iinc 6 1, 3) := by decide +kernel
theorem dX5_line_90 : decode cX5_line 90 = .ok (.goto (-31), 3) := by decide +kernel
theorem dX5_line_93 : decode cX5_line 93 = .ok (.bipush (-9), 2) := by decide +kernel
theorem dX5_line_95 : decode cX5_line 95 = .ok (.ireturn, 1) := by decide +kernel
set_option maxRecDepth 20000 in
theorem ggX5_best_X5_stoneAt : GoodIn wsX5_best wsX5_stoneAt := goodIn_r _ [7, 8, 9, 100, 101, 102, 103, 104, 105, 106, 107, 108, 109, 110, 111, 112] (by decide +kernel) (by decide +kernel)
set_option maxRecDepth 20000 in
theorem gX5_best_X5_stoneAt : GoodIn wsX5_best (wsV RX5 82 RX5 yX5_stoneAt wsX5_stoneAt) := goodIn_app (goodIn_of _ (by decide +kernel)) ggX5_best_X5_stoneAt
set_option maxRecDepth 20000 in
theorem ggX5_best_X5_isJudge : GoodIn wsX5_best wsX5_isJudge := goodIn_r _ [12, 13, 14, 6, 15] (by decide +kernel) (by decide +kernel)
set_option maxRecDepth 20000 in
theorem gX5_best_X5_isJudge : GoodIn wsX5_best (va_wsS RX5 174 yX5_isJudge wsX5_isJudge) := goodIn_app (goodIn_of _ (by decide +kernel)) ggX5_best_X5_isJudge
set_option maxRecDepth 20000 in
theorem ggX5_best_X5_isGrid : GoodIn wsX5_best wsX5_isGrid := goodIn_r _ [18, 13, 14, 6, 15] (by decide +kernel) (by decide +kernel)
set_option maxRecDepth 20000 in
theorem gX5_best_X5_isGrid : GoodIn wsX5_best (va_wsS RX5 185 yX5_isGrid wsX5_isGrid) := goodIn_app (goodIn_of _ (by decide +kernel)) ggX5_best_X5_isGrid
set_option maxRecDepth 20000 in
theorem ggX5_best_X5_within : GoodIn wsX5_best wsX5_within := goodIn_r _ [15] (by decide +kernel) (by decide +kernel)
set_option maxRecDepth 20000 in
theorem gX5_best_X5_within : GoodIn wsX5_best (va_wsS RX5 75 yX5_within wsX5_within) := goodIn_app (goodIn_of _ (by decide +kernel)) ggX5_best_X5_within
set_option maxRecDepth 20000 in
theorem ggX5_best_X5_countOf : GoodIn wsX5_best wsX5_countOf := goodIn_r _ [22, 23, 24, 25, 26, 6, 27, 28, 29, 1, 30, 31, 32, 33, 34, 35, 36, 37, 38, 39, 40, 41, 42, 43, 44, 45, 46, 47, 48, 49, 50, 51, 52, 53, 54, 55, 56, 57, 58, 59, 60, 61, 62, 63, 64, 65, 66, 67, 68, 69, 70, 71, 72, 73, 74, 75, 76, 77, 78, 79, 80, 81, 82, 83, 84, 85, 86, 87, 88, 89, 90, 91, 92, 93, 94, 95, 96, 100, 101, 102, 103, 104, 105, 106, 107, 108, 109, 110, 111, 112, 122, 123, 124, 125, 126, 127, 128, 129, 113, 114, 115, 116, 117, 118, 119, 120, 121, 130, 131, 132, 133, 134] (by decide +kernel) (by decide +kernel)
set_option maxRecDepth 20000 in
theorem gX5_best_X5_countOf : GoodIn wsX5_best (wsV RX5 189 RX5 yX5_countOf wsX5_countOf) := goodIn_app (goodIn_of _ (by decide +kernel)) ggX5_best_X5_countOf
set_option maxRecDepth 20000 in
theorem ggX5_best_X5_pick : GoodIn wsX5_best wsX5_pick := goodIn_r _ [99] (by decide +kernel) (by decide +kernel)
set_option maxRecDepth 20000 in
theorem gX5_best_X5_pick : GoodIn wsX5_best (va_wsS RX5 193 yX5_pick wsX5_pick) := goodIn_app (goodIn_of _ (by decide +kernel)) ggX5_best_X5_pick
theorem dX5_best_0 : decode cX5_best 0 = .ok (.aload_n 0, 1) := by decide +kernel
theorem dX5_best_1 : decode cX5_best 1 = .ok (.iload_n 1, 1) := by decide +kernel
theorem dX5_best_2 : decode cX5_best 2 = .ok (.invokevirtual 82, 3) := by decide +kernel
theorem dX5_best_5 : decode cX5_best 5 = .ok (.astore 8, 2) := by decide +kernel
theorem dX5_best_7 : decode cX5_best 7 = .ok (.aload 8, 2) := by decide +kernel
theorem dX5_best_9 : decode cX5_best 9 = .ok (.ifnull 11, 3) := by decide +kernel
theorem dX5_best_12 : decode cX5_best 12 = .ok (.iload 6, 2) := by decide +kernel
theorem dX5_best_14 : decode cX5_best 14 = .ok (.invokestatic 174, 3) := by decide +kernel
theorem dX5_best_17 : decode cX5_best 17 = .ok (.ifCond .ne 5, 3) := by decide +kernel
theorem dX5_best_20 : decode cX5_best 20 = .ok (.iconst (-1), 1) := by decide +kernel
theorem dX5_best_21 : decode cX5_best 21 = .ok (.ireturn, 1) := by decide +kernel
theorem dX5_best_22 : decode cX5_best 22 = .ok (.iload_n 2, 1) := by decide +kernel
theorem dX5_best_23 : decode cX5_best 23 = .ok (.iload_n 3, 1) := by decide +kernel
theorem dX5_best_24 : decode cX5_best 24 = .ok (.iload 4, 2) := by decide +kernel
theorem dX5_best_26 : decode cX5_best 26 = .ok (.iload 5, 2) := by decide +kernel
theorem dX5_best_28 : decode cX5_best 28 = .ok (.invokestatic 185, 3) := by decide +kernel
theorem dX5_best_31 : decode cX5_best 31 = .ok (.ifCond .eq 13, 3) := by decide +kernel
theorem dX5_best_34 : decode cX5_best 34 = .ok (.iload 7, 2) := by decide +kernel
theorem dX5_best_36 : decode cX5_best 36 = .ok (.iconst 0, 1) := by decide +kernel
theorem dX5_best_37 : decode cX5_best 37 = .ok (.iconst 2, 1) := by decide +kernel
theorem dX5_best_38 : decode cX5_best 38 = .ok (.invokestatic 75, 3) := by decide +kernel
theorem dX5_best_41 : decode cX5_best 41 = .ok (.ifCond .ne 6, 3) := by decide +kernel
theorem dX5_best_44 : decode cX5_best 44 = .ok (.bipush (-2), 2) := by decide +kernel
theorem dX5_best_46 : decode cX5_best 46 = .ok (.ireturn, 1) := by decide +kernel
theorem dX5_best_47 : decode cX5_best 47 = .ok (.iconst (-1), 1) := by decide +kernel
theorem dX5_best_48 : decode cX5_best 48 = .ok (.istore 9, 2) := by decide +kernel
theorem dX5_best_50 : decode cX5_best 50 = .ok (.iload_n 2, 1) := by decide +kernel
theorem dX5_best_51 : decode cX5_best 51 = .ok (.istore 10, 2) := by decide +kernel
theorem dX5_best_53 : decode cX5_best 53 = .ok (.iload 4, 2) := by decide +kernel
theorem dX5_best_55 : decode cX5_best 55 = .ok (.istore 11, 2) := by decide +kernel
theorem dX5_best_57 : decode cX5_best 57 = .ok (.iload_n 2, 1) := by decide +kernel
theorem dX5_best_58 : decode cX5_best 58 = .ok (.istore 12, 2) := by decide +kernel
theorem dX5_best_60 : decode cX5_best 60 = .ok (.iload 12, 2) := by decide +kernel
theorem dX5_best_62 : decode cX5_best 62 = .ok (.iload_n 2, 1) := by decide +kernel
theorem dX5_best_63 : decode cX5_best 63 = .ok (.iload_n 3, 1) := by decide +kernel
theorem dX5_best_64 : decode cX5_best 64 = .ok (.iadd, 1) := by decide +kernel
theorem dX5_best_65 : decode cX5_best 65 = .ok (.if_icmp .gt 69, 3) := by decide +kernel
theorem dX5_best_68 : decode cX5_best 68 = .ok (.iload 4, 2) := by decide +kernel
theorem dX5_best_70 : decode cX5_best 70 = .ok (.istore 13, 2) := by decide +kernel
theorem dX5_best_72 : decode cX5_best 72 = .ok (.iload 13, 2) := by decide +kernel
theorem dX5_best_74 : decode cX5_best 74 = .ok (.iload 4, 2) := by decide +kernel
theorem dX5_best_76 : decode cX5_best 76 = .ok (.iload 5, 2) := by decide +kernel
theorem dX5_best_78 : decode cX5_best 78 = .ok (.iadd, 1) := by decide +kernel
theorem dX5_best_79 : decode cX5_best 79 = .ok (.if_icmp .gt 49, 3) := by decide +kernel
theorem dX5_best_82 : decode cX5_best 82 = .ok (.aload_n 0, 1) := by decide +kernel
theorem dX5_best_83 : decode cX5_best 83 = .ok (.aload 8, 2) := by decide +kernel
theorem dX5_best_85 : decode cX5_best 85 = .ok (.iload 12, 2) := by decide +kernel
theorem dX5_best_87 : decode cX5_best 87 = .ok (.iload 13, 2) := by decide +kernel
theorem dX5_best_89 : decode cX5_best 89 = .ok (.iload 6, 2) := by decide +kernel
theorem dX5_best_91 : decode cX5_best 91 = .ok (.aload_n 0, 1) := by decide +kernel
theorem dX5_best_92 : decode cX5_best 92 = .ok (.getfield 24, 3) := by decide +kernel
theorem dX5_best_95 : decode cX5_best 95 = .ok (.getfield 148, 3) := by decide +kernel
theorem dX5_best_98 : decode cX5_best 98 = .ok (.invokevirtual 189, 3) := by decide +kernel
theorem dX5_best_101 : decode cX5_best 101 = .ok (.istore 14, 2) := by decide +kernel
theorem dX5_best_103 : decode cX5_best 103 = .ok (.iload 14, 2) := by decide +kernel
theorem dX5_best_105 : decode cX5_best 105 = .ok (.iload 9, 2) := by decide +kernel
theorem dX5_best_107 : decode cX5_best 107 = .ok (.if_icmp .le 15, 3) := by decide +kernel
theorem dX5_best_110 : decode cX5_best 110 = .ok (.iload 14, 2) := by decide +kernel
theorem dX5_best_112 : decode cX5_best 112 = .ok (.istore 9, 2) := by decide +kernel
theorem dX5_best_114 : decode cX5_best 114 = .ok (.iload 12, 2) := by decide +kernel
theorem dX5_best_116 : decode cX5_best 116 = .ok (.istore 10, 2) := by decide +kernel
theorem dX5_best_118 : decode cX5_best 118 = .ok (.iload 13, 2) := by decide +kernel
theorem dX5_best_120 : decode cX5_best 120 = .ok (.istore 11, 2) := by decide +kernel
theorem dX5_best_122 : decode cX5_best 122 = .ok (.iinc 13 1, 3) := by decide +kernel
theorem dX5_best_125 : decode cX5_best 125 = .ok (.goto (-53), 3) := by decide +kernel
theorem dX5_best_128 : decode cX5_best 128 = .ok (.iinc 12 1, 3) := by decide +kernel
theorem dX5_best_131 : decode cX5_best 131 = .ok (.goto (-71), 3) := by decide +kernel
theorem dX5_best_134 : decode cX5_best 134 = .ok (.iload 7, 2) := by decide +kernel
theorem dX5_best_136 : decode cX5_best 136 = .ok (.iload 9, 2) := by decide +kernel
theorem dX5_best_138 : decode cX5_best 138 = .ok (.iload 10, 2) := by decide +kernel
theorem dX5_best_140 : decode cX5_best 140 = .ok (.iload 11, 2) := by decide +kernel
theorem dX5_best_142 : decode cX5_best 142 = .ok (.invokestatic 193, 3) := by decide +kernel
theorem dX5_best_145 : decode cX5_best 145 = .ok (.ireturn, 1) := by decide +kernel
set_option maxRecDepth 20000 in
theorem ggX5_grid_X5_within : GoodIn wsX5_grid wsX5_within := goodIn_r _ [6] (by decide +kernel) (by decide +kernel)
set_option maxRecDepth 20000 in
theorem gX5_grid_X5_within : GoodIn wsX5_grid (va_wsS RX5 75 yX5_within wsX5_within) := goodIn_app (goodIn_of _ (by decide +kernel)) ggX5_grid_X5_within
theorem dX5_grid_0 : decode cX5_grid 0 = .ok (.iload_n 1, 1) := by decide +kernel
theorem dX5_grid_1 : decode cX5_grid 1 = .ok (.iconst 1, 1) := by decide +kernel
theorem dX5_grid_2 : decode cX5_grid 2 = .ok (.bipush 99, 2) := by decide +kernel
theorem dX5_grid_4 : decode cX5_grid 4 = .ok (.invokestatic 75, 3) := by decide +kernel
theorem dX5_grid_7 : decode cX5_grid 7 = .ok (.ifCond .eq 13, 3) := by decide +kernel
theorem dX5_grid_10 : decode cX5_grid 10 = .ok (.iload_n 2, 1) := by decide +kernel
theorem dX5_grid_11 : decode cX5_grid 11 = .ok (.iconst 0, 1) := by decide +kernel
theorem dX5_grid_12 : decode cX5_grid 12 = .ok (.bipush 99, 2) := by decide +kernel
theorem dX5_grid_14 : decode cX5_grid 14 = .ok (.invokestatic 75, 3) := by decide +kernel
theorem dX5_grid_17 : decode cX5_grid 17 = .ok (.ifCond .ne 6, 3) := by decide +kernel
theorem dX5_grid_20 : decode cX5_grid 20 = .ok (.bipush (-2), 2) := by decide +kernel
theorem dX5_grid_22 : decode cX5_grid 22 = .ok (.ireturn, 1) := by decide +kernel
theorem dX5_grid_23 : decode cX5_grid 23 = .ok (.iload_n 1, 1) := by decide +kernel
theorem dX5_grid_24 : decode cX5_grid 24 = .ok (.aload_n 0, 1) := by decide +kernel
theorem dX5_grid_25 : decode cX5_grid 25 = .ok (.getfield 45, 3) := by decide +kernel
theorem dX5_grid_28 : decode cX5_grid 28 = .ok (.if_icmp .ne 13, 3) := by decide +kernel
theorem dX5_grid_31 : decode cX5_grid 31 = .ok (.iload_n 2, 1) := by decide +kernel
theorem dX5_grid_32 : decode cX5_grid 32 = .ok (.aload_n 0, 1) := by decide +kernel
theorem dX5_grid_33 : decode cX5_grid 33 = .ok (.getfield 48, 3) := by decide +kernel
theorem dX5_grid_36 : decode cX5_grid 36 = .ok (.if_icmp .ne 5, 3) := by decide +kernel
theorem dX5_grid_39 : decode cX5_grid 39 = .ok (.iconst 0, 1) := by decide +kernel
theorem dX5_grid_40 : decode cX5_grid 40 = .ok (.ireturn, 1) := by decide +kernel
theorem dX5_grid_41 : decode cX5_grid 41 = .ok (.aload_n 0, 1) := by decide +kernel
theorem dX5_grid_42 : decode cX5_grid 42 = .ok (.iload_n 1, 1) := by decide +kernel
theorem dX5_grid_43 : decode cX5_grid 43 = .ok (.putfield 45, 3) := by decide +kernel
theorem dX5_grid_46 : decode cX5_grid 46 = .ok (.aload_n 0, 1) := by decide +kernel
theorem dX5_grid_47 : decode cX5_grid 47 = .ok (.iload_n 2, 1) := by decide +kernel
theorem dX5_grid_48 : decode cX5_grid 48 = .ok (.putfield 48, 3) := by decide +kernel
theorem dX5_grid_51 : decode cX5_grid 51 = .ok (.iconst 1, 1) := by decide +kernel
theorem dX5_grid_52 : decode cX5_grid 52 = .ok (.ireturn, 1) := by decide +kernel
set_option maxRecDepth 20000 in
theorem ggX5_odds_X5_stoneAt : GoodIn wsX5_odds wsX5_stoneAt := goodIn_r _ [6, 7, 8, 111, 112, 113, 114, 115, 116, 117, 118, 119, 120, 121, 122, 123] (by decide +kernel) (by decide +kernel)
set_option maxRecDepth 20000 in
theorem gX5_odds_X5_stoneAt : GoodIn wsX5_odds (wsV RX5 82 RX5 yX5_stoneAt wsX5_stoneAt) := goodIn_app (goodIn_of _ (by decide +kernel)) ggX5_odds_X5_stoneAt
set_option maxRecDepth 20000 in
theorem ggX5_odds_X5_isJudge : GoodIn wsX5_odds wsX5_isJudge := goodIn_r _ [11, 12, 13, 5, 14] (by decide +kernel) (by decide +kernel)
set_option maxRecDepth 20000 in
theorem gX5_odds_X5_isJudge : GoodIn wsX5_odds (va_wsS RX5 174 yX5_isJudge wsX5_isJudge) := goodIn_app (goodIn_of _ (by decide +kernel)) ggX5_odds_X5_isJudge
set_option maxRecDepth 20000 in
theorem ggX5_odds_X5_isGrid : GoodIn wsX5_odds wsX5_isGrid := goodIn_r _ [17, 12, 13, 5, 14] (by decide +kernel) (by decide +kernel)
set_option maxRecDepth 20000 in
theorem gX5_odds_X5_isGrid : GoodIn wsX5_odds (va_wsS RX5 185 yX5_isGrid wsX5_isGrid) := goodIn_app (goodIn_of _ (by decide +kernel)) ggX5_odds_X5_isGrid
set_option maxRecDepth 20000 in
theorem ggX5_odds_X5_within : GoodIn wsX5_odds wsX5_within := goodIn_r _ [14] (by decide +kernel) (by decide +kernel)
set_option maxRecDepth 20000 in
theorem gX5_odds_X5_within : GoodIn wsX5_odds (va_wsS RX5 75 yX5_within wsX5_within) := goodIn_app (goodIn_of _ (by decide +kernel)) ggX5_odds_X5_within
set_option maxRecDepth 20000 in
theorem ggX5_odds_X5_hits : GoodIn wsX5_odds wsX5_hits := goodIn_r _ [21, 22, 23, 24, 25, 26, 5, 27, 28, 29, 30, 31, 32, 33, 34, 35, 36, 37, 38, 39, 40, 41, 42, 43, 44, 45, 46, 47, 48, 49, 50, 51, 52, 53, 54, 55, 56, 57, 58, 59, 60, 61, 62, 63, 64, 65, 66, 67, 68, 69, 70, 71, 72, 73, 74, 75, 76, 77, 78, 79, 80, 81, 82, 83, 84, 85, 86, 87, 88, 89, 90, 91, 92, 93, 94, 95, 96, 97, 98, 99, 100, 101, 111, 112, 113, 114, 115, 116, 117, 118, 119, 120, 121, 122, 123, 124, 125, 126, 127, 128, 129, 130, 131, 132, 133, 134, 135, 136, 137, 138, 139, 140, 141, 142, 143, 144, 145] (by decide +kernel) (by decide +kernel)
set_option maxRecDepth 20000 in
theorem gX5_odds_X5_hits : GoodIn wsX5_odds (wsV RX5 198 RX5 yX5_hits wsX5_hits) := goodIn_app (goodIn_of _ (by decide +kernel)) ggX5_odds_X5_hits
set_option maxRecDepth 20000 in
theorem ggX5_odds_X5_throwsOf : GoodIn wsX5_odds wsX5_throwsOf := goodIn_r _ [104] (by decide +kernel) (by decide +kernel)
set_option maxRecDepth 20000 in
theorem gX5_odds_X5_throwsOf : GoodIn wsX5_odds (va_wsS RX5 202 yX5_throwsOf wsX5_throwsOf) := goodIn_app (goodIn_of _ (by decide +kernel)) ggX5_odds_X5_throwsOf
set_option maxRecDepth 20000 in
theorem ggX5_odds_X5_share : GoodIn wsX5_odds wsX5_share := goodIn_r _ [107, 1, 108, 109, 5, 110] (by decide +kernel) (by decide +kernel)
set_option maxRecDepth 20000 in
theorem gX5_odds_X5_share : GoodIn wsX5_odds (va_wsS RX5 205 yX5_share wsX5_share) := goodIn_app (goodIn_of _ (by decide +kernel)) ggX5_odds_X5_share
theorem dX5_odds_0 : decode cX5_odds 0 = .ok (.aload_n 0, 1) := by decide +kernel
theorem dX5_odds_1 : decode cX5_odds 1 = .ok (.iload_n 1, 1) := by decide +kernel
theorem dX5_odds_2 : decode cX5_odds 2 = .ok (.invokevirtual 82, 3) := by decide +kernel
theorem dX5_odds_5 : decode cX5_odds 5 = .ok (.astore 9, 2) := by decide +kernel
theorem dX5_odds_7 : decode cX5_odds 7 = .ok (.aload 9, 2) := by decide +kernel
theorem dX5_odds_9 : decode cX5_odds 9 = .ok (.ifnull 33, 3) := by decide +kernel
theorem dX5_odds_12 : decode cX5_odds 12 = .ok (.iload 6, 2) := by decide +kernel
theorem dX5_odds_14 : decode cX5_odds 14 = .ok (.invokestatic 174, 3) := by decide +kernel
theorem dX5_odds_17 : decode cX5_odds 17 = .ok (.ifCond .eq 25, 3) := by decide +kernel
theorem dX5_odds_20 : decode cX5_odds 20 = .ok (.iload_n 2, 1) := by decide +kernel
theorem dX5_odds_21 : decode cX5_odds 21 = .ok (.iload_n 3, 1) := by decide +kernel
theorem dX5_odds_22 : decode cX5_odds 22 = .ok (.iload 4, 2) := by decide +kernel
theorem dX5_odds_24 : decode cX5_odds 24 = .ok (.iload 5, 2) := by decide +kernel
theorem dX5_odds_26 : decode cX5_odds 26 = .ok (.invokestatic 185, 3) := by decide +kernel
theorem dX5_odds_29 : decode cX5_odds 29 = .ok (.ifCond .eq 13, 3) := by decide +kernel
theorem dX5_odds_32 : decode cX5_odds 32 = .ok (.iload 8, 2) := by decide +kernel
theorem dX5_odds_34 : decode cX5_odds 34 = .ok (.iconst 0, 1) := by decide +kernel
theorem dX5_odds_35 : decode cX5_odds 35 = .ok (.iconst 1, 1) := by decide +kernel
theorem dX5_odds_36 : decode cX5_odds 36 = .ok (.invokestatic 75, 3) := by decide +kernel
theorem dX5_odds_39 : decode cX5_odds 39 = .ok (.ifCond .ne 7, 3) := by decide +kernel
theorem dX5_odds_42 : decode cX5_odds 42 = .ok (.ldc2_w 196, 3) := by decide +kernel
theorem dX5_odds_45 : decode cX5_odds 45 = .ok (.lreturn, 1) := by decide +kernel
theorem dX5_odds_46 : decode cX5_odds 46 = .ok (.aload_n 0, 1) := by decide +kernel
theorem dX5_odds_47 : decode cX5_odds 47 = .ok (.aload 9, 2) := by decide +kernel
theorem dX5_odds_49 : decode cX5_odds 49 = .ok (.iload_n 2, 1) := by decide +kernel
theorem dX5_odds_50 : decode cX5_odds 50 = .ok (.iload_n 3, 1) := by decide +kernel
theorem dX5_odds_51 : decode cX5_odds 51 = .ok (.iload 4, 2) := by decide +kernel
theorem dX5_odds_53 : decode cX5_odds 53 = .ok (.iload 5, 2) := by decide +kernel
theorem dX5_odds_55 : decode cX5_odds 55 = .ok (.iload 6, 2) := by decide +kernel
theorem dX5_odds_57 : decode cX5_odds 57 = .ok (.iload 7, 2) := by decide +kernel
theorem dX5_odds_59 : decode cX5_odds 59 = .ok (.invokevirtual 198, 3) := by decide +kernel
theorem dX5_odds_62 : decode cX5_odds 62 = .ok (.i2l, 1) := by decide +kernel
theorem dX5_odds_63 : decode cX5_odds 63 = .ok (.iload_n 3, 1) := by decide +kernel
theorem dX5_odds_64 : decode cX5_odds 64 = .ok (.iload 5, 2) := by decide +kernel
theorem dX5_odds_66 : decode cX5_odds 66 = .ok (.invokestatic 202, 3) := by decide +kernel
theorem dX5_odds_69 : decode cX5_odds 69 = .ok (.i2l, 1) := by decide +kernel
theorem dX5_odds_70 : decode cX5_odds 70 = .ok (.iload 8, 2) := by decide +kernel
theorem dX5_odds_72 : decode cX5_odds 72 = .ok (.invokestatic 205, 3) := by decide +kernel
theorem dX5_odds_75 : decode cX5_odds 75 = .ok (.lreturn, 1) := by decide +kernel
set_option maxRecDepth 20000 in
theorem ggX5_narrow_X5_stoneAt : GoodIn wsX5_narrow wsX5_stoneAt := goodIn_r _ [5, 6, 7, 104, 105, 106, 107, 108, 109, 110, 111, 112, 113, 114, 115, 116] (by decide +kernel) (by decide +kernel)
set_option maxRecDepth 20000 in
theorem gX5_narrow_X5_stoneAt : GoodIn wsX5_narrow (wsV RX5 82 RX5 yX5_stoneAt wsX5_stoneAt) := goodIn_app (goodIn_of _ (by decide +kernel)) ggX5_narrow_X5_stoneAt
set_option maxRecDepth 20000 in
theorem ggX5_narrow_X5_isJudge : GoodIn wsX5_narrow wsX5_isJudge := goodIn_r _ [10, 11, 12, 4, 13] (by decide +kernel) (by decide +kernel)
set_option maxRecDepth 20000 in
theorem gX5_narrow_X5_isJudge : GoodIn wsX5_narrow (va_wsS RX5 174 yX5_isJudge wsX5_isJudge) := goodIn_app (goodIn_of _ (by decide +kernel)) ggX5_narrow_X5_isJudge
set_option maxRecDepth 20000 in
theorem ggX5_narrow_X5_isGrid : GoodIn wsX5_narrow wsX5_isGrid := goodIn_r _ [16, 11, 12, 4, 13] (by decide +kernel) (by decide +kernel)
set_option maxRecDepth 20000 in
theorem gX5_narrow_X5_isGrid : GoodIn wsX5_narrow (va_wsS RX5 185 yX5_isGrid wsX5_isGrid) := goodIn_app (goodIn_of _ (by decide +kernel)) ggX5_narrow_X5_isGrid
set_option maxRecDepth 20000 in
theorem ggX5_narrow_X5_hits : GoodIn wsX5_narrow wsX5_hits := goodIn_r _ [20, 21, 22, 23, 24, 25, 4, 26, 27, 28, 29, 30, 31, 32, 33, 34, 35, 36, 37, 38, 39, 40, 41, 42, 43, 44, 45, 46, 47, 48, 49, 50, 51, 52, 53, 54, 55, 56, 57, 58, 59, 60, 61, 62, 63, 64, 65, 66, 67, 68, 69, 70, 71, 72, 73, 74, 75, 76, 77, 78, 79, 80, 81, 82, 83, 84, 85, 86, 87, 88, 89, 90, 91, 92, 93, 94, 95, 96, 97, 98, 99, 100, 104, 105, 106, 107, 108, 109, 110, 111, 112, 113, 114, 115, 116, 117, 118, 119, 120, 121, 122, 123, 124, 125, 126, 127, 128, 129, 130, 131, 132, 133, 134, 135, 136, 137, 138] (by decide +kernel) (by decide +kernel)
set_option maxRecDepth 20000 in
theorem gX5_narrow_X5_hits : GoodIn wsX5_narrow (wsV RX5 198 RX5 yX5_hits wsX5_hits) := goodIn_app (goodIn_of _ (by decide +kernel)) ggX5_narrow_X5_hits
set_option maxRecDepth 20000 in
theorem ggX5_narrow_X5_throwsOf : GoodIn wsX5_narrow wsX5_throwsOf := goodIn_r _ [103] (by decide +kernel) (by decide +kernel)
set_option maxRecDepth 20000 in
theorem gX5_narrow_X5_throwsOf : GoodIn wsX5_narrow (va_wsS RX5 202 yX5_throwsOf wsX5_throwsOf) := goodIn_app (goodIn_of _ (by decide +kernel)) ggX5_narrow_X5_throwsOf
theorem dX5_narrow_0 : decode cX5_narrow 0 = .ok (.aload_n 0, 1) := by decide +kernel
theorem dX5_narrow_1 : decode cX5_narrow 1 = .ok (.iload_n 1, 1) := by decide +kernel
theorem dX5_narrow_2 : decode cX5_narrow 2 = .ok (.invokevirtual 82, 3) := by decide +kernel
theorem dX5_narrow_5 : decode cX5_narrow 5 = .ok (.astore 8, 2) := by decide +kernel
theorem dX5_narrow_7 : decode cX5_narrow 7 = .ok (.aload 8, 2) := by decide +kernel
theorem dX5_narrow_9 : decode cX5_narrow 9 = .ok (.ifnull 11, 3) := by decide +kernel
theorem dX5_narrow_12 : decode cX5_narrow 12 = .ok (.iload 6, 2) := by decide +kernel
theorem dX5_narrow_14 : decode cX5_narrow 14 = .ok (.invokestatic 174, 3) := by decide +kernel
theorem dX5_narrow_17 : decode cX5_narrow 17 = .ok (.ifCond .ne 5, 3) := by decide +kernel
theorem dX5_narrow_20 : decode cX5_narrow 20 = .ok (.iconst (-1), 1) := by decide +kernel
theorem dX5_narrow_21 : decode cX5_narrow 21 = .ok (.ireturn, 1) := by decide +kernel
theorem dX5_narrow_22 : decode cX5_narrow 22 = .ok (.iload_n 2, 1) := by decide +kernel
theorem dX5_narrow_23 : decode cX5_narrow 23 = .ok (.iload_n 3, 1) := by decide +kernel
theorem dX5_narrow_24 : decode cX5_narrow 24 = .ok (.iload 4, 2) := by decide +kernel
theorem dX5_narrow_26 : decode cX5_narrow 26 = .ok (.iload 5, 2) := by decide +kernel
theorem dX5_narrow_28 : decode cX5_narrow 28 = .ok (.invokestatic 185, 3) := by decide +kernel
theorem dX5_narrow_31 : decode cX5_narrow 31 = .ok (.ifCond .ne 6, 3) := by decide +kernel
theorem dX5_narrow_34 : decode cX5_narrow 34 = .ok (.bipush (-2), 2) := by decide +kernel
theorem dX5_narrow_36 : decode cX5_narrow 36 = .ok (.ireturn, 1) := by decide +kernel
theorem dX5_narrow_37 : decode cX5_narrow 37 = .ok (.iload_n 3, 1) := by decide +kernel
theorem dX5_narrow_38 : decode cX5_narrow 38 = .ok (.ifCond .ne 15, 3) := by decide +kernel
theorem dX5_narrow_41 : decode cX5_narrow 41 = .ok (.iload 5, 2) := by decide +kernel
theorem dX5_narrow_43 : decode cX5_narrow 43 = .ok (.ifCond .ne 8, 3) := by decide +kernel
theorem dX5_narrow_46 : decode cX5_narrow 46 = .ok (.bipush (-9), 2) := by decide +kernel
theorem dX5_narrow_48 : decode cX5_narrow 48 = .ok (.goto 4, 3) := by decide +kernel
theorem dX5_narrow_51 : decode cX5_narrow 51 = .ok (.iconst 1, 1) := by decide +kernel
theorem dX5_narrow_52 : decode cX5_narrow 52 = .ok (.ireturn, 1) := by decide +kernel
theorem dX5_narrow_53 : decode cX5_narrow 53 = .ok (.iload 5, 2) := by decide +kernel
theorem dX5_narrow_55 : decode cX5_narrow 55 = .ok (.ifCond .ne 5, 3) := by decide +kernel
theorem dX5_narrow_58 : decode cX5_narrow 58 = .ok (.iconst 0, 1) := by decide +kernel
theorem dX5_narrow_59 : decode cX5_narrow 59 = .ok (.ireturn, 1) := by decide +kernel
theorem dX5_narrow_60 : decode cX5_narrow 60 = .ok (.aload_n 0, 1) := by decide +kernel
theorem dX5_narrow_61 : decode cX5_narrow 61 = .ok (.aload 8, 2) := by decide +kernel
theorem dX5_narrow_63 : decode cX5_narrow 63 = .ok (.iload_n 2, 1) := by decide +kernel
theorem dX5_narrow_64 : decode cX5_narrow 64 = .ok (.iload_n 3, 1) := by decide +kernel
theorem dX5_narrow_65 : decode cX5_narrow 65 = .ok (.iconst 1, 1) := by decide +kernel
theorem dX5_narrow_66 : decode cX5_narrow 66 = .ok (.isub, 1) := by decide +kernel
theorem dX5_narrow_67 : decode cX5_narrow 67 = .ok (.iload 4, 2) := by decide +kernel
theorem dX5_narrow_69 : decode cX5_narrow 69 = .ok (.iload 5, 2) := by decide +kernel
theorem dX5_narrow_71 : decode cX5_narrow 71 = .ok (.iload 6, 2) := by decide +kernel
theorem dX5_narrow_73 : decode cX5_narrow 73 = .ok (.iload 7, 2) := by decide +kernel
theorem dX5_narrow_75 : decode cX5_narrow 75 = .ok (.invokevirtual 198, 3) := by decide +kernel
theorem dX5_narrow_78 : decode cX5_narrow 78 = .ok (.iload_n 3, 1) := by decide +kernel
theorem dX5_narrow_79 : decode cX5_narrow 79 = .ok (.iload 5, 2) := by decide +kernel
theorem dX5_narrow_81 : decode cX5_narrow 81 = .ok (.iconst 1, 1) := by decide +kernel
theorem dX5_narrow_82 : decode cX5_narrow 82 = .ok (.isub, 1) := by decide +kernel
theorem dX5_narrow_83 : decode cX5_narrow 83 = .ok (.invokestatic 202, 3) := by decide +kernel
theorem dX5_narrow_86 : decode cX5_narrow 86 = .ok (.imul, 1) := by decide +kernel
theorem dX5_narrow_87 : decode cX5_narrow 87 = .ok (.i2l, 1) := by decide +kernel
theorem dX5_narrow_88 : decode cX5_narrow 88 = .ok (.lstore 9, 2) := by decide +kernel
theorem dX5_narrow_90 : decode cX5_narrow 90 = .ok (.aload_n 0, 1) := by decide +kernel
theorem dX5_narrow_91 : decode cX5_narrow 91 = .ok (.aload 8, 2) := by decide +kernel
theorem dX5_narrow_93 : decode cX5_narrow 93 = .ok (.iload_n 2, 1) := by decide +kernel
theorem dX5_narrow_94 : decode cX5_narrow 94 = .ok (.iload_n 3, 1) := by decide +kernel
theorem dX5_narrow_95 : decode cX5_narrow 95 = .ok (.iload 4, 2) := by decide +kernel
theorem dX5_narrow_97 : decode cX5_narrow 97 = .ok (.iload 5, 2) := by decide +kernel
theorem dX5_narrow_99 : decode cX5_narrow 99 = .ok (.iconst 1, 1) := by decide +kernel
theorem dX5_narrow_100 : decode cX5_narrow 100 = .ok (.isub, 1) := by decide +kernel
theorem dX5_narrow_101 : decode cX5_narrow 101 = .ok (.iload 6, 2) := by decide +kernel
theorem dX5_narrow_103 : decode cX5_narrow 103 = .ok (.iload 7, 2) := by decide +kernel
theorem dX5_narrow_105 : decode cX5_narrow 105 = .ok (.invokevirtual 198, 3) := by decide +kernel
theorem dX5_narrow_108 : decode cX5_narrow 108 = .ok (.iload_n 3, 1) := by decide +kernel
theorem dX5_narrow_109 : decode cX5_narrow 109 = .ok (.iconst 1, 1) := by decide +kernel
theorem dX5_narrow_110 : decode cX5_narrow 110 = .ok (.isub, 1) := by decide +kernel
theorem dX5_narrow_111 : decode cX5_narrow 111 = .ok (.iload 5, 2) := by decide +kernel
theorem dX5_narrow_113 : decode cX5_narrow 113 = .ok (.invokestatic 202, 3) := by decide +kernel
theorem dX5_narrow_116 : decode cX5_narrow 116 = .ok (.imul, 1) := by decide +kernel
theorem dX5_narrow_117 : decode cX5_narrow 117 = .ok (.i2l, 1) := by decide +kernel
theorem dX5_narrow_118 : decode cX5_narrow 118 = .ok (.lstore 11, 2) := by decide +kernel
theorem dX5_narrow_120 : decode cX5_narrow 120 = .ok (.lload 11, 2) := by decide +kernel
theorem dX5_narrow_122 : decode cX5_narrow 122 = .ok (.lload 9, 2) := by decide +kernel
theorem dX5_narrow_124 : decode cX5_narrow 124 = .ok (.lcmp, 1) := by decide +kernel
theorem dX5_narrow_125 : decode cX5_narrow 125 = .ok (.ifCond .le 7, 3) := by decide +kernel
theorem dX5_narrow_128 : decode cX5_narrow 128 = .ok (.iconst 1, 1) := by decide +kernel
theorem dX5_narrow_129 : decode cX5_narrow 129 = .ok (.goto 4, 3) := by decide +kernel
theorem dX5_narrow_132 : decode cX5_narrow 132 = .ok (.iconst 0, 1) := by decide +kernel
theorem dX5_narrow_133 : decode cX5_narrow 133 = .ok (.ireturn, 1) := by decide +kernel
set_option maxRecDepth 20000 in
theorem ggX5_rings_X5_refusalOfRow : GoodIn wsX5_rings wsX5_refusalOfRow := goodIn_r _ [8, 9, 10, 11, 7, 12, 13, 14, 15, 16, 17, 18, 19, 20, 21, 22, 23, 24, 25, 26, 27, 28, 29, 30, 31, 32, 33, 34, 35, 36, 37, 38, 39, 40, 41, 42, 43, 44, 45, 46, 47, 48, 49, 54, 55, 56, 57, 58, 59, 60, 61, 62, 63, 64, 65, 66, 67, 68, 69, 70] (by decide +kernel) (by decide +kernel)
set_option maxRecDepth 20000 in
theorem gX5_rings_X5_refusalOfRow : GoodIn wsX5_rings (wsV RX5 134 RX5 yX5_refusalOfRow wsX5_refusalOfRow) := goodIn_app (goodIn_of _ (by decide +kernel)) ggX5_rings_X5_refusalOfRow
set_option maxRecDepth 20000 in
theorem ggX5_rings_X5_takeCells : GoodIn wsX5_rings wsX5_takeCells := goodIn_r _ [53, 14, 15, 16, 7, 17, 18, 41, 42, 43, 28, 44, 45, 46, 47, 48, 49, 40, 54, 55, 56, 57, 58, 59, 60, 61, 62, 63, 64, 65, 66, 67, 68, 69, 70] (by decide +kernel) (by decide +kernel)
set_option maxRecDepth 20000 in
theorem gX5_rings_X5_takeCells : GoodIn wsX5_rings (wsV RX5 141 RX5 yX5_takeCells wsX5_takeCells) := goodIn_app (goodIn_of _ (by decide +kernel)) ggX5_rings_X5_takeCells
theorem dX5_rings_0 : decode cX5_rings 0 = .ok (.aload_n 0, 1) := by decide +kernel
theorem dX5_rings_1 : decode cX5_rings 1 = .ok (.iload_n 1, 1) := by decide +kernel
theorem dX5_rings_2 : decode cX5_rings 2 = .ok (.iload_n 2, 1) := by decide +kernel
theorem dX5_rings_3 : decode cX5_rings 3 = .ok (.iload_n 3, 1) := by decide +kernel
theorem dX5_rings_4 : decode cX5_rings 4 = .ok (.iload 4, 2) := by decide +kernel
theorem dX5_rings_6 : decode cX5_rings 6 = .ok (.iconst 1, 1) := by decide +kernel
theorem dX5_rings_7 : decode cX5_rings 7 = .ok (.ldc 209, 2) := by decide +kernel
theorem dX5_rings_9 : decode cX5_rings 9 = .ok (.invokevirtual 134, 3) := by decide +kernel
theorem dX5_rings_12 : decode cX5_rings 12 = .ok (.istore 5, 2) := by decide +kernel
theorem dX5_rings_14 : decode cX5_rings 14 = .ok (.iload 5, 2) := by decide +kernel
theorem dX5_rings_16 : decode cX5_rings 16 = .ok (.ifCond .eq 6, 3) := by decide +kernel
theorem dX5_rings_19 : decode cX5_rings 19 = .ok (.iload 5, 2) := by decide +kernel
theorem dX5_rings_21 : decode cX5_rings 21 = .ok (.ireturn, 1) := by decide +kernel
theorem dX5_rings_22 : decode cX5_rings 22 = .ok (.aload_n 0, 1) := by decide +kernel
theorem dX5_rings_23 : decode cX5_rings 23 = .ok (.iload_n 1, 1) := by decide +kernel
theorem dX5_rings_24 : decode cX5_rings 24 = .ok (.iload_n 3, 1) := by decide +kernel
theorem dX5_rings_25 : decode cX5_rings 25 = .ok (.iload 4, 2) := by decide +kernel
theorem dX5_rings_27 : decode cX5_rings 27 = .ok (.aload_n 0, 1) := by decide +kernel
theorem dX5_rings_28 : decode cX5_rings 28 = .ok (.getfield 51, 3) := by decide +kernel
theorem dX5_rings_31 : decode cX5_rings 31 = .ok (.invokevirtual 141, 3) := by decide +kernel
theorem dX5_rings_34 : decode cX5_rings 34 = .ok (.aload_n 0, 1) := by decide +kernel
theorem dX5_rings_35 : decode cX5_rings 35 = .ok (.iload 4, 2) := by decide +kernel
theorem dX5_rings_37 : decode cX5_rings 37 = .ok (.putfield 55, 3) := by decide +kernel
theorem dX5_rings_40 : decode cX5_rings 40 = .ok (.iload 4, 2) := by decide +kernel
theorem dX5_rings_42 : decode cX5_rings 42 = .ok (.ireturn, 1) := by decide +kernel
set_option maxRecDepth 20000 in
theorem ggX5_read_X5_stoneAt : GoodIn wsX5_read wsX5_stoneAt := goodIn_r _ [10, 11, 12, 91, 92, 93, 94, 95, 96, 97, 98, 99, 100, 101, 102, 103] (by decide +kernel) (by decide +kernel)
set_option maxRecDepth 20000 in
theorem gX5_read_X5_stoneAt : GoodIn wsX5_read (wsV RX5 82 RX5 yX5_stoneAt wsX5_stoneAt) := goodIn_app (goodIn_of _ (by decide +kernel)) ggX5_read_X5_stoneAt
set_option maxRecDepth 20000 in
theorem ggX5_read_X5_isGrid : GoodIn wsX5_read wsX5_isGrid := goodIn_r _ [15, 16, 17, 9, 18] (by decide +kernel) (by decide +kernel)
set_option maxRecDepth 20000 in
theorem gX5_read_X5_isGrid : GoodIn wsX5_read (va_wsS RX5 185 yX5_isGrid wsX5_isGrid) := goodIn_app (goodIn_of _ (by decide +kernel)) ggX5_read_X5_isGrid
set_option maxRecDepth 20000 in
theorem ggX5_read_X5_within : GoodIn wsX5_read wsX5_within := goodIn_r _ [18] (by decide +kernel) (by decide +kernel)
set_option maxRecDepth 20000 in
theorem gX5_read_X5_within : GoodIn wsX5_read (va_wsS RX5 75 yX5_within wsX5_within) := goodIn_app (goodIn_of _ (by decide +kernel)) ggX5_read_X5_within
set_option maxRecDepth 20000 in
theorem ggX5_read_X5_tryOut : GoodIn wsX5_read wsX5_tryOut := goodIn_r _ [22, 4, 23, 24, 2, 25, 26, 27, 28, 29, 30, 31, 32, 33, 34, 35, 36, 37, 38, 39, 40, 41, 42, 43, 44, 45, 46, 47, 48, 49, 50, 51, 52, 53, 54, 55, 56, 57, 58, 59, 60, 61, 62, 9, 63, 64, 65, 66, 67, 68, 69, 70, 71, 72, 73, 74, 75, 76, 77, 78, 79, 91, 92, 93, 94, 95, 96, 97, 98, 99, 100, 101, 102, 103, 113, 114, 115, 116, 117, 118, 119, 120, 104, 105, 106, 107, 108, 109, 110, 111, 112, 121, 122, 123, 124, 125] (by decide +kernel) (by decide +kernel)
set_option maxRecDepth 20000 in
theorem gX5_read_X5_tryOut : GoodIn wsX5_read (wsV RX5 210 RX5 yX5_tryOut wsX5_tryOut) := goodIn_app (goodIn_of _ (by decide +kernel)) ggX5_read_X5_tryOut
set_option maxRecDepth 20000 in
theorem ggX5_read_X0_ringsAt : GoodIn wsX5_read wsX0_ringsAt := goodIn_r _ [83, 36, 84, 85, 86, 28, 87, 71, 113, 114, 115, 116, 117, 118, 119, 120] (by decide +kernel) (by decide +kernel)
set_option maxRecDepth 20000 in
theorem gX5_read_X0_ringsAt : GoodIn wsX5_read (wsV RX5 214 RX0 yX0_ringsAt wsX0_ringsAt) := goodIn_app (goodIn_of _ (by decide +kernel)) ggX5_read_X0_ringsAt
set_option maxRecDepth 20000 in
theorem ggX5_read_X5_pick : GoodIn wsX5_read wsX5_pick := goodIn_r _ [90] (by decide +kernel) (by decide +kernel)
set_option maxRecDepth 20000 in
theorem gX5_read_X5_pick : GoodIn wsX5_read (va_wsS RX5 193 yX5_pick wsX5_pick) := goodIn_app (goodIn_of _ (by decide +kernel)) ggX5_read_X5_pick
theorem dX5_read_0 : decode cX5_read 0 = .ok (.aload_n 0, 1) := by decide +kernel
theorem dX5_read_1 : decode cX5_read 1 = .ok (.iload_n 1, 1) := by decide +kernel
theorem dX5_read_2 : decode cX5_read 2 = .ok (.invokevirtual 82, 3) := by decide +kernel
theorem dX5_read_5 : decode cX5_read 5 = .ok (.astore 7, 2) := by decide +kernel
theorem dX5_read_7 : decode cX5_read 7 = .ok (.aload 7, 2) := by decide +kernel
theorem dX5_read_9 : decode cX5_read 9 = .ok (.ifnonnull 5, 3) := by decide +kernel
theorem dX5_read_12 : decode cX5_read 12 = .ok (.iconst (-1), 1) := by decide +kernel
theorem dX5_read_13 : decode cX5_read 13 = .ok (.ireturn, 1) := by decide +kernel
theorem dX5_read_14 : decode cX5_read 14 = .ok (.iload_n 2, 1) := by decide +kernel
theorem dX5_read_15 : decode cX5_read 15 = .ok (.iload_n 3, 1) := by decide +kernel
theorem dX5_read_16 : decode cX5_read 16 = .ok (.iload 4, 2) := by decide +kernel
theorem dX5_read_18 : decode cX5_read 18 = .ok (.iload 5, 2) := by decide +kernel
theorem dX5_read_20 : decode cX5_read 20 = .ok (.invokestatic 185, 3) := by decide +kernel
theorem dX5_read_23 : decode cX5_read 23 = .ok (.ifCond .eq 13, 3) := by decide +kernel
theorem dX5_read_26 : decode cX5_read 26 = .ok (.iload 6, 2) := by decide +kernel
theorem dX5_read_28 : decode cX5_read 28 = .ok (.iconst 0, 1) := by decide +kernel
theorem dX5_read_29 : decode cX5_read 29 = .ok (.iconst 2, 1) := by decide +kernel
theorem dX5_read_30 : decode cX5_read 30 = .ok (.invokestatic 75, 3) := by decide +kernel
theorem dX5_read_33 : decode cX5_read 33 = .ok (.ifCond .ne 6, 3) := by decide +kernel
theorem dX5_read_36 : decode cX5_read 36 = .ok (.bipush (-2), 2) := by decide +kernel
theorem dX5_read_38 : decode cX5_read 38 = .ok (.ireturn, 1) := by decide +kernel
theorem dX5_read_39 : decode cX5_read 39 = .ok (.aload_n 0, 1) := by decide +kernel
theorem dX5_read_40 : decode cX5_read 40 = .ok (.getfield 55, 3) := by decide +kernel
theorem dX5_read_43 : decode cX5_read 43 = .ok (.ifCond .ne 6, 3) := by decide +kernel
theorem dX5_read_46 : decode cX5_read 46 = .ok (.bipush (-3), 2) := by decide +kernel
theorem dX5_read_48 : decode cX5_read 48 = .ok (.ireturn, 1) := by decide +kernel
theorem dX5_read_49 : decode cX5_read 49 = .ok (.iconst 0, 1) := by decide +kernel
theorem dX5_read_50 : decode cX5_read 50 = .ok (.istore 8, 2) := by decide +kernel
theorem dX5_read_52 : decode cX5_read 52 = .ok (.bipush (-9), 2) := by decide +kernel
theorem dX5_read_54 : decode cX5_read 54 = .ok (.istore 9, 2) := by decide +kernel
theorem dX5_read_56 : decode cX5_read 56 = .ok (.bipush (-9), 2) := by decide +kernel
theorem dX5_read_58 : decode cX5_read 58 = .ok (.istore 10, 2) := by decide +kernel
theorem dX5_read_60 : decode cX5_read 60 = .ok (.iload_n 2, 1) := by decide +kernel
theorem dX5_read_61 : decode cX5_read 61 = .ok (.istore 11, 2) := by decide +kernel
theorem dX5_read_63 : decode cX5_read 63 = .ok (.iload 11, 2) := by decide +kernel
theorem dX5_read_65 : decode cX5_read 65 = .ok (.iload_n 2, 1) := by decide +kernel
theorem dX5_read_66 : decode cX5_read 66 = .ok (.iload_n 3, 1) := by decide +kernel
theorem dX5_read_67 : decode cX5_read 67 = .ok (.iadd, 1) := by decide +kernel
theorem dX5_read_68 : decode cX5_read 68 = .ok (.if_icmp .gt 95, 3) := by decide +kernel
theorem dX5_read_71 : decode cX5_read 71 = .ok (.iload 4, 2) := by decide +kernel
theorem dX5_read_73 : decode cX5_read 73 = .ok (.istore 12, 2) := by decide +kernel
theorem dX5_read_75 : decode cX5_read 75 = .ok (.iload 12, 2) := by decide +kernel
theorem dX5_read_77 : decode cX5_read 77 = .ok (.iload 4, 2) := by decide +kernel
theorem dX5_read_79 : decode cX5_read 79 = .ok (.iload 5, 2) := by decide +kernel
theorem dX5_read_81 : decode cX5_read 81 = .ok (.iadd, 1) := by decide +kernel
theorem dX5_read_82 : decode cX5_read 82 = .ok (.if_icmp .gt 75, 3) := by decide +kernel
theorem dX5_read_85 : decode cX5_read 85 = .ok (.aload_n 0, 1) := by decide +kernel
theorem dX5_read_86 : decode cX5_read 86 = .ok (.aload 7, 2) := by decide +kernel
theorem dX5_read_88 : decode cX5_read 88 = .ok (.iload 11, 2) := by decide +kernel
theorem dX5_read_90 : decode cX5_read 90 = .ok (.iload 12, 2) := by decide +kernel
theorem dX5_read_92 : decode cX5_read 92 = .ok (.aload_n 0, 1) := by decide +kernel
theorem dX5_read_93 : decode cX5_read 93 = .ok (.getfield 24, 3) := by decide +kernel
theorem dX5_read_96 : decode cX5_read 96 = .ok (.getfield 148, 3) := by decide +kernel
theorem dX5_read_99 : decode cX5_read 99 = .ok (.invokevirtual 210, 3) := by decide +kernel
theorem dX5_read_102 : decode cX5_read 102 = .ok (.aload_n 0, 1) := by decide +kernel
theorem dX5_read_103 : decode cX5_read 103 = .ok (.getfield 42, 3) := by decide +kernel
theorem dX5_read_106 : decode cX5_read 106 = .ok (.aload_n 0, 1) := by decide +kernel
theorem dX5_read_107 : decode cX5_read 107 = .ok (.getfield 51, 3) := by decide +kernel
theorem dX5_read_110 : decode cX5_read 110 = .ok (.aload_n 0, 1) := by decide +kernel
theorem dX5_read_111 : decode cX5_read 111 = .ok (.getfield 55, 3) := by decide +kernel
theorem dX5_read_114 : decode cX5_read 114 = .ok (.invokevirtual 214, 3) := by decide +kernel
theorem dX5_read_117 : decode cX5_read 117 = .ok (.ifCond .eq 34, 3) := by decide +kernel
theorem dX5_read_120 : decode cX5_read 120 = .ok (.iload 8, 2) := by decide +kernel
theorem dX5_read_122 : decode cX5_read 122 = .ok (.ifCond .ne 8, 3) := by decide +kernel
theorem dX5_read_125 : decode cX5_read 125 = .ok (.iload 11, 2) := by decide +kernel
theorem dX5_read_127 : decode cX5_read 127 = .ok (.goto 5, 3) := by decide +kernel
theorem dX5_read_130 : decode cX5_read 130 = .ok (.iload 9, 2) := by decide +kernel
theorem dX5_read_132 : decode cX5_read 132 = .ok (.istore 9, 2) := by decide +kernel
theorem dX5_read_134 : decode cX5_read 134 = .ok (.iload 8, 2) := by decide +kernel
theorem dX5_read_136 : decode cX5_read 136 = .ok (.ifCond .ne 8, 3) := by decide +kernel
theorem dX5_read_139 : decode cX5_read 139 = .ok (.iload 12, 2) := by decide +kernel
theorem dX5_read_141 : decode cX5_read 141 = .ok (.goto 5, 3) := by decide +kernel
theorem dX5_read_144 : decode cX5_read 144 = .ok (.iload 10, 2) := by decide +kernel
theorem dX5_read_146 : decode cX5_read 146 = .ok (.istore 10, 2) := by decide +kernel
theorem dX5_read_148 : decode cX5_read 148 = .ok (.iinc 8 1, 3) := by decide +kernel
theorem dX5_read_151 : decode cX5_read 151 = .ok (.iinc 12 1, 3) := by decide +kernel
theorem dX5_read_154 : decode cX5_read 154 = .ok (.goto (-79), 3) := by decide +kernel
theorem dX5_read_157 : decode cX5_read 157 = .ok (.iinc 11 1, 3) := by decide +kernel
theorem dX5_read_160 : decode cX5_read 160 = .ok (.goto (-97), 3) := by decide +kernel
theorem dX5_read_163 : decode cX5_read 163 = .ok (.iload 6, 2) := by decide +kernel
theorem dX5_read_165 : decode cX5_read 165 = .ok (.iload 8, 2) := by decide +kernel
theorem dX5_read_167 : decode cX5_read 167 = .ok (.iload 9, 2) := by decide +kernel
theorem dX5_read_169 : decode cX5_read 169 = .ok (.iload 10, 2) := by decide +kernel
theorem dX5_read_171 : decode cX5_read 171 = .ok (.invokestatic 193, 3) := by decide +kernel
theorem dX5_read_174 : decode cX5_read 174 = .ok (.ireturn, 1) := by decide +kernel
set_option maxRecDepth 20000 in
theorem ggX5_there_X5_stoneAt : GoodIn wsX5_there wsX5_stoneAt := goodIn_r _ [7, 8, 9, 94, 95, 96, 97, 98, 99, 100, 101, 102, 103, 104, 105, 106] (by decide +kernel) (by decide +kernel)
set_option maxRecDepth 20000 in
theorem gX5_there_X5_stoneAt : GoodIn wsX5_there (wsV RX5 82 RX5 yX5_stoneAt wsX5_stoneAt) := goodIn_app (goodIn_of _ (by decide +kernel)) ggX5_there_X5_stoneAt
set_option maxRecDepth 20000 in
theorem ggX5_there_X5_isGrid : GoodIn wsX5_there wsX5_isGrid := goodIn_r _ [12, 13, 14, 6, 15] (by decide +kernel) (by decide +kernel)
set_option maxRecDepth 20000 in
theorem gX5_there_X5_isGrid : GoodIn wsX5_there (va_wsS RX5 185 yX5_isGrid wsX5_isGrid) := goodIn_app (goodIn_of _ (by decide +kernel)) ggX5_there_X5_isGrid
set_option maxRecDepth 20000 in
theorem ggX5_there_X5_countOf : GoodIn wsX5_there wsX5_countOf := goodIn_r _ [19, 20, 21, 22, 23, 6, 24, 25, 26, 1, 27, 28, 29, 30, 31, 32, 33, 34, 35, 36, 37, 38, 39, 40, 41, 42, 43, 44, 45, 46, 47, 48, 49, 50, 51, 52, 53, 54, 55, 56, 57, 58, 59, 60, 61, 62, 63, 64, 65, 66, 67, 68, 69, 70, 71, 72, 73, 74, 75, 76, 77, 78, 79, 80, 81, 82, 83, 84, 85, 86, 87, 88, 89, 90, 91, 92, 93, 94, 95, 96, 97, 98, 99, 100, 101, 102, 103, 104, 105, 106, 116, 117, 118, 119, 120, 121, 122, 123, 107, 108, 109, 110, 111, 112, 113, 114, 115, 124, 125, 126, 127, 128] (by decide +kernel) (by decide +kernel)
set_option maxRecDepth 20000 in
theorem gX5_there_X5_countOf : GoodIn wsX5_there (wsV RX5 189 RX5 yX5_countOf wsX5_countOf) := goodIn_app (goodIn_of _ (by decide +kernel)) ggX5_there_X5_countOf
set_option maxRecDepth 20000 in
theorem ggX5_there_X5_within : GoodIn wsX5_there wsX5_within := goodIn_r _ [15] (by decide +kernel) (by decide +kernel)
set_option maxRecDepth 20000 in
theorem gX5_there_X5_within : GoodIn wsX5_there (va_wsS RX5 75 yX5_within wsX5_within) := goodIn_app (goodIn_of _ (by decide +kernel)) ggX5_there_X5_within
theorem dX5_there_0 : decode cX5_there 0 = .ok (.aload_n 0, 1) := by decide +kernel
theorem dX5_there_1 : decode cX5_there 1 = .ok (.iload_n 1, 1) := by decide +kernel
theorem dX5_there_2 : decode cX5_there 2 = .ok (.invokevirtual 82, 3) := by decide +kernel
theorem dX5_there_5 : decode cX5_there 5 = .ok (.astore 8, 2) := by decide +kernel
theorem dX5_there_7 : decode cX5_there 7 = .ok (.aload 8, 2) := by decide +kernel
theorem dX5_there_9 : decode cX5_there 9 = .ok (.ifnonnull 5, 3) := by decide +kernel
theorem dX5_there_12 : decode cX5_there 12 = .ok (.iconst (-1), 1) := by decide +kernel
theorem dX5_there_13 : decode cX5_there 13 = .ok (.ireturn, 1) := by decide +kernel
theorem dX5_there_14 : decode cX5_there 14 = .ok (.iload_n 2, 1) := by decide +kernel
theorem dX5_there_15 : decode cX5_there 15 = .ok (.iload_n 3, 1) := by decide +kernel
theorem dX5_there_16 : decode cX5_there 16 = .ok (.iload 4, 2) := by decide +kernel
theorem dX5_there_18 : decode cX5_there 18 = .ok (.iload 5, 2) := by decide +kernel
theorem dX5_there_20 : decode cX5_there 20 = .ok (.invokestatic 185, 3) := by decide +kernel
theorem dX5_there_23 : decode cX5_there 23 = .ok (.ifCond .ne 6, 3) := by decide +kernel
theorem dX5_there_26 : decode cX5_there 26 = .ok (.bipush (-2), 2) := by decide +kernel
theorem dX5_there_28 : decode cX5_there 28 = .ok (.ireturn, 1) := by decide +kernel
theorem dX5_there_29 : decode cX5_there 29 = .ok (.iconst 0, 1) := by decide +kernel
theorem dX5_there_30 : decode cX5_there 30 = .ok (.istore 9, 2) := by decide +kernel
theorem dX5_there_32 : decode cX5_there 32 = .ok (.iload_n 2, 1) := by decide +kernel
theorem dX5_there_33 : decode cX5_there 33 = .ok (.istore 10, 2) := by decide +kernel
theorem dX5_there_35 : decode cX5_there 35 = .ok (.iload 10, 2) := by decide +kernel
theorem dX5_there_37 : decode cX5_there 37 = .ok (.iload_n 2, 1) := by decide +kernel
theorem dX5_there_38 : decode cX5_there 38 = .ok (.iload_n 3, 1) := by decide +kernel
theorem dX5_there_39 : decode cX5_there 39 = .ok (.iadd, 1) := by decide +kernel
theorem dX5_there_40 : decode cX5_there 40 = .ok (.if_icmp .gt 60, 3) := by decide +kernel
theorem dX5_there_43 : decode cX5_there 43 = .ok (.iload 4, 2) := by decide +kernel
theorem dX5_there_45 : decode cX5_there 45 = .ok (.istore 11, 2) := by decide +kernel
theorem dX5_there_47 : decode cX5_there 47 = .ok (.iload 11, 2) := by decide +kernel
theorem dX5_there_49 : decode cX5_there 49 = .ok (.iload 4, 2) := by decide +kernel
theorem dX5_there_51 : decode cX5_there 51 = .ok (.iload 5, 2) := by decide +kernel
theorem dX5_there_53 : decode cX5_there 53 = .ok (.iadd, 1) := by decide +kernel
theorem dX5_there_54 : decode cX5_there 54 = .ok (.if_icmp .gt 40, 3) := by decide +kernel
theorem dX5_there_57 : decode cX5_there 57 = .ok (.aload_n 0, 1) := by decide +kernel
theorem dX5_there_58 : decode cX5_there 58 = .ok (.aload 8, 2) := by decide +kernel
theorem dX5_there_60 : decode cX5_there 60 = .ok (.iload 10, 2) := by decide +kernel
theorem dX5_there_62 : decode cX5_there 62 = .ok (.iload 11, 2) := by decide +kernel
theorem dX5_there_64 : decode cX5_there 64 = .ok (.iconst 4, 1) := by decide +kernel
theorem dX5_there_65 : decode cX5_there 65 = .ok (.aload_n 0, 1) := by decide +kernel
theorem dX5_there_66 : decode cX5_there 66 = .ok (.getfield 24, 3) := by decide +kernel
theorem dX5_there_69 : decode cX5_there 69 = .ok (.getfield 148, 3) := by decide +kernel
theorem dX5_there_72 : decode cX5_there 72 = .ok (.invokevirtual 189, 3) := by decide +kernel
theorem dX5_there_75 : decode cX5_there 75 = .ok (.iload 6, 2) := by decide +kernel
theorem dX5_there_77 : decode cX5_there 77 = .ok (.iload 7, 2) := by decide +kernel
theorem dX5_there_79 : decode cX5_there 79 = .ok (.invokestatic 75, 3) := by decide +kernel
theorem dX5_there_82 : decode cX5_there 82 = .ok (.ifCond .eq 6, 3) := by decide +kernel
theorem dX5_there_85 : decode cX5_there 85 = .ok (.iinc 9 1, 3) := by decide +kernel
theorem dX5_there_88 : decode cX5_there 88 = .ok (.iinc 11 1, 3) := by decide +kernel
theorem dX5_there_91 : decode cX5_there 91 = .ok (.goto (-44), 3) := by decide +kernel
theorem dX5_there_94 : decode cX5_there 94 = .ok (.iinc 10 1, 3) := by decide +kernel
theorem dX5_there_97 : decode cX5_there 97 = .ok (.goto (-62), 3) := by decide +kernel
theorem dX5_there_100 : decode cX5_there 100 = .ok (.iload 9, 2) := by decide +kernel
theorem dX5_there_102 : decode cX5_there 102 = .ok (.ireturn, 1) := by decide +kernel
set_option maxRecDepth 20000 in
theorem ggX5_when_X5_stoneAt : GoodIn wsX5_when wsX5_stoneAt := goodIn_r _ [7, 8, 9, 94, 95, 96, 97, 98, 99, 100, 101, 102, 103, 104, 105, 106] (by decide +kernel) (by decide +kernel)
set_option maxRecDepth 20000 in
theorem gX5_when_X5_stoneAt : GoodIn wsX5_when (wsV RX5 82 RX5 yX5_stoneAt wsX5_stoneAt) := goodIn_app (goodIn_of _ (by decide +kernel)) ggX5_when_X5_stoneAt
set_option maxRecDepth 20000 in
theorem ggX5_when_X5_isJudge : GoodIn wsX5_when wsX5_isJudge := goodIn_r _ [12, 13, 14, 6, 15] (by decide +kernel) (by decide +kernel)
set_option maxRecDepth 20000 in
theorem gX5_when_X5_isJudge : GoodIn wsX5_when (va_wsS RX5 174 yX5_isJudge wsX5_isJudge) := goodIn_app (goodIn_of _ (by decide +kernel)) ggX5_when_X5_isJudge
set_option maxRecDepth 20000 in
theorem ggX5_when_X5_within : GoodIn wsX5_when wsX5_within := goodIn_r _ [15] (by decide +kernel) (by decide +kernel)
set_option maxRecDepth 20000 in
theorem gX5_when_X5_within : GoodIn wsX5_when (va_wsS RX5 75 yX5_within wsX5_within) := goodIn_app (goodIn_of _ (by decide +kernel)) ggX5_when_X5_within
set_option maxRecDepth 20000 in
theorem ggX5_when_X5_countOf : GoodIn wsX5_when wsX5_countOf := goodIn_r _ [19, 20, 21, 22, 23, 6, 24, 25, 26, 1, 27, 28, 29, 30, 31, 32, 33, 34, 35, 36, 37, 38, 39, 40, 41, 42, 43, 44, 45, 46, 47, 48, 49, 50, 51, 52, 53, 54, 55, 56, 57, 58, 59, 60, 61, 62, 63, 64, 65, 66, 67, 68, 69, 70, 71, 72, 73, 74, 75, 76, 77, 78, 79, 80, 81, 82, 83, 84, 85, 86, 87, 88, 89, 90, 91, 92, 93, 94, 95, 96, 97, 98, 99, 100, 101, 102, 103, 104, 105, 106, 116, 117, 118, 119, 120, 121, 122, 123, 107, 108, 109, 110, 111, 112, 113, 114, 115, 124, 125, 126, 127, 128] (by decide +kernel) (by decide +kernel)
set_option maxRecDepth 20000 in
theorem gX5_when_X5_countOf : GoodIn wsX5_when (wsV RX5 189 RX5 yX5_countOf wsX5_countOf) := goodIn_app (goodIn_of _ (by decide +kernel)) ggX5_when_X5_countOf
theorem dX5_when_0 : decode cX5_when 0 = .ok (.aload_n 0, 1) := by decide +kernel
theorem dX5_when_1 : decode cX5_when 1 = .ok (.iload_n 1, 1) := by decide +kernel
theorem dX5_when_2 : decode cX5_when 2 = .ok (.invokevirtual 82, 3) := by decide +kernel
theorem dX5_when_5 : decode cX5_when 5 = .ok (.astore 6, 2) := by decide +kernel
theorem dX5_when_7 : decode cX5_when 7 = .ok (.aload 6, 2) := by decide +kernel
theorem dX5_when_9 : decode cX5_when 9 = .ok (.ifnull 11, 3) := by decide +kernel
theorem dX5_when_12 : decode cX5_when 12 = .ok (.iload 4, 2) := by decide +kernel
theorem dX5_when_14 : decode cX5_when 14 = .ok (.invokestatic 174, 3) := by decide +kernel
theorem dX5_when_17 : decode cX5_when 17 = .ok (.ifCond .ne 5, 3) := by decide +kernel
theorem dX5_when_20 : decode cX5_when 20 = .ok (.iconst (-1), 1) := by decide +kernel
theorem dX5_when_21 : decode cX5_when 21 = .ok (.ireturn, 1) := by decide +kernel
theorem dX5_when_22 : decode cX5_when 22 = .ok (.iload_n 2, 1) := by decide +kernel
theorem dX5_when_23 : decode cX5_when 23 = .ok (.iconst 1, 1) := by decide +kernel
theorem dX5_when_24 : decode cX5_when 24 = .ok (.sipush 300, 3) := by decide +kernel
theorem dX5_when_27 : decode cX5_when 27 = .ok (.invokestatic 75, 3) := by decide +kernel
theorem dX5_when_30 : decode cX5_when 30 = .ok (.ifCond .eq 23, 3) := by decide +kernel
theorem dX5_when_33 : decode cX5_when 33 = .ok (.iload_n 3, 1) := by decide +kernel
theorem dX5_when_34 : decode cX5_when 34 = .ok (.iconst 0, 1) := by decide +kernel
theorem dX5_when_35 : decode cX5_when 35 = .ok (.bipush 45, 2) := by decide +kernel
theorem dX5_when_37 : decode cX5_when 37 = .ok (.invokestatic 75, 3) := by decide +kernel
theorem dX5_when_40 : decode cX5_when 40 = .ok (.ifCond .eq 13, 3) := by decide +kernel
theorem dX5_when_43 : decode cX5_when 43 = .ok (.iload 5, 2) := by decide +kernel
theorem dX5_when_45 : decode cX5_when 45 = .ok (.iconst 0, 1) := by decide +kernel
theorem dX5_when_46 : decode cX5_when 46 = .ok (.iconst 1, 1) := by decide +kernel
theorem dX5_when_47 : decode cX5_when 47 = .ok (.invokestatic 75, 3) := by decide +kernel
theorem dX5_when_50 : decode cX5_when 50 = .ok (.ifCond .ne 6, 3) := by decide +kernel
theorem dX5_when_53 : decode cX5_when 53 = .ok (.bipush (-2), 2) := by decide +kernel
theorem dX5_when_55 : decode cX5_when 55 = .ok (.ireturn, 1) := by decide +kernel
theorem dX5_when_56 : decode cX5_when 56 = .ok (.iconst (-1), 1) := by decide +kernel
theorem dX5_when_57 : decode cX5_when 57 = .ok (.istore 7, 2) := by decide +kernel
theorem dX5_when_59 : decode cX5_when 59 = .ok (.iconst 0, 1) := by decide +kernel
theorem dX5_when_60 : decode cX5_when 60 = .ok (.istore 8, 2) := by decide +kernel
theorem dX5_when_62 : decode cX5_when 62 = .ok (.iconst 0, 1) := by decide +kernel
theorem dX5_when_63 : decode cX5_when 63 = .ok (.istore 9, 2) := by decide +kernel
theorem dX5_when_65 : decode cX5_when 65 = .ok (.iload 9, 2) := by decide +kernel
theorem dX5_when_67 : decode cX5_when 67 = .ok (.aload_n 0, 1) := by decide +kernel
theorem dX5_when_68 : decode cX5_when 68 = .ok (.getfield 24, 3) := by decide +kernel
theorem dX5_when_71 : decode cX5_when 71 = .ok (.getfield 145, 3) := by decide +kernel
theorem dX5_when_74 : decode cX5_when 74 = .ok (.if_icmp .ge 38, 3) := by decide +kernel
theorem dX5_when_77 : decode cX5_when 77 = .ok (.aload_n 0, 1) := by decide +kernel
theorem dX5_when_78 : decode cX5_when 78 = .ok (.aload 6, 2) := by decide +kernel
theorem dX5_when_80 : decode cX5_when 80 = .ok (.iload_n 2, 1) := by decide +kernel
theorem dX5_when_81 : decode cX5_when 81 = .ok (.iload_n 3, 1) := by decide +kernel
theorem dX5_when_82 : decode cX5_when 82 = .ok (.iload 4, 2) := by decide +kernel
theorem dX5_when_84 : decode cX5_when 84 = .ok (.iload 9, 2) := by decide +kernel
theorem dX5_when_86 : decode cX5_when 86 = .ok (.invokevirtual 189, 3) := by decide +kernel
theorem dX5_when_89 : decode cX5_when 89 = .ok (.istore 10, 2) := by decide +kernel
theorem dX5_when_91 : decode cX5_when 91 = .ok (.iload 10, 2) := by decide +kernel
theorem dX5_when_93 : decode cX5_when 93 = .ok (.iload 7, 2) := by decide +kernel
theorem dX5_when_95 : decode cX5_when 95 = .ok (.if_icmp .le 11, 3) := by decide +kernel
theorem dX5_when_98 : decode cX5_when 98 = .ok (.iload 10, 2) := by decide +kernel
theorem dX5_when_100 : decode cX5_when 100 = .ok (.istore 7, 2) := by decide +kernel
theorem dX5_when_102 : decode cX5_when 102 = .ok (.iload 9, 2) := by decide +kernel
theorem dX5_when_104 : decode cX5_when 104 = .ok (.istore 8, 2) := by decide +kernel
theorem dX5_when_106 : decode cX5_when 106 = .ok (.iinc 9 1, 3) := by decide +kernel
theorem dX5_when_109 : decode cX5_when 109 = .ok (.goto (-44), 3) := by decide +kernel
theorem dX5_when_112 : decode cX5_when 112 = .ok (.iload 5, 2) := by decide +kernel
theorem dX5_when_114 : decode cX5_when 114 = .ok (.ifCond .ne 8, 3) := by decide +kernel
theorem dX5_when_117 : decode cX5_when 117 = .ok (.iload 8, 2) := by decide +kernel
theorem dX5_when_119 : decode cX5_when 119 = .ok (.goto 5, 3) := by decide +kernel
theorem dX5_when_122 : decode cX5_when 122 = .ok (.iload 7, 2) := by decide +kernel
theorem dX5_when_124 : decode cX5_when 124 = .ok (.ireturn, 1) := by decide +kernel
set_option maxRecDepth 20000 in
theorem ggX5_beach_X5_stoneAt : GoodIn wsX5_beach wsX5_stoneAt := goodIn_r _ [7, 8, 9, 18, 19, 20, 21, 22, 23, 24, 25, 26, 27, 28, 29, 30] (by decide +kernel) (by decide +kernel)
set_option maxRecDepth 20000 in
theorem gX5_beach_X5_stoneAt : GoodIn wsX5_beach (wsV RX5 82 RX5 yX5_stoneAt wsX5_stoneAt) := goodIn_app (goodIn_of _ (by decide +kernel)) ggX5_beach_X5_stoneAt
set_option maxRecDepth 20000 in
theorem ggX5_beach_X5_within : GoodIn wsX5_beach wsX5_within := goodIn_r _ [12] (by decide +kernel) (by decide +kernel)
set_option maxRecDepth 20000 in
theorem gX5_beach_X5_within : GoodIn wsX5_beach (va_wsS RX5 75 yX5_within wsX5_within) := goodIn_app (goodIn_of _ (by decide +kernel)) ggX5_beach_X5_within
theorem dX5_beach_0 : decode cX5_beach 0 = .ok (.aload_n 0, 1) := by decide +kernel
theorem dX5_beach_1 : decode cX5_beach 1 = .ok (.iload_n 1, 1) := by decide +kernel
theorem dX5_beach_2 : decode cX5_beach 2 = .ok (.invokevirtual 82, 3) := by decide +kernel
theorem dX5_beach_5 : decode cX5_beach 5 = .ok (.astore 4, 2) := by decide +kernel
theorem dX5_beach_7 : decode cX5_beach 7 = .ok (.aload 4, 2) := by decide +kernel
theorem dX5_beach_9 : decode cX5_beach 9 = .ok (.ifnonnull 5, 3) := by decide +kernel
theorem dX5_beach_12 : decode cX5_beach 12 = .ok (.iconst (-1), 1) := by decide +kernel
theorem dX5_beach_13 : decode cX5_beach 13 = .ok (.ireturn, 1) := by decide +kernel
theorem dX5_beach_14 : decode cX5_beach 14 = .ok (.iload_n 2, 1) := by decide +kernel
theorem dX5_beach_15 : decode cX5_beach 15 = .ok (.iconst 0, 1) := by decide +kernel
theorem dX5_beach_16 : decode cX5_beach 16 = .ok (.bipush 9, 2) := by decide +kernel
theorem dX5_beach_18 : decode cX5_beach 18 = .ok (.invokestatic 75, 3) := by decide +kernel
theorem dX5_beach_21 : decode cX5_beach 21 = .ok (.ifCond .eq 13, 3) := by decide +kernel
theorem dX5_beach_24 : decode cX5_beach 24 = .ok (.iload_n 3, 1) := by decide +kernel
theorem dX5_beach_25 : decode cX5_beach 25 = .ok (.iconst 0, 1) := by decide +kernel
theorem dX5_beach_26 : decode cX5_beach 26 = .ok (.bipush 99, 2) := by decide +kernel
theorem dX5_beach_28 : decode cX5_beach 28 = .ok (.invokestatic 75, 3) := by decide +kernel
theorem dX5_beach_31 : decode cX5_beach 31 = .ok (.ifCond .ne 6, 3) := by decide +kernel
theorem dX5_beach_34 : decode cX5_beach 34 = .ok (.bipush (-2), 2) := by decide +kernel
theorem dX5_beach_36 : decode cX5_beach 36 = .ok (.ireturn, 1) := by decide +kernel
theorem dX5_beach_37 : decode cX5_beach 37 = .ok (.iload_n 2, 1) := by decide +kernel
theorem dX5_beach_38 : decode cX5_beach 38 = .ok (.aload 4, 2) := by decide +kernel
theorem dX5_beach_40 : decode cX5_beach 40 = .ok (.getfield 95, 3) := by decide +kernel
theorem dX5_beach_43 : decode cX5_beach 43 = .ok (.if_icmp .ne 14, 3) := by decide +kernel
theorem dX5_beach_46 : decode cX5_beach 46 = .ok (.iload_n 3, 1) := by decide +kernel
theorem dX5_beach_47 : decode cX5_beach 47 = .ok (.aload 4, 2) := by decide +kernel
theorem dX5_beach_49 : decode cX5_beach 49 = .ok (.getfield 98, 3) := by decide +kernel
theorem dX5_beach_52 : decode cX5_beach 52 = .ok (.if_icmp .ne 5, 3) := by decide +kernel
theorem dX5_beach_55 : decode cX5_beach 55 = .ok (.iconst 0, 1) := by decide +kernel
theorem dX5_beach_56 : decode cX5_beach 56 = .ok (.ireturn, 1) := by decide +kernel
theorem dX5_beach_57 : decode cX5_beach 57 = .ok (.aload 4, 2) := by decide +kernel
theorem dX5_beach_59 : decode cX5_beach 59 = .ok (.iload_n 2, 1) := by decide +kernel
theorem dX5_beach_60 : decode cX5_beach 60 = .ok (.putfield 95, 3) := by decide +kernel
theorem dX5_beach_63 : decode cX5_beach 63 = .ok (.aload 4, 2) := by decide +kernel
theorem dX5_beach_65 : decode cX5_beach 65 = .ok (.iload_n 3, 1) := by decide +kernel
theorem dX5_beach_66 : decode cX5_beach 66 = .ok (.putfield 98, 3) := by decide +kernel
theorem dX5_beach_69 : decode cX5_beach 69 = .ok (.iconst 1, 1) := by decide +kernel
theorem dX5_beach_70 : decode cX5_beach 70 = .ok (.ireturn, 1) := by decide +kernel
set_option maxRecDepth 20000 in
theorem ggX5_mean_X5_within : GoodIn wsX5_mean wsX5_within := goodIn_r _ [5] (by decide +kernel) (by decide +kernel)
set_option maxRecDepth 20000 in
theorem gX5_mean_X5_within : GoodIn wsX5_mean (va_wsS RX5 75 yX5_within wsX5_within) := goodIn_app (goodIn_of _ (by decide +kernel)) ggX5_mean_X5_within
set_option maxRecDepth 20000 in
theorem ggX5_mean_X5_lyingBelow : GoodIn wsX5_mean wsX5_lyingBelow := goodIn_r _ [9, 10, 11, 12, 13, 14, 15, 4, 16, 17, 31, 32, 33, 34, 35, 36, 37, 38, 39, 40, 41, 42, 43, 44, 45, 46, 47, 48] (by decide +kernel) (by decide +kernel)
set_option maxRecDepth 20000 in
theorem gX5_mean_X5_lyingBelow : GoodIn wsX5_mean (wsV RX5 218 RX5 yX5_lyingBelow wsX5_lyingBelow) := goodIn_app (goodIn_of _ (by decide +kernel)) ggX5_mean_X5_lyingBelow
set_option maxRecDepth 20000 in
theorem ggX5_mean_X5_bestWorths : GoodIn wsX5_mean wsX5_bestWorths := goodIn_r _ [21, 6, 7, 8, 4, 9, 10, 11, 12, 13, 14, 15, 16, 17, 22, 23, 24, 31, 32, 33, 34, 35, 36, 37, 38, 39, 40, 41, 42, 43, 44, 45, 46, 47, 48] (by decide +kernel) (by decide +kernel)
set_option maxRecDepth 20000 in
theorem gX5_mean_X5_bestWorths : GoodIn wsX5_mean (wsV RX5 222 RX5 yX5_bestWorths wsX5_bestWorths) := goodIn_app (goodIn_of _ (by decide +kernel)) ggX5_mean_X5_bestWorths
set_option maxRecDepth 20000 in
theorem ggX5_mean_X5_power : GoodIn wsX5_mean wsX5_power := goodIn_r _ [24] (by decide +kernel) (by decide +kernel)
set_option maxRecDepth 20000 in
theorem gX5_mean_X5_power : GoodIn wsX5_mean (va_wsS RX5 225 yX5_power wsX5_power) := goodIn_app (goodIn_of _ (by decide +kernel)) ggX5_mean_X5_power
set_option maxRecDepth 20000 in
theorem ggX5_mean_X5_share : GoodIn wsX5_mean wsX5_share := goodIn_r _ [27, 1, 28, 29, 4, 30] (by decide +kernel) (by decide +kernel)
set_option maxRecDepth 20000 in
theorem gX5_mean_X5_share : GoodIn wsX5_mean (va_wsS RX5 205 yX5_share wsX5_share) := goodIn_app (goodIn_of _ (by decide +kernel)) ggX5_mean_X5_share
theorem dX5_mean_0 : decode cX5_mean 0 = .ok (.iload_n 1, 1) := by decide +kernel
theorem dX5_mean_1 : decode cX5_mean 1 = .ok (.iconst 1, 1) := by decide +kernel
theorem dX5_mean_2 : decode cX5_mean 2 = .ok (.bipush 6, 2) := by decide +kernel
theorem dX5_mean_4 : decode cX5_mean 4 = .ok (.invokestatic 75, 3) := by decide +kernel
theorem dX5_mean_7 : decode cX5_mean 7 = .ok (.ifCond .eq 12, 3) := by decide +kernel
theorem dX5_mean_10 : decode cX5_mean 10 = .ok (.iload_n 2, 1) := by decide +kernel
theorem dX5_mean_11 : decode cX5_mean 11 = .ok (.iconst 0, 1) := by decide +kernel
theorem dX5_mean_12 : decode cX5_mean 12 = .ok (.iconst 1, 1) := by decide +kernel
theorem dX5_mean_13 : decode cX5_mean 13 = .ok (.invokestatic 75, 3) := by decide +kernel
theorem dX5_mean_16 : decode cX5_mean 16 = .ok (.ifCond .ne 7, 3) := by decide +kernel
theorem dX5_mean_19 : decode cX5_mean 19 = .ok (.ldc2_w 196, 3) := by decide +kernel
theorem dX5_mean_22 : decode cX5_mean 22 = .ok (.lreturn, 1) := by decide +kernel
theorem dX5_mean_23 : decode cX5_mean 23 = .ok (.aload_n 0, 1) := by decide +kernel
theorem dX5_mean_24 : decode cX5_mean 24 = .ok (.bipush 100, 2) := by decide +kernel
theorem dX5_mean_26 : decode cX5_mean 26 = .ok (.invokevirtual 218, 3) := by decide +kernel
theorem dX5_mean_29 : decode cX5_mean 29 = .ok (.lstore_n 3, 1) := by decide +kernel
theorem dX5_mean_30 : decode cX5_mean 30 = .ok (.lload_n 3, 1) := by decide +kernel
theorem dX5_mean_31 : decode cX5_mean 31 = .ok (.lconst 0, 1) := by decide +kernel
theorem dX5_mean_32 : decode cX5_mean 32 = .ok (.lcmp, 1) := by decide +kernel
theorem dX5_mean_33 : decode cX5_mean 33 = .ok (.ifCond .ne 7, 3) := by decide +kernel
theorem dX5_mean_36 : decode cX5_mean 36 = .ok (.ldc2_w 196, 3) := by decide +kernel
theorem dX5_mean_39 : decode cX5_mean 39 = .ok (.lreturn, 1) := by decide +kernel
theorem dX5_mean_40 : decode cX5_mean 40 = .ok (.aload_n 0, 1) := by decide +kernel
theorem dX5_mean_41 : decode cX5_mean 41 = .ok (.iload_n 1, 1) := by decide +kernel
theorem dX5_mean_42 : decode cX5_mean 42 = .ok (.invokevirtual 222, 3) := by decide +kernel
theorem dX5_mean_45 : decode cX5_mean 45 = .ok (.lload_n 3, 1) := by decide +kernel
theorem dX5_mean_46 : decode cX5_mean 46 = .ok (.iload_n 1, 1) := by decide +kernel
theorem dX5_mean_47 : decode cX5_mean 47 = .ok (.invokestatic 225, 3) := by decide +kernel
theorem dX5_mean_50 : decode cX5_mean 50 = .ok (.iload_n 2, 1) := by decide +kernel
theorem dX5_mean_51 : decode cX5_mean 51 = .ok (.invokestatic 205, 3) := by decide +kernel
theorem dX5_mean_54 : decode cX5_mean 54 = .ok (.lreturn, 1) := by decide +kernel
set_option maxRecDepth 20000 in
theorem ggX5_hours_X5_within : GoodIn wsX5_hours wsX5_within := goodIn_r _ [4] (by decide +kernel) (by decide +kernel)
set_option maxRecDepth 20000 in
theorem gX5_hours_X5_within : GoodIn wsX5_hours (va_wsS RX5 75 yX5_within wsX5_within) := goodIn_app (goodIn_of _ (by decide +kernel)) ggX5_hours_X5_within
set_option maxRecDepth 20000 in
theorem ggX5_hours_X5_lyingBelow : GoodIn wsX5_hours wsX5_lyingBelow := goodIn_r _ [8, 9, 10, 11, 12, 13, 14, 3, 15, 16, 24, 25, 26, 27, 28, 29, 30, 31, 32, 33, 34, 35, 36, 37, 38, 39, 40, 41] (by decide +kernel) (by decide +kernel)
set_option maxRecDepth 20000 in
theorem gX5_hours_X5_lyingBelow : GoodIn wsX5_hours (wsV RX5 218 RX5 yX5_lyingBelow wsX5_lyingBelow) := goodIn_app (goodIn_of _ (by decide +kernel)) ggX5_hours_X5_lyingBelow
set_option maxRecDepth 20000 in
theorem ggX5_hours_X5_power : GoodIn wsX5_hours wsX5_power := goodIn_r _ [19] (by decide +kernel) (by decide +kernel)
set_option maxRecDepth 20000 in
theorem gX5_hours_X5_power : GoodIn wsX5_hours (va_wsS RX5 225 yX5_power wsX5_power) := goodIn_app (goodIn_of _ (by decide +kernel)) ggX5_hours_X5_power
set_option maxRecDepth 20000 in
theorem ggX5_hours_X5_bestWorths : GoodIn wsX5_hours wsX5_bestWorths := goodIn_r _ [23, 5, 6, 7, 3, 8, 9, 10, 11, 12, 13, 14, 15, 16, 17, 18, 19, 24, 25, 26, 27, 28, 29, 30, 31, 32, 33, 34, 35, 36, 37, 38, 39, 40, 41] (by decide +kernel) (by decide +kernel)
set_option maxRecDepth 20000 in
theorem gX5_hours_X5_bestWorths : GoodIn wsX5_hours (wsV RX5 222 RX5 yX5_bestWorths wsX5_bestWorths) := goodIn_app (goodIn_of _ (by decide +kernel)) ggX5_hours_X5_bestWorths
theorem dX5_hours_0 : decode cX5_hours 0 = .ok (.iload_n 1, 1) := by decide +kernel
theorem dX5_hours_1 : decode cX5_hours 1 = .ok (.iconst 0, 1) := by decide +kernel
theorem dX5_hours_2 : decode cX5_hours 2 = .ok (.bipush 99, 2) := by decide +kernel
theorem dX5_hours_4 : decode cX5_hours 4 = .ok (.invokestatic 75, 3) := by decide +kernel
theorem dX5_hours_7 : decode cX5_hours 7 = .ok (.ifCond .ne 6, 3) := by decide +kernel
theorem dX5_hours_10 : decode cX5_hours 10 = .ok (.bipush (-2), 2) := by decide +kernel
theorem dX5_hours_12 : decode cX5_hours 12 = .ok (.ireturn, 1) := by decide +kernel
theorem dX5_hours_13 : decode cX5_hours 13 = .ok (.aload_n 0, 1) := by decide +kernel
theorem dX5_hours_14 : decode cX5_hours 14 = .ok (.bipush 100, 2) := by decide +kernel
theorem dX5_hours_16 : decode cX5_hours 16 = .ok (.invokevirtual 218, 3) := by decide +kernel
theorem dX5_hours_19 : decode cX5_hours 19 = .ok (.lstore_n 2, 1) := by decide +kernel
theorem dX5_hours_20 : decode cX5_hours 20 = .ok (.lload_n 2, 1) := by decide +kernel
theorem dX5_hours_21 : decode cX5_hours 21 = .ok (.lconst 0, 1) := by decide +kernel
theorem dX5_hours_22 : decode cX5_hours 22 = .ok (.lcmp, 1) := by decide +kernel
theorem dX5_hours_23 : decode cX5_hours 23 = .ok (.ifCond .ne 6, 3) := by decide +kernel
theorem dX5_hours_26 : decode cX5_hours 26 = .ok (.bipush (-3), 2) := by decide +kernel
theorem dX5_hours_28 : decode cX5_hours 28 = .ok (.ireturn, 1) := by decide +kernel
theorem dX5_hours_29 : decode cX5_hours 29 = .ok (.lload_n 2, 1) := by decide +kernel
theorem dX5_hours_30 : decode cX5_hours 30 = .ok (.bipush 6, 2) := by decide +kernel
theorem dX5_hours_32 : decode cX5_hours 32 = .ok (.invokestatic 225, 3) := by decide +kernel
theorem dX5_hours_35 : decode cX5_hours 35 = .ok (.lstore 4, 2) := by decide +kernel
theorem dX5_hours_37 : decode cX5_hours 37 = .ok (.iconst 1, 1) := by decide +kernel
theorem dX5_hours_38 : decode cX5_hours 38 = .ok (.istore 6, 2) := by decide +kernel
theorem dX5_hours_40 : decode cX5_hours 40 = .ok (.lconst 0, 1) := by decide +kernel
theorem dX5_hours_41 : decode cX5_hours 41 = .ok (.lstore 7, 2) := by decide +kernel
theorem dX5_hours_43 : decode cX5_hours 43 = .ok (.iconst 1, 1) := by decide +kernel
theorem dX5_hours_44 : decode cX5_hours 44 = .ok (.istore 9, 2) := by decide +kernel
theorem dX5_hours_46 : decode cX5_hours 46 = .ok (.iload 9, 2) := by decide +kernel
theorem dX5_hours_48 : decode cX5_hours 48 = .ok (.bipush 6, 2) := by decide +kernel
theorem dX5_hours_50 : decode cX5_hours 50 = .ok (.if_icmp .gt 58, 3) := by decide +kernel
theorem dX5_hours_53 : decode cX5_hours 53 = .ok (.aload_n 0, 1) := by decide +kernel
theorem dX5_hours_54 : decode cX5_hours 54 = .ok (.iload 9, 2) := by decide +kernel
theorem dX5_hours_56 : decode cX5_hours 56 = .ok (.invokevirtual 222, 3) := by decide +kernel
theorem dX5_hours_59 : decode cX5_hours 59 = .ok (.lload_n 2, 1) := by decide +kernel
theorem dX5_hours_60 : decode cX5_hours 60 = .ok (.bipush 6, 2) := by decide +kernel
theorem dX5_hours_62 : decode cX5_hours 62 = .ok (.iload 9, 2) := by decide +kernel
theorem dX5_hours_64 : decode cX5_hours 64 = .ok (.isub, 1) := by decide +kernel
theorem dX5_hours_65 : decode cX5_hours 65 = .ok (.invokestatic 225, 3) := by decide +kernel
theorem dX5_hours_68 : decode cX5_hours 68 = .ok (.lmul, 1) := by decide +kernel
theorem dX5_hours_69 : decode cX5_hours 69 = .ok (.iload 9, 2) := by decide +kernel
theorem dX5_hours_71 : decode cX5_hours 71 = .ok (.iload_n 1, 1) := by decide +kernel
theorem dX5_hours_72 : decode cX5_hours 72 = .ok (.imul, 1) := by decide +kernel
theorem dX5_hours_73 : decode cX5_hours 73 = .ok (.i2l, 1) := by decide +kernel
theorem dX5_hours_74 : decode cX5_hours 74 = .ok (.lload 4, 2) := by decide +kernel
theorem dX5_hours_76 : decode cX5_hours 76 = .ok (.lmul, 1) := by decide +kernel
theorem dX5_hours_77 : decode cX5_hours 77 = .ok (.lsub, 1) := by decide +kernel
theorem dX5_hours_78 : decode cX5_hours 78 = .ok (.lstore 10, 2) := by decide +kernel
theorem dX5_hours_80 : decode cX5_hours 80 = .ok (.iload 9, 2) := by decide +kernel
theorem dX5_hours_82 : decode cX5_hours 82 = .ok (.iconst 1, 1) := by decide +kernel
theorem dX5_hours_83 : decode cX5_hours 83 = .ok (.if_icmp .eq 11, 3) := by decide +kernel
theorem dX5_hours_86 : decode cX5_hours 86 = .ok (.lload 10, 2) := by decide +kernel
theorem dX5_hours_88 : decode cX5_hours 88 = .ok (.lload 7, 2) := by decide +kernel
theorem dX5_hours_90 : decode cX5_hours 90 = .ok (.lcmp, 1) := by decide +kernel
theorem dX5_hours_91 : decode cX5_hours 91 = .ok (.ifCond .le 11, 3) := by decide +kernel
theorem dX5_hours_94 : decode cX5_hours 94 = .ok (.lload 10, 2) := by decide +kernel
theorem dX5_hours_96 : decode cX5_hours 96 = .ok (.lstore 7, 2) := by decide +kernel
theorem dX5_hours_98 : decode cX5_hours 98 = .ok (.iload 9, 2) := by decide +kernel
theorem dX5_hours_100 : decode cX5_hours 100 = .ok (.istore 6, 2) := by decide +kernel
theorem dX5_hours_102 : decode cX5_hours 102 = .ok (.iinc 9 1, 3) := by decide +kernel
theorem dX5_hours_105 : decode cX5_hours 105 = .ok (.goto (-59), 3) := by decide +kernel
theorem dX5_hours_108 : decode cX5_hours 108 = .ok (.iload 6, 2) := by decide +kernel
theorem dX5_hours_110 : decode cX5_hours 110 = .ok (.ireturn, 1) := by decide +kernel
set_option maxRecDepth 20000 in
theorem ggX5_sheet_X5_sheetAt : GoodIn wsX5_sheet wsX5_sheetAt := goodIn_r _ [6, 7, 31, 32, 33, 34, 35, 36, 37, 38, 39, 40, 41, 42, 43] (by decide +kernel) (by decide +kernel)
set_option maxRecDepth 20000 in
theorem gX5_sheet_X5_sheetAt : GoodIn wsX5_sheet (wsV RX5 105 RX5 yX5_sheetAt wsX5_sheetAt) := goodIn_app (goodIn_of _ (by decide +kernel)) ggX5_sheet_X5_sheetAt
set_option maxRecDepth 20000 in
theorem ggX5_sheet_X5_isLane : GoodIn wsX5_sheet wsX5_isLane := goodIn_r _ [10, 11, 12, 5, 13] (by decide +kernel) (by decide +kernel)
set_option maxRecDepth 20000 in
theorem gX5_sheet_X5_isLane : GoodIn wsX5_sheet (va_wsS RX5 229 yX5_isLane wsX5_isLane) := goodIn_app (goodIn_of _ (by decide +kernel)) ggX5_sheet_X5_isLane
set_option maxRecDepth 20000 in
theorem ggX5_sheet_X5_faulted : GoodIn wsX5_sheet wsX5_faulted := goodIn_r _ [17, 1, 31, 32, 33, 34, 35, 36, 37, 38, 39, 40, 41, 42, 43] (by decide +kernel) (by decide +kernel)
set_option maxRecDepth 20000 in
theorem gX5_sheet_X5_faulted : GoodIn wsX5_sheet (wsV RX5 232 RX5 yX5_faulted wsX5_faulted) := goodIn_app (goodIn_of _ (by decide +kernel)) ggX5_sheet_X5_faulted
set_option maxRecDepth 20000 in
theorem ggX5_sheet_X2_renew : GoodIn wsX5_sheet wsX2_renew := goodIn_r _ [22, 23, 24, 25, 26, 27, 28, 29, 30, 44, 45, 46, 47] (by decide +kernel) (by decide +kernel)
set_option maxRecDepth 20000 in
theorem gX5_sheet_X2_renew : GoodIn wsX5_sheet (wsV RX5 235 RX2 yX2_renew wsX2_renew) := goodIn_app (goodIn_of _ (by decide +kernel)) ggX5_sheet_X2_renew
theorem dX5_sheet_0 : decode cX5_sheet 0 = .ok (.aload_n 0, 1) := by decide +kernel
theorem dX5_sheet_1 : decode cX5_sheet 1 = .ok (.iconst 0, 1) := by decide +kernel
theorem dX5_sheet_2 : decode cX5_sheet 2 = .ok (.putfield 67, 3) := by decide +kernel
theorem dX5_sheet_5 : decode cX5_sheet 5 = .ok (.aload_n 0, 1) := by decide +kernel
theorem dX5_sheet_6 : decode cX5_sheet 6 = .ok (.iload_n 1, 1) := by decide +kernel
theorem dX5_sheet_7 : decode cX5_sheet 7 = .ok (.invokevirtual 105, 3) := by decide +kernel
theorem dX5_sheet_10 : decode cX5_sheet 10 = .ok (.astore 4, 2) := by decide +kernel
theorem dX5_sheet_12 : decode cX5_sheet 12 = .ok (.aload 4, 2) := by decide +kernel
theorem dX5_sheet_14 : decode cX5_sheet 14 = .ok (.ifnonnull 5, 3) := by decide +kernel
theorem dX5_sheet_17 : decode cX5_sheet 17 = .ok (.iconst (-1), 1) := by decide +kernel
theorem dX5_sheet_18 : decode cX5_sheet 18 = .ok (.ireturn, 1) := by decide +kernel
theorem dX5_sheet_19 : decode cX5_sheet 19 = .ok (.iload_n 2, 1) := by decide +kernel
theorem dX5_sheet_20 : decode cX5_sheet 20 = .ok (.invokestatic 229, 3) := by decide +kernel
theorem dX5_sheet_23 : decode cX5_sheet 23 = .ok (.ifCond .eq 9, 3) := by decide +kernel
theorem dX5_sheet_26 : decode cX5_sheet 26 = .ok (.iload_n 3, 1) := by decide +kernel
theorem dX5_sheet_27 : decode cX5_sheet 27 = .ok (.bipush 60, 2) := by decide +kernel
theorem dX5_sheet_29 : decode cX5_sheet 29 = .ok (.if_icmp .le 6, 3) := by decide +kernel
theorem dX5_sheet_32 : decode cX5_sheet 32 = .ok (.bipush (-2), 2) := by decide +kernel
theorem dX5_sheet_34 : decode cX5_sheet 34 = .ok (.ireturn, 1) := by decide +kernel
theorem dX5_sheet_35 : decode cX5_sheet 35 = .ok (.iload_n 3, 1) := by decide +kernel
theorem dX5_sheet_36 : decode cX5_sheet 36 = .ok (.ifCond .ge 9, 3) := by decide +kernel
theorem dX5_sheet_39 : decode cX5_sheet 39 = .ok (.aload_n 0, 1) := by decide +kernel
theorem dX5_sheet_40 : decode cX5_sheet 40 = .ok (.iconst 4, 1) := by decide +kernel
theorem dX5_sheet_41 : decode cX5_sheet 41 = .ok (.invokevirtual 232, 3) := by decide +kernel
theorem dX5_sheet_44 : decode cX5_sheet 44 = .ok (.ireturn, 1) := by decide +kernel
theorem dX5_sheet_45 : decode cX5_sheet 45 = .ok (.aload 4, 2) := by decide +kernel
theorem dX5_sheet_47 : decode cX5_sheet 47 = .ok (.iload_n 2, 1) := by decide +kernel
theorem dX5_sheet_48 : decode cX5_sheet 48 = .ok (.iload_n 3, 1) := by decide +kernel
theorem dX5_sheet_49 : decode cX5_sheet 49 = .ok (.invokevirtual 235, 3) := by decide +kernel
theorem dX5_sheet_52 : decode cX5_sheet 52 = .ok (.iconst 1, 1) := by decide +kernel
theorem dX5_sheet_53 : decode cX5_sheet 53 = .ok (.ireturn, 1) := by decide +kernel
set_option maxRecDepth 20000 in
theorem ggX5_lose_X5_sheetAt : GoodIn wsX5_lose wsX5_sheetAt := goodIn_r _ [6, 7, 12, 13, 14, 15, 16, 17, 18, 19, 20, 21, 22, 23, 24] (by decide +kernel) (by decide +kernel)
set_option maxRecDepth 20000 in
theorem gX5_lose_X5_sheetAt : GoodIn wsX5_lose (wsV RX5 105 RX5 yX5_sheetAt wsX5_sheetAt) := goodIn_app (goodIn_of _ (by decide +kernel)) ggX5_lose_X5_sheetAt
theorem dX5_lose_0 : decode cX5_lose 0 = .ok (.aload_n 0, 1) := by decide +kernel
theorem dX5_lose_1 : decode cX5_lose 1 = .ok (.iload_n 1, 1) := by decide +kernel
theorem dX5_lose_2 : decode cX5_lose 2 = .ok (.invokevirtual 105, 3) := by decide +kernel
theorem dX5_lose_5 : decode cX5_lose 5 = .ok (.astore_n 2, 1) := by decide +kernel
theorem dX5_lose_6 : decode cX5_lose 6 = .ok (.aload_n 2, 1) := by decide +kernel
theorem dX5_lose_7 : decode cX5_lose 7 = .ok (.ifnonnull 5, 3) := by decide +kernel
theorem dX5_lose_10 : decode cX5_lose 10 = .ok (.iconst (-1), 1) := by decide +kernel
theorem dX5_lose_11 : decode cX5_lose 11 = .ok (.ireturn, 1) := by decide +kernel
theorem dX5_lose_12 : decode cX5_lose 12 = .ok (.aload_n 2, 1) := by decide +kernel
theorem dX5_lose_13 : decode cX5_lose 13 = .ok (.getfield 239, 3) := by decide +kernel
theorem dX5_lose_16 : decode cX5_lose 16 = .ok (.ifCond .ne 5, 3) := by decide +kernel
theorem dX5_lose_19 : decode cX5_lose 19 = .ok (.iconst 0, 1) := by decide +kernel
theorem dX5_lose_20 : decode cX5_lose 20 = .ok (.ireturn, 1) := by decide +kernel
theorem dX5_lose_21 : decode cX5_lose 21 = .ok (.aload_n 2, 1) := by decide +kernel
theorem dX5_lose_22 : decode cX5_lose 22 = .ok (.iconst 0, 1) := by decide +kernel
theorem dX5_lose_23 : decode cX5_lose 23 = .ok (.putfield 239, 3) := by decide +kernel
theorem dX5_lose_26 : decode cX5_lose 26 = .ok (.iconst 1, 1) := by decide +kernel
theorem dX5_lose_27 : decode cX5_lose 27 = .ok (.ireturn, 1) := by decide +kernel
set_option maxRecDepth 20000 in
theorem ggX5_put_X5_sheetAt : GoodIn wsX5_put wsX5_sheetAt := goodIn_r _ [7, 8, 26, 27, 28, 29, 30, 31, 32, 33, 34, 35, 36, 37, 38] (by decide +kernel) (by decide +kernel)
set_option maxRecDepth 20000 in
theorem gX5_put_X5_sheetAt : GoodIn wsX5_put (wsV RX5 105 RX5 yX5_sheetAt wsX5_sheetAt) := goodIn_app (goodIn_of _ (by decide +kernel)) ggX5_put_X5_sheetAt
set_option maxRecDepth 20000 in
theorem ggX5_put_X5_faulted : GoodIn wsX5_put wsX5_faulted := goodIn_r _ [12, 1, 26, 27, 28, 29, 30, 31, 32, 33, 34, 35, 36, 37, 38] (by decide +kernel) (by decide +kernel)
set_option maxRecDepth 20000 in
theorem gX5_put_X5_faulted : GoodIn wsX5_put (wsV RX5 232 RX5 yX5_faulted wsX5_faulted) := goodIn_app (goodIn_of _ (by decide +kernel)) ggX5_put_X5_faulted
set_option maxRecDepth 20000 in
theorem ggX5_put_X2_has : GoodIn wsX5_put wsX2_has := goodIn_r _ [17, 18, 19, 39, 40, 41, 42] (by decide +kernel) (by decide +kernel)
set_option maxRecDepth 20000 in
theorem gX5_put_X2_has : GoodIn wsX5_put (wsV RX5 243 RX2 yX2_has wsX2_has) := goodIn_app (goodIn_of _ (by decide +kernel)) ggX5_put_X2_has
set_option maxRecDepth 20000 in
theorem ggX5_put_X2_write : GoodIn wsX5_put wsX2_write := goodIn_r _ [23, 19, 24, 25, 14, 15, 16, 17, 18, 39, 40, 41, 42] (by decide +kernel) (by decide +kernel)
set_option maxRecDepth 20000 in
theorem gX5_put_X2_write : GoodIn wsX5_put (wsV RX5 246 RX2 yX2_write wsX2_write) := goodIn_app (goodIn_of _ (by decide +kernel)) ggX5_put_X2_write
theorem dX5_put_0 : decode cX5_put 0 = .ok (.aload_n 0, 1) := by decide +kernel
theorem dX5_put_1 : decode cX5_put 1 = .ok (.iconst 0, 1) := by decide +kernel
theorem dX5_put_2 : decode cX5_put 2 = .ok (.putfield 67, 3) := by decide +kernel
theorem dX5_put_5 : decode cX5_put 5 = .ok (.aload_n 0, 1) := by decide +kernel
theorem dX5_put_6 : decode cX5_put 6 = .ok (.iload_n 1, 1) := by decide +kernel
theorem dX5_put_7 : decode cX5_put 7 = .ok (.invokevirtual 105, 3) := by decide +kernel
theorem dX5_put_10 : decode cX5_put 10 = .ok (.astore 4, 2) := by decide +kernel
theorem dX5_put_12 : decode cX5_put 12 = .ok (.aload 4, 2) := by decide +kernel
theorem dX5_put_14 : decode cX5_put 14 = .ok (.ifnonnull 5, 3) := by decide +kernel
theorem dX5_put_17 : decode cX5_put 17 = .ok (.iconst (-1), 1) := by decide +kernel
theorem dX5_put_18 : decode cX5_put 18 = .ok (.ireturn, 1) := by decide +kernel
theorem dX5_put_19 : decode cX5_put 19 = .ok (.aload 4, 2) := by decide +kernel
theorem dX5_put_21 : decode cX5_put 21 = .ok (.getfield 239, 3) := by decide +kernel
theorem dX5_put_24 : decode cX5_put 24 = .ok (.ifCond .ne 9, 3) := by decide +kernel
theorem dX5_put_27 : decode cX5_put 27 = .ok (.aload_n 0, 1) := by decide +kernel
theorem dX5_put_28 : decode cX5_put 28 = .ok (.iconst 1, 1) := by decide +kernel
theorem dX5_put_29 : decode cX5_put 29 = .ok (.invokevirtual 232, 3) := by decide +kernel
theorem dX5_put_32 : decode cX5_put 32 = .ok (.ireturn, 1) := by decide +kernel
theorem dX5_put_33 : decode cX5_put 33 = .ok (.aload 4, 2) := by decide +kernel
theorem dX5_put_35 : decode cX5_put 35 = .ok (.iload_n 2, 1) := by decide +kernel
theorem dX5_put_36 : decode cX5_put 36 = .ok (.invokevirtual 243, 3) := by decide +kernel
theorem dX5_put_39 : decode cX5_put 39 = .ok (.ifCond .ne 9, 3) := by decide +kernel
theorem dX5_put_42 : decode cX5_put 42 = .ok (.aload_n 0, 1) := by decide +kernel
theorem dX5_put_43 : decode cX5_put 43 = .ok (.iconst 3, 1) := by decide +kernel
theorem dX5_put_44 : decode cX5_put 44 = .ok (.invokevirtual 232, 3) := by decide +kernel
theorem dX5_put_47 : decode cX5_put 47 = .ok (.ireturn, 1) := by decide +kernel
theorem dX5_put_48 : decode cX5_put 48 = .ok (.aload 4, 2) := by decide +kernel
theorem dX5_put_50 : decode cX5_put 50 = .ok (.iload_n 2, 1) := by decide +kernel
theorem dX5_put_51 : decode cX5_put 51 = .ok (.iload_n 3, 1) := by decide +kernel
theorem dX5_put_52 : decode cX5_put 52 = .ok (.invokevirtual 246, 3) := by decide +kernel
theorem dX5_put_55 : decode cX5_put 55 = .ok (.iconst 1, 1) := by decide +kernel
theorem dX5_put_56 : decode cX5_put 56 = .ok (.ireturn, 1) := by decide +kernel
set_option maxRecDepth 20000 in
theorem ggX5_cell_X5_sheetAt : GoodIn wsX5_cell wsX5_sheetAt := goodIn_r _ [7, 8, 33, 34, 35, 36, 37, 38, 39, 40, 41, 42, 43, 44, 45] (by decide +kernel) (by decide +kernel)
set_option maxRecDepth 20000 in
theorem gX5_cell_X5_sheetAt : GoodIn wsX5_cell (wsV RX5 105 RX5 yX5_sheetAt wsX5_sheetAt) := goodIn_app (goodIn_of _ (by decide +kernel)) ggX5_cell_X5_sheetAt
set_option maxRecDepth 20000 in
theorem ggX5_cell_X5_isLane : GoodIn wsX5_cell wsX5_isLane := goodIn_r _ [11, 12, 13, 6, 14] (by decide +kernel) (by decide +kernel)
set_option maxRecDepth 20000 in
theorem gX5_cell_X5_isLane : GoodIn wsX5_cell (va_wsS RX5 229 yX5_isLane wsX5_isLane) := goodIn_app (goodIn_of _ (by decide +kernel)) ggX5_cell_X5_isLane
set_option maxRecDepth 20000 in
theorem ggX5_cell_X2_faultAs : GoodIn wsX5_cell wsX2_faultAs := goodIn_r _ [19, 20, 21, 46, 47, 48, 49] (by decide +kernel) (by decide +kernel)
set_option maxRecDepth 20000 in
theorem gX5_cell_X2_faultAs : GoodIn wsX5_cell (wsV RX5 249 RX2 yX2_faultAs wsX2_faultAs) := goodIn_app (goodIn_of _ (by decide +kernel)) ggX5_cell_X2_faultAs
set_option maxRecDepth 20000 in
theorem ggX5_cell_X2_has : GoodIn wsX5_cell wsX2_has := goodIn_r _ [25, 26, 27, 46, 47, 48, 49] (by decide +kernel) (by decide +kernel)
set_option maxRecDepth 20000 in
theorem gX5_cell_X2_has : GoodIn wsX5_cell (wsV RX5 243 RX2 yX2_has wsX2_has) := goodIn_app (goodIn_of _ (by decide +kernel)) ggX5_cell_X2_has
set_option maxRecDepth 20000 in
theorem ggX5_cell_X2_number : GoodIn wsX5_cell wsX2_number := goodIn_r _ [31, 27, 32, 23, 24, 18, 25, 26, 46, 47, 48, 49] (by decide +kernel) (by decide +kernel)
set_option maxRecDepth 20000 in
theorem gX5_cell_X2_number : GoodIn wsX5_cell (wsV RX5 252 RX2 yX2_number wsX2_number) := goodIn_app (goodIn_of _ (by decide +kernel)) ggX5_cell_X2_number
theorem dX5_cell_0 : decode cX5_cell 0 = .ok (.aload_n 0, 1) := by decide +kernel
theorem dX5_cell_1 : decode cX5_cell 1 = .ok (.iconst 0, 1) := by decide +kernel
theorem dX5_cell_2 : decode cX5_cell 2 = .ok (.putfield 67, 3) := by decide +kernel
theorem dX5_cell_5 : decode cX5_cell 5 = .ok (.aload_n 0, 1) := by decide +kernel
theorem dX5_cell_6 : decode cX5_cell 6 = .ok (.iload_n 1, 1) := by decide +kernel
theorem dX5_cell_7 : decode cX5_cell 7 = .ok (.invokevirtual 105, 3) := by decide +kernel
theorem dX5_cell_10 : decode cX5_cell 10 = .ok (.astore 4, 2) := by decide +kernel
theorem dX5_cell_12 : decode cX5_cell 12 = .ok (.aload 4, 2) := by decide +kernel
theorem dX5_cell_14 : decode cX5_cell 14 = .ok (.ifnull 10, 3) := by decide +kernel
theorem dX5_cell_17 : decode cX5_cell 17 = .ok (.iload_n 3, 1) := by decide +kernel
theorem dX5_cell_18 : decode cX5_cell 18 = .ok (.invokestatic 229, 3) := by decide +kernel
theorem dX5_cell_21 : decode cX5_cell 21 = .ok (.ifCond .ne 7, 3) := by decide +kernel
theorem dX5_cell_24 : decode cX5_cell 24 = .ok (.ldc2_w 196, 3) := by decide +kernel
theorem dX5_cell_27 : decode cX5_cell 27 = .ok (.lreturn, 1) := by decide +kernel
theorem dX5_cell_28 : decode cX5_cell 28 = .ok (.aload_n 0, 1) := by decide +kernel
theorem dX5_cell_29 : decode cX5_cell 29 = .ok (.aload 4, 2) := by decide +kernel
theorem dX5_cell_31 : decode cX5_cell 31 = .ok (.iload_n 3, 1) := by decide +kernel
theorem dX5_cell_32 : decode cX5_cell 32 = .ok (.invokevirtual 249, 3) := by decide +kernel
theorem dX5_cell_35 : decode cX5_cell 35 = .ok (.putfield 67, 3) := by decide +kernel
theorem dX5_cell_38 : decode cX5_cell 38 = .ok (.aload_n 0, 1) := by decide +kernel
theorem dX5_cell_39 : decode cX5_cell 39 = .ok (.getfield 67, 3) := by decide +kernel
theorem dX5_cell_42 : decode cX5_cell 42 = .ok (.ifCond .ne 17, 3) := by decide +kernel
theorem dX5_cell_45 : decode cX5_cell 45 = .ok (.aload 4, 2) := by decide +kernel
theorem dX5_cell_47 : decode cX5_cell 47 = .ok (.iload_n 2, 1) := by decide +kernel
theorem dX5_cell_48 : decode cX5_cell 48 = .ok (.invokevirtual 243, 3) := by decide +kernel
theorem dX5_cell_51 : decode cX5_cell 51 = .ok (.ifCond .ne 8, 3) := by decide +kernel
theorem dX5_cell_54 : decode cX5_cell 54 = .ok (.aload_n 0, 1) := by decide +kernel
theorem dX5_cell_55 : decode cX5_cell 55 = .ok (.iconst 3, 1) := by decide +kernel
theorem dX5_cell_56 : decode cX5_cell 56 = .ok (.putfield 67, 3) := by decide +kernel
theorem dX5_cell_59 : decode cX5_cell 59 = .ok (.aload_n 0, 1) := by decide +kernel
theorem dX5_cell_60 : decode cX5_cell 60 = .ok (.getfield 67, 3) := by decide +kernel
theorem dX5_cell_63 : decode cX5_cell 63 = .ok (.ifCond .ne 13, 3) := by decide +kernel
theorem dX5_cell_66 : decode cX5_cell 66 = .ok (.aload 4, 2) := by decide +kernel
theorem dX5_cell_68 : decode cX5_cell 68 = .ok (.iload_n 2, 1) := by decide +kernel
theorem dX5_cell_69 : decode cX5_cell 69 = .ok (.invokevirtual 252, 3) := by decide +kernel
theorem dX5_cell_72 : decode cX5_cell 72 = .ok (.i2l, 1) := by decide +kernel
theorem dX5_cell_73 : decode cX5_cell 73 = .ok (.goto 6, 3) := by decide +kernel
theorem dX5_cell_76 : decode cX5_cell 76 = .ok (.ldc2_w 196, 3) := by decide +kernel
theorem dX5_cell_79 : decode cX5_cell 79 = .ok (.lreturn, 1) := by decide +kernel
set_option maxRecDepth 20000 in
theorem ggX5_copy_X5_sheetAt : GoodIn wsX5_copy wsX5_sheetAt := goodIn_r _ [13, 14, 25, 26, 27, 28, 29, 30, 31, 32, 33, 34, 35, 36, 37] (by decide +kernel) (by decide +kernel)
set_option maxRecDepth 20000 in
theorem gX5_copy_X5_sheetAt : GoodIn wsX5_copy (wsV RX5 105 RX5 yX5_sheetAt wsX5_sheetAt) := goodIn_app (goodIn_of _ (by decide +kernel)) ggX5_copy_X5_sheetAt
set_option maxRecDepth 20000 in
theorem ggX5_copy_X5_faulted : GoodIn wsX5_copy wsX5_faulted := goodIn_r _ [18, 1, 25, 26, 27, 28, 29, 30, 31, 32, 33, 34, 35, 36, 37] (by decide +kernel) (by decide +kernel)
set_option maxRecDepth 20000 in
theorem gX5_copy_X5_faulted : GoodIn wsX5_copy (wsV RX5 232 RX5 yX5_faulted wsX5_faulted) := goodIn_app (goodIn_of _ (by decide +kernel)) ggX5_copy_X5_faulted
set_option maxRecDepth 20000 in
theorem ggX5_copy_X2_hasFrom : GoodIn wsX5_copy wsX2_hasFrom := goodIn_r _ [23, 24, 38, 39, 40, 41] (by decide +kernel) (by decide +kernel)
set_option maxRecDepth 20000 in
theorem gX5_copy_X2_hasFrom : GoodIn wsX5_copy (wsV RX5 258 RX2 yX2_hasFrom wsX2_hasFrom) := goodIn_app (goodIn_of _ (by decide +kernel)) ggX5_copy_X2_hasFrom
theorem dX5_copy_0 : decode cX5_copy 0 = .ok (.aload_n 0, 1) := by decide +kernel
theorem dX5_copy_1 : decode cX5_copy 1 = .ok (.iconst 0, 1) := by decide +kernel
theorem dX5_copy_2 : decode cX5_copy 2 = .ok (.putfield 67, 3) := by decide +kernel
theorem dX5_copy_5 : decode cX5_copy 5 = .ok (.aload_n 0, 1) := by decide +kernel
theorem dX5_copy_6 : decode cX5_copy 6 = .ok (.iload_n 1, 1) := by decide +kernel
theorem dX5_copy_7 : decode cX5_copy 7 = .ok (.invokevirtual 105, 3) := by decide +kernel
theorem dX5_copy_10 : decode cX5_copy 10 = .ok (.astore 6, 2) := by decide +kernel
theorem dX5_copy_12 : decode cX5_copy 12 = .ok (.aload_n 0, 1) := by decide +kernel
theorem dX5_copy_13 : decode cX5_copy 13 = .ok (.iload_n 3, 1) := by decide +kernel
theorem dX5_copy_14 : decode cX5_copy 14 = .ok (.invokevirtual 105, 3) := by decide +kernel
theorem dX5_copy_17 : decode cX5_copy 17 = .ok (.astore 7, 2) := by decide +kernel
theorem dX5_copy_19 : decode cX5_copy 19 = .ok (.aload 6, 2) := by decide +kernel
theorem dX5_copy_21 : decode cX5_copy 21 = .ok (.ifnull 8, 3) := by decide +kernel
theorem dX5_copy_24 : decode cX5_copy 24 = .ok (.aload 7, 2) := by decide +kernel
theorem dX5_copy_26 : decode cX5_copy 26 = .ok (.ifnonnull 5, 3) := by decide +kernel
theorem dX5_copy_29 : decode cX5_copy 29 = .ok (.iconst (-1), 1) := by decide +kernel
theorem dX5_copy_30 : decode cX5_copy 30 = .ok (.ireturn, 1) := by decide +kernel
theorem dX5_copy_31 : decode cX5_copy 31 = .ok (.aload 6, 2) := by decide +kernel
theorem dX5_copy_33 : decode cX5_copy 33 = .ok (.getfield 239, 3) := by decide +kernel
theorem dX5_copy_36 : decode cX5_copy 36 = .ok (.ifCond .eq 11, 3) := by decide +kernel
theorem dX5_copy_39 : decode cX5_copy 39 = .ok (.aload 7, 2) := by decide +kernel
theorem dX5_copy_41 : decode cX5_copy 41 = .ok (.getfield 239, 3) := by decide +kernel
theorem dX5_copy_44 : decode cX5_copy 44 = .ok (.ifCond .ne 9, 3) := by decide +kernel
theorem dX5_copy_47 : decode cX5_copy 47 = .ok (.aload_n 0, 1) := by decide +kernel
theorem dX5_copy_48 : decode cX5_copy 48 = .ok (.iconst 1, 1) := by decide +kernel
theorem dX5_copy_49 : decode cX5_copy 49 = .ok (.invokevirtual 232, 3) := by decide +kernel
theorem dX5_copy_52 : decode cX5_copy 52 = .ok (.ireturn, 1) := by decide +kernel
theorem dX5_copy_53 : decode cX5_copy 53 = .ok (.aload 6, 2) := by decide +kernel
theorem dX5_copy_55 : decode cX5_copy 55 = .ok (.getfield 255, 3) := by decide +kernel
theorem dX5_copy_58 : decode cX5_copy 58 = .ok (.aload 7, 2) := by decide +kernel
theorem dX5_copy_60 : decode cX5_copy 60 = .ok (.getfield 255, 3) := by decide +kernel
theorem dX5_copy_63 : decode cX5_copy 63 = .ok (.if_icmp .eq 9, 3) := by decide +kernel
theorem dX5_copy_66 : decode cX5_copy 66 = .ok (.aload_n 0, 1) := by decide +kernel
theorem dX5_copy_67 : decode cX5_copy 67 = .ok (.iconst 2, 1) := by decide +kernel
theorem dX5_copy_68 : decode cX5_copy 68 = .ok (.invokevirtual 232, 3) := by decide +kernel
theorem dX5_copy_71 : decode cX5_copy 71 = .ok (.ireturn, 1) := by decide +kernel
theorem dX5_copy_72 : decode cX5_copy 72 = .ok (.iload 5, 2) := by decide +kernel
theorem dX5_copy_74 : decode cX5_copy 74 = .ok (.ifCond .lt 26, 3) := by decide +kernel
theorem dX5_copy_77 : decode cX5_copy 77 = .ok (.aload 6, 2) := by decide +kernel
theorem dX5_copy_79 : decode cX5_copy 79 = .ok (.iload_n 2, 1) := by decide +kernel
theorem dX5_copy_80 : decode cX5_copy 80 = .ok (.iload 5, 2) := by decide +kernel
theorem dX5_copy_82 : decode cX5_copy 82 = .ok (.invokevirtual 258, 3) := by decide +kernel
theorem dX5_copy_85 : decode cX5_copy 85 = .ok (.ifCond .eq 15, 3) := by decide +kernel
theorem dX5_copy_88 : decode cX5_copy 88 = .ok (.aload 7, 2) := by decide +kernel
theorem dX5_copy_90 : decode cX5_copy 90 = .ok (.iload 4, 2) := by decide +kernel
theorem dX5_copy_92 : decode cX5_copy 92 = .ok (.iload 5, 2) := by decide +kernel
theorem dX5_copy_94 : decode cX5_copy 94 = .ok (.invokevirtual 258, 3) := by decide +kernel
theorem dX5_copy_97 : decode cX5_copy 97 = .ok (.ifCond .ne 9, 3) := by decide +kernel
theorem dX5_copy_100 : decode cX5_copy 100 = .ok (.aload_n 0, 1) := by decide +kernel
theorem dX5_copy_101 : decode cX5_copy 101 = .ok (.iconst 3, 1) := by decide +kernel
theorem dX5_copy_102 : decode cX5_copy 102 = .ok (.invokevirtual 232, 3) := by decide +kernel
theorem dX5_copy_105 : decode cX5_copy 105 = .ok (.ireturn, 1) := by decide +kernel
theorem dX5_copy_106 : decode cX5_copy 106 = .ok (.aload 6, 2) := by decide +kernel
theorem dX5_copy_108 : decode cX5_copy 108 = .ok (.getfield 262, 3) := by decide +kernel
theorem dX5_copy_111 : decode cX5_copy 111 = .ok (.iload_n 2, 1) := by decide +kernel
theorem dX5_copy_112 : decode cX5_copy 112 = .ok (.aload 7, 2) := by decide +kernel
theorem dX5_copy_114 : decode cX5_copy 114 = .ok (.getfield 262, 3) := by decide +kernel
theorem dX5_copy_117 : decode cX5_copy 117 = .ok (.iload 4, 2) := by decide +kernel
theorem dX5_copy_119 : decode cX5_copy 119 = .ok (.iload 5, 2) := by decide +kernel
theorem dX5_copy_121 : decode cX5_copy 121 = .ok (.invokestatic 265, 3) := by decide +kernel
theorem dX5_copy_124 : decode cX5_copy 124 = .ok (.iload 5, 2) := by decide +kernel
theorem dX5_copy_126 : decode cX5_copy 126 = .ok (.ireturn, 1) := by decide +kernel
set_option maxRecDepth 20000 in
theorem ggX5_tell_X5_isTouch : GoodIn wsX5_tell wsX5_isTouch := goodIn_r _ [6, 1, 7, 36, 37, 38, 39, 40, 41, 42, 43, 44, 45, 46, 47, 48, 49, 50, 51, 52, 53, 54, 55, 56] (by decide +kernel) (by decide +kernel)
set_option maxRecDepth 20000 in
theorem gX5_tell_X5_isTouch : GoodIn wsX5_tell (wsV RX5 167 RX5 yX5_isTouch wsX5_isTouch) := goodIn_app (goodIn_of _ (by decide +kernel)) ggX5_tell_X5_isTouch
set_option maxRecDepth 20000 in
theorem ggX5_tell_X0_value : GoodIn wsX5_tell wsX0_value := goodIn_r _ [12, 13, 14, 49, 50, 51, 52, 53, 54, 55, 56] (by decide +kernel) (by decide +kernel)
set_option maxRecDepth 20000 in
theorem gX5_tell_X0_value : GoodIn wsX5_tell (wsV RX5 171 RX0 yX0_value wsX0_value) := goodIn_app (goodIn_of _ (by decide +kernel)) ggX5_tell_X0_value
set_option maxRecDepth 20000 in
theorem ggX5_tell_X5_tellClean : GoodIn wsX5_tell wsX5_tellClean := goodIn_r _ [18, 19, 20, 21, 5, 22, 23, 24, 25, 26, 27, 1, 8, 9, 10, 11, 12, 13, 14, 36, 37, 38, 39, 40, 41, 42, 43, 44, 45, 46, 47, 48, 49, 50, 51, 52, 53, 54, 55, 56] (by decide +kernel) (by decide +kernel)
set_option maxRecDepth 20000 in
theorem gX5_tell_X5_tellClean : GoodIn wsX5_tell (wsV RX5 271 RX5 yX5_tellClean wsX5_tellClean) := goodIn_app (goodIn_of _ (by decide +kernel)) ggX5_tell_X5_tellClean
set_option maxRecDepth 20000 in
theorem ggX5_tell_X5_tellSkating : GoodIn wsX5_tell wsX5_tellSkating := goodIn_r _ [31, 19, 20, 21, 5, 22, 23, 15, 16, 17, 18, 24, 25, 26, 27, 1, 8, 9, 10, 11, 12, 13, 14, 36, 37, 38, 39, 40, 41, 42, 43, 44, 45, 46, 47, 48, 49, 50, 51, 52, 53, 54, 55, 56] (by decide +kernel) (by decide +kernel)
set_option maxRecDepth 20000 in
theorem gX5_tell_X5_tellSkating : GoodIn wsX5_tell (wsV RX5 274 RX5 yX5_tellSkating wsX5_tellSkating) := goodIn_app (goodIn_of _ (by decide +kernel)) ggX5_tell_X5_tellSkating
set_option maxRecDepth 20000 in
theorem ggX5_tell_X5_tellSteep : GoodIn wsX5_tell wsX5_tellSteep := goodIn_r _ [35, 19, 20, 21, 5, 22, 23, 15, 16, 17, 18, 24, 25, 26, 27, 1, 8, 9, 10, 11, 12, 13, 14, 36, 37, 38, 39, 40, 41, 42, 43, 44, 45, 46, 47, 48, 49, 50, 51, 52, 53, 54, 55, 56] (by decide +kernel) (by decide +kernel)
set_option maxRecDepth 20000 in
theorem gX5_tell_X5_tellSteep : GoodIn wsX5_tell (wsV RX5 277 RX5 yX5_tellSteep wsX5_tellSteep) := goodIn_app (goodIn_of _ (by decide +kernel)) ggX5_tell_X5_tellSteep
set_option maxRecDepth 20000 in
theorem ggX5_tell_X5_tellSunk : GoodIn wsX5_tell wsX5_tellSunk := goodIn_r _ [27, 1, 19, 20, 21, 5, 22, 23, 8, 9, 10, 11, 12, 13, 14, 36, 37, 38, 39, 40, 41, 42, 43, 44, 45, 46, 47, 48, 49, 50, 51, 52, 53, 54, 55, 56] (by decide +kernel) (by decide +kernel)
set_option maxRecDepth 20000 in
theorem gX5_tell_X5_tellSunk : GoodIn wsX5_tell (wsV RX5 280 RX5 yX5_tellSunk wsX5_tellSunk) := goodIn_app (goodIn_of _ (by decide +kernel)) ggX5_tell_X5_tellSunk
theorem dX5_tell_0 : decode cX5_tell 0 = .ok (.aload_n 0, 1) := by decide +kernel
theorem dX5_tell_1 : decode cX5_tell 1 = .ok (.iload_n 1, 1) := by decide +kernel
theorem dX5_tell_2 : decode cX5_tell 2 = .ok (.invokevirtual 167, 3) := by decide +kernel
theorem dX5_tell_5 : decode cX5_tell 5 = .ok (.ifCond .ne 5, 3) := by decide +kernel
theorem dX5_tell_8 : decode cX5_tell 8 = .ok (.iconst (-1), 1) := by decide +kernel
theorem dX5_tell_9 : decode cX5_tell 9 = .ok (.ireturn, 1) := by decide +kernel
theorem dX5_tell_10 : decode cX5_tell 10 = .ok (.aload_n 0, 1) := by decide +kernel
theorem dX5_tell_11 : decode cX5_tell 11 = .ok (.getfield 38, 3) := by decide +kernel
theorem dX5_tell_14 : decode cX5_tell 14 = .ok (.iload_n 1, 1) := by decide +kernel
theorem dX5_tell_15 : decode cX5_tell 15 = .ok (.iconst 0, 1) := by decide +kernel
theorem dX5_tell_16 : decode cX5_tell 16 = .ok (.invokevirtual 171, 3) := by decide +kernel
theorem dX5_tell_19 : decode cX5_tell 19 = .ok (.tableswitch 43 1 3 #[25, 31, 37], 25) := by decide +kernel
theorem dX5_tell_44 : decode cX5_tell 44 = .ok (.aload_n 0, 1) := by decide +kernel
theorem dX5_tell_45 : decode cX5_tell 45 = .ok (.iload_n 1, 1) := by decide +kernel
theorem dX5_tell_46 : decode cX5_tell 46 = .ok (.invokevirtual 271, 3) := by decide +kernel
theorem dX5_tell_49 : decode cX5_tell 49 = .ok (.ireturn, 1) := by decide +kernel
theorem dX5_tell_50 : decode cX5_tell 50 = .ok (.aload_n 0, 1) := by decide +kernel
theorem dX5_tell_51 : decode cX5_tell 51 = .ok (.iload_n 1, 1) := by decide +kernel
theorem dX5_tell_52 : decode cX5_tell 52 = .ok (.invokevirtual 274, 3) := by decide +kernel
theorem dX5_tell_55 : decode cX5_tell 55 = .ok (.ireturn, 1) := by decide +kernel
theorem dX5_tell_56 : decode cX5_tell 56 = .ok (.aload_n 0, 1) := by decide +kernel
theorem dX5_tell_57 : decode cX5_tell 57 = .ok (.iload_n 1, 1) := by decide +kernel
theorem dX5_tell_58 : decode cX5_tell 58 = .ok (.invokevirtual 277, 3) := by decide +kernel
theorem dX5_tell_61 : decode cX5_tell 61 = .ok (.ireturn, 1) := by decide +kernel
theorem dX5_tell_62 : decode cX5_tell 62 = .ok (.aload_n 0, 1) := by decide +kernel
theorem dX5_tell_63 : decode cX5_tell 63 = .ok (.iload_n 1, 1) := by decide +kernel
theorem dX5_tell_64 : decode cX5_tell 64 = .ok (.invokevirtual 280, 3) := by decide +kernel
theorem dX5_tell_67 : decode cX5_tell 67 = .ok (.ireturn, 1) := by decide +kernel
set_option maxRecDepth 20000 in
theorem ggX5_hear_X5_isTouch : GoodIn wsX5_hear wsX5_isTouch := goodIn_r _ [6, 1, 7, 20, 21, 22, 23, 24, 25, 26, 27, 28, 29, 30, 31, 32, 33, 34, 35, 36, 37, 38, 39, 40] (by decide +kernel) (by decide +kernel)
set_option maxRecDepth 20000 in
theorem gX5_hear_X5_isTouch : GoodIn wsX5_hear (wsV RX5 167 RX5 yX5_isTouch wsX5_isTouch) := goodIn_app (goodIn_of _ (by decide +kernel)) ggX5_hear_X5_isTouch
set_option maxRecDepth 20000 in
theorem ggX5_hear_X0_value : GoodIn wsX5_hear wsX0_value := goodIn_r _ [12, 13, 14, 33, 34, 35, 36, 37, 38, 39, 40] (by decide +kernel) (by decide +kernel)
set_option maxRecDepth 20000 in
theorem gX5_hear_X0_value : GoodIn wsX5_hear (wsV RX5 171 RX0 yX0_value wsX0_value) := goodIn_app (goodIn_of _ (by decide +kernel)) ggX5_hear_X0_value
set_option maxRecDepth 20000 in
theorem ggX5_hear_X5_leave : GoodIn wsX5_hear wsX5_leave := goodIn_r _ [18, 19, 20, 21, 22, 23, 24, 25, 26, 27, 28, 29, 30, 31, 32] (by decide +kernel) (by decide +kernel)
set_option maxRecDepth 20000 in
theorem gX5_hear_X5_leave : GoodIn wsX5_hear (wsV RX5 283 RX5 yX5_leave wsX5_leave) := goodIn_app (goodIn_of _ (by decide +kernel)) ggX5_hear_X5_leave
theorem dX5_hear_0 : decode cX5_hear 0 = .ok (.aload_n 0, 1) := by decide +kernel
theorem dX5_hear_1 : decode cX5_hear 1 = .ok (.iload_n 1, 1) := by decide +kernel
theorem dX5_hear_2 : decode cX5_hear 2 = .ok (.invokevirtual 167, 3) := by decide +kernel
theorem dX5_hear_5 : decode cX5_hear 5 = .ok (.ifCond .ne 5, 3) := by decide +kernel
theorem dX5_hear_8 : decode cX5_hear 8 = .ok (.iconst (-1), 1) := by decide +kernel
theorem dX5_hear_9 : decode cX5_hear 9 = .ok (.ireturn, 1) := by decide +kernel
theorem dX5_hear_10 : decode cX5_hear 10 = .ok (.aload_n 0, 1) := by decide +kernel
theorem dX5_hear_11 : decode cX5_hear 11 = .ok (.getfield 38, 3) := by decide +kernel
theorem dX5_hear_14 : decode cX5_hear 14 = .ok (.iload_n 1, 1) := by decide +kernel
theorem dX5_hear_15 : decode cX5_hear 15 = .ok (.iconst 0, 1) := by decide +kernel
theorem dX5_hear_16 : decode cX5_hear 16 = .ok (.invokevirtual 171, 3) := by decide +kernel
theorem dX5_hear_19 : decode cX5_hear 19 = .ok (.iconst 2, 1) := by decide +kernel
theorem dX5_hear_20 : decode cX5_hear 20 = .ok (.if_icmp .ne 11, 3) := by decide +kernel
theorem dX5_hear_23 : decode cX5_hear 23 = .ok (.aload_n 0, 1) := by decide +kernel
theorem dX5_hear_24 : decode cX5_hear 24 = .ok (.iconst 5, 1) := by decide +kernel
theorem dX5_hear_25 : decode cX5_hear 25 = .ok (.invokevirtual 283, 3) := by decide +kernel
theorem dX5_hear_28 : decode cX5_hear 28 = .ok (.bipush 60, 2) := by decide +kernel
theorem dX5_hear_30 : decode cX5_hear 30 = .ok (.ireturn, 1) := by decide +kernel
theorem dX5_hear_31 : decode cX5_hear 31 = .ok (.aload_n 0, 1) := by decide +kernel
theorem dX5_hear_32 : decode cX5_hear 32 = .ok (.iconst 4, 1) := by decide +kernel
theorem dX5_hear_33 : decode cX5_hear 33 = .ok (.invokevirtual 283, 3) := by decide +kernel
theorem dX5_hear_36 : decode cX5_hear 36 = .ok (.iload_n 1, 1) := by decide +kernel
theorem dX5_hear_37 : decode cX5_hear 37 = .ok (.ireturn, 1) := by decide +kernel
set_option maxRecDepth 20000 in
theorem ggX5_as_X5_isTouch : GoodIn wsX5_as wsX5_isTouch := goodIn_r _ [7, 2, 8, 23, 24, 25, 26, 27, 28, 29, 30, 31, 32, 33, 34, 35, 36, 37, 38, 39, 40, 41, 42, 43] (by decide +kernel) (by decide +kernel)
set_option maxRecDepth 20000 in
theorem gX5_as_X5_isTouch : GoodIn wsX5_as (wsV RX5 167 RX5 yX5_isTouch wsX5_isTouch) := goodIn_app (goodIn_of _ (by decide +kernel)) ggX5_as_X5_isTouch
set_option maxRecDepth 20000 in
theorem ggX5_as_X5_within : GoodIn wsX5_as wsX5_within := goodIn_r _ [11] (by decide +kernel) (by decide +kernel)
set_option maxRecDepth 20000 in
theorem gX5_as_X5_within : GoodIn wsX5_as (va_wsS RX5 75 yX5_within wsX5_within) := goodIn_app (goodIn_of _ (by decide +kernel)) ggX5_as_X5_within
set_option maxRecDepth 20000 in
theorem ggX5_as_X0_value : GoodIn wsX5_as wsX0_value := goodIn_r _ [16, 17, 18, 36, 37, 38, 39, 40, 41, 42, 43] (by decide +kernel) (by decide +kernel)
set_option maxRecDepth 20000 in
theorem gX5_as_X0_value : GoodIn wsX5_as (wsV RX5 171 RX0 yX0_value wsX0_value) := goodIn_app (goodIn_of _ (by decide +kernel)) ggX5_as_X0_value
set_option maxRecDepth 20000 in
theorem ggX5_as_X5_faulted : GoodIn wsX5_as wsX5_faulted := goodIn_r _ [22, 1, 23, 24, 25, 26, 27, 28, 29, 30, 31, 32, 33, 34, 35] (by decide +kernel) (by decide +kernel)
set_option maxRecDepth 20000 in
theorem gX5_as_X5_faulted : GoodIn wsX5_as (wsV RX5 232 RX5 yX5_faulted wsX5_faulted) := goodIn_app (goodIn_of _ (by decide +kernel)) ggX5_as_X5_faulted
theorem dX5_as_0 : decode cX5_as 0 = .ok (.aload_n 0, 1) := by decide +kernel
theorem dX5_as_1 : decode cX5_as 1 = .ok (.iconst 0, 1) := by decide +kernel
theorem dX5_as_2 : decode cX5_as 2 = .ok (.putfield 67, 3) := by decide +kernel
theorem dX5_as_5 : decode cX5_as 5 = .ok (.aload_n 0, 1) := by decide +kernel
theorem dX5_as_6 : decode cX5_as 6 = .ok (.iload_n 1, 1) := by decide +kernel
theorem dX5_as_7 : decode cX5_as 7 = .ok (.invokevirtual 167, 3) := by decide +kernel
theorem dX5_as_10 : decode cX5_as 10 = .ok (.ifCond .ne 5, 3) := by decide +kernel
theorem dX5_as_13 : decode cX5_as 13 = .ok (.iconst (-1), 1) := by decide +kernel
theorem dX5_as_14 : decode cX5_as 14 = .ok (.ireturn, 1) := by decide +kernel
theorem dX5_as_15 : decode cX5_as 15 = .ok (.iload_n 2, 1) := by decide +kernel
theorem dX5_as_16 : decode cX5_as 16 = .ok (.iconst 0, 1) := by decide +kernel
theorem dX5_as_17 : decode cX5_as 17 = .ok (.iconst 3, 1) := by decide +kernel
theorem dX5_as_18 : decode cX5_as 18 = .ok (.invokestatic 75, 3) := by decide +kernel
theorem dX5_as_21 : decode cX5_as 21 = .ok (.ifCond .ne 6, 3) := by decide +kernel
theorem dX5_as_24 : decode cX5_as 24 = .ok (.bipush (-2), 2) := by decide +kernel
theorem dX5_as_26 : decode cX5_as 26 = .ok (.ireturn, 1) := by decide +kernel
theorem dX5_as_27 : decode cX5_as 27 = .ok (.aload_n 0, 1) := by decide +kernel
theorem dX5_as_28 : decode cX5_as 28 = .ok (.getfield 38, 3) := by decide +kernel
theorem dX5_as_31 : decode cX5_as 31 = .ok (.iload_n 1, 1) := by decide +kernel
theorem dX5_as_32 : decode cX5_as 32 = .ok (.iconst 0, 1) := by decide +kernel
theorem dX5_as_33 : decode cX5_as 33 = .ok (.invokevirtual 171, 3) := by decide +kernel
theorem dX5_as_36 : decode cX5_as 36 = .ok (.istore_n 3, 1) := by decide +kernel
theorem dX5_as_37 : decode cX5_as 37 = .ok (.iload_n 2, 1) := by decide +kernel
theorem dX5_as_38 : decode cX5_as 38 = .ok (.ifCond .eq 17, 3) := by decide +kernel
theorem dX5_as_41 : decode cX5_as 41 = .ok (.iload_n 2, 1) := by decide +kernel
theorem dX5_as_42 : decode cX5_as 42 = .ok (.iload_n 3, 1) := by decide +kernel
theorem dX5_as_43 : decode cX5_as 43 = .ok (.if_icmp .eq 12, 3) := by decide +kernel
theorem dX5_as_46 : decode cX5_as 46 = .ok (.iload_n 2, 1) := by decide +kernel
theorem dX5_as_47 : decode cX5_as 47 = .ok (.iconst 1, 1) := by decide +kernel
theorem dX5_as_48 : decode cX5_as 48 = .ok (.if_icmp .ne 11, 3) := by decide +kernel
theorem dX5_as_51 : decode cX5_as 51 = .ok (.iload_n 3, 1) := by decide +kernel
theorem dX5_as_52 : decode cX5_as 52 = .ok (.ifCond .eq 7, 3) := by decide +kernel
theorem dX5_as_55 : decode cX5_as 55 = .ok (.iconst 1, 1) := by decide +kernel
theorem dX5_as_56 : decode cX5_as 56 = .ok (.goto 4, 3) := by decide +kernel
theorem dX5_as_59 : decode cX5_as 59 = .ok (.iconst 0, 1) := by decide +kernel
theorem dX5_as_60 : decode cX5_as 60 = .ok (.istore 4, 2) := by decide +kernel
theorem dX5_as_62 : decode cX5_as 62 = .ok (.iload 4, 2) := by decide +kernel
theorem dX5_as_64 : decode cX5_as 64 = .ok (.ifCond .eq 7, 3) := by decide +kernel
theorem dX5_as_67 : decode cX5_as 67 = .ok (.iconst 1, 1) := by decide +kernel
theorem dX5_as_68 : decode cX5_as 68 = .ok (.goto 8, 3) := by decide +kernel
theorem dX5_as_71 : decode cX5_as 71 = .ok (.aload_n 0, 1) := by decide +kernel
theorem dX5_as_72 : decode cX5_as 72 = .ok (.iconst 2, 1) := by decide +kernel
theorem dX5_as_73 : decode cX5_as 73 = .ok (.invokevirtual 232, 3) := by decide +kernel
theorem dX5_as_76 : decode cX5_as 76 = .ok (.ireturn, 1) := by decide +kernel
theorem dX5_trace_0 : decode cX5_trace 0 = .ok (.aload_n 0, 1) := by decide +kernel
theorem dX5_trace_1 : decode cX5_trace 1 = .ok (.getfield 64, 3) := by decide +kernel
theorem dX5_trace_4 : decode cX5_trace 4 = .ok (.ireturn, 1) := by decide +kernel
theorem dX5_fault_0 : decode cX5_fault 0 = .ok (.aload_n 0, 1) := by decide +kernel
theorem dX5_fault_1 : decode cX5_fault 1 = .ok (.getfield 67, 3) := by decide +kernel
theorem dX5_fault_4 : decode cX5_fault 4 = .ok (.ireturn, 1) := by decide +kernel
theorem dX5_many_0 : decode cX5_many 0 = .ok (.iload_n 1, 1) := by decide +kernel
theorem dX5_many_1 : decode cX5_many 1 = .ok (.tableswitch 57 0 3 #[31, 36, 44, 52], 31) := by decide +kernel
theorem dX5_many_32 : decode cX5_many 32 = .ok (.aload_n 0, 1) := by decide +kernel
theorem dX5_many_33 : decode cX5_many 33 = .ok (.getfield 17, 3) := by decide +kernel
theorem dX5_many_36 : decode cX5_many 36 = .ok (.ireturn, 1) := by decide +kernel
theorem dX5_many_37 : decode cX5_many 37 = .ok (.aload_n 0, 1) := by decide +kernel
theorem dX5_many_38 : decode cX5_many 38 = .ok (.getfield 38, 3) := by decide +kernel
theorem dX5_many_41 : decode cX5_many 41 = .ok (.getfield 164, 3) := by decide +kernel
theorem dX5_many_44 : decode cX5_many 44 = .ok (.ireturn, 1) := by decide +kernel
theorem dX5_many_45 : decode cX5_many 45 = .ok (.aload_n 0, 1) := by decide +kernel
theorem dX5_many_46 : decode cX5_many 46 = .ok (.getfield 24, 3) := by decide +kernel
theorem dX5_many_49 : decode cX5_many 49 = .ok (.getfield 145, 3) := by decide +kernel
theorem dX5_many_52 : decode cX5_many 52 = .ok (.ireturn, 1) := by decide +kernel
theorem dX5_many_53 : decode cX5_many 53 = .ok (.aload_n 0, 1) := by decide +kernel
theorem dX5_many_54 : decode cX5_many 54 = .ok (.getfield 55, 3) := by decide +kernel
theorem dX5_many_57 : decode cX5_many 57 = .ok (.ireturn, 1) := by decide +kernel
theorem dX5_many_58 : decode cX5_many 58 = .ok (.bipush (-2), 2) := by decide +kernel
theorem dX5_many_60 : decode cX5_many 60 = .ok (.ireturn, 1) := by decide +kernel
theorem dX5_within_0 : decode cX5_within 0 = .ok (.iload_n 0, 1) := by decide +kernel
theorem dX5_within_1 : decode cX5_within 1 = .ok (.iload_n 1, 1) := by decide +kernel
theorem dX5_within_2 : decode cX5_within 2 = .ok (.if_icmp .lt 12, 3) := by decide +kernel
theorem dX5_within_5 : decode cX5_within 5 = .ok (.iload_n 0, 1) := by decide +kernel
theorem dX5_within_6 : decode cX5_within 6 = .ok (.iload_n 2, 1) := by decide +kernel
theorem dX5_within_7 : decode cX5_within 7 = .ok (.if_icmp .gt 7, 3) := by decide +kernel
theorem dX5_within_10 : decode cX5_within 10 = .ok (.iconst 1, 1) := by decide +kernel
theorem dX5_within_11 : decode cX5_within 11 = .ok (.goto 4, 3) := by decide +kernel
theorem dX5_within_14 : decode cX5_within 14 = .ok (.iconst 0, 1) := by decide +kernel
theorem dX5_within_15 : decode cX5_within 15 = .ok (.ireturn, 1) := by decide +kernel
set_option maxRecDepth 20000 in
theorem ggX5_isLane_X5_within : GoodIn wsX5_isLane wsX5_within := goodIn_r _ [4] (by decide +kernel) (by decide +kernel)
set_option maxRecDepth 20000 in
theorem gX5_isLane_X5_within : GoodIn wsX5_isLane (va_wsS RX5 75 yX5_within wsX5_within) := goodIn_app (goodIn_of _ (by decide +kernel)) ggX5_isLane_X5_within
theorem dX5_isLane_0 : decode cX5_isLane 0 = .ok (.iload_n 0, 1) := by decide +kernel
theorem dX5_isLane_1 : decode cX5_isLane 1 = .ok (.iconst 0, 1) := by decide +kernel
theorem dX5_isLane_2 : decode cX5_isLane 2 = .ok (.iconst 2, 1) := by decide +kernel
theorem dX5_isLane_3 : decode cX5_isLane 3 = .ok (.invokestatic 75, 3) := by decide +kernel
theorem dX5_isLane_6 : decode cX5_isLane 6 = .ok (.ireturn, 1) := by decide +kernel
set_option maxRecDepth 20000 in
theorem ggX5_isJudge_X5_within : GoodIn wsX5_isJudge wsX5_within := goodIn_r _ [4] (by decide +kernel) (by decide +kernel)
set_option maxRecDepth 20000 in
theorem gX5_isJudge_X5_within : GoodIn wsX5_isJudge (va_wsS RX5 75 yX5_within wsX5_within) := goodIn_app (goodIn_of _ (by decide +kernel)) ggX5_isJudge_X5_within
theorem dX5_isJudge_0 : decode cX5_isJudge 0 = .ok (.iload_n 0, 1) := by decide +kernel
theorem dX5_isJudge_1 : decode cX5_isJudge 1 = .ok (.iconst 0, 1) := by decide +kernel
theorem dX5_isJudge_2 : decode cX5_isJudge 2 = .ok (.iconst 4, 1) := by decide +kernel
theorem dX5_isJudge_3 : decode cX5_isJudge 3 = .ok (.invokestatic 75, 3) := by decide +kernel
theorem dX5_isJudge_6 : decode cX5_isJudge 6 = .ok (.ireturn, 1) := by decide +kernel
theorem dX5_isTouch_0 : decode cX5_isTouch 0 = .ok (.iload_n 1, 1) := by decide +kernel
theorem dX5_isTouch_1 : decode cX5_isTouch 1 = .ok (.ifCond .lt 18, 3) := by decide +kernel
theorem dX5_isTouch_4 : decode cX5_isTouch 4 = .ok (.iload_n 1, 1) := by decide +kernel
theorem dX5_isTouch_5 : decode cX5_isTouch 5 = .ok (.aload_n 0, 1) := by decide +kernel
theorem dX5_isTouch_6 : decode cX5_isTouch 6 = .ok (.getfield 38, 3) := by decide +kernel
theorem dX5_isTouch_9 : decode cX5_isTouch 9 = .ok (.getfield 164, 3) := by decide +kernel
theorem dX5_isTouch_12 : decode cX5_isTouch 12 = .ok (.if_icmp .ge 7, 3) := by decide +kernel
theorem dX5_isTouch_15 : decode cX5_isTouch 15 = .ok (.iconst 1, 1) := by decide +kernel
theorem dX5_isTouch_16 : decode cX5_isTouch 16 = .ok (.goto 4, 3) := by decide +kernel
theorem dX5_isTouch_19 : decode cX5_isTouch 19 = .ok (.iconst 0, 1) := by decide +kernel
theorem dX5_isTouch_20 : decode cX5_isTouch 20 = .ok (.ireturn, 1) := by decide +kernel
theorem dX5_stoneAt_0 : decode cX5_stoneAt 0 = .ok (.iload_n 1, 1) := by decide +kernel
theorem dX5_stoneAt_1 : decode cX5_stoneAt 1 = .ok (.ifCond .lt 20, 3) := by decide +kernel
theorem dX5_stoneAt_4 : decode cX5_stoneAt 4 = .ok (.iload_n 1, 1) := by decide +kernel
theorem dX5_stoneAt_5 : decode cX5_stoneAt 5 = .ok (.aload_n 0, 1) := by decide +kernel
theorem dX5_stoneAt_6 : decode cX5_stoneAt 6 = .ok (.getfield 17, 3) := by decide +kernel
theorem dX5_stoneAt_9 : decode cX5_stoneAt 9 = .ok (.if_icmp .ge 12, 3) := by decide +kernel
theorem dX5_stoneAt_12 : decode cX5_stoneAt 12 = .ok (.iload_n 1, 1) := by decide +kernel
theorem dX5_stoneAt_13 : decode cX5_stoneAt 13 = .ok (.aload_n 0, 1) := by decide +kernel
theorem dX5_stoneAt_14 : decode cX5_stoneAt 14 = .ok (.getfield 13, 3) := by decide +kernel
theorem dX5_stoneAt_17 : decode cX5_stoneAt 17 = .ok (.arraylength, 1) := by decide +kernel
theorem dX5_stoneAt_18 : decode cX5_stoneAt 18 = .ok (.if_icmp .lt 7, 3) := by decide +kernel
theorem dX5_stoneAt_21 : decode cX5_stoneAt 21 = .ok (.aconst_null, 1) := by decide +kernel
theorem dX5_stoneAt_22 : decode cX5_stoneAt 22 = .ok (.goto 9, 3) := by decide +kernel
theorem dX5_stoneAt_25 : decode cX5_stoneAt 25 = .ok (.aload_n 0, 1) := by decide +kernel
theorem dX5_stoneAt_26 : decode cX5_stoneAt 26 = .ok (.getfield 13, 3) := by decide +kernel
theorem dX5_stoneAt_29 : decode cX5_stoneAt 29 = .ok (.iload_n 1, 1) := by decide +kernel
theorem dX5_stoneAt_30 : decode cX5_stoneAt 30 = .ok (.aaload, 1) := by decide +kernel
theorem dX5_stoneAt_31 : decode cX5_stoneAt 31 = .ok (.areturn, 1) := by decide +kernel
theorem dX5_sheetAt_0 : decode cX5_sheetAt 0 = .ok (.iload_n 1, 1) := by decide +kernel
theorem dX5_sheetAt_1 : decode cX5_sheetAt 1 = .ok (.ifCond .lt 12, 3) := by decide +kernel
theorem dX5_sheetAt_4 : decode cX5_sheetAt 4 = .ok (.iload_n 1, 1) := by decide +kernel
theorem dX5_sheetAt_5 : decode cX5_sheetAt 5 = .ok (.aload_n 0, 1) := by decide +kernel
theorem dX5_sheetAt_6 : decode cX5_sheetAt 6 = .ok (.getfield 60, 3) := by decide +kernel
theorem dX5_sheetAt_9 : decode cX5_sheetAt 9 = .ok (.arraylength, 1) := by decide +kernel
theorem dX5_sheetAt_10 : decode cX5_sheetAt 10 = .ok (.if_icmp .lt 7, 3) := by decide +kernel
theorem dX5_sheetAt_13 : decode cX5_sheetAt 13 = .ok (.aconst_null, 1) := by decide +kernel
theorem dX5_sheetAt_14 : decode cX5_sheetAt 14 = .ok (.goto 9, 3) := by decide +kernel
theorem dX5_sheetAt_17 : decode cX5_sheetAt 17 = .ok (.aload_n 0, 1) := by decide +kernel
theorem dX5_sheetAt_18 : decode cX5_sheetAt 18 = .ok (.getfield 60, 3) := by decide +kernel
theorem dX5_sheetAt_21 : decode cX5_sheetAt 21 = .ok (.iload_n 1, 1) := by decide +kernel
theorem dX5_sheetAt_22 : decode cX5_sheetAt 22 = .ok (.aaload, 1) := by decide +kernel
theorem dX5_sheetAt_23 : decode cX5_sheetAt 23 = .ok (.areturn, 1) := by decide +kernel
theorem dX5_pick_0 : decode cX5_pick 0 = .ok (.iload_n 0, 1) := by decide +kernel
theorem dX5_pick_1 : decode cX5_pick 1 = .ok (.ifCond .ne 7, 3) := by decide +kernel
theorem dX5_pick_4 : decode cX5_pick 4 = .ok (.iload_n 1, 1) := by decide +kernel
theorem dX5_pick_5 : decode cX5_pick 5 = .ok (.goto 13, 3) := by decide +kernel
theorem dX5_pick_8 : decode cX5_pick 8 = .ok (.iload_n 0, 1) := by decide +kernel
theorem dX5_pick_9 : decode cX5_pick 9 = .ok (.iconst 1, 1) := by decide +kernel
theorem dX5_pick_10 : decode cX5_pick 10 = .ok (.if_icmp .ne 7, 3) := by decide +kernel
theorem dX5_pick_13 : decode cX5_pick 13 = .ok (.iload_n 2, 1) := by decide +kernel
theorem dX5_pick_14 : decode cX5_pick 14 = .ok (.goto 4, 3) := by decide +kernel
theorem dX5_pick_17 : decode cX5_pick 17 = .ok (.iload_n 3, 1) := by decide +kernel
theorem dX5_pick_18 : decode cX5_pick 18 = .ok (.ireturn, 1) := by decide +kernel
theorem dX5_sinks_0 : decode cX5_sinks 0 = .ok (.aload_n 1, 1) := by decide +kernel
theorem dX5_sinks_1 : decode cX5_sinks 1 = .ok (.getfield 116, 3) := by decide +kernel
theorem dX5_sinks_4 : decode cX5_sinks 4 = .ok (.istore 5, 2) := by decide +kernel
theorem dX5_sinks_6 : decode cX5_sinks 6 = .ok (.iload 4, 2) := by decide +kernel
theorem dX5_sinks_8 : decode cX5_sinks 8 = .ok (.iconst 1, 1) := by decide +kernel
theorem dX5_sinks_9 : decode cX5_sinks 9 = .ok (.if_icmp .lt 16, 3) := by decide +kernel
theorem dX5_sinks_12 : decode cX5_sinks 12 = .ok (.iload 4, 2) := by decide +kernel
theorem dX5_sinks_14 : decode cX5_sinks 14 = .ok (.bipush 45, 2) := by decide +kernel
theorem dX5_sinks_16 : decode cX5_sinks 16 = .ok (.if_icmp .gt 9, 3) := by decide +kernel
theorem dX5_sinks_19 : decode cX5_sinks 19 = .ok (.iload 5, 2) := by decide +kernel
theorem dX5_sinks_21 : decode cX5_sinks 21 = .ok (.iconst 1, 1) := by decide +kernel
theorem dX5_sinks_22 : decode cX5_sinks 22 = .ok (.if_icmp .ge 5, 3) := by decide +kernel
theorem dX5_sinks_25 : decode cX5_sinks 25 = .ok (.iconst 1, 1) := by decide +kernel
theorem dX5_sinks_26 : decode cX5_sinks 26 = .ok (.ireturn, 1) := by decide +kernel
theorem dX5_sinks_27 : decode cX5_sinks 27 = .ok (.iload_n 2, 1) := by decide +kernel
theorem dX5_sinks_28 : decode cX5_sinks 28 = .ok (.aload_n 0, 1) := by decide +kernel
theorem dX5_sinks_29 : decode cX5_sinks 29 = .ok (.getfield 89, 3) := by decide +kernel
theorem dX5_sinks_32 : decode cX5_sinks 32 = .ok (.imul, 1) := by decide +kernel
theorem dX5_sinks_33 : decode cX5_sinks 33 = .ok (.iload 4, 2) := by decide +kernel
theorem dX5_sinks_35 : decode cX5_sinks 35 = .ok (.imul, 1) := by decide +kernel
theorem dX5_sinks_36 : decode cX5_sinks 36 = .ok (.bipush 10, 2) := by decide +kernel
theorem dX5_sinks_38 : decode cX5_sinks 38 = .ok (.iload 5, 2) := by decide +kernel
theorem dX5_sinks_40 : decode cX5_sinks 40 = .ok (.imul, 1) := by decide +kernel
theorem dX5_sinks_41 : decode cX5_sinks 41 = .ok (.idiv, 1) := by decide +kernel
theorem dX5_sinks_42 : decode cX5_sinks 42 = .ok (.aload_n 0, 1) := by decide +kernel
theorem dX5_sinks_43 : decode cX5_sinks 43 = .ok (.getfield 86, 3) := by decide +kernel
theorem dX5_sinks_46 : decode cX5_sinks 46 = .ok (.iload_n 3, 1) := by decide +kernel
theorem dX5_sinks_47 : decode cX5_sinks 47 = .ok (.bipush 10, 2) := by decide +kernel
theorem dX5_sinks_49 : decode cX5_sinks 49 = .ok (.iadd, 1) := by decide +kernel
theorem dX5_sinks_50 : decode cX5_sinks 50 = .ok (.imul, 1) := by decide +kernel
theorem dX5_sinks_51 : decode cX5_sinks 51 = .ok (.if_icmp .ge 7, 3) := by decide +kernel
theorem dX5_sinks_54 : decode cX5_sinks 54 = .ok (.iconst 1, 1) := by decide +kernel
theorem dX5_sinks_55 : decode cX5_sinks 55 = .ok (.goto 4, 3) := by decide +kernel
theorem dX5_sinks_58 : decode cX5_sinks 58 = .ok (.iconst 0, 1) := by decide +kernel
theorem dX5_sinks_59 : decode cX5_sinks 59 = .ok (.ireturn, 1) := by decide +kernel
set_option maxRecDepth 20000 in
theorem ggX5_isGrid_X5_within : GoodIn wsX5_isGrid wsX5_within := goodIn_r _ [4] (by decide +kernel) (by decide +kernel)
set_option maxRecDepth 20000 in
theorem gX5_isGrid_X5_within : GoodIn wsX5_isGrid (va_wsS RX5 75 yX5_within wsX5_within) := goodIn_app (goodIn_of _ (by decide +kernel)) ggX5_isGrid_X5_within
theorem dX5_isGrid_0 : decode cX5_isGrid 0 = .ok (.iload_n 1, 1) := by decide +kernel
theorem dX5_isGrid_1 : decode cX5_isGrid 1 = .ok (.iconst 0, 1) := by decide +kernel
theorem dX5_isGrid_2 : decode cX5_isGrid 2 = .ok (.bipush 20, 2) := by decide +kernel
theorem dX5_isGrid_4 : decode cX5_isGrid 4 = .ok (.invokestatic 75, 3) := by decide +kernel
theorem dX5_isGrid_7 : decode cX5_isGrid 7 = .ok (.ifCond .eq 42, 3) := by decide +kernel
theorem dX5_isGrid_10 : decode cX5_isGrid 10 = .ok (.iload_n 3, 1) := by decide +kernel
theorem dX5_isGrid_11 : decode cX5_isGrid 11 = .ok (.iconst 0, 1) := by decide +kernel
theorem dX5_isGrid_12 : decode cX5_isGrid 12 = .ok (.bipush 10, 2) := by decide +kernel
theorem dX5_isGrid_14 : decode cX5_isGrid 14 = .ok (.invokestatic 75, 3) := by decide +kernel
theorem dX5_isGrid_17 : decode cX5_isGrid 17 = .ok (.ifCond .eq 32, 3) := by decide +kernel
theorem dX5_isGrid_20 : decode cX5_isGrid 20 = .ok (.iload_n 0, 1) := by decide +kernel
theorem dX5_isGrid_21 : decode cX5_isGrid 21 = .ok (.iconst 1, 1) := by decide +kernel
theorem dX5_isGrid_22 : decode cX5_isGrid 22 = .ok (.sipush 300, 3) := by decide +kernel
theorem dX5_isGrid_25 : decode cX5_isGrid 25 = .ok (.iload_n 1, 1) := by decide +kernel
theorem dX5_isGrid_26 : decode cX5_isGrid 26 = .ok (.isub, 1) := by decide +kernel
theorem dX5_isGrid_27 : decode cX5_isGrid 27 = .ok (.invokestatic 75, 3) := by decide +kernel
theorem dX5_isGrid_30 : decode cX5_isGrid 30 = .ok (.ifCond .eq 19, 3) := by decide +kernel
theorem dX5_isGrid_33 : decode cX5_isGrid 33 = .ok (.iload_n 2, 1) := by decide +kernel
theorem dX5_isGrid_34 : decode cX5_isGrid 34 = .ok (.iconst 0, 1) := by decide +kernel
theorem dX5_isGrid_35 : decode cX5_isGrid 35 = .ok (.bipush 45, 2) := by decide +kernel
theorem dX5_isGrid_37 : decode cX5_isGrid 37 = .ok (.iload_n 3, 1) := by decide +kernel
theorem dX5_isGrid_38 : decode cX5_isGrid 38 = .ok (.isub, 1) := by decide +kernel
theorem dX5_isGrid_39 : decode cX5_isGrid 39 = .ok (.invokestatic 75, 3) := by decide +kernel
theorem dX5_isGrid_42 : decode cX5_isGrid 42 = .ok (.ifCond .eq 7, 3) := by decide +kernel
theorem dX5_isGrid_45 : decode cX5_isGrid 45 = .ok (.iconst 1, 1) := by decide +kernel
theorem dX5_isGrid_46 : decode cX5_isGrid 46 = .ok (.goto 4, 3) := by decide +kernel
theorem dX5_isGrid_49 : decode cX5_isGrid 49 = .ok (.iconst 0, 1) := by decide +kernel
theorem dX5_isGrid_50 : decode cX5_isGrid 50 = .ok (.ireturn, 1) := by decide +kernel
theorem dX5_throwsOf_0 : decode cX5_throwsOf 0 = .ok (.iload_n 0, 1) := by decide +kernel
theorem dX5_throwsOf_1 : decode cX5_throwsOf 1 = .ok (.iconst 1, 1) := by decide +kernel
theorem dX5_throwsOf_2 : decode cX5_throwsOf 2 = .ok (.iadd, 1) := by decide +kernel
theorem dX5_throwsOf_3 : decode cX5_throwsOf 3 = .ok (.iload_n 1, 1) := by decide +kernel
theorem dX5_throwsOf_4 : decode cX5_throwsOf 4 = .ok (.iconst 1, 1) := by decide +kernel
theorem dX5_throwsOf_5 : decode cX5_throwsOf 5 = .ok (.iadd, 1) := by decide +kernel
theorem dX5_throwsOf_6 : decode cX5_throwsOf 6 = .ok (.imul, 1) := by decide +kernel
theorem dX5_throwsOf_7 : decode cX5_throwsOf 7 = .ok (.ireturn, 1) := by decide +kernel
set_option maxRecDepth 20000 in
theorem ggX5_tryOut_X0_begin : GoodIn wsX5_tryOut wsX0_begin := goodIn_r _ [9, 10, 11, 12, 13, 14, 15, 16, 74, 75, 76, 77, 78, 79, 80, 81] (by decide +kernel) (by decide +kernel)
set_option maxRecDepth 20000 in
theorem gX5_tryOut_X0_begin : GoodIn wsX5_tryOut (wsV RX5 156 RX0 yX0_begin wsX0_begin) := goodIn_app (goodIn_of _ (by decide +kernel)) ggX5_tryOut_X0_begin
set_option maxRecDepth 20000 in
theorem ggX5_tryOut_X0_goOn : GoodIn wsX5_tryOut wsX0_goOn := goodIn_r _ [20, 12, 14, 21, 22, 23, 24, 25, 26, 27, 28, 29, 30, 8, 31, 10, 11, 32, 33, 34, 35, 36, 37, 38, 39, 40, 41, 15, 42, 43, 44, 45, 46, 47, 48, 49, 50, 51, 16, 52, 13, 53, 54, 55, 56, 57, 58, 59, 60, 74, 75, 76, 77, 78, 79, 80, 81, 82, 83, 84, 85, 86, 87, 88, 89, 90, 91, 92, 93, 94, 95] (by decide +kernel) (by decide +kernel)
set_option maxRecDepth 20000 in
theorem gX5_tryOut_X0_goOn : GoodIn wsX5_tryOut (wsV RX5 160 RX0 yX0_goOn wsX0_goOn) := goodIn_app (goodIn_of _ (by decide +kernel)) ggX5_tryOut_X0_goOn
theorem dX5_tryOut_0 : decode cX5_tryOut 0 = .ok (.aload_n 0, 1) := by decide +kernel
theorem dX5_tryOut_1 : decode cX5_tryOut 1 = .ok (.getfield 42, 3) := by decide +kernel
theorem dX5_tryOut_4 : decode cX5_tryOut 4 = .ok (.iload_n 2, 1) := by decide +kernel
theorem dX5_tryOut_5 : decode cX5_tryOut 5 = .ok (.aload_n 0, 1) := by decide +kernel
theorem dX5_tryOut_6 : decode cX5_tryOut 6 = .ok (.getfield 45, 3) := by decide +kernel
theorem dX5_tryOut_9 : decode cX5_tryOut 9 = .ok (.iload_n 3, 1) := by decide +kernel
theorem dX5_tryOut_10 : decode cX5_tryOut 10 = .ok (.aload_n 0, 1) := by decide +kernel
theorem dX5_tryOut_11 : decode cX5_tryOut 11 = .ok (.getfield 48, 3) := by decide +kernel
theorem dX5_tryOut_14 : decode cX5_tryOut 14 = .ok (.invokevirtual 156, 3) := by decide +kernel
theorem dX5_tryOut_17 : decode cX5_tryOut 17 = .ok (.aload_n 0, 1) := by decide +kernel
theorem dX5_tryOut_18 : decode cX5_tryOut 18 = .ok (.getfield 42, 3) := by decide +kernel
theorem dX5_tryOut_21 : decode cX5_tryOut 21 = .ok (.aload_n 1, 1) := by decide +kernel
theorem dX5_tryOut_22 : decode cX5_tryOut 22 = .ok (.aload_n 0, 1) := by decide +kernel
theorem dX5_tryOut_23 : decode cX5_tryOut 23 = .ok (.getfield 24, 3) := by decide +kernel
theorem dX5_tryOut_26 : decode cX5_tryOut 26 = .ok (.iload 4, 2) := by decide +kernel
theorem dX5_tryOut_28 : decode cX5_tryOut 28 = .ok (.invokevirtual 160, 3) := by decide +kernel
theorem dX5_tryOut_31 : decode cX5_tryOut 31 = .ok (.return_, 1) := by decide +kernel
set_option maxRecDepth 20000 in
theorem ggX5_countOf_X5_tryOut : GoodIn wsX5_countOf wsX5_tryOut := goodIn_r _ [6, 1, 7, 8, 9, 10, 11, 12, 13, 14, 15, 16, 17, 18, 19, 20, 21, 22, 23, 24, 25, 26, 27, 28, 29, 30, 31, 32, 33, 34, 35, 36, 37, 38, 39, 40, 41, 42, 43, 44, 45, 46, 47, 5, 48, 49, 50, 51, 52, 53, 54, 55, 56, 57, 58, 59, 60, 61, 62, 63, 64, 77, 78, 79, 80, 81, 82, 83, 84, 85, 86, 87, 88, 89, 90, 91, 92, 93, 94, 95, 96, 97, 98, 99, 100, 101, 102, 103, 104, 105, 106, 107, 108, 109, 110, 111] (by decide +kernel) (by decide +kernel)
set_option maxRecDepth 20000 in
theorem gX5_countOf_X5_tryOut : GoodIn wsX5_countOf (wsV RX5 210 RX5 yX5_tryOut wsX5_tryOut) := goodIn_app (goodIn_of _ (by decide +kernel)) ggX5_countOf_X5_tryOut
set_option maxRecDepth 20000 in
theorem ggX5_countOf_X0_counted : GoodIn wsX5_countOf wsX0_counted := goodIn_r _ [68, 21, 69, 70, 71, 13, 72, 56, 73, 74, 75, 76, 90, 91, 92, 93, 94, 95, 96, 97] (by decide +kernel) (by decide +kernel)
set_option maxRecDepth 20000 in
theorem gX5_countOf_X0_counted : GoodIn wsX5_countOf (wsV RX5 177 RX0 yX0_counted wsX0_counted) := goodIn_app (goodIn_of _ (by decide +kernel)) ggX5_countOf_X0_counted
theorem dX5_countOf_0 : decode cX5_countOf 0 = .ok (.aload_n 0, 1) := by decide +kernel
theorem dX5_countOf_1 : decode cX5_countOf 1 = .ok (.aload_n 1, 1) := by decide +kernel
theorem dX5_countOf_2 : decode cX5_countOf 2 = .ok (.iload_n 2, 1) := by decide +kernel
theorem dX5_countOf_3 : decode cX5_countOf 3 = .ok (.iload_n 3, 1) := by decide +kernel
theorem dX5_countOf_4 : decode cX5_countOf 4 = .ok (.iload 5, 2) := by decide +kernel
theorem dX5_countOf_6 : decode cX5_countOf 6 = .ok (.invokevirtual 210, 3) := by decide +kernel
theorem dX5_countOf_9 : decode cX5_countOf 9 = .ok (.aload_n 0, 1) := by decide +kernel
theorem dX5_countOf_10 : decode cX5_countOf 10 = .ok (.getfield 42, 3) := by decide +kernel
theorem dX5_countOf_13 : decode cX5_countOf 13 = .ok (.iload 4, 2) := by decide +kernel
theorem dX5_countOf_15 : decode cX5_countOf 15 = .ok (.invokevirtual 177, 3) := by decide +kernel
theorem dX5_countOf_18 : decode cX5_countOf 18 = .ok (.ireturn, 1) := by decide +kernel
set_option maxRecDepth 20000 in
theorem ggX5_hits_X5_countOf : GoodIn wsX5_hits wsX5_countOf := goodIn_r _ [7, 8, 9, 10, 11, 6, 12, 13, 14, 1, 15, 16, 17, 18, 19, 20, 21, 22, 23, 24, 25, 26, 27, 28, 29, 30, 31, 32, 33, 34, 35, 36, 37, 38, 39, 40, 41, 42, 43, 44, 45, 46, 47, 48, 49, 50, 51, 52, 53, 54, 55, 56, 57, 58, 59, 60, 61, 62, 63, 64, 65, 66, 67, 68, 69, 70, 71, 72, 73, 74, 75, 76, 77, 78, 79, 80, 81, 82, 83, 84, 85, 86, 87, 88, 89, 90, 91, 92, 93, 94, 104, 105, 106, 107, 108, 109, 110, 111, 95, 96, 97, 98, 99, 100, 101, 102, 103, 112, 113, 114, 115, 116] (by decide +kernel) (by decide +kernel)
set_option maxRecDepth 20000 in
theorem gX5_hits_X5_countOf : GoodIn wsX5_hits (wsV RX5 189 RX5 yX5_countOf wsX5_countOf) := goodIn_app (goodIn_of _ (by decide +kernel)) ggX5_hits_X5_countOf
theorem dX5_hits_0 : decode cX5_hits 0 = .ok (.iconst 0, 1) := by decide +kernel
theorem dX5_hits_1 : decode cX5_hits 1 = .ok (.istore 8, 2) := by decide +kernel
theorem dX5_hits_3 : decode cX5_hits 3 = .ok (.iload_n 2, 1) := by decide +kernel
theorem dX5_hits_4 : decode cX5_hits 4 = .ok (.istore 9, 2) := by decide +kernel
theorem dX5_hits_6 : decode cX5_hits 6 = .ok (.iload 9, 2) := by decide +kernel
theorem dX5_hits_8 : decode cX5_hits 8 = .ok (.iload_n 2, 1) := by decide +kernel
theorem dX5_hits_9 : decode cX5_hits 9 = .ok (.iload_n 3, 1) := by decide +kernel
theorem dX5_hits_10 : decode cX5_hits 10 = .ok (.iadd, 1) := by decide +kernel
theorem dX5_hits_11 : decode cX5_hits 11 = .ok (.if_icmp .gt 55, 3) := by decide +kernel
theorem dX5_hits_14 : decode cX5_hits 14 = .ok (.iload 4, 2) := by decide +kernel
theorem dX5_hits_16 : decode cX5_hits 16 = .ok (.istore 10, 2) := by decide +kernel
theorem dX5_hits_18 : decode cX5_hits 18 = .ok (.iload 10, 2) := by decide +kernel
theorem dX5_hits_20 : decode cX5_hits 20 = .ok (.iload 4, 2) := by decide +kernel
theorem dX5_hits_22 : decode cX5_hits 22 = .ok (.iload 5, 2) := by decide +kernel
theorem dX5_hits_24 : decode cX5_hits 24 = .ok (.iadd, 1) := by decide +kernel
theorem dX5_hits_25 : decode cX5_hits 25 = .ok (.if_icmp .gt 35, 3) := by decide +kernel
theorem dX5_hits_28 : decode cX5_hits 28 = .ok (.aload_n 0, 1) := by decide +kernel
theorem dX5_hits_29 : decode cX5_hits 29 = .ok (.aload_n 1, 1) := by decide +kernel
theorem dX5_hits_30 : decode cX5_hits 30 = .ok (.iload 9, 2) := by decide +kernel
theorem dX5_hits_32 : decode cX5_hits 32 = .ok (.iload 10, 2) := by decide +kernel
theorem dX5_hits_34 : decode cX5_hits 34 = .ok (.iload 6, 2) := by decide +kernel
theorem dX5_hits_36 : decode cX5_hits 36 = .ok (.aload_n 0, 1) := by decide +kernel
theorem dX5_hits_37 : decode cX5_hits 37 = .ok (.getfield 24, 3) := by decide +kernel
theorem dX5_hits_40 : decode cX5_hits 40 = .ok (.getfield 148, 3) := by decide +kernel
theorem dX5_hits_43 : decode cX5_hits 43 = .ok (.invokevirtual 189, 3) := by decide +kernel
theorem dX5_hits_46 : decode cX5_hits 46 = .ok (.iload 7, 2) := by decide +kernel
theorem dX5_hits_48 : decode cX5_hits 48 = .ok (.if_icmp .lt 6, 3) := by decide +kernel
theorem dX5_hits_51 : decode cX5_hits 51 = .ok (.iinc 8 1, 3) := by decide +kernel
theorem dX5_hits_54 : decode cX5_hits 54 = .ok (.iinc 10 1, 3) := by decide +kernel
theorem dX5_hits_57 : decode cX5_hits 57 = .ok (.goto (-39), 3) := by decide +kernel
theorem dX5_hits_60 : decode cX5_hits 60 = .ok (.iinc 9 1, 3) := by decide +kernel
theorem dX5_hits_63 : decode cX5_hits 63 = .ok (.goto (-57), 3) := by decide +kernel
theorem dX5_hits_66 : decode cX5_hits 66 = .ok (.iload 8, 2) := by decide +kernel
theorem dX5_hits_68 : decode cX5_hits 68 = .ok (.ireturn, 1) := by decide +kernel
set_option maxRecDepth 20000 in
theorem ggX5_share_X5_commonDivisor : GoodIn wsX5_share wsX5_commonDivisor := goodIn_r _ [5] (by decide +kernel) (by decide +kernel)
set_option maxRecDepth 20000 in
theorem gX5_share_X5_commonDivisor : GoodIn wsX5_share (va_wsS RX5 287 yX5_commonDivisor wsX5_commonDivisor) := goodIn_app (goodIn_of _ (by decide +kernel)) ggX5_share_X5_commonDivisor
theorem dX5_share_0 : decode cX5_share 0 = .ok (.lload_n 0, 1) := by decide +kernel
theorem dX5_share_1 : decode cX5_share 1 = .ok (.lload_n 2, 1) := by decide +kernel
theorem dX5_share_2 : decode cX5_share 2 = .ok (.invokestatic 287, 3) := by decide +kernel
theorem dX5_share_5 : decode cX5_share 5 = .ok (.lstore 5, 2) := by decide +kernel
theorem dX5_share_7 : decode cX5_share 7 = .ok (.lload 5, 2) := by decide +kernel
theorem dX5_share_9 : decode cX5_share 9 = .ok (.lconst 1, 1) := by decide +kernel
theorem dX5_share_10 : decode cX5_share 10 = .ok (.lcmp, 1) := by decide +kernel
theorem dX5_share_11 : decode cX5_share 11 = .ok (.ifCond .ge 7, 3) := by decide +kernel
theorem dX5_share_14 : decode cX5_share 14 = .ok (.ldc2_w 196, 3) := by decide +kernel
theorem dX5_share_17 : decode cX5_share 17 = .ok (.lreturn, 1) := by decide +kernel
theorem dX5_share_18 : decode cX5_share 18 = .ok (.iload 4, 2) := by decide +kernel
theorem dX5_share_20 : decode cX5_share 20 = .ok (.ifCond .ne 10, 3) := by decide +kernel
theorem dX5_share_23 : decode cX5_share 23 = .ok (.lload_n 0, 1) := by decide +kernel
theorem dX5_share_24 : decode cX5_share 24 = .ok (.lload 5, 2) := by decide +kernel
theorem dX5_share_26 : decode cX5_share 26 = .ok (.ldiv, 1) := by decide +kernel
theorem dX5_share_27 : decode cX5_share 27 = .ok (.goto 7, 3) := by decide +kernel
theorem dX5_share_30 : decode cX5_share 30 = .ok (.lload_n 2, 1) := by decide +kernel
theorem dX5_share_31 : decode cX5_share 31 = .ok (.lload 5, 2) := by decide +kernel
theorem dX5_share_33 : decode cX5_share 33 = .ok (.ldiv, 1) := by decide +kernel
theorem dX5_share_34 : decode cX5_share 34 = .ok (.lreturn, 1) := by decide +kernel
theorem dX5_commonDivisor_0 : decode cX5_commonDivisor 0 = .ok (.iconst 0, 1) := by decide +kernel
theorem dX5_commonDivisor_1 : decode cX5_commonDivisor 1 = .ok (.istore 4, 2) := by decide +kernel
theorem dX5_commonDivisor_3 : decode cX5_commonDivisor 3 = .ok (.iload 4, 2) := by decide +kernel
theorem dX5_commonDivisor_5 : decode cX5_commonDivisor 5 = .ok (.sipush 200, 3) := by decide +kernel
theorem dX5_commonDivisor_8 : decode cX5_commonDivisor 8 = .ok (.if_icmp .ge 25, 3) := by decide +kernel
theorem dX5_commonDivisor_11 : decode cX5_commonDivisor 11 = .ok (.lload_n 2, 1) := by decide +kernel
theorem dX5_commonDivisor_12 : decode cX5_commonDivisor 12 = .ok (.lconst 0, 1) := by decide +kernel
theorem dX5_commonDivisor_13 : decode cX5_commonDivisor 13 = .ok (.lcmp, 1) := by decide +kernel
theorem dX5_commonDivisor_14 : decode cX5_commonDivisor 14 = .ok (.ifCond .eq 19, 3) := by decide +kernel
theorem dX5_commonDivisor_17 : decode cX5_commonDivisor 17 = .ok (.lload_n 0, 1) := by decide +kernel
theorem dX5_commonDivisor_18 : decode cX5_commonDivisor 18 = .ok (.lload_n 2, 1) := by decide +kernel
theorem dX5_commonDivisor_19 : decode cX5_commonDivisor 19 = .ok (.lrem, 1) := by decide +kernel
theorem dX5_commonDivisor_20 : decode cX5_commonDivisor 20 = .ok (.lstore 5, 2) := by decide +kernel
theorem dX5_commonDivisor_22 : decode cX5_commonDivisor 22 = .ok (.lload_n 2, 1) := by decide +kernel
theorem dX5_commonDivisor_23 : decode cX5_commonDivisor 23 = .ok (.lstore_n 0, 1) := by decide +kernel
theorem dX5_commonDivisor_24 : decode cX5_commonDivisor 24 = .ok (.lload 5, 2) := by decide +kernel
theorem dX5_commonDivisor_26 : decode cX5_commonDivisor 26 = .ok (.lstore_n 2, 1) := by decide +kernel
theorem dX5_commonDivisor_27 : decode cX5_commonDivisor 27 = .ok (.iinc 4 1, 3) := by decide +kernel
theorem dX5_commonDivisor_30 : decode cX5_commonDivisor 30 = .ok (.goto (-27), 3) := by decide +kernel
theorem dX5_commonDivisor_33 : decode cX5_commonDivisor 33 = .ok (.lload_n 0, 1) := by decide +kernel
theorem dX5_commonDivisor_34 : decode cX5_commonDivisor 34 = .ok (.lreturn, 1) := by decide +kernel
theorem dX5_power_0 : decode cX5_power 0 = .ok (.lconst 1, 1) := by decide +kernel
theorem dX5_power_1 : decode cX5_power 1 = .ok (.lstore_n 3, 1) := by decide +kernel
theorem dX5_power_2 : decode cX5_power 2 = .ok (.iconst 0, 1) := by decide +kernel
theorem dX5_power_3 : decode cX5_power 3 = .ok (.istore 5, 2) := by decide +kernel
theorem dX5_power_5 : decode cX5_power 5 = .ok (.iload 5, 2) := by decide +kernel
theorem dX5_power_7 : decode cX5_power 7 = .ok (.iload_n 2, 1) := by decide +kernel
theorem dX5_power_8 : decode cX5_power 8 = .ok (.if_icmp .ge 20, 3) := by decide +kernel
theorem dX5_power_11 : decode cX5_power 11 = .ok (.iload 5, 2) := by decide +kernel
theorem dX5_power_13 : decode cX5_power 13 = .ok (.bipush 6, 2) := by decide +kernel
theorem dX5_power_15 : decode cX5_power 15 = .ok (.if_icmp .ge 13, 3) := by decide +kernel
theorem dX5_power_18 : decode cX5_power 18 = .ok (.lload_n 3, 1) := by decide +kernel
theorem dX5_power_19 : decode cX5_power 19 = .ok (.lload_n 0, 1) := by decide +kernel
theorem dX5_power_20 : decode cX5_power 20 = .ok (.lmul, 1) := by decide +kernel
theorem dX5_power_21 : decode cX5_power 21 = .ok (.lstore_n 3, 1) := by decide +kernel
theorem dX5_power_22 : decode cX5_power 22 = .ok (.iinc 5 1, 3) := by decide +kernel
theorem dX5_power_25 : decode cX5_power 25 = .ok (.goto (-20), 3) := by decide +kernel
theorem dX5_power_28 : decode cX5_power 28 = .ok (.lload_n 3, 1) := by decide +kernel
theorem dX5_power_29 : decode cX5_power 29 = .ok (.lreturn, 1) := by decide +kernel
set_option maxRecDepth 20000 in
theorem ggX5_lyingBelow_X5_stoneAt : GoodIn wsX5_lyingBelow wsX5_stoneAt := goodIn_r _ [8, 1, 9, 10, 11, 12, 13, 14, 15, 16, 17, 18, 19, 20, 21, 22] (by decide +kernel) (by decide +kernel)
set_option maxRecDepth 20000 in
theorem gX5_lyingBelow_X5_stoneAt : GoodIn wsX5_lyingBelow (wsV RX5 82 RX5 yX5_stoneAt wsX5_stoneAt) := goodIn_app (goodIn_of _ (by decide +kernel)) ggX5_lyingBelow_X5_stoneAt
theorem dX5_lyingBelow_0 : decode cX5_lyingBelow 0 = .ok (.lconst 0, 1) := by decide +kernel
theorem dX5_lyingBelow_1 : decode cX5_lyingBelow 1 = .ok (.lstore_n 2, 1) := by decide +kernel
theorem dX5_lyingBelow_2 : decode cX5_lyingBelow 2 = .ok (.iconst 0, 1) := by decide +kernel
theorem dX5_lyingBelow_3 : decode cX5_lyingBelow 3 = .ok (.istore 4, 2) := by decide +kernel
theorem dX5_lyingBelow_5 : decode cX5_lyingBelow 5 = .ok (.iload 4, 2) := by decide +kernel
theorem dX5_lyingBelow_7 : decode cX5_lyingBelow 7 = .ok (.aload_n 0, 1) := by decide +kernel
theorem dX5_lyingBelow_8 : decode cX5_lyingBelow 8 = .ok (.getfield 17, 3) := by decide +kernel
theorem dX5_lyingBelow_11 : decode cX5_lyingBelow 11 = .ok (.if_icmp .ge 40, 3) := by decide +kernel
theorem dX5_lyingBelow_14 : decode cX5_lyingBelow 14 = .ok (.aload_n 0, 1) := by decide +kernel
theorem dX5_lyingBelow_15 : decode cX5_lyingBelow 15 = .ok (.iload 4, 2) := by decide +kernel
theorem dX5_lyingBelow_17 : decode cX5_lyingBelow 17 = .ok (.invokevirtual 82, 3) := by decide +kernel
theorem dX5_lyingBelow_20 : decode cX5_lyingBelow 20 = .ok (.astore 5, 2) := by decide +kernel
theorem dX5_lyingBelow_22 : decode cX5_lyingBelow 22 = .ok (.aload 5, 2) := by decide +kernel
theorem dX5_lyingBelow_24 : decode cX5_lyingBelow 24 = .ok (.ifnull 21, 3) := by decide +kernel
theorem dX5_lyingBelow_27 : decode cX5_lyingBelow 27 = .ok (.aload 5, 2) := by decide +kernel
theorem dX5_lyingBelow_29 : decode cX5_lyingBelow 29 = .ok (.getfield 98, 3) := by decide +kernel
theorem dX5_lyingBelow_32 : decode cX5_lyingBelow 32 = .ok (.iload_n 1, 1) := by decide +kernel
theorem dX5_lyingBelow_33 : decode cX5_lyingBelow 33 = .ok (.if_icmp .ge 12, 3) := by decide +kernel
theorem dX5_lyingBelow_36 : decode cX5_lyingBelow 36 = .ok (.lload_n 2, 1) := by decide +kernel
theorem dX5_lyingBelow_37 : decode cX5_lyingBelow 37 = .ok (.aload 5, 2) := by decide +kernel
theorem dX5_lyingBelow_39 : decode cX5_lyingBelow 39 = .ok (.getfield 95, 3) := by decide +kernel
theorem dX5_lyingBelow_42 : decode cX5_lyingBelow 42 = .ok (.i2l, 1) := by decide +kernel
theorem dX5_lyingBelow_43 : decode cX5_lyingBelow 43 = .ok (.ladd, 1) := by decide +kernel
theorem dX5_lyingBelow_44 : decode cX5_lyingBelow 44 = .ok (.lstore_n 2, 1) := by decide +kernel
theorem dX5_lyingBelow_45 : decode cX5_lyingBelow 45 = .ok (.iinc 4 1, 3) := by decide +kernel
theorem dX5_lyingBelow_48 : decode cX5_lyingBelow 48 = .ok (.goto (-43), 3) := by decide +kernel
theorem dX5_lyingBelow_51 : decode cX5_lyingBelow 51 = .ok (.lload_n 2, 1) := by decide +kernel
theorem dX5_lyingBelow_52 : decode cX5_lyingBelow 52 = .ok (.lreturn, 1) := by decide +kernel
set_option maxRecDepth 20000 in
theorem ggX5_bestWorths_X5_lyingBelow : GoodIn wsX5_bestWorths wsX5_lyingBelow := goodIn_r _ [5, 6, 7, 8, 9, 10, 11, 4, 12, 13, 17, 18, 19, 20, 21, 22, 23, 24, 25, 26, 27, 28, 29, 30, 31, 32, 33, 34] (by decide +kernel) (by decide +kernel)
set_option maxRecDepth 20000 in
theorem gX5_bestWorths_X5_lyingBelow : GoodIn wsX5_bestWorths (wsV RX5 218 RX5 yX5_lyingBelow wsX5_lyingBelow) := goodIn_app (goodIn_of _ (by decide +kernel)) ggX5_bestWorths_X5_lyingBelow
set_option maxRecDepth 20000 in
theorem ggX5_bestWorths_X5_power : GoodIn wsX5_bestWorths wsX5_power := goodIn_r _ [16] (by decide +kernel) (by decide +kernel)
set_option maxRecDepth 20000 in
theorem gX5_bestWorths_X5_power : GoodIn wsX5_bestWorths (va_wsS RX5 225 yX5_power wsX5_power) := goodIn_app (goodIn_of _ (by decide +kernel)) ggX5_bestWorths_X5_power
theorem dX5_bestWorths_0 : decode cX5_bestWorths 0 = .ok (.aload_n 0, 1) := by decide +kernel
theorem dX5_bestWorths_1 : decode cX5_bestWorths 1 = .ok (.bipush 100, 2) := by decide +kernel
theorem dX5_bestWorths_3 : decode cX5_bestWorths 3 = .ok (.invokevirtual 218, 3) := by decide +kernel
theorem dX5_bestWorths_6 : decode cX5_bestWorths 6 = .ok (.iload_n 1, 1) := by decide +kernel
theorem dX5_bestWorths_7 : decode cX5_bestWorths 7 = .ok (.invokestatic 225, 3) := by decide +kernel
theorem dX5_bestWorths_10 : decode cX5_bestWorths 10 = .ok (.lstore_n 2, 1) := by decide +kernel
theorem dX5_bestWorths_11 : decode cX5_bestWorths 11 = .ok (.lconst 0, 1) := by decide +kernel
theorem dX5_bestWorths_12 : decode cX5_bestWorths 12 = .ok (.lstore 4, 2) := by decide +kernel
theorem dX5_bestWorths_14 : decode cX5_bestWorths 14 = .ok (.iconst 1, 1) := by decide +kernel
theorem dX5_bestWorths_15 : decode cX5_bestWorths 15 = .ok (.istore 6, 2) := by decide +kernel
theorem dX5_bestWorths_17 : decode cX5_bestWorths 17 = .ok (.iload 6, 2) := by decide +kernel
theorem dX5_bestWorths_19 : decode cX5_bestWorths 19 = .ok (.bipush 99, 2) := by decide +kernel
theorem dX5_bestWorths_21 : decode cX5_bestWorths 21 = .ok (.if_icmp .gt 26, 3) := by decide +kernel
theorem dX5_bestWorths_24 : decode cX5_bestWorths 24 = .ok (.lload 4, 2) := by decide +kernel
theorem dX5_bestWorths_26 : decode cX5_bestWorths 26 = .ok (.lload_n 2, 1) := by decide +kernel
theorem dX5_bestWorths_27 : decode cX5_bestWorths 27 = .ok (.aload_n 0, 1) := by decide +kernel
theorem dX5_bestWorths_28 : decode cX5_bestWorths 28 = .ok (.iload 6, 2) := by decide +kernel
theorem dX5_bestWorths_30 : decode cX5_bestWorths 30 = .ok (.invokevirtual 218, 3) := by decide +kernel
theorem dX5_bestWorths_33 : decode cX5_bestWorths 33 = .ok (.iload_n 1, 1) := by decide +kernel
theorem dX5_bestWorths_34 : decode cX5_bestWorths 34 = .ok (.invokestatic 225, 3) := by decide +kernel
theorem dX5_bestWorths_37 : decode cX5_bestWorths 37 = .ok (.lsub, 1) := by decide +kernel
theorem dX5_bestWorths_38 : decode cX5_bestWorths 38 = .ok (.ladd, 1) := by decide +kernel
theorem dX5_bestWorths_39 : decode cX5_bestWorths 39 = .ok (.lstore 4, 2) := by decide +kernel
theorem dX5_bestWorths_41 : decode cX5_bestWorths 41 = .ok (.iinc 6 1, 3) := by decide +kernel
theorem dX5_bestWorths_44 : decode cX5_bestWorths 44 = .ok (.goto (-27), 3) := by decide +kernel
theorem dX5_bestWorths_47 : decode cX5_bestWorths 47 = .ok (.lload 4, 2) := by decide +kernel
theorem dX5_bestWorths_49 : decode cX5_bestWorths 49 = .ok (.lreturn, 1) := by decide +kernel
theorem dX5_faulted_0 : decode cX5_faulted 0 = .ok (.aload_n 0, 1) := by decide +kernel
theorem dX5_faulted_1 : decode cX5_faulted 1 = .ok (.iload_n 1, 1) := by decide +kernel
theorem dX5_faulted_2 : decode cX5_faulted 2 = .ok (.putfield 67, 3) := by decide +kernel
theorem dX5_faulted_5 : decode cX5_faulted 5 = .ok (.bipush (-10), 2) := by decide +kernel
theorem dX5_faulted_7 : decode cX5_faulted 7 = .ok (.iload_n 1, 1) := by decide +kernel
theorem dX5_faulted_8 : decode cX5_faulted 8 = .ok (.isub, 1) := by decide +kernel
theorem dX5_faulted_9 : decode cX5_faulted 9 = .ok (.ireturn, 1) := by decide +kernel
set_option maxRecDepth 20000 in
theorem ggX5_refusalOfCells_X5_sheetAt : GoodIn wsX5_refusalOfCells wsX5_sheetAt := goodIn_r _ [6, 7, 30, 31, 32, 33, 34, 35, 36, 37, 38, 39, 40, 41, 42] (by decide +kernel) (by decide +kernel)
set_option maxRecDepth 20000 in
theorem gX5_refusalOfCells_X5_sheetAt : GoodIn wsX5_refusalOfCells (wsV RX5 105 RX5 yX5_sheetAt wsX5_sheetAt) := goodIn_app (goodIn_of _ (by decide +kernel)) ggX5_refusalOfCells_X5_sheetAt
set_option maxRecDepth 20000 in
theorem ggX5_refusalOfCells_X5_isLane : GoodIn wsX5_refusalOfCells wsX5_isLane := goodIn_r _ [10, 11, 12, 5, 13] (by decide +kernel) (by decide +kernel)
set_option maxRecDepth 20000 in
theorem gX5_refusalOfCells_X5_isLane : GoodIn wsX5_refusalOfCells (va_wsS RX5 229 yX5_isLane wsX5_isLane) := goodIn_app (goodIn_of _ (by decide +kernel)) ggX5_refusalOfCells_X5_isLane
set_option maxRecDepth 20000 in
theorem ggX5_refusalOfCells_X2_faultAs : GoodIn wsX5_refusalOfCells wsX2_faultAs := goodIn_r _ [18, 19, 20, 43, 44, 45, 46] (by decide +kernel) (by decide +kernel)
set_option maxRecDepth 20000 in
theorem gX5_refusalOfCells_X2_faultAs : GoodIn wsX5_refusalOfCells (wsV RX5 249 RX2 yX2_faultAs wsX2_faultAs) := goodIn_app (goodIn_of _ (by decide +kernel)) ggX5_refusalOfCells_X2_faultAs
set_option maxRecDepth 20000 in
theorem ggX5_refusalOfCells_X5_faulted : GoodIn wsX5_refusalOfCells wsX5_faulted := goodIn_r _ [24, 1, 30, 31, 32, 33, 34, 35, 36, 37, 38, 39, 40, 41, 42] (by decide +kernel) (by decide +kernel)
set_option maxRecDepth 20000 in
theorem gX5_refusalOfCells_X5_faulted : GoodIn wsX5_refusalOfCells (wsV RX5 232 RX5 yX5_faulted wsX5_faulted) := goodIn_app (goodIn_of _ (by decide +kernel)) ggX5_refusalOfCells_X5_faulted
set_option maxRecDepth 20000 in
theorem ggX5_refusalOfCells_X2_hasFrom : GoodIn wsX5_refusalOfCells wsX2_hasFrom := goodIn_r _ [28, 29, 43, 44, 45, 46] (by decide +kernel) (by decide +kernel)
set_option maxRecDepth 20000 in
theorem gX5_refusalOfCells_X2_hasFrom : GoodIn wsX5_refusalOfCells (wsV RX5 258 RX2 yX2_hasFrom wsX2_hasFrom) := goodIn_app (goodIn_of _ (by decide +kernel)) ggX5_refusalOfCells_X2_hasFrom
theorem dX5_refusalOfCells_0 : decode cX5_refusalOfCells 0 = .ok (.aload_n 0, 1) := by decide +kernel
theorem dX5_refusalOfCells_1 : decode cX5_refusalOfCells 1 = .ok (.iconst 0, 1) := by decide +kernel
theorem dX5_refusalOfCells_2 : decode cX5_refusalOfCells 2 = .ok (.putfield 67, 3) := by decide +kernel
theorem dX5_refusalOfCells_5 : decode cX5_refusalOfCells 5 = .ok (.aload_n 0, 1) := by decide +kernel
theorem dX5_refusalOfCells_6 : decode cX5_refusalOfCells 6 = .ok (.iload_n 1, 1) := by decide +kernel
theorem dX5_refusalOfCells_7 : decode cX5_refusalOfCells 7 = .ok (.invokevirtual 105, 3) := by decide +kernel
theorem dX5_refusalOfCells_10 : decode cX5_refusalOfCells 10 = .ok (.astore 5, 2) := by decide +kernel
theorem dX5_refusalOfCells_12 : decode cX5_refusalOfCells 12 = .ok (.aload 5, 2) := by decide +kernel
theorem dX5_refusalOfCells_14 : decode cX5_refusalOfCells 14 = .ok (.ifnonnull 5, 3) := by decide +kernel
theorem dX5_refusalOfCells_17 : decode cX5_refusalOfCells 17 = .ok (.iconst (-1), 1) := by decide +kernel
theorem dX5_refusalOfCells_18 : decode cX5_refusalOfCells 18 = .ok (.ireturn, 1) := by decide +kernel
theorem dX5_refusalOfCells_19 : decode cX5_refusalOfCells 19 = .ok (.iload_n 2, 1) := by decide +kernel
theorem dX5_refusalOfCells_20 : decode cX5_refusalOfCells 20 = .ok (.invokestatic 229, 3) := by decide +kernel
theorem dX5_refusalOfCells_23 : decode cX5_refusalOfCells 23 = .ok (.ifCond .ne 6, 3) := by decide +kernel
theorem dX5_refusalOfCells_26 : decode cX5_refusalOfCells 26 = .ok (.bipush (-2), 2) := by decide +kernel
theorem dX5_refusalOfCells_28 : decode cX5_refusalOfCells 28 = .ok (.ireturn, 1) := by decide +kernel
theorem dX5_refusalOfCells_29 : decode cX5_refusalOfCells 29 = .ok (.aload 5, 2) := by decide +kernel
theorem dX5_refusalOfCells_31 : decode cX5_refusalOfCells 31 = .ok (.iload_n 2, 1) := by decide +kernel
theorem dX5_refusalOfCells_32 : decode cX5_refusalOfCells 32 = .ok (.invokevirtual 249, 3) := by decide +kernel
theorem dX5_refusalOfCells_35 : decode cX5_refusalOfCells 35 = .ok (.istore 6, 2) := by decide +kernel
theorem dX5_refusalOfCells_37 : decode cX5_refusalOfCells 37 = .ok (.iload 6, 2) := by decide +kernel
theorem dX5_refusalOfCells_39 : decode cX5_refusalOfCells 39 = .ok (.ifCond .eq 10, 3) := by decide +kernel
theorem dX5_refusalOfCells_42 : decode cX5_refusalOfCells 42 = .ok (.aload_n 0, 1) := by decide +kernel
theorem dX5_refusalOfCells_43 : decode cX5_refusalOfCells 43 = .ok (.iload 6, 2) := by decide +kernel
theorem dX5_refusalOfCells_45 : decode cX5_refusalOfCells 45 = .ok (.invokevirtual 232, 3) := by decide +kernel
theorem dX5_refusalOfCells_48 : decode cX5_refusalOfCells 48 = .ok (.ireturn, 1) := by decide +kernel
theorem dX5_refusalOfCells_49 : decode cX5_refusalOfCells 49 = .ok (.iload 4, 2) := by decide +kernel
theorem dX5_refusalOfCells_51 : decode cX5_refusalOfCells 51 = .ok (.ifCond .ge 9, 3) := by decide +kernel
theorem dX5_refusalOfCells_54 : decode cX5_refusalOfCells 54 = .ok (.aload_n 0, 1) := by decide +kernel
theorem dX5_refusalOfCells_55 : decode cX5_refusalOfCells 55 = .ok (.iconst 4, 1) := by decide +kernel
theorem dX5_refusalOfCells_56 : decode cX5_refusalOfCells 56 = .ok (.invokevirtual 232, 3) := by decide +kernel
theorem dX5_refusalOfCells_59 : decode cX5_refusalOfCells 59 = .ok (.ireturn, 1) := by decide +kernel
theorem dX5_refusalOfCells_60 : decode cX5_refusalOfCells 60 = .ok (.aload 5, 2) := by decide +kernel
theorem dX5_refusalOfCells_62 : decode cX5_refusalOfCells 62 = .ok (.iload_n 3, 1) := by decide +kernel
theorem dX5_refusalOfCells_63 : decode cX5_refusalOfCells 63 = .ok (.iload 4, 2) := by decide +kernel
theorem dX5_refusalOfCells_65 : decode cX5_refusalOfCells 65 = .ok (.invokevirtual 258, 3) := by decide +kernel
theorem dX5_refusalOfCells_68 : decode cX5_refusalOfCells 68 = .ok (.ifCond .eq 7, 3) := by decide +kernel
theorem dX5_refusalOfCells_71 : decode cX5_refusalOfCells 71 = .ok (.iconst 0, 1) := by decide +kernel
theorem dX5_refusalOfCells_72 : decode cX5_refusalOfCells 72 = .ok (.goto 8, 3) := by decide +kernel
theorem dX5_refusalOfCells_75 : decode cX5_refusalOfCells 75 = .ok (.aload_n 0, 1) := by decide +kernel
theorem dX5_refusalOfCells_76 : decode cX5_refusalOfCells 76 = .ok (.iconst 3, 1) := by decide +kernel
theorem dX5_refusalOfCells_77 : decode cX5_refusalOfCells 77 = .ok (.invokevirtual 232, 3) := by decide +kernel
theorem dX5_refusalOfCells_80 : decode cX5_refusalOfCells 80 = .ok (.ireturn, 1) := by decide +kernel
set_option maxRecDepth 20000 in
theorem ggX5_refusalOfRow_X5_refusalOfCells : GoodIn wsX5_refusalOfRow wsX5_refusalOfCells := goodIn_r _ [5, 6, 7, 8, 9, 4, 10, 11, 12, 13, 14, 15, 16, 17, 18, 19, 20, 21, 22, 23, 24, 25, 26, 27, 28, 29, 30, 31, 32, 33, 43, 44, 45, 46, 47, 48, 49, 50, 51, 52, 53, 54, 55, 56, 57, 58, 59] (by decide +kernel) (by decide +kernel)
set_option maxRecDepth 20000 in
theorem gX5_refusalOfRow_X5_refusalOfCells : GoodIn wsX5_refusalOfRow (wsV RX5 101 RX5 yX5_refusalOfCells wsX5_refusalOfCells) := goodIn_app (goodIn_of _ (by decide +kernel)) ggX5_refusalOfRow_X5_refusalOfCells
set_option maxRecDepth 20000 in
theorem ggX5_refusalOfRow_X5_sheetAt : GoodIn wsX5_refusalOfRow wsX5_sheetAt := goodIn_r _ [10, 11, 43, 44, 45, 46, 47, 48, 49, 50, 51, 52, 53, 54, 55] (by decide +kernel) (by decide +kernel)
set_option maxRecDepth 20000 in
theorem gX5_refusalOfRow_X5_sheetAt : GoodIn wsX5_refusalOfRow (wsV RX5 105 RX5 yX5_sheetAt wsX5_sheetAt) := goodIn_app (goodIn_of _ (by decide +kernel)) ggX5_refusalOfRow_X5_sheetAt
set_option maxRecDepth 20000 in
theorem ggX5_refusalOfRow_X5_within : GoodIn wsX5_refusalOfRow wsX5_within := goodIn_r _ [17] (by decide +kernel) (by decide +kernel)
set_option maxRecDepth 20000 in
theorem gX5_refusalOfRow_X5_within : GoodIn wsX5_refusalOfRow (va_wsS RX5 75 yX5_within wsX5_within) := goodIn_app (goodIn_of _ (by decide +kernel)) ggX5_refusalOfRow_X5_within
set_option maxRecDepth 20000 in
theorem ggX5_refusalOfRow_X2_number : GoodIn wsX5_refusalOfRow wsX2_number := goodIn_r _ [37, 38, 39, 40, 41, 21, 42, 33, 56, 57, 58, 59] (by decide +kernel) (by decide +kernel)
set_option maxRecDepth 20000 in
theorem gX5_refusalOfRow_X2_number : GoodIn wsX5_refusalOfRow (wsV RX5 252 RX2 yX2_number wsX2_number) := goodIn_app (goodIn_of _ (by decide +kernel)) ggX5_refusalOfRow_X2_number
theorem dX5_refusalOfRow_0 : decode cX5_refusalOfRow 0 = .ok (.aload_n 0, 1) := by decide +kernel
theorem dX5_refusalOfRow_1 : decode cX5_refusalOfRow 1 = .ok (.iload_n 1, 1) := by decide +kernel
theorem dX5_refusalOfRow_2 : decode cX5_refusalOfRow 2 = .ok (.iload_n 2, 1) := by decide +kernel
theorem dX5_refusalOfRow_3 : decode cX5_refusalOfRow 3 = .ok (.iload_n 3, 1) := by decide +kernel
theorem dX5_refusalOfRow_4 : decode cX5_refusalOfRow 4 = .ok (.iload 4, 2) := by decide +kernel
theorem dX5_refusalOfRow_6 : decode cX5_refusalOfRow 6 = .ok (.invokevirtual 101, 3) := by decide +kernel
theorem dX5_refusalOfRow_9 : decode cX5_refusalOfRow 9 = .ok (.istore 7, 2) := by decide +kernel
theorem dX5_refusalOfRow_11 : decode cX5_refusalOfRow 11 = .ok (.aload_n 0, 1) := by decide +kernel
theorem dX5_refusalOfRow_12 : decode cX5_refusalOfRow 12 = .ok (.iload_n 1, 1) := by decide +kernel
theorem dX5_refusalOfRow_13 : decode cX5_refusalOfRow 13 = .ok (.invokevirtual 105, 3) := by decide +kernel
theorem dX5_refusalOfRow_16 : decode cX5_refusalOfRow 16 = .ok (.astore 8, 2) := by decide +kernel
theorem dX5_refusalOfRow_18 : decode cX5_refusalOfRow 18 = .ok (.iload 7, 2) := by decide +kernel
theorem dX5_refusalOfRow_20 : decode cX5_refusalOfRow 20 = .ok (.ifCond .ne 8, 3) := by decide +kernel
theorem dX5_refusalOfRow_23 : decode cX5_refusalOfRow 23 = .ok (.aload 8, 2) := by decide +kernel
theorem dX5_refusalOfRow_25 : decode cX5_refusalOfRow 25 = .ok (.ifnonnull 6, 3) := by decide +kernel
theorem dX5_refusalOfRow_28 : decode cX5_refusalOfRow 28 = .ok (.iload 7, 2) := by decide +kernel
theorem dX5_refusalOfRow_30 : decode cX5_refusalOfRow 30 = .ok (.ireturn, 1) := by decide +kernel
theorem dX5_refusalOfRow_31 : decode cX5_refusalOfRow 31 = .ok (.iload 4, 2) := by decide +kernel
theorem dX5_refusalOfRow_33 : decode cX5_refusalOfRow 33 = .ok (.iconst 1, 1) := by decide +kernel
theorem dX5_refusalOfRow_34 : decode cX5_refusalOfRow 34 = .ok (.bipush 20, 2) := by decide +kernel
theorem dX5_refusalOfRow_36 : decode cX5_refusalOfRow 36 = .ok (.invokestatic 75, 3) := by decide +kernel
theorem dX5_refusalOfRow_39 : decode cX5_refusalOfRow 39 = .ok (.ifCond .ne 6, 3) := by decide +kernel
theorem dX5_refusalOfRow_42 : decode cX5_refusalOfRow 42 = .ok (.bipush (-2), 2) := by decide +kernel
theorem dX5_refusalOfRow_44 : decode cX5_refusalOfRow 44 = .ok (.ireturn, 1) := by decide +kernel
theorem dX5_refusalOfRow_45 : decode cX5_refusalOfRow 45 = .ok (.iconst 0, 1) := by decide +kernel
theorem dX5_refusalOfRow_46 : decode cX5_refusalOfRow 46 = .ok (.istore 9, 2) := by decide +kernel
theorem dX5_refusalOfRow_48 : decode cX5_refusalOfRow 48 = .ok (.iload 9, 2) := by decide +kernel
theorem dX5_refusalOfRow_50 : decode cX5_refusalOfRow 50 = .ok (.iload 4, 2) := by decide +kernel
theorem dX5_refusalOfRow_52 : decode cX5_refusalOfRow 52 = .ok (.if_icmp .ge 31, 3) := by decide +kernel
theorem dX5_refusalOfRow_55 : decode cX5_refusalOfRow 55 = .ok (.aload 8, 2) := by decide +kernel
theorem dX5_refusalOfRow_57 : decode cX5_refusalOfRow 57 = .ok (.iload_n 3, 1) := by decide +kernel
theorem dX5_refusalOfRow_58 : decode cX5_refusalOfRow 58 = .ok (.iload 9, 2) := by decide +kernel
theorem dX5_refusalOfRow_60 : decode cX5_refusalOfRow 60 = .ok (.iadd, 1) := by decide +kernel
theorem dX5_refusalOfRow_61 : decode cX5_refusalOfRow 61 = .ok (.invokevirtual 252, 3) := by decide +kernel
theorem dX5_refusalOfRow_64 : decode cX5_refusalOfRow 64 = .ok (.iload 5, 2) := by decide +kernel
theorem dX5_refusalOfRow_66 : decode cX5_refusalOfRow 66 = .ok (.iload 6, 2) := by decide +kernel
theorem dX5_refusalOfRow_68 : decode cX5_refusalOfRow 68 = .ok (.invokestatic 75, 3) := by decide +kernel
theorem dX5_refusalOfRow_71 : decode cX5_refusalOfRow 71 = .ok (.ifCond .ne 6, 3) := by decide +kernel
theorem dX5_refusalOfRow_74 : decode cX5_refusalOfRow 74 = .ok (.bipush (-2), 2) := by decide +kernel
theorem dX5_refusalOfRow_76 : decode cX5_refusalOfRow 76 = .ok (.ireturn, 1) := by decide +kernel
theorem dX5_refusalOfRow_77 : decode cX5_refusalOfRow 77 = .ok (.iinc 9 1, 3) := by decide +kernel
theorem dX5_refusalOfRow_80 : decode cX5_refusalOfRow 80 = .ok (.goto (-32), 3) := by decide +kernel
theorem dX5_refusalOfRow_83 : decode cX5_refusalOfRow 83 = .ok (.iconst 0, 1) := by decide +kernel
theorem dX5_refusalOfRow_84 : decode cX5_refusalOfRow 84 = .ok (.ireturn, 1) := by decide +kernel
set_option maxRecDepth 20000 in
theorem ggX5_takeCells_X5_sheetAt : GoodIn wsX5_takeCells wsX5_sheetAt := goodIn_r _ [5, 6, 18, 19, 20, 21, 22, 23, 24, 25, 26, 27, 28, 29, 30] (by decide +kernel) (by decide +kernel)
set_option maxRecDepth 20000 in
theorem gX5_takeCells_X5_sheetAt : GoodIn wsX5_takeCells (wsV RX5 105 RX5 yX5_sheetAt wsX5_sheetAt) := goodIn_app (goodIn_of _ (by decide +kernel)) ggX5_takeCells_X5_sheetAt
set_option maxRecDepth 20000 in
theorem ggX5_takeCells_X2_number : GoodIn wsX5_takeCells wsX2_number := goodIn_r _ [11, 12, 13, 14, 15, 10, 16, 17, 31, 32, 33, 34] (by decide +kernel) (by decide +kernel)
set_option maxRecDepth 20000 in
theorem gX5_takeCells_X2_number : GoodIn wsX5_takeCells (wsV RX5 252 RX2 yX2_number wsX2_number) := goodIn_app (goodIn_of _ (by decide +kernel)) ggX5_takeCells_X2_number
theorem dX5_takeCells_0 : decode cX5_takeCells 0 = .ok (.aload_n 0, 1) := by decide +kernel
theorem dX5_takeCells_1 : decode cX5_takeCells 1 = .ok (.iload_n 1, 1) := by decide +kernel
theorem dX5_takeCells_2 : decode cX5_takeCells 2 = .ok (.invokevirtual 105, 3) := by decide +kernel
theorem dX5_takeCells_5 : decode cX5_takeCells 5 = .ok (.astore 5, 2) := by decide +kernel
theorem dX5_takeCells_7 : decode cX5_takeCells 7 = .ok (.aload 5, 2) := by decide +kernel
theorem dX5_takeCells_9 : decode cX5_takeCells 9 = .ok (.ifnonnull 4, 3) := by decide +kernel
theorem dX5_takeCells_12 : decode cX5_takeCells 12 = .ok (.return_, 1) := by decide +kernel
theorem dX5_takeCells_13 : decode cX5_takeCells 13 = .ok (.iconst 0, 1) := by decide +kernel
theorem dX5_takeCells_14 : decode cX5_takeCells 14 = .ok (.istore 6, 2) := by decide +kernel
theorem dX5_takeCells_16 : decode cX5_takeCells 16 = .ok (.iload 6, 2) := by decide +kernel
theorem dX5_takeCells_18 : decode cX5_takeCells 18 = .ok (.iload_n 3, 1) := by decide +kernel
theorem dX5_takeCells_19 : decode cX5_takeCells 19 = .ok (.if_icmp .ge 31, 3) := by decide +kernel
theorem dX5_takeCells_22 : decode cX5_takeCells 22 = .ok (.iload 6, 2) := by decide +kernel
theorem dX5_takeCells_24 : decode cX5_takeCells 24 = .ok (.aload 4, 2) := by decide +kernel
theorem dX5_takeCells_26 : decode cX5_takeCells 26 = .ok (.arraylength, 1) := by decide +kernel
theorem dX5_takeCells_27 : decode cX5_takeCells 27 = .ok (.if_icmp .ge 23, 3) := by decide +kernel
theorem dX5_takeCells_30 : decode cX5_takeCells 30 = .ok (.aload 4, 2) := by decide +kernel
theorem dX5_takeCells_32 : decode cX5_takeCells 32 = .ok (.iload 6, 2) := by decide +kernel
theorem dX5_takeCells_34 : decode cX5_takeCells 34 = .ok (.aload 5, 2) := by decide +kernel
theorem dX5_takeCells_36 : decode cX5_takeCells 36 = .ok (.iload_n 2, 1) := by decide +kernel
theorem dX5_takeCells_37 : decode cX5_takeCells 37 = .ok (.iload 6, 2) := by decide +kernel
theorem dX5_takeCells_39 : decode cX5_takeCells 39 = .ok (.iadd, 1) := by decide +kernel
theorem dX5_takeCells_40 : decode cX5_takeCells 40 = .ok (.invokevirtual 252, 3) := by decide +kernel
theorem dX5_takeCells_43 : decode cX5_takeCells 43 = .ok (.iastore, 1) := by decide +kernel
theorem dX5_takeCells_44 : decode cX5_takeCells 44 = .ok (.iinc 6 1, 3) := by decide +kernel
theorem dX5_takeCells_47 : decode cX5_takeCells 47 = .ok (.goto (-31), 3) := by decide +kernel
theorem dX5_takeCells_50 : decode cX5_takeCells 50 = .ok (.return_, 1) := by decide +kernel
theorem dX5_leave_0 : decode cX5_leave 0 = .ok (.aload_n 0, 1) := by decide +kernel
theorem dX5_leave_1 : decode cX5_leave 1 = .ok (.bipush 31, 2) := by decide +kernel
theorem dX5_leave_3 : decode cX5_leave 3 = .ok (.aload_n 0, 1) := by decide +kernel
theorem dX5_leave_4 : decode cX5_leave 4 = .ok (.getfield 64, 3) := by decide +kernel
theorem dX5_leave_7 : decode cX5_leave 7 = .ok (.imul, 1) := by decide +kernel
theorem dX5_leave_8 : decode cX5_leave 8 = .ok (.iload_n 1, 1) := by decide +kernel
theorem dX5_leave_9 : decode cX5_leave 9 = .ok (.iadd, 1) := by decide +kernel
theorem dX5_leave_10 : decode cX5_leave 10 = .ok (.putfield 64, 3) := by decide +kernel
theorem dX5_leave_13 : decode cX5_leave 13 = .ok (.return_, 1) := by decide +kernel
set_option maxRecDepth 20000 in
theorem ggX5_tellSunk_X5_leave : GoodIn wsX5_tellSunk wsX5_leave := goodIn_r _ [6, 7, 15, 16, 17, 18, 19, 20, 21, 22, 23, 24, 25, 26, 27] (by decide +kernel) (by decide +kernel)
set_option maxRecDepth 20000 in
theorem gX5_tellSunk_X5_leave : GoodIn wsX5_tellSunk (wsV RX5 283 RX5 yX5_leave wsX5_leave) := goodIn_app (goodIn_of _ (by decide +kernel)) ggX5_tellSunk_X5_leave
set_option maxRecDepth 20000 in
theorem ggX5_tellSunk_X0_value : GoodIn wsX5_tellSunk wsX0_value := goodIn_r _ [12, 13, 14, 28, 29, 30, 31, 32, 33, 34, 35] (by decide +kernel) (by decide +kernel)
set_option maxRecDepth 20000 in
theorem gX5_tellSunk_X0_value : GoodIn wsX5_tellSunk (wsV RX5 171 RX0 yX0_value wsX0_value) := goodIn_app (goodIn_of _ (by decide +kernel)) ggX5_tellSunk_X0_value
theorem dX5_tellSunk_0 : decode cX5_tellSunk 0 = .ok (.aload_n 0, 1) := by decide +kernel
theorem dX5_tellSunk_1 : decode cX5_tellSunk 1 = .ok (.iconst 1, 1) := by decide +kernel
theorem dX5_tellSunk_2 : decode cX5_tellSunk 2 = .ok (.invokevirtual 283, 3) := by decide +kernel
theorem dX5_tellSunk_5 : decode cX5_tellSunk 5 = .ok (.aload_n 0, 1) := by decide +kernel
theorem dX5_tellSunk_6 : decode cX5_tellSunk 6 = .ok (.getfield 38, 3) := by decide +kernel
theorem dX5_tellSunk_9 : decode cX5_tellSunk 9 = .ok (.iload_n 1, 1) := by decide +kernel
theorem dX5_tellSunk_10 : decode cX5_tellSunk 10 = .ok (.iconst 1, 1) := by decide +kernel
theorem dX5_tellSunk_11 : decode cX5_tellSunk 11 = .ok (.invokevirtual 171, 3) := by decide +kernel
theorem dX5_tellSunk_14 : decode cX5_tellSunk 14 = .ok (.ireturn, 1) := by decide +kernel
set_option maxRecDepth 20000 in
theorem ggX5_tellClean_X5_leave : GoodIn wsX5_tellClean wsX5_leave := goodIn_r _ [5, 6, 19, 20, 21, 22, 23, 24, 25, 26, 27, 28, 29, 30, 31] (by decide +kernel) (by decide +kernel)
set_option maxRecDepth 20000 in
theorem gX5_tellClean_X5_leave : GoodIn wsX5_tellClean (wsV RX5 283 RX5 yX5_leave wsX5_leave) := goodIn_app (goodIn_of _ (by decide +kernel)) ggX5_tellClean_X5_leave
set_option maxRecDepth 20000 in
theorem ggX5_tellClean_X5_tellSunk : GoodIn wsX5_tellClean wsX5_tellSunk := goodIn_r _ [10, 11, 1, 2, 3, 4, 5, 6, 12, 13, 14, 15, 16, 17, 18, 19, 20, 21, 22, 23, 24, 25, 26, 27, 28, 29, 30, 31, 32, 33, 34, 35, 36, 37, 38, 39] (by decide +kernel) (by decide +kernel)
set_option maxRecDepth 20000 in
theorem gX5_tellClean_X5_tellSunk : GoodIn wsX5_tellClean (wsV RX5 280 RX5 yX5_tellSunk wsX5_tellSunk) := goodIn_app (goodIn_of _ (by decide +kernel)) ggX5_tellClean_X5_tellSunk
theorem dX5_tellClean_0 : decode cX5_tellClean 0 = .ok (.aload_n 0, 1) := by decide +kernel
theorem dX5_tellClean_1 : decode cX5_tellClean 1 = .ok (.iconst 2, 1) := by decide +kernel
theorem dX5_tellClean_2 : decode cX5_tellClean 2 = .ok (.invokevirtual 283, 3) := by decide +kernel
theorem dX5_tellClean_5 : decode cX5_tellClean 5 = .ok (.aload_n 0, 1) := by decide +kernel
theorem dX5_tellClean_6 : decode cX5_tellClean 6 = .ok (.iload_n 1, 1) := by decide +kernel
theorem dX5_tellClean_7 : decode cX5_tellClean 7 = .ok (.invokevirtual 280, 3) := by decide +kernel
theorem dX5_tellClean_10 : decode cX5_tellClean 10 = .ok (.sipush 1000, 3) := by decide +kernel
theorem dX5_tellClean_13 : decode cX5_tellClean 13 = .ok (.iadd, 1) := by decide +kernel
theorem dX5_tellClean_14 : decode cX5_tellClean 14 = .ok (.ireturn, 1) := by decide +kernel
set_option maxRecDepth 20000 in
theorem ggX5_tellSkating_X5_leave : GoodIn wsX5_tellSkating wsX5_leave := goodIn_r _ [5, 6, 23, 24, 25, 26, 27, 28, 29, 30, 31, 32, 33, 34, 35] (by decide +kernel) (by decide +kernel)
set_option maxRecDepth 20000 in
theorem gX5_tellSkating_X5_leave : GoodIn wsX5_tellSkating (wsV RX5 283 RX5 yX5_leave wsX5_leave) := goodIn_app (goodIn_of _ (by decide +kernel)) ggX5_tellSkating_X5_leave
set_option maxRecDepth 20000 in
theorem ggX5_tellSkating_X5_tellClean : GoodIn wsX5_tellSkating wsX5_tellClean := goodIn_r _ [10, 1, 2, 3, 4, 5, 6, 11, 12, 13, 14, 15, 16, 17, 18, 19, 20, 21, 22, 23, 24, 25, 26, 27, 28, 29, 30, 31, 32, 33, 34, 35, 36, 37, 38, 39, 40, 41, 42, 43] (by decide +kernel) (by decide +kernel)
set_option maxRecDepth 20000 in
theorem gX5_tellSkating_X5_tellClean : GoodIn wsX5_tellSkating (wsV RX5 271 RX5 yX5_tellClean wsX5_tellClean) := goodIn_app (goodIn_of _ (by decide +kernel)) ggX5_tellSkating_X5_tellClean
set_option maxRecDepth 20000 in
theorem ggX5_tellSkating_X5_tellSunk : GoodIn wsX5_tellSkating wsX5_tellSunk := goodIn_r _ [14, 15, 1, 2, 3, 4, 5, 6, 16, 17, 18, 19, 20, 21, 22, 23, 24, 25, 26, 27, 28, 29, 30, 31, 32, 33, 34, 35, 36, 37, 38, 39, 40, 41, 42, 43] (by decide +kernel) (by decide +kernel)
set_option maxRecDepth 20000 in
theorem gX5_tellSkating_X5_tellSunk : GoodIn wsX5_tellSkating (wsV RX5 280 RX5 yX5_tellSunk wsX5_tellSunk) := goodIn_app (goodIn_of _ (by decide +kernel)) ggX5_tellSkating_X5_tellSunk
theorem dX5_tellSkating_0 : decode cX5_tellSkating 0 = .ok (.aload_n 0, 1) := by decide +kernel
theorem dX5_tellSkating_1 : decode cX5_tellSkating 1 = .ok (.iconst 3, 1) := by decide +kernel
theorem dX5_tellSkating_2 : decode cX5_tellSkating 2 = .ok (.invokevirtual 283, 3) := by decide +kernel
theorem dX5_tellSkating_5 : decode cX5_tellSkating 5 = .ok (.aload_n 0, 1) := by decide +kernel
theorem dX5_tellSkating_6 : decode cX5_tellSkating 6 = .ok (.iload_n 1, 1) := by decide +kernel
theorem dX5_tellSkating_7 : decode cX5_tellSkating 7 = .ok (.invokevirtual 271, 3) := by decide +kernel
theorem dX5_tellSkating_10 : decode cX5_tellSkating 10 = .ok (.istore_n 2, 1) := by decide +kernel
theorem dX5_tellSkating_11 : decode cX5_tellSkating 11 = .ok (.iload_n 2, 1) := by decide +kernel
theorem dX5_tellSkating_12 : decode cX5_tellSkating 12 = .ok (.aload_n 0, 1) := by decide +kernel
theorem dX5_tellSkating_13 : decode cX5_tellSkating 13 = .ok (.iload_n 1, 1) := by decide +kernel
theorem dX5_tellSkating_14 : decode cX5_tellSkating 14 = .ok (.invokevirtual 280, 3) := by decide +kernel
theorem dX5_tellSkating_17 : decode cX5_tellSkating 17 = .ok (.iadd, 1) := by decide +kernel
theorem dX5_tellSkating_18 : decode cX5_tellSkating 18 = .ok (.ireturn, 1) := by decide +kernel
set_option maxRecDepth 20000 in
theorem ggX5_tellSteep_X5_leave : GoodIn wsX5_tellSteep wsX5_leave := goodIn_r _ [5, 6, 23, 24, 25, 26, 27, 28, 29, 30, 31, 32, 33, 34, 35] (by decide +kernel) (by decide +kernel)
set_option maxRecDepth 20000 in
theorem gX5_tellSteep_X5_leave : GoodIn wsX5_tellSteep (wsV RX5 283 RX5 yX5_leave wsX5_leave) := goodIn_app (goodIn_of _ (by decide +kernel)) ggX5_tellSteep_X5_leave
set_option maxRecDepth 20000 in
theorem ggX5_tellSteep_X5_tellClean : GoodIn wsX5_tellSteep wsX5_tellClean := goodIn_r _ [10, 1, 2, 3, 4, 5, 6, 11, 12, 13, 14, 15, 16, 17, 18, 19, 20, 21, 22, 23, 24, 25, 26, 27, 28, 29, 30, 31, 32, 33, 34, 35, 36, 37, 38, 39, 40, 41, 42, 43] (by decide +kernel) (by decide +kernel)
set_option maxRecDepth 20000 in
theorem gX5_tellSteep_X5_tellClean : GoodIn wsX5_tellSteep (wsV RX5 271 RX5 yX5_tellClean wsX5_tellClean) := goodIn_app (goodIn_of _ (by decide +kernel)) ggX5_tellSteep_X5_tellClean
theorem dX5_tellSteep_0 : decode cX5_tellSteep 0 = .ok (.aload_n 0, 1) := by decide +kernel
theorem dX5_tellSteep_1 : decode cX5_tellSteep 1 = .ok (.bipush 6, 2) := by decide +kernel
theorem dX5_tellSteep_3 : decode cX5_tellSteep 3 = .ok (.invokevirtual 283, 3) := by decide +kernel
theorem dX5_tellSteep_6 : decode cX5_tellSteep 6 = .ok (.aload_n 0, 1) := by decide +kernel
theorem dX5_tellSteep_7 : decode cX5_tellSteep 7 = .ok (.iload_n 1, 1) := by decide +kernel
theorem dX5_tellSteep_8 : decode cX5_tellSteep 8 = .ok (.invokevirtual 271, 3) := by decide +kernel
theorem dX5_tellSteep_11 : decode cX5_tellSteep 11 = .ok (.sipush 5000, 3) := by decide +kernel
theorem dX5_tellSteep_14 : decode cX5_tellSteep 14 = .ok (.iadd, 1) := by decide +kernel
theorem dX5_tellSteep_15 : decode cX5_tellSteep 15 = .ok (.ireturn, 1) := by decide +kernel
