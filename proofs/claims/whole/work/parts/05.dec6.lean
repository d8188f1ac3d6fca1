set_option maxRecDepth 20000 in
theorem ggX6_init_X6_firstOf : GoodIn wsX6_init wsX6_firstOf := goodIn_r _ [26] (by decide +kernel) (by decide +kernel)
set_option maxRecDepth 20000 in
theorem gX6_init_X6_firstOf : GoodIn wsX6_init (va_wsS RX6 55 yX6_firstOf wsX6_firstOf) := goodIn_app (goodIn_of _ (by decide +kernel)) ggX6_init_X6_firstOf
theorem dX6_init_0 : decode cX6_init 0 = .ok (.aload_n 0, 1) := by decide +kernel
theorem dX6_init_1 : decode cX6_init 1 = .ok (.invokespecial 1, 3) := by decide +kernel
theorem dX6_init_4 : decode cX6_init 4 = .ok (.aload_n 0, 1) := by decide +kernel
theorem dX6_init_5 : decode cX6_init 5 = .ok (.bipush 8, 2) := by decide +kernel
theorem dX6_init_7 : decode cX6_init 7 = .ok (.newarray .int, 2) := by decide +kernel
theorem dX6_init_9 : decode cX6_init 9 = .ok (.putfield 7, 3) := by decide +kernel
theorem dX6_init_12 : decode cX6_init 12 = .ok (.aload_n 0, 1) := by decide +kernel
theorem dX6_init_13 : decode cX6_init 13 = .ok (.bipush 8, 2) := by decide +kernel
theorem dX6_init_15 : decode cX6_init 15 = .ok (.newarray .int, 2) := by decide +kernel
theorem dX6_init_17 : decode cX6_init 17 = .ok (.putfield 13, 3) := by decide +kernel
theorem dX6_init_20 : decode cX6_init 20 = .ok (.aload_n 0, 1) := by decide +kernel
theorem dX6_init_21 : decode cX6_init 21 = .ok (.bipush 8, 2) := by decide +kernel
theorem dX6_init_23 : decode cX6_init 23 = .ok (.newarray .int, 2) := by decide +kernel
theorem dX6_init_25 : decode cX6_init 25 = .ok (.putfield 16, 3) := by decide +kernel
theorem dX6_init_28 : decode cX6_init 28 = .ok (.aload_n 0, 1) := by decide +kernel
theorem dX6_init_29 : decode cX6_init 29 = .ok (.bipush 8, 2) := by decide +kernel
theorem dX6_init_31 : decode cX6_init 31 = .ok (.newarray .int, 2) := by decide +kernel
theorem dX6_init_33 : decode cX6_init 33 = .ok (.putfield 19, 3) := by decide +kernel
theorem dX6_init_36 : decode cX6_init 36 = .ok (.aload_n 0, 1) := by decide +kernel
theorem dX6_init_37 : decode cX6_init 37 = .ok (.bipush 8, 2) := by decide +kernel
theorem dX6_init_39 : decode cX6_init 39 = .ok (.newarray .int, 2) := by decide +kernel
theorem dX6_init_41 : decode cX6_init 41 = .ok (.putfield 22, 3) := by decide +kernel
theorem dX6_init_44 : decode cX6_init 44 = .ok (.aload_n 0, 1) := by decide +kernel
theorem dX6_init_45 : decode cX6_init 45 = .ok (.bipush 6, 2) := by decide +kernel
theorem dX6_init_47 : decode cX6_init 47 = .ok (.newarray .int, 2) := by decide +kernel
theorem dX6_init_49 : decode cX6_init 49 = .ok (.putfield 25, 3) := by decide +kernel
theorem dX6_init_52 : decode cX6_init 52 = .ok (.aload_n 0, 1) := by decide +kernel
theorem dX6_init_53 : decode cX6_init 53 = .ok (.bipush 6, 2) := by decide +kernel
theorem dX6_init_55 : decode cX6_init 55 = .ok (.newarray .int, 2) := by decide +kernel
theorem dX6_init_57 : decode cX6_init 57 = .ok (.putfield 28, 3) := by decide +kernel
theorem dX6_init_60 : decode cX6_init 60 = .ok (.aload_n 0, 1) := by decide +kernel
theorem dX6_init_61 : decode cX6_init 61 = .ok (.bipush 20, 2) := by decide +kernel
theorem dX6_init_63 : decode cX6_init 63 = .ok (.newarray .int, 2) := by decide +kernel
theorem dX6_init_65 : decode cX6_init 65 = .ok (.putfield 31, 3) := by decide +kernel
theorem dX6_init_68 : decode cX6_init 68 = .ok (.aload_n 0, 1) := by decide +kernel
theorem dX6_init_69 : decode cX6_init 69 = .ok (.sipush 810, 3) := by decide +kernel
theorem dX6_init_72 : decode cX6_init 72 = .ok (.newarray .int, 2) := by decide +kernel
theorem dX6_init_74 : decode cX6_init 74 = .ok (.putfield 34, 3) := by decide +kernel
theorem dX6_init_77 : decode cX6_init 77 = .ok (.aload_n 0, 1) := by decide +kernel
theorem dX6_init_78 : decode cX6_init 78 = .ok (.sipush 810, 3) := by decide +kernel
theorem dX6_init_81 : decode cX6_init 81 = .ok (.newarray .int, 2) := by decide +kernel
theorem dX6_init_83 : decode cX6_init 83 = .ok (.putfield 37, 3) := by decide +kernel
theorem dX6_init_86 : decode cX6_init 86 = .ok (.aload_n 0, 1) := by decide +kernel
theorem dX6_init_87 : decode cX6_init 87 = .ok (.bipush 20, 2) := by decide +kernel
theorem dX6_init_89 : decode cX6_init 89 = .ok (.newarray .int, 2) := by decide +kernel
theorem dX6_init_91 : decode cX6_init 91 = .ok (.putfield 40, 3) := by decide +kernel
theorem dX6_init_94 : decode cX6_init 94 = .ok (.aload_n 0, 1) := by decide +kernel
theorem dX6_init_95 : decode cX6_init 95 = .ok (.iconst 4, 1) := by decide +kernel
theorem dX6_init_96 : decode cX6_init 96 = .ok (.newarray .int, 2) := by decide +kernel
theorem dX6_init_98 : decode cX6_init 98 = .ok (.putfield 43, 3) := by decide +kernel
theorem dX6_init_101 : decode cX6_init 101 = .ok (.aload_n 0, 1) := by decide +kernel
theorem dX6_init_102 : decode cX6_init 102 = .ok (.iconst 4, 1) := by decide +kernel
theorem dX6_init_103 : decode cX6_init 103 = .ok (.newarray .int, 2) := by decide +kernel
theorem dX6_init_105 : decode cX6_init 105 = .ok (.putfield 46, 3) := by decide +kernel
theorem dX6_init_108 : decode cX6_init 108 = .ok (.aload_n 0, 1) := by decide +kernel
theorem dX6_init_109 : decode cX6_init 109 = .ok (.sipush 240, 3) := by decide +kernel
theorem dX6_init_112 : decode cX6_init 112 = .ok (.newarray .int, 2) := by decide +kernel
theorem dX6_init_114 : decode cX6_init 114 = .ok (.putfield 49, 3) := by decide +kernel
theorem dX6_init_117 : decode cX6_init 117 = .ok (.aload_n 0, 1) := by decide +kernel
theorem dX6_init_118 : decode cX6_init 118 = .ok (.bipush 60, 2) := by decide +kernel
theorem dX6_init_120 : decode cX6_init 120 = .ok (.newarray .int, 2) := by decide +kernel
theorem dX6_init_122 : decode cX6_init 122 = .ok (.putfield 52, 3) := by decide +kernel
theorem dX6_init_125 : decode cX6_init 125 = .ok (.iconst 0, 1) := by decide +kernel
theorem dX6_init_126 : decode cX6_init 126 = .ok (.istore_n 1, 1) := by decide +kernel
theorem dX6_init_127 : decode cX6_init 127 = .ok (.iload_n 1, 1) := by decide +kernel
theorem dX6_init_128 : decode cX6_init 128 = .ok (.bipush 6, 2) := by decide +kernel
theorem dX6_init_130 : decode cX6_init 130 = .ok (.if_icmp .ge 19, 3) := by decide +kernel
theorem dX6_init_133 : decode cX6_init 133 = .ok (.aload_n 0, 1) := by decide +kernel
theorem dX6_init_134 : decode cX6_init 134 = .ok (.getfield 25, 3) := by decide +kernel
theorem dX6_init_137 : decode cX6_init 137 = .ok (.iload_n 1, 1) := by decide +kernel
theorem dX6_init_138 : decode cX6_init 138 = .ok (.iload_n 1, 1) := by decide +kernel
theorem dX6_init_139 : decode cX6_init 139 = .ok (.invokestatic 55, 3) := by decide +kernel
theorem dX6_init_142 : decode cX6_init 142 = .ok (.iastore, 1) := by decide +kernel
theorem dX6_init_143 : decode cX6_init 143 = .ok (.iinc 1 1, 3) := by decide +kernel
theorem dX6_init_146 : decode cX6_init 146 = .ok (.goto (-19), 3) := by decide +kernel
theorem dX6_init_149 : decode cX6_init 149 = .ok (.aload_n 0, 1) := by decide +kernel
theorem dX6_init_150 : decode cX6_init 150 = .ok (.iconst 1, 1) := by decide +kernel
theorem dX6_init_151 : decode cX6_init 151 = .ok (.putfield 59, 3) := by decide +kernel
theorem dX6_init_154 : decode cX6_init 154 = .ok (.aload_n 0, 1) := by decide +kernel
theorem dX6_init_155 : decode cX6_init 155 = .ok (.bipush 30, 2) := by decide +kernel
theorem dX6_init_157 : decode cX6_init 157 = .ok (.putfield 63, 3) := by decide +kernel
theorem dX6_init_160 : decode cX6_init 160 = .ok (.aload_n 0, 1) := by decide +kernel
theorem dX6_init_161 : decode cX6_init 161 = .ok (.bipush 60, 2) := by decide +kernel
theorem dX6_init_163 : decode cX6_init 163 = .ok (.putfield 66, 3) := by decide +kernel
theorem dX6_init_166 : decode cX6_init 166 = .ok (.iconst 0, 1) := by decide +kernel
theorem dX6_init_167 : decode cX6_init 167 = .ok (.istore_n 1, 1) := by decide +kernel
theorem dX6_init_168 : decode cX6_init 168 = .ok (.iload_n 1, 1) := by decide +kernel
theorem dX6_init_169 : decode cX6_init 169 = .ok (.iconst 4, 1) := by decide +kernel
theorem dX6_init_170 : decode cX6_init 170 = .ok (.if_icmp .ge 16, 3) := by decide +kernel
theorem dX6_init_173 : decode cX6_init 173 = .ok (.aload_n 0, 1) := by decide +kernel
theorem dX6_init_174 : decode cX6_init 174 = .ok (.getfield 43, 3) := by decide +kernel
theorem dX6_init_177 : decode cX6_init 177 = .ok (.iload_n 1, 1) := by decide +kernel
theorem dX6_init_178 : decode cX6_init 178 = .ok (.iconst (-1), 1) := by decide +kernel
theorem dX6_init_179 : decode cX6_init 179 = .ok (.iastore, 1) := by decide +kernel
theorem dX6_init_180 : decode cX6_init 180 = .ok (.iinc 1 1, 3) := by decide +kernel
theorem dX6_init_183 : decode cX6_init 183 = .ok (.goto (-15), 3) := by decide +kernel
theorem dX6_init_186 : decode cX6_init 186 = .ok (.return_, 1) := by decide +kernel
theorem dX6_in_0 : decode cX6_in 0 = .ok (.lload_n 0, 1) := by decide +kernel
theorem dX6_in_1 : decode cX6_in 1 = .ok (.lload_n 2, 1) := by decide +kernel
theorem dX6_in_2 : decode cX6_in 2 = .ok (.lcmp, 1) := by decide +kernel
theorem dX6_in_3 : decode cX6_in 3 = .ok (.ifCond .lt 14, 3) := by decide +kernel
theorem dX6_in_6 : decode cX6_in 6 = .ok (.lload_n 0, 1) := by decide +kernel
theorem dX6_in_7 : decode cX6_in 7 = .ok (.lload 4, 2) := by decide +kernel
theorem dX6_in_9 : decode cX6_in 9 = .ok (.lcmp, 1) := by decide +kernel
theorem dX6_in_10 : decode cX6_in 10 = .ok (.ifCond .gt 7, 3) := by decide +kernel
theorem dX6_in_13 : decode cX6_in 13 = .ok (.iconst 1, 1) := by decide +kernel
theorem dX6_in_14 : decode cX6_in 14 = .ok (.goto 4, 3) := by decide +kernel
theorem dX6_in_17 : decode cX6_in 17 = .ok (.iconst 0, 1) := by decide +kernel
theorem dX6_in_18 : decode cX6_in 18 = .ok (.ireturn, 1) := by decide +kernel
theorem dX6_lost_0 : decode cX6_lost 0 = .ok (.ldc2_w 69, 3) := by decide +kernel
theorem dX6_lost_3 : decode cX6_lost 3 = .ok (.lreturn, 1) := by decide +kernel
theorem dX6_greater_0 : decode cX6_greater 0 = .ok (.iload_n 0, 1) := by decide +kernel
theorem dX6_greater_1 : decode cX6_greater 1 = .ok (.iload_n 1, 1) := by decide +kernel
theorem dX6_greater_2 : decode cX6_greater 2 = .ok (.if_icmp .le 7, 3) := by decide +kernel
theorem dX6_greater_5 : decode cX6_greater 5 = .ok (.iload_n 0, 1) := by decide +kernel
theorem dX6_greater_6 : decode cX6_greater 6 = .ok (.goto 4, 3) := by decide +kernel
theorem dX6_greater_9 : decode cX6_greater 9 = .ok (.iload_n 1, 1) := by decide +kernel
theorem dX6_greater_10 : decode cX6_greater 10 = .ok (.ireturn, 1) := by decide +kernel
theorem dX6_share_0 : decode cX6_share 0 = .ok (.lload_n 0, 1) := by decide +kernel
theorem dX6_share_1 : decode cX6_share 1 = .ok (.lstore 5, 2) := by decide +kernel
theorem dX6_share_3 : decode cX6_share 3 = .ok (.lload_n 2, 1) := by decide +kernel
theorem dX6_share_4 : decode cX6_share 4 = .ok (.lstore 7, 2) := by decide +kernel
theorem dX6_share_6 : decode cX6_share 6 = .ok (.lload 7, 2) := by decide +kernel
theorem dX6_share_8 : decode cX6_share 8 = .ok (.lconst 0, 1) := by decide +kernel
theorem dX6_share_9 : decode cX6_share 9 = .ok (.lcmp, 1) := by decide +kernel
theorem dX6_share_10 : decode cX6_share 10 = .ok (.ifCond .eq 21, 3) := by decide +kernel
theorem dX6_share_13 : decode cX6_share 13 = .ok (.lload 5, 2) := by decide +kernel
theorem dX6_share_15 : decode cX6_share 15 = .ok (.lload 7, 2) := by decide +kernel
theorem dX6_share_17 : decode cX6_share 17 = .ok (.lrem, 1) := by decide +kernel
theorem dX6_share_18 : decode cX6_share 18 = .ok (.lstore 9, 2) := by decide +kernel
theorem dX6_share_20 : decode cX6_share 20 = .ok (.lload 7, 2) := by decide +kernel
theorem dX6_share_22 : decode cX6_share 22 = .ok (.lstore 5, 2) := by decide +kernel
theorem dX6_share_24 : decode cX6_share 24 = .ok (.lload 9, 2) := by decide +kernel
theorem dX6_share_26 : decode cX6_share 26 = .ok (.lstore 7, 2) := by decide +kernel
theorem dX6_share_28 : decode cX6_share 28 = .ok (.goto (-22), 3) := by decide +kernel
theorem dX6_share_31 : decode cX6_share 31 = .ok (.iload 4, 2) := by decide +kernel
theorem dX6_share_33 : decode cX6_share 33 = .ok (.ifCond .ne 7, 3) := by decide +kernel
theorem dX6_share_36 : decode cX6_share 36 = .ok (.lload_n 0, 1) := by decide +kernel
theorem dX6_share_37 : decode cX6_share 37 = .ok (.goto 4, 3) := by decide +kernel
theorem dX6_share_40 : decode cX6_share 40 = .ok (.lload_n 2, 1) := by decide +kernel
theorem dX6_share_41 : decode cX6_share 41 = .ok (.lload 5, 2) := by decide +kernel
theorem dX6_share_43 : decode cX6_share 43 = .ok (.ldiv, 1) := by decide +kernel
theorem dX6_share_44 : decode cX6_share 44 = .ok (.lreturn, 1) := by decide +kernel
theorem dX6_refused_0 : decode cX6_refused 0 = .ok (.aload_n 0, 1) := by decide +kernel
theorem dX6_refused_1 : decode cX6_refused 1 = .ok (.iconst 0, 1) := by decide +kernel
theorem dX6_refused_2 : decode cX6_refused 2 = .ok (.putfield 71, 3) := by decide +kernel
theorem dX6_refused_5 : decode cX6_refused 5 = .ok (.iload_n 1, 1) := by decide +kernel
theorem dX6_refused_6 : decode cX6_refused 6 = .ok (.ireturn, 1) := by decide +kernel
theorem dX6_failed_0 : decode cX6_failed 0 = .ok (.aload_n 0, 1) := by decide +kernel
theorem dX6_failed_1 : decode cX6_failed 1 = .ok (.iload_n 1, 1) := by decide +kernel
theorem dX6_failed_2 : decode cX6_failed 2 = .ok (.putfield 71, 3) := by decide +kernel
theorem dX6_failed_5 : decode cX6_failed 5 = .ok (.bipush (-10), 2) := by decide +kernel
theorem dX6_failed_7 : decode cX6_failed 7 = .ok (.iload_n 1, 1) := by decide +kernel
theorem dX6_failed_8 : decode cX6_failed 8 = .ok (.isub, 1) := by decide +kernel
theorem dX6_failed_9 : decode cX6_failed 9 = .ok (.ireturn, 1) := by decide +kernel
set_option maxRecDepth 20000 in
theorem ggX6_failedLong_X6_lost : GoodIn wsX6_failedLong wsX6_lost := goodIn_r _ [5, 6] (by decide +kernel) (by decide +kernel)
set_option maxRecDepth 20000 in
theorem gX6_failedLong_X6_lost : GoodIn wsX6_failedLong (va_wsS RX6 74 yX6_lost wsX6_lost) := goodIn_app (goodIn_of _ (by decide +kernel)) ggX6_failedLong_X6_lost
theorem dX6_failedLong_0 : decode cX6_failedLong 0 = .ok (.aload_n 0, 1) := by decide +kernel
theorem dX6_failedLong_1 : decode cX6_failedLong 1 = .ok (.iload_n 1, 1) := by decide +kernel
theorem dX6_failedLong_2 : decode cX6_failedLong 2 = .ok (.putfield 71, 3) := by decide +kernel
theorem dX6_failedLong_5 : decode cX6_failedLong 5 = .ok (.invokestatic 74, 3) := by decide +kernel
theorem dX6_failedLong_8 : decode cX6_failedLong 8 = .ok (.lreturn, 1) := by decide +kernel
set_option maxRecDepth 20000 in
theorem ggX6_barred_X6_noSheet : GoodIn wsX6_barred wsX6_noSheet := goodIn_r _ [7, 8, 9, 10, 6, 11] (by decide +kernel) (by decide +kernel)
set_option maxRecDepth 20000 in
theorem gX6_barred_X6_noSheet : GoodIn wsX6_barred (va_wsS RX6 78 yX6_noSheet wsX6_noSheet) := goodIn_app (goodIn_of _ (by decide +kernel)) ggX6_barred_X6_noSheet
set_option maxRecDepth 20000 in
theorem ggX6_barred_X6_refused : GoodIn wsX6_barred wsX6_refused := goodIn_r _ [15, 16, 24, 25, 26, 27, 28, 29, 30, 31, 32, 33, 34, 35, 36, 37, 38, 39, 40, 41, 42, 43, 44, 45, 46, 47, 48, 49] (by decide +kernel) (by decide +kernel)
set_option maxRecDepth 20000 in
theorem gX6_barred_X6_refused : GoodIn wsX6_barred (wsV RX6 82 RX6 yX6_refused wsX6_refused) := goodIn_app (goodIn_of _ (by decide +kernel)) ggX6_barred_X6_refused
set_option maxRecDepth 20000 in
theorem ggX6_barred_X6_in : GoodIn wsX6_barred wsX6_in := goodIn_r _ [11] (by decide +kernel) (by decide +kernel)
set_option maxRecDepth 20000 in
theorem gX6_barred_X6_in : GoodIn wsX6_barred (va_wsS RX6 87 yX6_in wsX6_in) := goodIn_app (goodIn_of _ (by decide +kernel)) ggX6_barred_X6_in
set_option maxRecDepth 20000 in
theorem ggX6_barred_X6_failed : GoodIn wsX6_barred wsX6_failed := goodIn_r _ [20, 16, 24, 25, 26, 27, 28, 29, 30, 31, 32, 33, 34, 35, 36, 37, 38, 39, 40, 41, 42, 43, 44, 45, 46, 47, 48, 49] (by decide +kernel) (by decide +kernel)
set_option maxRecDepth 20000 in
theorem gX6_barred_X6_failed : GoodIn wsX6_barred (wsV RX6 91 RX6 yX6_failed wsX6_failed) := goodIn_app (goodIn_of _ (by decide +kernel)) ggX6_barred_X6_failed
set_option maxRecDepth 20000 in
theorem ggX6_barred_X6_isBeyond : GoodIn wsX6_barred wsX6_isBeyond := goodIn_r _ [23] (by decide +kernel) (by decide +kernel)
set_option maxRecDepth 20000 in
theorem gX6_barred_X6_isBeyond : GoodIn wsX6_barred (va_wsS RX6 94 yX6_isBeyond wsX6_isBeyond) := goodIn_app (goodIn_of _ (by decide +kernel)) ggX6_barred_X6_isBeyond
theorem dX6_barred_0 : decode cX6_barred 0 = .ok (.iload_n 1, 1) := by decide +kernel
theorem dX6_barred_1 : decode cX6_barred 1 = .ok (.invokestatic 78, 3) := by decide +kernel
theorem dX6_barred_4 : decode cX6_barred 4 = .ok (.ifCond .eq 9, 3) := by decide +kernel
theorem dX6_barred_7 : decode cX6_barred 7 = .ok (.aload_n 0, 1) := by decide +kernel
theorem dX6_barred_8 : decode cX6_barred 8 = .ok (.iconst (-1), 1) := by decide +kernel
theorem dX6_barred_9 : decode cX6_barred 9 = .ok (.invokevirtual 82, 3) := by decide +kernel
theorem dX6_barred_12 : decode cX6_barred 12 = .ok (.ireturn, 1) := by decide +kernel
theorem dX6_barred_13 : decode cX6_barred 13 = .ok (.iload_n 2, 1) := by decide +kernel
theorem dX6_barred_14 : decode cX6_barred 14 = .ok (.i2l, 1) := by decide +kernel
theorem dX6_barred_15 : decode cX6_barred 15 = .ok (.lconst 0, 1) := by decide +kernel
theorem dX6_barred_16 : decode cX6_barred 16 = .ok (.ldc2_w 85, 3) := by decide +kernel
theorem dX6_barred_19 : decode cX6_barred 19 = .ok (.invokestatic 87, 3) := by decide +kernel
theorem dX6_barred_22 : decode cX6_barred 22 = .ok (.ifCond .ne 10, 3) := by decide +kernel
theorem dX6_barred_25 : decode cX6_barred 25 = .ok (.aload_n 0, 1) := by decide +kernel
theorem dX6_barred_26 : decode cX6_barred 26 = .ok (.bipush (-2), 2) := by decide +kernel
theorem dX6_barred_28 : decode cX6_barred 28 = .ok (.invokevirtual 82, 3) := by decide +kernel
theorem dX6_barred_31 : decode cX6_barred 31 = .ok (.ireturn, 1) := by decide +kernel
theorem dX6_barred_32 : decode cX6_barred 32 = .ok (.aload_n 0, 1) := by decide +kernel
theorem dX6_barred_33 : decode cX6_barred 33 = .ok (.getfield 43, 3) := by decide +kernel
theorem dX6_barred_36 : decode cX6_barred 36 = .ok (.iload_n 1, 1) := by decide +kernel
theorem dX6_barred_37 : decode cX6_barred 37 = .ok (.iaload, 1) := by decide +kernel
theorem dX6_barred_38 : decode cX6_barred 38 = .ok (.ifCond .lt 19, 3) := by decide +kernel
theorem dX6_barred_41 : decode cX6_barred 41 = .ok (.aload_n 0, 1) := by decide +kernel
theorem dX6_barred_42 : decode cX6_barred 42 = .ok (.getfield 46, 3) := by decide +kernel
theorem dX6_barred_45 : decode cX6_barred 45 = .ok (.iload_n 1, 1) := by decide +kernel
theorem dX6_barred_46 : decode cX6_barred 46 = .ok (.iaload, 1) := by decide +kernel
theorem dX6_barred_47 : decode cX6_barred 47 = .ok (.iload_n 2, 1) := by decide +kernel
theorem dX6_barred_48 : decode cX6_barred 48 = .ok (.if_icmp .eq 9, 3) := by decide +kernel
theorem dX6_barred_51 : decode cX6_barred 51 = .ok (.aload_n 0, 1) := by decide +kernel
theorem dX6_barred_52 : decode cX6_barred 52 = .ok (.iconst 2, 1) := by decide +kernel
theorem dX6_barred_53 : decode cX6_barred 53 = .ok (.invokevirtual 91, 3) := by decide +kernel
theorem dX6_barred_56 : decode cX6_barred 56 = .ok (.ireturn, 1) := by decide +kernel
theorem dX6_barred_57 : decode cX6_barred 57 = .ok (.aload_n 0, 1) := by decide +kernel
theorem dX6_barred_58 : decode cX6_barred 58 = .ok (.getfield 43, 3) := by decide +kernel
theorem dX6_barred_61 : decode cX6_barred 61 = .ok (.iload_n 1, 1) := by decide +kernel
theorem dX6_barred_62 : decode cX6_barred 62 = .ok (.iaload, 1) := by decide +kernel
theorem dX6_barred_63 : decode cX6_barred 63 = .ok (.ifCond .ge 9, 3) := by decide +kernel
theorem dX6_barred_66 : decode cX6_barred 66 = .ok (.aload_n 0, 1) := by decide +kernel
theorem dX6_barred_67 : decode cX6_barred 67 = .ok (.iconst 1, 1) := by decide +kernel
theorem dX6_barred_68 : decode cX6_barred 68 = .ok (.invokevirtual 91, 3) := by decide +kernel
theorem dX6_barred_71 : decode cX6_barred 71 = .ok (.ireturn, 1) := by decide +kernel
theorem dX6_barred_72 : decode cX6_barred 72 = .ok (.lload 4, 2) := by decide +kernel
theorem dX6_barred_74 : decode cX6_barred 74 = .ok (.lconst 0, 1) := by decide +kernel
theorem dX6_barred_75 : decode cX6_barred 75 = .ok (.lcmp, 1) := by decide +kernel
theorem dX6_barred_76 : decode cX6_barred 76 = .ok (.ifCond .ge 9, 3) := by decide +kernel
theorem dX6_barred_79 : decode cX6_barred 79 = .ok (.aload_n 0, 1) := by decide +kernel
theorem dX6_barred_80 : decode cX6_barred 80 = .ok (.iconst 4, 1) := by decide +kernel
theorem dX6_barred_81 : decode cX6_barred 81 = .ok (.invokevirtual 91, 3) := by decide +kernel
theorem dX6_barred_84 : decode cX6_barred 84 = .ok (.ireturn, 1) := by decide +kernel
theorem dX6_barred_85 : decode cX6_barred 85 = .ok (.iload_n 3, 1) := by decide +kernel
theorem dX6_barred_86 : decode cX6_barred 86 = .ok (.lload 4, 2) := by decide +kernel
theorem dX6_barred_88 : decode cX6_barred 88 = .ok (.aload_n 0, 1) := by decide +kernel
theorem dX6_barred_89 : decode cX6_barred 89 = .ok (.getfield 43, 3) := by decide +kernel
theorem dX6_barred_92 : decode cX6_barred 92 = .ok (.iload_n 1, 1) := by decide +kernel
theorem dX6_barred_93 : decode cX6_barred 93 = .ok (.iaload, 1) := by decide +kernel
theorem dX6_barred_94 : decode cX6_barred 94 = .ok (.invokestatic 94, 3) := by decide +kernel
theorem dX6_barred_97 : decode cX6_barred 97 = .ok (.ifCond .eq 11, 3) := by decide +kernel
theorem dX6_barred_100 : decode cX6_barred 100 = .ok (.aload_n 0, 1) := by decide +kernel
theorem dX6_barred_101 : decode cX6_barred 101 = .ok (.iconst 3, 1) := by decide +kernel
theorem dX6_barred_102 : decode cX6_barred 102 = .ok (.invokevirtual 91, 3) := by decide +kernel
theorem dX6_barred_105 : decode cX6_barred 105 = .ok (.goto 4, 3) := by decide +kernel
theorem dX6_barred_108 : decode cX6_barred 108 = .ok (.iconst 0, 1) := by decide +kernel
theorem dX6_barred_109 : decode cX6_barred 109 = .ok (.ireturn, 1) := by decide +kernel
set_option maxRecDepth 20000 in
theorem ggX6_noStone_X6_in : GoodIn wsX6_noStone wsX6_in := goodIn_r _ [5] (by decide +kernel) (by decide +kernel)
set_option maxRecDepth 20000 in
theorem gX6_noStone_X6_in : GoodIn wsX6_noStone (va_wsS RX6 87 yX6_in wsX6_in) := goodIn_app (goodIn_of _ (by decide +kernel)) ggX6_noStone_X6_in
theorem dX6_noStone_0 : decode cX6_noStone 0 = .ok (.iload_n 1, 1) := by decide +kernel
theorem dX6_noStone_1 : decode cX6_noStone 1 = .ok (.i2l, 1) := by decide +kernel
theorem dX6_noStone_2 : decode cX6_noStone 2 = .ok (.lconst 0, 1) := by decide +kernel
theorem dX6_noStone_3 : decode cX6_noStone 3 = .ok (.aload_n 0, 1) := by decide +kernel
theorem dX6_noStone_4 : decode cX6_noStone 4 = .ok (.getfield 98, 3) := by decide +kernel
theorem dX6_noStone_7 : decode cX6_noStone 7 = .ok (.i2l, 1) := by decide +kernel
theorem dX6_noStone_8 : decode cX6_noStone 8 = .ok (.lconst 1, 1) := by decide +kernel
theorem dX6_noStone_9 : decode cX6_noStone 9 = .ok (.lsub, 1) := by decide +kernel
theorem dX6_noStone_10 : decode cX6_noStone 10 = .ok (.invokestatic 87, 3) := by decide +kernel
theorem dX6_noStone_13 : decode cX6_noStone 13 = .ok (.ifCond .ne 7, 3) := by decide +kernel
theorem dX6_noStone_16 : decode cX6_noStone 16 = .ok (.iconst 1, 1) := by decide +kernel
theorem dX6_noStone_17 : decode cX6_noStone 17 = .ok (.goto 4, 3) := by decide +kernel
theorem dX6_noStone_20 : decode cX6_noStone 20 = .ok (.iconst 0, 1) := by decide +kernel
theorem dX6_noStone_21 : decode cX6_noStone 21 = .ok (.ireturn, 1) := by decide +kernel
set_option maxRecDepth 20000 in
theorem ggX6_stone_X6_in : GoodIn wsX6_stone wsX6_in := goodIn_r _ [10] (by decide +kernel) (by decide +kernel)
set_option maxRecDepth 20000 in
theorem gX6_stone_X6_in : GoodIn wsX6_stone (va_wsS RX6 87 yX6_in wsX6_in) := goodIn_app (goodIn_of _ (by decide +kernel)) ggX6_stone_X6_in
theorem dX6_stone_0 : decode cX6_stone 0 = .ok (.iload_n 1, 1) := by decide +kernel
theorem dX6_stone_1 : decode cX6_stone 1 = .ok (.i2l, 1) := by decide +kernel
theorem dX6_stone_2 : decode cX6_stone 2 = .ok (.lconst 1, 1) := by decide +kernel
theorem dX6_stone_3 : decode cX6_stone 3 = .ok (.ldc2_w 101, 3) := by decide +kernel
theorem dX6_stone_6 : decode cX6_stone 6 = .ok (.invokestatic 87, 3) := by decide +kernel
theorem dX6_stone_9 : decode cX6_stone 9 = .ok (.ifCond .eq 27, 3) := by decide +kernel
theorem dX6_stone_12 : decode cX6_stone 12 = .ok (.iload_n 2, 1) := by decide +kernel
theorem dX6_stone_13 : decode cX6_stone 13 = .ok (.i2l, 1) := by decide +kernel
theorem dX6_stone_14 : decode cX6_stone 14 = .ok (.lconst 1, 1) := by decide +kernel
theorem dX6_stone_15 : decode cX6_stone 15 = .ok (.ldc2_w 101, 3) := by decide +kernel
theorem dX6_stone_18 : decode cX6_stone 18 = .ok (.invokestatic 87, 3) := by decide +kernel
theorem dX6_stone_21 : decode cX6_stone 21 = .ok (.ifCond .eq 15, 3) := by decide +kernel
theorem dX6_stone_24 : decode cX6_stone 24 = .ok (.iload_n 3, 1) := by decide +kernel
theorem dX6_stone_25 : decode cX6_stone 25 = .ok (.i2l, 1) := by decide +kernel
theorem dX6_stone_26 : decode cX6_stone 26 = .ok (.lconst 0, 1) := by decide +kernel
theorem dX6_stone_27 : decode cX6_stone 27 = .ok (.ldc2_w 103, 3) := by decide +kernel
theorem dX6_stone_30 : decode cX6_stone 30 = .ok (.invokestatic 87, 3) := by decide +kernel
theorem dX6_stone_33 : decode cX6_stone 33 = .ok (.ifCond .ne 6, 3) := by decide +kernel
theorem dX6_stone_36 : decode cX6_stone 36 = .ok (.bipush (-2), 2) := by decide +kernel
theorem dX6_stone_38 : decode cX6_stone 38 = .ok (.ireturn, 1) := by decide +kernel
theorem dX6_stone_39 : decode cX6_stone 39 = .ok (.aload_n 0, 1) := by decide +kernel
theorem dX6_stone_40 : decode cX6_stone 40 = .ok (.getfield 98, 3) := by decide +kernel
theorem dX6_stone_43 : decode cX6_stone 43 = .ok (.bipush 8, 2) := by decide +kernel
theorem dX6_stone_45 : decode cX6_stone 45 = .ok (.if_icmp .ne 6, 3) := by decide +kernel
theorem dX6_stone_48 : decode cX6_stone 48 = .ok (.bipush (-4), 2) := by decide +kernel
theorem dX6_stone_50 : decode cX6_stone 50 = .ok (.ireturn, 1) := by decide +kernel
theorem dX6_stone_51 : decode cX6_stone 51 = .ok (.aload_n 0, 1) := by decide +kernel
theorem dX6_stone_52 : decode cX6_stone 52 = .ok (.getfield 7, 3) := by decide +kernel
theorem dX6_stone_55 : decode cX6_stone 55 = .ok (.aload_n 0, 1) := by decide +kernel
theorem dX6_stone_56 : decode cX6_stone 56 = .ok (.getfield 98, 3) := by decide +kernel
theorem dX6_stone_59 : decode cX6_stone 59 = .ok (.iload_n 1, 1) := by decide +kernel
theorem dX6_stone_60 : decode cX6_stone 60 = .ok (.iastore, 1) := by decide +kernel
theorem dX6_stone_61 : decode cX6_stone 61 = .ok (.aload_n 0, 1) := by decide +kernel
theorem dX6_stone_62 : decode cX6_stone 62 = .ok (.getfield 13, 3) := by decide +kernel
theorem dX6_stone_65 : decode cX6_stone 65 = .ok (.aload_n 0, 1) := by decide +kernel
theorem dX6_stone_66 : decode cX6_stone 66 = .ok (.getfield 98, 3) := by decide +kernel
theorem dX6_stone_69 : decode cX6_stone 69 = .ok (.iload_n 2, 1) := by decide +kernel
theorem dX6_stone_70 : decode cX6_stone 70 = .ok (.iastore, 1) := by decide +kernel
theorem dX6_stone_71 : decode cX6_stone 71 = .ok (.aload_n 0, 1) := by decide +kernel
theorem dX6_stone_72 : decode cX6_stone 72 = .ok (.getfield 16, 3) := by decide +kernel
theorem dX6_stone_75 : decode cX6_stone 75 = .ok (.aload_n 0, 1) := by decide +kernel
theorem dX6_stone_76 : decode cX6_stone 76 = .ok (.getfield 98, 3) := by decide +kernel
theorem dX6_stone_79 : decode cX6_stone 79 = .ok (.iload_n 3, 1) := by decide +kernel
theorem dX6_stone_80 : decode cX6_stone 80 = .ok (.iastore, 1) := by decide +kernel
theorem dX6_stone_81 : decode cX6_stone 81 = .ok (.aload_n 0, 1) := by decide +kernel
theorem dX6_stone_82 : decode cX6_stone 82 = .ok (.dup, 1) := by decide +kernel
theorem dX6_stone_83 : decode cX6_stone 83 = .ok (.getfield 98, 3) := by decide +kernel
theorem dX6_stone_86 : decode cX6_stone 86 = .ok (.iconst 1, 1) := by decide +kernel
theorem dX6_stone_87 : decode cX6_stone 87 = .ok (.iadd, 1) := by decide +kernel
theorem dX6_stone_88 : decode cX6_stone 88 = .ok (.putfield 98, 3) := by decide +kernel
theorem dX6_stone_91 : decode cX6_stone 91 = .ok (.aload_n 0, 1) := by decide +kernel
theorem dX6_stone_92 : decode cX6_stone 92 = .ok (.getfield 98, 3) := by decide +kernel
theorem dX6_stone_95 : decode cX6_stone 95 = .ok (.iconst 1, 1) := by decide +kernel
theorem dX6_stone_96 : decode cX6_stone 96 = .ok (.isub, 1) := by decide +kernel
theorem dX6_stone_97 : decode cX6_stone 97 = .ok (.ireturn, 1) := by decide +kernel
set_option maxRecDepth 20000 in
theorem ggX6_ofStone_X6_noStone : GoodIn wsX6_ofStone wsX6_noStone := goodIn_r _ [10, 11, 12, 13, 9, 14, 15, 16, 17, 18, 19, 20, 21, 22, 23, 24, 25, 26, 27, 28, 29, 30, 31, 32, 33, 34, 35, 36, 37, 38, 39, 40] (by decide +kernel) (by decide +kernel)
set_option maxRecDepth 20000 in
theorem gX6_ofStone_X6_noStone : GoodIn wsX6_ofStone (wsV RX6 105 RX6 yX6_noStone wsX6_noStone) := goodIn_app (goodIn_of _ (by decide +kernel)) ggX6_ofStone_X6_noStone
theorem dX6_ofStone_0 : decode cX6_ofStone 0 = .ok (.aload_n 0, 1) := by decide +kernel
theorem dX6_ofStone_1 : decode cX6_ofStone 1 = .ok (.iload_n 1, 1) := by decide +kernel
theorem dX6_ofStone_2 : decode cX6_ofStone 2 = .ok (.invokevirtual 105, 3) := by decide +kernel
theorem dX6_ofStone_5 : decode cX6_ofStone 5 = .ok (.ifCond .eq 5, 3) := by decide +kernel
theorem dX6_ofStone_8 : decode cX6_ofStone 8 = .ok (.iconst (-1), 1) := by decide +kernel
theorem dX6_ofStone_9 : decode cX6_ofStone 9 = .ok (.ireturn, 1) := by decide +kernel
theorem dX6_ofStone_10 : decode cX6_ofStone 10 = .ok (.iload_n 2, 1) := by decide +kernel
theorem dX6_ofStone_11 : decode cX6_ofStone 11 = .ok (.tableswitch 68 0 4 #[33, 40, 47, 54, 61], 33) := by decide +kernel
theorem dX6_ofStone_44 : decode cX6_ofStone 44 = .ok (.aload_n 0, 1) := by decide +kernel
theorem dX6_ofStone_45 : decode cX6_ofStone 45 = .ok (.getfield 7, 3) := by decide +kernel
theorem dX6_ofStone_48 : decode cX6_ofStone 48 = .ok (.iload_n 1, 1) := by decide +kernel
theorem dX6_ofStone_49 : decode cX6_ofStone 49 = .ok (.iaload, 1) := by decide +kernel
theorem dX6_ofStone_50 : decode cX6_ofStone 50 = .ok (.ireturn, 1) := by decide +kernel
theorem dX6_ofStone_51 : decode cX6_ofStone 51 = .ok (.aload_n 0, 1) := by decide +kernel
theorem dX6_ofStone_52 : decode cX6_ofStone 52 = .ok (.getfield 13, 3) := by decide +kernel
theorem dX6_ofStone_55 : decode cX6_ofStone 55 = .ok (.iload_n 1, 1) := by decide +kernel
theorem dX6_ofStone_56 : decode cX6_ofStone 56 = .ok (.iaload, 1) := by decide +kernel
theorem dX6_ofStone_57 : decode cX6_ofStone 57 = .ok (.ireturn, 1) := by decide +kernel
theorem dX6_ofStone_58 : decode cX6_ofStone 58 = .ok (.aload_n 0, 1) := by decide +kernel
theorem dX6_ofStone_59 : decode cX6_ofStone 59 = .ok (.getfield 16, 3) := by decide +kernel
theorem dX6_ofStone_62 : decode cX6_ofStone 62 = .ok (.iload_n 1, 1) := by decide +kernel
theorem dX6_ofStone_63 : decode cX6_ofStone 63 = .ok (.iaload, 1) := by decide +kernel
theorem dX6_ofStone_64 : decode cX6_ofStone 64 = .ok (.ireturn, 1) := by decide +kernel
theorem dX6_ofStone_65 : decode cX6_ofStone 65 = .ok (.aload_n 0, 1) := by decide +kernel
theorem dX6_ofStone_66 : decode cX6_ofStone 66 = .ok (.getfield 19, 3) := by decide +kernel
theorem dX6_ofStone_69 : decode cX6_ofStone 69 = .ok (.iload_n 1, 1) := by decide +kernel
theorem dX6_ofStone_70 : decode cX6_ofStone 70 = .ok (.iaload, 1) := by decide +kernel
theorem dX6_ofStone_71 : decode cX6_ofStone 71 = .ok (.ireturn, 1) := by decide +kernel
theorem dX6_ofStone_72 : decode cX6_ofStone 72 = .ok (.aload_n 0, 1) := by decide +kernel
theorem dX6_ofStone_73 : decode cX6_ofStone 73 = .ok (.getfield 22, 3) := by decide +kernel
theorem dX6_ofStone_76 : decode cX6_ofStone 76 = .ok (.iload_n 1, 1) := by decide +kernel
theorem dX6_ofStone_77 : decode cX6_ofStone 77 = .ok (.iaload, 1) := by decide +kernel
theorem dX6_ofStone_78 : decode cX6_ofStone 78 = .ok (.ireturn, 1) := by decide +kernel
theorem dX6_ofStone_79 : decode cX6_ofStone 79 = .ok (.bipush (-2), 2) := by decide +kernel
theorem dX6_ofStone_81 : decode cX6_ofStone 81 = .ok (.ireturn, 1) := by decide +kernel
theorem dX6_firstOf_0 : decode cX6_firstOf 0 = .ok (.iload_n 0, 1) := by decide +kernel
theorem dX6_firstOf_1 : decode cX6_firstOf 1 = .ok (.ifCond .eq 13, 3) := by decide +kernel
theorem dX6_firstOf_4 : decode cX6_firstOf 4 = .ok (.iload_n 0, 1) := by decide +kernel
theorem dX6_firstOf_5 : decode cX6_firstOf 5 = .ok (.iconst 3, 1) := by decide +kernel
theorem dX6_firstOf_6 : decode cX6_firstOf 6 = .ok (.if_icmp .eq 8, 3) := by decide +kernel
theorem dX6_firstOf_9 : decode cX6_firstOf 9 = .ok (.iload_n 0, 1) := by decide +kernel
theorem dX6_firstOf_10 : decode cX6_firstOf 10 = .ok (.iconst 5, 1) := by decide +kernel
theorem dX6_firstOf_11 : decode cX6_firstOf 11 = .ok (.if_icmp .ne 8, 3) := by decide +kernel
theorem dX6_firstOf_14 : decode cX6_firstOf 14 = .ok (.bipush 20, 2) := by decide +kernel
theorem dX6_firstOf_16 : decode cX6_firstOf 16 = .ok (.goto 24, 3) := by decide +kernel
theorem dX6_firstOf_19 : decode cX6_firstOf 19 = .ok (.iload_n 0, 1) := by decide +kernel
theorem dX6_firstOf_20 : decode cX6_firstOf 20 = .ok (.iconst 1, 1) := by decide +kernel
theorem dX6_firstOf_21 : decode cX6_firstOf 21 = .ok (.if_icmp .ne 7, 3) := by decide +kernel
theorem dX6_firstOf_24 : decode cX6_firstOf 24 = .ok (.iconst 5, 1) := by decide +kernel
theorem dX6_firstOf_25 : decode cX6_firstOf 25 = .ok (.goto 15, 3) := by decide +kernel
theorem dX6_firstOf_28 : decode cX6_firstOf 28 = .ok (.iload_n 0, 1) := by decide +kernel
theorem dX6_firstOf_29 : decode cX6_firstOf 29 = .ok (.iconst 2, 1) := by decide +kernel
theorem dX6_firstOf_30 : decode cX6_firstOf 30 = .ok (.if_icmp .ne 8, 3) := by decide +kernel
theorem dX6_firstOf_33 : decode cX6_firstOf 33 = .ok (.bipush 80, 2) := by decide +kernel
theorem dX6_firstOf_35 : decode cX6_firstOf 35 = .ok (.goto 5, 3) := by decide +kernel
theorem dX6_firstOf_38 : decode cX6_firstOf 38 = .ok (.bipush 6, 2) := by decide +kernel
theorem dX6_firstOf_40 : decode cX6_firstOf 40 = .ok (.ireturn, 1) := by decide +kernel
set_option maxRecDepth 20000 in
theorem ggX6_isRule_X6_in : GoodIn wsX6_isRule wsX6_in := goodIn_r _ [4] (by decide +kernel) (by decide +kernel)
set_option maxRecDepth 20000 in
theorem gX6_isRule_X6_in : GoodIn wsX6_isRule (va_wsS RX6 87 yX6_in wsX6_in) := goodIn_app (goodIn_of _ (by decide +kernel)) ggX6_isRule_X6_in
theorem dX6_isRule_0 : decode cX6_isRule 0 = .ok (.iload_n 0, 1) := by decide +kernel
theorem dX6_isRule_1 : decode cX6_isRule 1 = .ok (.iconst 5, 1) := by decide +kernel
theorem dX6_isRule_2 : decode cX6_isRule 2 = .ok (.if_icmp .ne 8, 3) := by decide +kernel
theorem dX6_isRule_5 : decode cX6_isRule 5 = .ok (.bipush 45, 2) := by decide +kernel
theorem dX6_isRule_7 : decode cX6_isRule 7 = .ok (.goto 20, 3) := by decide +kernel
theorem dX6_isRule_10 : decode cX6_isRule 10 = .ok (.iload_n 0, 1) := by decide +kernel
theorem dX6_isRule_11 : decode cX6_isRule 11 = .ok (.iconst 1, 1) := by decide +kernel
theorem dX6_isRule_12 : decode cX6_isRule 12 = .ok (.if_icmp .eq 8, 3) := by decide +kernel
theorem dX6_isRule_15 : decode cX6_isRule 15 = .ok (.iload_n 0, 1) := by decide +kernel
theorem dX6_isRule_16 : decode cX6_isRule 16 = .ok (.iconst 4, 1) := by decide +kernel
theorem dX6_isRule_17 : decode cX6_isRule 17 = .ok (.if_icmp .ne 8, 3) := by decide +kernel
theorem dX6_isRule_20 : decode cX6_isRule 20 = .ok (.bipush 50, 2) := by decide +kernel
theorem dX6_isRule_22 : decode cX6_isRule 22 = .ok (.goto 5, 3) := by decide +kernel
theorem dX6_isRule_25 : decode cX6_isRule 25 = .ok (.bipush 99, 2) := by decide +kernel
theorem dX6_isRule_27 : decode cX6_isRule 27 = .ok (.istore_n 2, 1) := by decide +kernel
theorem dX6_isRule_28 : decode cX6_isRule 28 = .ok (.iload_n 1, 1) := by decide +kernel
theorem dX6_isRule_29 : decode cX6_isRule 29 = .ok (.i2l, 1) := by decide +kernel
theorem dX6_isRule_30 : decode cX6_isRule 30 = .ok (.iload_n 0, 1) := by decide +kernel
theorem dX6_isRule_31 : decode cX6_isRule 31 = .ok (.ifCond .eq 13, 3) := by decide +kernel
theorem dX6_isRule_34 : decode cX6_isRule 34 = .ok (.iload_n 0, 1) := by decide +kernel
theorem dX6_isRule_35 : decode cX6_isRule 35 = .ok (.iconst 2, 1) := by decide +kernel
theorem dX6_isRule_36 : decode cX6_isRule 36 = .ok (.if_icmp .eq 8, 3) := by decide +kernel
theorem dX6_isRule_39 : decode cX6_isRule 39 = .ok (.iload_n 0, 1) := by decide +kernel
theorem dX6_isRule_40 : decode cX6_isRule 40 = .ok (.iconst 5, 1) := by decide +kernel
theorem dX6_isRule_41 : decode cX6_isRule 41 = .ok (.if_icmp .ne 7, 3) := by decide +kernel
theorem dX6_isRule_44 : decode cX6_isRule 44 = .ok (.lconst 1, 1) := by decide +kernel
theorem dX6_isRule_45 : decode cX6_isRule 45 = .ok (.goto 4, 3) := by decide +kernel
theorem dX6_isRule_48 : decode cX6_isRule 48 = .ok (.lconst 0, 1) := by decide +kernel
theorem dX6_isRule_49 : decode cX6_isRule 49 = .ok (.iload_n 2, 1) := by decide +kernel
theorem dX6_isRule_50 : decode cX6_isRule 50 = .ok (.i2l, 1) := by decide +kernel
theorem dX6_isRule_51 : decode cX6_isRule 51 = .ok (.invokestatic 87, 3) := by decide +kernel
theorem dX6_isRule_54 : decode cX6_isRule 54 = .ok (.ireturn, 1) := by decide +kernel
theorem dX6_ruleBy_0 : decode cX6_ruleBy 0 = .ok (.iload_n 0, 1) := by decide +kernel
theorem dX6_ruleBy_1 : decode cX6_ruleBy 1 = .ok (.tableswitch 83 104 117 #[81, 83, 83, 79, 71, 83, 83, 83, 83, 83, 73, 77, 83, 75], 71) := by decide +kernel
theorem dX6_ruleBy_72 : decode cX6_ruleBy 72 = .ok (.iconst 0, 1) := by decide +kernel
theorem dX6_ruleBy_73 : decode cX6_ruleBy 73 = .ok (.ireturn, 1) := by decide +kernel
theorem dX6_ruleBy_74 : decode cX6_ruleBy 74 = .ok (.iconst 1, 1) := by decide +kernel
theorem dX6_ruleBy_75 : decode cX6_ruleBy 75 = .ok (.ireturn, 1) := by decide +kernel
theorem dX6_ruleBy_76 : decode cX6_ruleBy 76 = .ok (.iconst 2, 1) := by decide +kernel
theorem dX6_ruleBy_77 : decode cX6_ruleBy 77 = .ok (.ireturn, 1) := by decide +kernel
theorem dX6_ruleBy_78 : decode cX6_ruleBy 78 = .ok (.iconst 3, 1) := by decide +kernel
theorem dX6_ruleBy_79 : decode cX6_ruleBy 79 = .ok (.ireturn, 1) := by decide +kernel
theorem dX6_ruleBy_80 : decode cX6_ruleBy 80 = .ok (.iconst 4, 1) := by decide +kernel
theorem dX6_ruleBy_81 : decode cX6_ruleBy 81 = .ok (.ireturn, 1) := by decide +kernel
theorem dX6_ruleBy_82 : decode cX6_ruleBy 82 = .ok (.iconst 5, 1) := by decide +kernel
theorem dX6_ruleBy_83 : decode cX6_ruleBy 83 = .ok (.ireturn, 1) := by decide +kernel
theorem dX6_ruleBy_84 : decode cX6_ruleBy 84 = .ok (.bipush (-9), 2) := by decide +kernel
theorem dX6_ruleBy_86 : decode cX6_ruleBy 86 = .ok (.ireturn, 1) := by decide +kernel
set_option maxRecDepth 20000 in
theorem ggX6_readRules_X6_ruleBy : GoodIn wsX6_readRules wsX6_ruleBy := goodIn_r _ [9] (by decide +kernel) (by decide +kernel)
set_option maxRecDepth 20000 in
theorem gX6_readRules_X6_ruleBy : GoodIn wsX6_readRules (va_wsS RX6 111 yX6_ruleBy wsX6_ruleBy) := goodIn_app (goodIn_of _ (by decide +kernel)) ggX6_readRules_X6_ruleBy
set_option maxRecDepth 20000 in
theorem ggX6_readRules_X6_in : GoodIn wsX6_readRules wsX6_in := goodIn_r _ [12] (by decide +kernel) (by decide +kernel)
set_option maxRecDepth 20000 in
theorem gX6_readRules_X6_in : GoodIn wsX6_readRules (va_wsS RX6 87 yX6_in wsX6_in) := goodIn_app (goodIn_of _ (by decide +kernel)) ggX6_readRules_X6_in
set_option maxRecDepth 20000 in
theorem ggX6_readRules_X6_isRule : GoodIn wsX6_readRules wsX6_isRule := goodIn_r _ [15, 10, 11, 8, 12] (by decide +kernel) (by decide +kernel)
set_option maxRecDepth 20000 in
theorem gX6_readRules_X6_isRule : GoodIn wsX6_readRules (va_wsS RX6 118 yX6_isRule wsX6_isRule) := goodIn_app (goodIn_of _ (by decide +kernel)) ggX6_readRules_X6_isRule
theorem dX6_readRules_0 : decode cX6_readRules 0 = .ok (.iconst 0, 1) := by decide +kernel
theorem dX6_readRules_1 : decode cX6_readRules 1 = .ok (.istore_n 3, 1) := by decide +kernel
theorem dX6_readRules_2 : decode cX6_readRules 2 = .ok (.iload_n 3, 1) := by decide +kernel
theorem dX6_readRules_3 : decode cX6_readRules 3 = .ok (.bipush 6, 2) := by decide +kernel
theorem dX6_readRules_5 : decode cX6_readRules 5 = .ok (.if_icmp .ge 17, 3) := by decide +kernel
theorem dX6_readRules_8 : decode cX6_readRules 8 = .ok (.aload_n 0, 1) := by decide +kernel
theorem dX6_readRules_9 : decode cX6_readRules 9 = .ok (.getfield 28, 3) := by decide +kernel
theorem dX6_readRules_12 : decode cX6_readRules 12 = .ok (.iload_n 3, 1) := by decide +kernel
theorem dX6_readRules_13 : decode cX6_readRules 13 = .ok (.bipush (-9), 2) := by decide +kernel
theorem dX6_readRules_15 : decode cX6_readRules 15 = .ok (.iastore, 1) := by decide +kernel
theorem dX6_readRules_16 : decode cX6_readRules 16 = .ok (.iinc 3 1, 3) := by decide +kernel
theorem dX6_readRules_19 : decode cX6_readRules 19 = .ok (.goto (-17), 3) := by decide +kernel
theorem dX6_readRules_22 : decode cX6_readRules 22 = .ok (.aload_n 0, 1) := by decide +kernel
theorem dX6_readRules_23 : decode cX6_readRules 23 = .ok (.iconst 0, 1) := by decide +kernel
theorem dX6_readRules_24 : decode cX6_readRules 24 = .ok (.putfield 108, 3) := by decide +kernel
theorem dX6_readRules_27 : decode cX6_readRules 27 = .ok (.iconst 0, 1) := by decide +kernel
theorem dX6_readRules_28 : decode cX6_readRules 28 = .ok (.istore_n 3, 1) := by decide +kernel
theorem dX6_readRules_29 : decode cX6_readRules 29 = .ok (.iconst 1, 1) := by decide +kernel
theorem dX6_readRules_30 : decode cX6_readRules 30 = .ok (.istore 4, 2) := by decide +kernel
theorem dX6_readRules_32 : decode cX6_readRules 32 = .ok (.iload 4, 2) := by decide +kernel
theorem dX6_readRules_34 : decode cX6_readRules 34 = .ok (.ifCond .eq 206, 3) := by decide +kernel
theorem dX6_readRules_37 : decode cX6_readRules 37 = .ok (.iload_n 3, 1) := by decide +kernel
theorem dX6_readRules_38 : decode cX6_readRules 38 = .ok (.iload_n 2, 1) := by decide +kernel
theorem dX6_readRules_39 : decode cX6_readRules 39 = .ok (.if_icmp .ge 17, 3) := by decide +kernel
theorem dX6_readRules_42 : decode cX6_readRules 42 = .ok (.aload_n 0, 1) := by decide +kernel
theorem dX6_readRules_43 : decode cX6_readRules 43 = .ok (.getfield 49, 3) := by decide +kernel
theorem dX6_readRules_46 : decode cX6_readRules 46 = .ok (.iload_n 1, 1) := by decide +kernel
theorem dX6_readRules_47 : decode cX6_readRules 47 = .ok (.iload_n 3, 1) := by decide +kernel
theorem dX6_readRules_48 : decode cX6_readRules 48 = .ok (.iadd, 1) := by decide +kernel
theorem dX6_readRules_49 : decode cX6_readRules 49 = .ok (.iaload, 1) := by decide +kernel
theorem dX6_readRules_50 : decode cX6_readRules 50 = .ok (.invokestatic 111, 3) := by decide +kernel
theorem dX6_readRules_53 : decode cX6_readRules 53 = .ok (.goto 5, 3) := by decide +kernel
theorem dX6_readRules_56 : decode cX6_readRules 56 = .ok (.bipush (-9), 2) := by decide +kernel
theorem dX6_readRules_58 : decode cX6_readRules 58 = .ok (.istore 5, 2) := by decide +kernel
theorem dX6_readRules_60 : decode cX6_readRules 60 = .ok (.iload 5, 2) := by decide +kernel
theorem dX6_readRules_62 : decode cX6_readRules 62 = .ok (.ifCond .lt 13, 3) := by decide +kernel
theorem dX6_readRules_65 : decode cX6_readRules 65 = .ok (.aload_n 0, 1) := by decide +kernel
theorem dX6_readRules_66 : decode cX6_readRules 66 = .ok (.getfield 28, 3) := by decide +kernel
theorem dX6_readRules_69 : decode cX6_readRules 69 = .ok (.iload 5, 2) := by decide +kernel
theorem dX6_readRules_71 : decode cX6_readRules 71 = .ok (.iaload, 1) := by decide +kernel
theorem dX6_readRules_72 : decode cX6_readRules 72 = .ok (.ifCond .lt 5, 3) := by decide +kernel
theorem dX6_readRules_75 : decode cX6_readRules 75 = .ok (.iload_n 3, 1) := by decide +kernel
theorem dX6_readRules_76 : decode cX6_readRules 76 = .ok (.ireturn, 1) := by decide +kernel
theorem dX6_readRules_77 : decode cX6_readRules 77 = .ok (.iinc 3 1, 3) := by decide +kernel
theorem dX6_readRules_80 : decode cX6_readRules 80 = .ok (.iload_n 3, 1) := by decide +kernel
theorem dX6_readRules_81 : decode cX6_readRules 81 = .ok (.istore 6, 2) := by decide +kernel
theorem dX6_readRules_83 : decode cX6_readRules 83 = .ok (.iconst 0, 1) := by decide +kernel
theorem dX6_readRules_84 : decode cX6_readRules 84 = .ok (.istore 7, 2) := by decide +kernel
theorem dX6_readRules_86 : decode cX6_readRules 86 = .ok (.iload_n 3, 1) := by decide +kernel
theorem dX6_readRules_87 : decode cX6_readRules 87 = .ok (.iload_n 2, 1) := by decide +kernel
theorem dX6_readRules_88 : decode cX6_readRules 88 = .ok (.if_icmp .ge 57, 3) := by decide +kernel
theorem dX6_readRules_91 : decode cX6_readRules 91 = .ok (.iload_n 3, 1) := by decide +kernel
theorem dX6_readRules_92 : decode cX6_readRules 92 = .ok (.iload 6, 2) := by decide +kernel
theorem dX6_readRules_94 : decode cX6_readRules 94 = .ok (.iconst 2, 1) := by decide +kernel
theorem dX6_readRules_95 : decode cX6_readRules 95 = .ok (.iadd, 1) := by decide +kernel
theorem dX6_readRules_96 : decode cX6_readRules 96 = .ok (.if_icmp .ge 49, 3) := by decide +kernel
theorem dX6_readRules_99 : decode cX6_readRules 99 = .ok (.aload_n 0, 1) := by decide +kernel
theorem dX6_readRules_100 : decode cX6_readRules 100 = .ok (.getfield 49, 3) := by decide +kernel
theorem dX6_readRules_103 : decode cX6_readRules 103 = .ok (.iload_n 1, 1) := by decide +kernel
theorem dX6_readRules_104 : decode cX6_readRules 104 = .ok (.iload_n 3, 1) := by decide +kernel
theorem dX6_readRules_105 : decode cX6_readRules 105 = .ok (.iadd, 1) := by decide +kernel
theorem dX6_readRules_106 : decode cX6_readRules 106 = .ok (.iaload, 1) := by decide +kernel
theorem dX6_readRules_107 : decode cX6_readRules 107 = .ok (.i2l, 1) := by decide +kernel
theorem dX6_readRules_108 : decode cX6_readRules 108 = .ok (.ldc2_w 114, 3) := by decide +kernel
theorem dX6_readRules_111 : decode cX6_readRules 111 = .ok (.ldc2_w 116, 3) := by decide +kernel
theorem dX6_readRules_114 : decode cX6_readRules 114 = .ok (.invokestatic 87, 3) := by decide +kernel
theorem dX6_readRules_117 : decode cX6_readRules 117 = .ok (.ifCond .eq 28, 3) := by decide +kernel
theorem dX6_readRules_120 : decode cX6_readRules 120 = .ok (.bipush 10, 2) := by decide +kernel
theorem dX6_readRules_122 : decode cX6_readRules 122 = .ok (.iload 7, 2) := by decide +kernel
theorem dX6_readRules_124 : decode cX6_readRules 124 = .ok (.imul, 1) := by decide +kernel
theorem dX6_readRules_125 : decode cX6_readRules 125 = .ok (.aload_n 0, 1) := by decide +kernel
theorem dX6_readRules_126 : decode cX6_readRules 126 = .ok (.getfield 49, 3) := by decide +kernel
theorem dX6_readRules_129 : decode cX6_readRules 129 = .ok (.iload_n 1, 1) := by decide +kernel
theorem dX6_readRules_130 : decode cX6_readRules 130 = .ok (.iload_n 3, 1) := by decide +kernel
theorem dX6_readRules_131 : decode cX6_readRules 131 = .ok (.iadd, 1) := by decide +kernel
theorem dX6_readRules_132 : decode cX6_readRules 132 = .ok (.iaload, 1) := by decide +kernel
theorem dX6_readRules_133 : decode cX6_readRules 133 = .ok (.iadd, 1) := by decide +kernel
theorem dX6_readRules_134 : decode cX6_readRules 134 = .ok (.bipush 48, 2) := by decide +kernel
theorem dX6_readRules_136 : decode cX6_readRules 136 = .ok (.isub, 1) := by decide +kernel
theorem dX6_readRules_137 : decode cX6_readRules 137 = .ok (.istore 7, 2) := by decide +kernel
theorem dX6_readRules_139 : decode cX6_readRules 139 = .ok (.iinc 3 1, 3) := by decide +kernel
theorem dX6_readRules_142 : decode cX6_readRules 142 = .ok (.goto (-56), 3) := by decide +kernel
theorem dX6_readRules_145 : decode cX6_readRules 145 = .ok (.iload_n 3, 1) := by decide +kernel
theorem dX6_readRules_146 : decode cX6_readRules 146 = .ok (.iload 6, 2) := by decide +kernel
theorem dX6_readRules_148 : decode cX6_readRules 148 = .ok (.if_icmp .eq 13, 3) := by decide +kernel
theorem dX6_readRules_151 : decode cX6_readRules 151 = .ok (.iload 5, 2) := by decide +kernel
theorem dX6_readRules_153 : decode cX6_readRules 153 = .ok (.iload 7, 2) := by decide +kernel
theorem dX6_readRules_155 : decode cX6_readRules 155 = .ok (.invokestatic 118, 3) := by decide +kernel
theorem dX6_readRules_158 : decode cX6_readRules 158 = .ok (.ifCond .ne 6, 3) := by decide +kernel
theorem dX6_readRules_161 : decode cX6_readRules 161 = .ok (.iload 6, 2) := by decide +kernel
theorem dX6_readRules_163 : decode cX6_readRules 163 = .ok (.ireturn, 1) := by decide +kernel
theorem dX6_readRules_164 : decode cX6_readRules 164 = .ok (.aload_n 0, 1) := by decide +kernel
theorem dX6_readRules_165 : decode cX6_readRules 165 = .ok (.getfield 28, 3) := by decide +kernel
theorem dX6_readRules_168 : decode cX6_readRules 168 = .ok (.iload 5, 2) := by decide +kernel
theorem dX6_readRules_170 : decode cX6_readRules 170 = .ok (.iload 7, 2) := by decide +kernel
theorem dX6_readRules_172 : decode cX6_readRules 172 = .ok (.iastore, 1) := by decide +kernel
theorem dX6_readRules_173 : decode cX6_readRules 173 = .ok (.aload_n 0, 1) := by decide +kernel
theorem dX6_readRules_174 : decode cX6_readRules 174 = .ok (.dup, 1) := by decide +kernel
theorem dX6_readRules_175 : decode cX6_readRules 175 = .ok (.getfield 108, 3) := by decide +kernel
theorem dX6_readRules_178 : decode cX6_readRules 178 = .ok (.iconst 1, 1) := by decide +kernel
theorem dX6_readRules_179 : decode cX6_readRules 179 = .ok (.iadd, 1) := by decide +kernel
theorem dX6_readRules_180 : decode cX6_readRules 180 = .ok (.putfield 108, 3) := by decide +kernel
theorem dX6_readRules_183 : decode cX6_readRules 183 = .ok (.iload_n 3, 1) := by decide +kernel
theorem dX6_readRules_184 : decode cX6_readRules 184 = .ok (.iload_n 2, 1) := by decide +kernel
theorem dX6_readRules_185 : decode cX6_readRules 185 = .ok (.if_icmp .ge 7, 3) := by decide +kernel
theorem dX6_readRules_188 : decode cX6_readRules 188 = .ok (.iconst 1, 1) := by decide +kernel
theorem dX6_readRules_189 : decode cX6_readRules 189 = .ok (.goto 4, 3) := by decide +kernel
theorem dX6_readRules_192 : decode cX6_readRules 192 = .ok (.iconst 0, 1) := by decide +kernel
theorem dX6_readRules_193 : decode cX6_readRules 193 = .ok (.istore 4, 2) := by decide +kernel
theorem dX6_readRules_195 : decode cX6_readRules 195 = .ok (.iload 4, 2) := by decide +kernel
theorem dX6_readRules_197 : decode cX6_readRules 197 = .ok (.ifCond .eq 27, 3) := by decide +kernel
theorem dX6_readRules_200 : decode cX6_readRules 200 = .ok (.aload_n 0, 1) := by decide +kernel
theorem dX6_readRules_201 : decode cX6_readRules 201 = .ok (.getfield 49, 3) := by decide +kernel
theorem dX6_readRules_204 : decode cX6_readRules 204 = .ok (.iload_n 1, 1) := by decide +kernel
theorem dX6_readRules_205 : decode cX6_readRules 205 = .ok (.iload_n 3, 1) := by decide +kernel
theorem dX6_readRules_206 : decode cX6_readRules 206 = .ok (.iadd, 1) := by decide +kernel
theorem dX6_readRules_207 : decode cX6_readRules 207 = .ok (.iaload, 1) := by decide +kernel
theorem dX6_readRules_208 : decode cX6_readRules 208 = .ok (.bipush 59, 2) := by decide +kernel
theorem dX6_readRules_210 : decode cX6_readRules 210 = .ok (.if_icmp .ne 12, 3) := by decide +kernel
theorem dX6_readRules_213 : decode cX6_readRules 213 = .ok (.aload_n 0, 1) := by decide +kernel
theorem dX6_readRules_214 : decode cX6_readRules 214 = .ok (.getfield 108, 3) := by decide +kernel
theorem dX6_readRules_217 : decode cX6_readRules 217 = .ok (.bipush 6, 2) := by decide +kernel
theorem dX6_readRules_219 : decode cX6_readRules 219 = .ok (.if_icmp .ne 5, 3) := by decide +kernel
theorem dX6_readRules_222 : decode cX6_readRules 222 = .ok (.iload_n 3, 1) := by decide +kernel
theorem dX6_readRules_223 : decode cX6_readRules 223 = .ok (.ireturn, 1) := by decide +kernel
theorem dX6_readRules_224 : decode cX6_readRules 224 = .ok (.iload_n 3, 1) := by decide +kernel
theorem dX6_readRules_225 : decode cX6_readRules 225 = .ok (.iload 4, 2) := by decide +kernel
theorem dX6_readRules_227 : decode cX6_readRules 227 = .ok (.ifCond .eq 7, 3) := by decide +kernel
theorem dX6_readRules_230 : decode cX6_readRules 230 = .ok (.iconst 1, 1) := by decide +kernel
theorem dX6_readRules_231 : decode cX6_readRules 231 = .ok (.goto 4, 3) := by decide +kernel
theorem dX6_readRules_234 : decode cX6_readRules 234 = .ok (.iconst 0, 1) := by decide +kernel
theorem dX6_readRules_235 : decode cX6_readRules 235 = .ok (.iadd, 1) := by decide +kernel
theorem dX6_readRules_236 : decode cX6_readRules 236 = .ok (.istore_n 3, 1) := by decide +kernel
theorem dX6_readRules_237 : decode cX6_readRules 237 = .ok (.goto (-205), 3) := by decide +kernel
theorem dX6_readRules_240 : decode cX6_readRules 240 = .ok (.bipush (-9), 2) := by decide +kernel
theorem dX6_readRules_242 : decode cX6_readRules 242 = .ok (.ireturn, 1) := by decide +kernel
set_option maxRecDepth 20000 in
theorem ggX6_law_X6_barred : GoodIn wsX6_law wsX6_barred := goodIn_r _ [8, 9, 10, 11, 12, 13, 7, 14, 15, 16, 17, 18, 19, 20, 21, 22, 23, 24, 25, 26, 27, 28, 29, 30, 47, 48, 49, 50, 51, 52, 53, 54, 55, 56, 57, 58, 59, 60, 61, 62, 63, 64, 65, 66, 67, 68, 69, 70, 71, 72] (by decide +kernel) (by decide +kernel)
set_option maxRecDepth 20000 in
theorem gX6_law_X6_barred : GoodIn wsX6_law (wsV RX6 122 RX6 yX6_barred wsX6_barred) := goodIn_app (goodIn_of _ (by decide +kernel)) ggX6_law_X6_barred
set_option maxRecDepth 20000 in
theorem ggX6_law_X6_readRules : GoodIn wsX6_law wsX6_readRules := goodIn_r _ [34, 2, 3, 35, 36, 37, 38, 39, 7, 40, 16, 17, 18, 41, 42, 43, 47, 48, 49, 50, 51, 52, 53, 54, 55, 56, 57, 58, 59, 60, 61, 62, 63, 64, 65, 66, 67, 68, 69, 70, 71, 72] (by decide +kernel) (by decide +kernel)
set_option maxRecDepth 20000 in
theorem gX6_law_X6_readRules : GoodIn wsX6_law (wsV RX6 126 RX6 yX6_readRules wsX6_readRules) := goodIn_app (goodIn_of _ (by decide +kernel)) ggX6_law_X6_readRules
set_option maxRecDepth 20000 in
theorem ggX6_law_X6_refused : GoodIn wsX6_law wsX6_refused := goodIn_r _ [22, 23, 47, 48, 49, 50, 51, 52, 53, 54, 55, 56, 57, 58, 59, 60, 61, 62, 63, 64, 65, 66, 67, 68, 69, 70, 71, 72] (by decide +kernel) (by decide +kernel)
set_option maxRecDepth 20000 in
theorem gX6_law_X6_refused : GoodIn wsX6_law (wsV RX6 82 RX6 yX6_refused wsX6_refused) := goodIn_app (goodIn_of _ (by decide +kernel)) ggX6_law_X6_refused
set_option maxRecDepth 20000 in
theorem ggX6_law_X6_firstOf : GoodIn wsX6_law wsX6_firstOf := goodIn_r _ [46] (by decide +kernel) (by decide +kernel)
set_option maxRecDepth 20000 in
theorem gX6_law_X6_firstOf : GoodIn wsX6_law (va_wsS RX6 55 yX6_firstOf wsX6_firstOf) := goodIn_app (goodIn_of _ (by decide +kernel)) ggX6_law_X6_firstOf
theorem dX6_law_0 : decode cX6_law 0 = .ok (.aload_n 0, 1) := by decide +kernel
theorem dX6_law_1 : decode cX6_law 1 = .ok (.iload_n 1, 1) := by decide +kernel
theorem dX6_law_2 : decode cX6_law 2 = .ok (.iload_n 2, 1) := by decide +kernel
theorem dX6_law_3 : decode cX6_law 3 = .ok (.iload_n 3, 1) := by decide +kernel
theorem dX6_law_4 : decode cX6_law 4 = .ok (.iload 4, 2) := by decide +kernel
theorem dX6_law_6 : decode cX6_law 6 = .ok (.i2l, 1) := by decide +kernel
theorem dX6_law_7 : decode cX6_law 7 = .ok (.invokevirtual 122, 3) := by decide +kernel
theorem dX6_law_10 : decode cX6_law 10 = .ok (.istore 5, 2) := by decide +kernel
theorem dX6_law_12 : decode cX6_law 12 = .ok (.iload 5, 2) := by decide +kernel
theorem dX6_law_14 : decode cX6_law 14 = .ok (.ifCond .ge 6, 3) := by decide +kernel
theorem dX6_law_17 : decode cX6_law 17 = .ok (.iload 5, 2) := by decide +kernel
theorem dX6_law_19 : decode cX6_law 19 = .ok (.ireturn, 1) := by decide +kernel
theorem dX6_law_20 : decode cX6_law 20 = .ok (.aload_n 0, 1) := by decide +kernel
theorem dX6_law_21 : decode cX6_law 21 = .ok (.bipush 60, 2) := by decide +kernel
theorem dX6_law_23 : decode cX6_law 23 = .ok (.iload_n 1, 1) := by decide +kernel
theorem dX6_law_24 : decode cX6_law 24 = .ok (.imul, 1) := by decide +kernel
theorem dX6_law_25 : decode cX6_law 25 = .ok (.iload_n 3, 1) := by decide +kernel
theorem dX6_law_26 : decode cX6_law 26 = .ok (.iadd, 1) := by decide +kernel
theorem dX6_law_27 : decode cX6_law 27 = .ok (.iload 4, 2) := by decide +kernel
theorem dX6_law_29 : decode cX6_law 29 = .ok (.invokevirtual 126, 3) := by decide +kernel
theorem dX6_law_32 : decode cX6_law 32 = .ok (.istore 6, 2) := by decide +kernel
theorem dX6_law_34 : decode cX6_law 34 = .ok (.iload 6, 2) := by decide +kernel
theorem dX6_law_36 : decode cX6_law 36 = .ok (.ifCond .lt 13, 3) := by decide +kernel
theorem dX6_law_39 : decode cX6_law 39 = .ok (.aload_n 0, 1) := by decide +kernel
theorem dX6_law_40 : decode cX6_law 40 = .ok (.bipush (-100), 2) := by decide +kernel
theorem dX6_law_42 : decode cX6_law 42 = .ok (.iload 6, 2) := by decide +kernel
theorem dX6_law_44 : decode cX6_law 44 = .ok (.isub, 1) := by decide +kernel
theorem dX6_law_45 : decode cX6_law 45 = .ok (.invokevirtual 82, 3) := by decide +kernel
theorem dX6_law_48 : decode cX6_law 48 = .ok (.ireturn, 1) := by decide +kernel
theorem dX6_law_49 : decode cX6_law 49 = .ok (.iconst 0, 1) := by decide +kernel
theorem dX6_law_50 : decode cX6_law 50 = .ok (.istore 7, 2) := by decide +kernel
theorem dX6_law_52 : decode cX6_law 52 = .ok (.iload 7, 2) := by decide +kernel
theorem dX6_law_54 : decode cX6_law 54 = .ok (.bipush 6, 2) := by decide +kernel
theorem dX6_law_56 : decode cX6_law 56 = .ok (.if_icmp .ge 41, 3) := by decide +kernel
theorem dX6_law_59 : decode cX6_law 59 = .ok (.aload_n 0, 1) := by decide +kernel
theorem dX6_law_60 : decode cX6_law 60 = .ok (.getfield 25, 3) := by decide +kernel
theorem dX6_law_63 : decode cX6_law 63 = .ok (.iload 7, 2) := by decide +kernel
theorem dX6_law_65 : decode cX6_law 65 = .ok (.aload_n 0, 1) := by decide +kernel
theorem dX6_law_66 : decode cX6_law 66 = .ok (.getfield 28, 3) := by decide +kernel
theorem dX6_law_69 : decode cX6_law 69 = .ok (.iload 7, 2) := by decide +kernel
theorem dX6_law_71 : decode cX6_law 71 = .ok (.iaload, 1) := by decide +kernel
theorem dX6_law_72 : decode cX6_law 72 = .ok (.ifCond .ge 11, 3) := by decide +kernel
theorem dX6_law_75 : decode cX6_law 75 = .ok (.iload 7, 2) := by decide +kernel
theorem dX6_law_77 : decode cX6_law 77 = .ok (.invokestatic 55, 3) := by decide +kernel
theorem dX6_law_80 : decode cX6_law 80 = .ok (.goto 10, 3) := by decide +kernel
theorem dX6_law_83 : decode cX6_law 83 = .ok (.aload_n 0, 1) := by decide +kernel
theorem dX6_law_84 : decode cX6_law 84 = .ok (.getfield 28, 3) := by decide +kernel
theorem dX6_law_87 : decode cX6_law 87 = .ok (.iload 7, 2) := by decide +kernel
theorem dX6_law_89 : decode cX6_law 89 = .ok (.iaload, 1) := by decide +kernel
theorem dX6_law_90 : decode cX6_law 90 = .ok (.iastore, 1) := by decide +kernel
theorem dX6_law_91 : decode cX6_law 91 = .ok (.iinc 7 1, 3) := by decide +kernel
theorem dX6_law_94 : decode cX6_law 94 = .ok (.goto (-42), 3) := by decide +kernel
theorem dX6_law_97 : decode cX6_law 97 = .ok (.aload_n 0, 1) := by decide +kernel
theorem dX6_law_98 : decode cX6_law 98 = .ok (.aload_n 0, 1) := by decide +kernel
theorem dX6_law_99 : decode cX6_law 99 = .ok (.getfield 108, 3) := by decide +kernel
theorem dX6_law_102 : decode cX6_law 102 = .ok (.invokevirtual 82, 3) := by decide +kernel
theorem dX6_law_105 : decode cX6_law 105 = .ok (.ireturn, 1) := by decide +kernel
set_option maxRecDepth 20000 in
theorem ggX6_rule_X6_in : GoodIn wsX6_rule wsX6_in := goodIn_r _ [6] (by decide +kernel) (by decide +kernel)
set_option maxRecDepth 20000 in
theorem gX6_rule_X6_in : GoodIn wsX6_rule (va_wsS RX6 87 yX6_in wsX6_in) := goodIn_app (goodIn_of _ (by decide +kernel)) ggX6_rule_X6_in
theorem dX6_rule_0 : decode cX6_rule 0 = .ok (.iload_n 1, 1) := by decide +kernel
theorem dX6_rule_1 : decode cX6_rule 1 = .ok (.i2l, 1) := by decide +kernel
theorem dX6_rule_2 : decode cX6_rule 2 = .ok (.lconst 0, 1) := by decide +kernel
theorem dX6_rule_3 : decode cX6_rule 3 = .ok (.ldc2_w 130, 3) := by decide +kernel
theorem dX6_rule_6 : decode cX6_rule 6 = .ok (.invokestatic 87, 3) := by decide +kernel
theorem dX6_rule_9 : decode cX6_rule 9 = .ok (.ifCond .eq 12, 3) := by decide +kernel
theorem dX6_rule_12 : decode cX6_rule 12 = .ok (.aload_n 0, 1) := by decide +kernel
theorem dX6_rule_13 : decode cX6_rule 13 = .ok (.getfield 25, 3) := by decide +kernel
theorem dX6_rule_16 : decode cX6_rule 16 = .ok (.iload_n 1, 1) := by decide +kernel
theorem dX6_rule_17 : decode cX6_rule 17 = .ok (.iaload, 1) := by decide +kernel
theorem dX6_rule_18 : decode cX6_rule 18 = .ok (.goto 4, 3) := by decide +kernel
theorem dX6_rule_21 : decode cX6_rule 21 = .ok (.iconst (-1), 1) := by decide +kernel
theorem dX6_rule_22 : decode cX6_rule 22 = .ok (.ireturn, 1) := by decide +kernel
set_option maxRecDepth 20000 in
theorem ggX6_areNumbers_X6_in : GoodIn wsX6_areNumbers wsX6_in := goodIn_r _ [6] (by decide +kernel) (by decide +kernel)
set_option maxRecDepth 20000 in
theorem gX6_areNumbers_X6_in : GoodIn wsX6_areNumbers (va_wsS RX6 87 yX6_in wsX6_in) := goodIn_app (goodIn_of _ (by decide +kernel)) ggX6_areNumbers_X6_in
theorem dX6_areNumbers_0 : decode cX6_areNumbers 0 = .ok (.iload_n 2, 1) := by decide +kernel
theorem dX6_areNumbers_1 : decode cX6_areNumbers 1 = .ok (.i2l, 1) := by decide +kernel
theorem dX6_areNumbers_2 : decode cX6_areNumbers 2 = .ok (.lconst 1, 1) := by decide +kernel
theorem dX6_areNumbers_3 : decode cX6_areNumbers 3 = .ok (.ldc2_w 132, 3) := by decide +kernel
theorem dX6_areNumbers_6 : decode cX6_areNumbers 6 = .ok (.invokestatic 87, 3) := by decide +kernel
theorem dX6_areNumbers_9 : decode cX6_areNumbers 9 = .ok (.istore 5, 2) := by decide +kernel
theorem dX6_areNumbers_11 : decode cX6_areNumbers 11 = .ok (.iconst 0, 1) := by decide +kernel
theorem dX6_areNumbers_12 : decode cX6_areNumbers 12 = .ok (.istore 6, 2) := by decide +kernel
theorem dX6_areNumbers_14 : decode cX6_areNumbers 14 = .ok (.iload 6, 2) := by decide +kernel
theorem dX6_areNumbers_16 : decode cX6_areNumbers 16 = .ok (.iload_n 2, 1) := by decide +kernel
theorem dX6_areNumbers_17 : decode cX6_areNumbers 17 = .ok (.if_icmp .ge 34, 3) := by decide +kernel
theorem dX6_areNumbers_20 : decode cX6_areNumbers 20 = .ok (.iload 5, 2) := by decide +kernel
theorem dX6_areNumbers_22 : decode cX6_areNumbers 22 = .ok (.ifCond .eq 29, 3) := by decide +kernel
theorem dX6_areNumbers_25 : decode cX6_areNumbers 25 = .ok (.aload_n 0, 1) := by decide +kernel
theorem dX6_areNumbers_26 : decode cX6_areNumbers 26 = .ok (.getfield 49, 3) := by decide +kernel
theorem dX6_areNumbers_29 : decode cX6_areNumbers 29 = .ok (.iload_n 1, 1) := by decide +kernel
theorem dX6_areNumbers_30 : decode cX6_areNumbers 30 = .ok (.iload 6, 2) := by decide +kernel
theorem dX6_areNumbers_32 : decode cX6_areNumbers 32 = .ok (.iadd, 1) := by decide +kernel
theorem dX6_areNumbers_33 : decode cX6_areNumbers 33 = .ok (.iaload, 1) := by decide +kernel
theorem dX6_areNumbers_34 : decode cX6_areNumbers 34 = .ok (.i2l, 1) := by decide +kernel
theorem dX6_areNumbers_35 : decode cX6_areNumbers 35 = .ok (.iload_n 3, 1) := by decide +kernel
theorem dX6_areNumbers_36 : decode cX6_areNumbers 36 = .ok (.i2l, 1) := by decide +kernel
theorem dX6_areNumbers_37 : decode cX6_areNumbers 37 = .ok (.iload 4, 2) := by decide +kernel
theorem dX6_areNumbers_39 : decode cX6_areNumbers 39 = .ok (.i2l, 1) := by decide +kernel
theorem dX6_areNumbers_40 : decode cX6_areNumbers 40 = .ok (.invokestatic 87, 3) := by decide +kernel
theorem dX6_areNumbers_43 : decode cX6_areNumbers 43 = .ok (.istore 5, 2) := by decide +kernel
theorem dX6_areNumbers_45 : decode cX6_areNumbers 45 = .ok (.iinc 6 1, 3) := by decide +kernel
theorem dX6_areNumbers_48 : decode cX6_areNumbers 48 = .ok (.goto (-34), 3) := by decide +kernel
theorem dX6_areNumbers_51 : decode cX6_areNumbers 51 = .ok (.iload 5, 2) := by decide +kernel
theorem dX6_areNumbers_53 : decode cX6_areNumbers 53 = .ok (.ireturn, 1) := by decide +kernel
set_option maxRecDepth 20000 in
theorem ggX6_waves_X6_barred : GoodIn wsX6_waves wsX6_barred := goodIn_r _ [8, 9, 10, 11, 12, 13, 7, 14, 15, 16, 17, 18, 19, 20, 21, 22, 23, 24, 25, 26, 27, 28, 29, 30, 36, 37, 38, 39, 40, 41, 42, 43, 44, 45, 46, 47, 48, 49, 50, 51, 52, 53, 54, 55, 56, 57, 58, 59, 60, 61] (by decide +kernel) (by decide +kernel)
set_option maxRecDepth 20000 in
theorem gX6_waves_X6_barred : GoodIn wsX6_waves (wsV RX6 122 RX6 yX6_barred wsX6_barred) := goodIn_app (goodIn_of _ (by decide +kernel)) ggX6_waves_X6_barred
set_option maxRecDepth 20000 in
theorem ggX6_waves_X6_areNumbers : GoodIn wsX6_waves wsX6_areNumbers := goodIn_r _ [34, 35, 3, 16, 17, 7, 18, 36, 37, 38, 39, 40, 41, 42, 43, 44, 45, 46, 47, 48, 49, 50, 51, 52, 53, 54, 55, 56, 57, 58, 59, 60, 61] (by decide +kernel) (by decide +kernel)
set_option maxRecDepth 20000 in
theorem gX6_waves_X6_areNumbers : GoodIn wsX6_waves (wsV RX6 134 RX6 yX6_areNumbers wsX6_areNumbers) := goodIn_app (goodIn_of _ (by decide +kernel)) ggX6_waves_X6_areNumbers
set_option maxRecDepth 20000 in
theorem ggX6_waves_X6_refused : GoodIn wsX6_waves wsX6_refused := goodIn_r _ [22, 23, 36, 37, 38, 39, 40, 41, 42, 43, 44, 45, 46, 47, 48, 49, 50, 51, 52, 53, 54, 55, 56, 57, 58, 59, 60, 61] (by decide +kernel) (by decide +kernel)
set_option maxRecDepth 20000 in
theorem gX6_waves_X6_refused : GoodIn wsX6_waves (wsV RX6 82 RX6 yX6_refused wsX6_refused) := goodIn_app (goodIn_of _ (by decide +kernel)) ggX6_waves_X6_refused
theorem dX6_waves_0 : decode cX6_waves 0 = .ok (.aload_n 0, 1) := by decide +kernel
theorem dX6_waves_1 : decode cX6_waves 1 = .ok (.iload_n 1, 1) := by decide +kernel
theorem dX6_waves_2 : decode cX6_waves 2 = .ok (.iload_n 2, 1) := by decide +kernel
theorem dX6_waves_3 : decode cX6_waves 3 = .ok (.iload_n 3, 1) := by decide +kernel
theorem dX6_waves_4 : decode cX6_waves 4 = .ok (.iload 4, 2) := by decide +kernel
theorem dX6_waves_6 : decode cX6_waves 6 = .ok (.i2l, 1) := by decide +kernel
theorem dX6_waves_7 : decode cX6_waves 7 = .ok (.invokevirtual 122, 3) := by decide +kernel
theorem dX6_waves_10 : decode cX6_waves 10 = .ok (.istore 5, 2) := by decide +kernel
theorem dX6_waves_12 : decode cX6_waves 12 = .ok (.iload 5, 2) := by decide +kernel
theorem dX6_waves_14 : decode cX6_waves 14 = .ok (.ifCond .ge 6, 3) := by decide +kernel
theorem dX6_waves_17 : decode cX6_waves 17 = .ok (.iload 5, 2) := by decide +kernel
theorem dX6_waves_19 : decode cX6_waves 19 = .ok (.ireturn, 1) := by decide +kernel
theorem dX6_waves_20 : decode cX6_waves 20 = .ok (.aload_n 0, 1) := by decide +kernel
theorem dX6_waves_21 : decode cX6_waves 21 = .ok (.bipush 60, 2) := by decide +kernel
theorem dX6_waves_23 : decode cX6_waves 23 = .ok (.iload_n 1, 1) := by decide +kernel
theorem dX6_waves_24 : decode cX6_waves 24 = .ok (.imul, 1) := by decide +kernel
theorem dX6_waves_25 : decode cX6_waves 25 = .ok (.iload_n 3, 1) := by decide +kernel
theorem dX6_waves_26 : decode cX6_waves 26 = .ok (.iadd, 1) := by decide +kernel
theorem dX6_waves_27 : decode cX6_waves 27 = .ok (.iload 4, 2) := by decide +kernel
theorem dX6_waves_29 : decode cX6_waves 29 = .ok (.bipush (-9), 2) := by decide +kernel
theorem dX6_waves_31 : decode cX6_waves 31 = .ok (.bipush 9, 2) := by decide +kernel
theorem dX6_waves_33 : decode cX6_waves 33 = .ok (.invokevirtual 134, 3) := by decide +kernel
theorem dX6_waves_36 : decode cX6_waves 36 = .ok (.ifCond .ne 10, 3) := by decide +kernel
theorem dX6_waves_39 : decode cX6_waves 39 = .ok (.aload_n 0, 1) := by decide +kernel
theorem dX6_waves_40 : decode cX6_waves 40 = .ok (.bipush (-2), 2) := by decide +kernel
theorem dX6_waves_42 : decode cX6_waves 42 = .ok (.invokevirtual 82, 3) := by decide +kernel
theorem dX6_waves_45 : decode cX6_waves 45 = .ok (.ireturn, 1) := by decide +kernel
theorem dX6_waves_46 : decode cX6_waves 46 = .ok (.aload_n 0, 1) := by decide +kernel
theorem dX6_waves_47 : decode cX6_waves 47 = .ok (.iload 4, 2) := by decide +kernel
theorem dX6_waves_49 : decode cX6_waves 49 = .ok (.putfield 59, 3) := by decide +kernel
theorem dX6_waves_52 : decode cX6_waves 52 = .ok (.iconst 0, 1) := by decide +kernel
theorem dX6_waves_53 : decode cX6_waves 53 = .ok (.istore 6, 2) := by decide +kernel
theorem dX6_waves_55 : decode cX6_waves 55 = .ok (.iload 6, 2) := by decide +kernel
theorem dX6_waves_57 : decode cX6_waves 57 = .ok (.iload 4, 2) := by decide +kernel
theorem dX6_waves_59 : decode cX6_waves 59 = .ok (.if_icmp .ge 30, 3) := by decide +kernel
theorem dX6_waves_62 : decode cX6_waves 62 = .ok (.aload_n 0, 1) := by decide +kernel
theorem dX6_waves_63 : decode cX6_waves 63 = .ok (.getfield 31, 3) := by decide +kernel
theorem dX6_waves_66 : decode cX6_waves 66 = .ok (.iload 6, 2) := by decide +kernel
theorem dX6_waves_68 : decode cX6_waves 68 = .ok (.aload_n 0, 1) := by decide +kernel
theorem dX6_waves_69 : decode cX6_waves 69 = .ok (.getfield 49, 3) := by decide +kernel
theorem dX6_waves_72 : decode cX6_waves 72 = .ok (.bipush 60, 2) := by decide +kernel
theorem dX6_waves_74 : decode cX6_waves 74 = .ok (.iload_n 1, 1) := by decide +kernel
theorem dX6_waves_75 : decode cX6_waves 75 = .ok (.imul, 1) := by decide +kernel
theorem dX6_waves_76 : decode cX6_waves 76 = .ok (.iload_n 3, 1) := by decide +kernel
theorem dX6_waves_77 : decode cX6_waves 77 = .ok (.iadd, 1) := by decide +kernel
theorem dX6_waves_78 : decode cX6_waves 78 = .ok (.iload 6, 2) := by decide +kernel
theorem dX6_waves_80 : decode cX6_waves 80 = .ok (.iadd, 1) := by decide +kernel
theorem dX6_waves_81 : decode cX6_waves 81 = .ok (.iaload, 1) := by decide +kernel
theorem dX6_waves_82 : decode cX6_waves 82 = .ok (.iastore, 1) := by decide +kernel
theorem dX6_waves_83 : decode cX6_waves 83 = .ok (.iinc 6 1, 3) := by decide +kernel
theorem dX6_waves_86 : decode cX6_waves 86 = .ok (.goto (-31), 3) := by decide +kernel
theorem dX6_waves_89 : decode cX6_waves 89 = .ok (.aload_n 0, 1) := by decide +kernel
theorem dX6_waves_90 : decode cX6_waves 90 = .ok (.iload 4, 2) := by decide +kernel
theorem dX6_waves_92 : decode cX6_waves 92 = .ok (.invokevirtual 82, 3) := by decide +kernel
theorem dX6_waves_95 : decode cX6_waves 95 = .ok (.ireturn, 1) := by decide +kernel
set_option maxRecDepth 20000 in
theorem ggX6_shift_X6_in : GoodIn wsX6_shift wsX6_in := goodIn_r _ [6] (by decide +kernel) (by decide +kernel)
set_option maxRecDepth 20000 in
theorem gX6_shift_X6_in : GoodIn wsX6_shift (va_wsS RX6 87 yX6_in wsX6_in) := goodIn_app (goodIn_of _ (by decide +kernel)) ggX6_shift_X6_in
theorem dX6_shift_0 : decode cX6_shift 0 = .ok (.iload_n 1, 1) := by decide +kernel
theorem dX6_shift_1 : decode cX6_shift 1 = .ok (.i2l, 1) := by decide +kernel
theorem dX6_shift_2 : decode cX6_shift 2 = .ok (.lconst 0, 1) := by decide +kernel
theorem dX6_shift_3 : decode cX6_shift 3 = .ok (.ldc2_w 138, 3) := by decide +kernel
theorem dX6_shift_6 : decode cX6_shift 6 = .ok (.invokestatic 87, 3) := by decide +kernel
theorem dX6_shift_9 : decode cX6_shift 9 = .ok (.ifCond .ne 6, 3) := by decide +kernel
theorem dX6_shift_12 : decode cX6_shift 12 = .ok (.bipush (-2), 2) := by decide +kernel
theorem dX6_shift_14 : decode cX6_shift 14 = .ok (.ireturn, 1) := by decide +kernel
theorem dX6_shift_15 : decode cX6_shift 15 = .ok (.aload_n 0, 1) := by decide +kernel
theorem dX6_shift_16 : decode cX6_shift 16 = .ok (.getfield 140, 3) := by decide +kernel
theorem dX6_shift_19 : decode cX6_shift 19 = .ok (.istore_n 2, 1) := by decide +kernel
theorem dX6_shift_20 : decode cX6_shift 20 = .ok (.aload_n 0, 1) := by decide +kernel
theorem dX6_shift_21 : decode cX6_shift 21 = .ok (.iload_n 1, 1) := by decide +kernel
theorem dX6_shift_22 : decode cX6_shift 22 = .ok (.putfield 140, 3) := by decide +kernel
theorem dX6_shift_25 : decode cX6_shift 25 = .ok (.iload_n 2, 1) := by decide +kernel
theorem dX6_shift_26 : decode cX6_shift 26 = .ok (.ireturn, 1) := by decide +kernel
theorem dX6_waveAt_0 : decode cX6_waveAt 0 = .ok (.aload_n 0, 1) := by decide +kernel
theorem dX6_waveAt_1 : decode cX6_waveAt 1 = .ok (.getfield 31, 3) := by decide +kernel
theorem dX6_waveAt_4 : decode cX6_waveAt 4 = .ok (.iload_n 1, 1) := by decide +kernel
theorem dX6_waveAt_5 : decode cX6_waveAt 5 = .ok (.aload_n 0, 1) := by decide +kernel
theorem dX6_waveAt_6 : decode cX6_waveAt 6 = .ok (.getfield 140, 3) := by decide +kernel
theorem dX6_waveAt_9 : decode cX6_waveAt 9 = .ok (.iadd, 1) := by decide +kernel
theorem dX6_waveAt_10 : decode cX6_waveAt 10 = .ok (.aload_n 0, 1) := by decide +kernel
theorem dX6_waveAt_11 : decode cX6_waveAt 11 = .ok (.getfield 59, 3) := by decide +kernel
theorem dX6_waveAt_14 : decode cX6_waveAt 14 = .ok (.irem, 1) := by decide +kernel
theorem dX6_waveAt_15 : decode cX6_waveAt 15 = .ok (.iaload, 1) := by decide +kernel
theorem dX6_waveAt_16 : decode cX6_waveAt 16 = .ok (.ireturn, 1) := by decide +kernel
set_option maxRecDepth 20000 in
theorem ggX6_wave_X6_in : GoodIn wsX6_wave wsX6_in := goodIn_r _ [5] (by decide +kernel) (by decide +kernel)
set_option maxRecDepth 20000 in
theorem gX6_wave_X6_in : GoodIn wsX6_wave (va_wsS RX6 87 yX6_in wsX6_in) := goodIn_app (goodIn_of _ (by decide +kernel)) ggX6_wave_X6_in
set_option maxRecDepth 20000 in
theorem ggX6_wave_X6_waveAt : GoodIn wsX6_wave wsX6_waveAt := goodIn_r _ [9, 10, 11, 12, 13, 14, 15, 16, 17, 18, 19, 20, 21, 22, 23, 24, 25, 26, 27, 28, 29, 30, 31, 32, 33, 34, 35, 36, 37, 38] (by decide +kernel) (by decide +kernel)
set_option maxRecDepth 20000 in
theorem gX6_wave_X6_waveAt : GoodIn wsX6_wave (wsV RX6 145 RX6 yX6_waveAt wsX6_waveAt) := goodIn_app (goodIn_of _ (by decide +kernel)) ggX6_wave_X6_waveAt
theorem dX6_wave_0 : decode cX6_wave 0 = .ok (.iload_n 1, 1) := by decide +kernel
theorem dX6_wave_1 : decode cX6_wave 1 = .ok (.i2l, 1) := by decide +kernel
theorem dX6_wave_2 : decode cX6_wave 2 = .ok (.lconst 0, 1) := by decide +kernel
theorem dX6_wave_3 : decode cX6_wave 3 = .ok (.ldc2_w 143, 3) := by decide +kernel
theorem dX6_wave_6 : decode cX6_wave 6 = .ok (.invokestatic 87, 3) := by decide +kernel
theorem dX6_wave_9 : decode cX6_wave 9 = .ok (.ifCond .eq 11, 3) := by decide +kernel
theorem dX6_wave_12 : decode cX6_wave 12 = .ok (.aload_n 0, 1) := by decide +kernel
theorem dX6_wave_13 : decode cX6_wave 13 = .ok (.iload_n 1, 1) := by decide +kernel
theorem dX6_wave_14 : decode cX6_wave 14 = .ok (.invokevirtual 145, 3) := by decide +kernel
theorem dX6_wave_17 : decode cX6_wave 17 = .ok (.goto 5, 3) := by decide +kernel
theorem dX6_wave_20 : decode cX6_wave 20 = .ok (.bipush (-99), 2) := by decide +kernel
theorem dX6_wave_22 : decode cX6_wave 22 = .ok (.ireturn, 1) := by decide +kernel
set_option maxRecDepth 20000 in
theorem ggX6_isSunk_X6_in : GoodIn wsX6_isSunk wsX6_in := goodIn_r _ [8] (by decide +kernel) (by decide +kernel)
set_option maxRecDepth 20000 in
theorem gX6_isSunk_X6_in : GoodIn wsX6_isSunk (va_wsS RX6 87 yX6_in wsX6_in) := goodIn_app (goodIn_of _ (by decide +kernel)) ggX6_isSunk_X6_in
theorem dX6_isSunk_0 : decode cX6_isSunk 0 = .ok (.iload 4, 2) := by decide +kernel
theorem dX6_isSunk_2 : decode cX6_isSunk 2 = .ok (.i2l, 1) := by decide +kernel
theorem dX6_isSunk_3 : decode cX6_isSunk 3 = .ok (.lconst 1, 1) := by decide +kernel
theorem dX6_isSunk_4 : decode cX6_isSunk 4 = .ok (.ldc2_w 148, 3) := by decide +kernel
theorem dX6_isSunk_7 : decode cX6_isSunk 7 = .ok (.invokestatic 87, 3) := by decide +kernel
theorem dX6_isSunk_10 : decode cX6_isSunk 10 = .ok (.ifCond .eq 38, 3) := by decide +kernel
theorem dX6_isSunk_13 : decode cX6_isSunk 13 = .ok (.iload_n 2, 1) := by decide +kernel
theorem dX6_isSunk_14 : decode cX6_isSunk 14 = .ok (.aload_n 0, 1) := by decide +kernel
theorem dX6_isSunk_15 : decode cX6_isSunk 15 = .ok (.getfield 13, 3) := by decide +kernel
theorem dX6_isSunk_18 : decode cX6_isSunk 18 = .ok (.iload_n 1, 1) := by decide +kernel
theorem dX6_isSunk_19 : decode cX6_isSunk 19 = .ok (.iaload, 1) := by decide +kernel
theorem dX6_isSunk_20 : decode cX6_isSunk 20 = .ok (.imul, 1) := by decide +kernel
theorem dX6_isSunk_21 : decode cX6_isSunk 21 = .ok (.iload 4, 2) := by decide +kernel
theorem dX6_isSunk_23 : decode cX6_isSunk 23 = .ok (.imul, 1) := by decide +kernel
theorem dX6_isSunk_24 : decode cX6_isSunk 24 = .ok (.bipush 10, 2) := by decide +kernel
theorem dX6_isSunk_26 : decode cX6_isSunk 26 = .ok (.aload_n 0, 1) := by decide +kernel
theorem dX6_isSunk_27 : decode cX6_isSunk 27 = .ok (.getfield 25, 3) := by decide +kernel
theorem dX6_isSunk_30 : decode cX6_isSunk 30 = .ok (.iconst 0, 1) := by decide +kernel
theorem dX6_isSunk_31 : decode cX6_isSunk 31 = .ok (.iaload, 1) := by decide +kernel
theorem dX6_isSunk_32 : decode cX6_isSunk 32 = .ok (.imul, 1) := by decide +kernel
theorem dX6_isSunk_33 : decode cX6_isSunk 33 = .ok (.idiv, 1) := by decide +kernel
theorem dX6_isSunk_34 : decode cX6_isSunk 34 = .ok (.aload_n 0, 1) := by decide +kernel
theorem dX6_isSunk_35 : decode cX6_isSunk 35 = .ok (.getfield 7, 3) := by decide +kernel
theorem dX6_isSunk_38 : decode cX6_isSunk 38 = .ok (.iload_n 1, 1) := by decide +kernel
theorem dX6_isSunk_39 : decode cX6_isSunk 39 = .ok (.iaload, 1) := by decide +kernel
theorem dX6_isSunk_40 : decode cX6_isSunk 40 = .ok (.iload_n 3, 1) := by decide +kernel
theorem dX6_isSunk_41 : decode cX6_isSunk 41 = .ok (.bipush 10, 2) := by decide +kernel
theorem dX6_isSunk_43 : decode cX6_isSunk 43 = .ok (.iadd, 1) := by decide +kernel
theorem dX6_isSunk_44 : decode cX6_isSunk 44 = .ok (.imul, 1) := by decide +kernel
theorem dX6_isSunk_45 : decode cX6_isSunk 45 = .ok (.if_icmp .ge 7, 3) := by decide +kernel
theorem dX6_isSunk_48 : decode cX6_isSunk 48 = .ok (.iconst 1, 1) := by decide +kernel
theorem dX6_isSunk_49 : decode cX6_isSunk 49 = .ok (.goto 4, 3) := by decide +kernel
theorem dX6_isSunk_52 : decode cX6_isSunk 52 = .ok (.iconst 0, 1) := by decide +kernel
theorem dX6_isSunk_53 : decode cX6_isSunk 53 = .ok (.ireturn, 1) := by decide +kernel
set_option maxRecDepth 20000 in
theorem ggX6_fly_X6_waveAt : GoodIn wsX6_fly wsX6_waveAt := goodIn_r _ [9, 10, 11, 12, 26, 27, 28, 29, 30, 31, 32, 33, 34, 35, 36, 37, 38, 39, 40, 41, 42, 43, 44, 45, 46, 47, 48, 49, 50, 51] (by decide +kernel) (by decide +kernel)
set_option maxRecDepth 20000 in
theorem gX6_fly_X6_waveAt : GoodIn wsX6_fly (wsV RX6 145 RX6 yX6_waveAt wsX6_waveAt) := goodIn_app (goodIn_of _ (by decide +kernel)) ggX6_fly_X6_waveAt
set_option maxRecDepth 20000 in
theorem ggX6_fly_X6_isSunk : GoodIn wsX6_fly wsX6_isSunk := goodIn_r _ [16, 17, 18, 2, 19, 20, 21, 8, 22, 26, 27, 28, 29, 30, 31, 32, 33, 34, 35, 36, 37, 38, 39, 40, 41, 42, 43, 44, 45, 46, 47, 48, 49, 50, 51] (by decide +kernel) (by decide +kernel)
set_option maxRecDepth 20000 in
theorem gX6_fly_X6_isSunk : GoodIn wsX6_fly (wsV RX6 153 RX6 yX6_isSunk wsX6_isSunk) := goodIn_app (goodIn_of _ (by decide +kernel)) ggX6_fly_X6_isSunk
set_option maxRecDepth 20000 in
theorem ggX6_fly_X6_greater : GoodIn wsX6_fly wsX6_greater := goodIn_r _ [25] (by decide +kernel) (by decide +kernel)
set_option maxRecDepth 20000 in
theorem gX6_fly_X6_greater : GoodIn wsX6_fly (va_wsS RX6 156 yX6_greater wsX6_greater) := goodIn_app (goodIn_of _ (by decide +kernel)) ggX6_fly_X6_greater
theorem dX6_fly_0 : decode cX6_fly 0 = .ok (.iconst 0, 1) := by decide +kernel
theorem dX6_fly_1 : decode cX6_fly 1 = .ok (.istore 6, 2) := by decide +kernel
theorem dX6_fly_3 : decode cX6_fly 3 = .ok (.iload_n 2, 1) := by decide +kernel
theorem dX6_fly_4 : decode cX6_fly 4 = .ok (.istore 7, 2) := by decide +kernel
theorem dX6_fly_6 : decode cX6_fly 6 = .ok (.iload_n 3, 1) := by decide +kernel
theorem dX6_fly_7 : decode cX6_fly 7 = .ok (.istore 8, 2) := by decide +kernel
theorem dX6_fly_9 : decode cX6_fly 9 = .ok (.iload 4, 2) := by decide +kernel
theorem dX6_fly_11 : decode cX6_fly 11 = .ok (.istore 9, 2) := by decide +kernel
theorem dX6_fly_13 : decode cX6_fly 13 = .ok (.iload 5, 2) := by decide +kernel
theorem dX6_fly_15 : decode cX6_fly 15 = .ok (.istore 10, 2) := by decide +kernel
theorem dX6_fly_17 : decode cX6_fly 17 = .ok (.iconst 0, 1) := by decide +kernel
theorem dX6_fly_18 : decode cX6_fly 18 = .ok (.istore 11, 2) := by decide +kernel
theorem dX6_fly_20 : decode cX6_fly 20 = .ok (.aload_n 0, 1) := by decide +kernel
theorem dX6_fly_21 : decode cX6_fly 21 = .ok (.iconst 0, 1) := by decide +kernel
theorem dX6_fly_22 : decode cX6_fly 22 = .ok (.putfield 150, 3) := by decide +kernel
theorem dX6_fly_25 : decode cX6_fly 25 = .ok (.iconst 1, 1) := by decide +kernel
theorem dX6_fly_26 : decode cX6_fly 26 = .ok (.istore 12, 2) := by decide +kernel
theorem dX6_fly_28 : decode cX6_fly 28 = .ok (.iload 12, 2) := by decide +kernel
theorem dX6_fly_30 : decode cX6_fly 30 = .ok (.ifCond .eq 384, 3) := by decide +kernel
theorem dX6_fly_33 : decode cX6_fly 33 = .ok (.bipush 9, 2) := by decide +kernel
theorem dX6_fly_35 : decode cX6_fly 35 = .ok (.aload_n 0, 1) := by decide +kernel
theorem dX6_fly_36 : decode cX6_fly 36 = .ok (.getfield 150, 3) := by decide +kernel
theorem dX6_fly_39 : decode cX6_fly 39 = .ok (.imul, 1) := by decide +kernel
theorem dX6_fly_40 : decode cX6_fly 40 = .ok (.istore 13, 2) := by decide +kernel
theorem dX6_fly_42 : decode cX6_fly 42 = .ok (.iload 9, 2) := by decide +kernel
theorem dX6_fly_44 : decode cX6_fly 44 = .ok (.aload_n 0, 1) := by decide +kernel
theorem dX6_fly_45 : decode cX6_fly 45 = .ok (.iload 6, 2) := by decide +kernel
theorem dX6_fly_47 : decode cX6_fly 47 = .ok (.invokevirtual 145, 3) := by decide +kernel
theorem dX6_fly_50 : decode cX6_fly 50 = .ok (.iadd, 1) := by decide +kernel
theorem dX6_fly_51 : decode cX6_fly 51 = .ok (.istore 14, 2) := by decide +kernel
theorem dX6_fly_53 : decode cX6_fly 53 = .ok (.aload_n 0, 1) := by decide +kernel
theorem dX6_fly_54 : decode cX6_fly 54 = .ok (.iload_n 1, 1) := by decide +kernel
theorem dX6_fly_55 : decode cX6_fly 55 = .ok (.iload 7, 2) := by decide +kernel
theorem dX6_fly_57 : decode cX6_fly 57 = .ok (.iload 8, 2) := by decide +kernel
theorem dX6_fly_59 : decode cX6_fly 59 = .ok (.iload 14, 2) := by decide +kernel
theorem dX6_fly_61 : decode cX6_fly 61 = .ok (.invokevirtual 153, 3) := by decide +kernel
theorem dX6_fly_64 : decode cX6_fly 64 = .ok (.istore 15, 2) := by decide +kernel
theorem dX6_fly_66 : decode cX6_fly 66 = .ok (.iload 14, 2) := by decide +kernel
theorem dX6_fly_68 : decode cX6_fly 68 = .ok (.aload_n 0, 1) := by decide +kernel
theorem dX6_fly_69 : decode cX6_fly 69 = .ok (.getfield 25, 3) := by decide +kernel
theorem dX6_fly_72 : decode cX6_fly 72 = .ok (.iconst 5, 1) := by decide +kernel
theorem dX6_fly_73 : decode cX6_fly 73 = .ok (.iaload, 1) := by decide +kernel
theorem dX6_fly_74 : decode cX6_fly 74 = .ok (.if_icmp .le 7, 3) := by decide +kernel
theorem dX6_fly_77 : decode cX6_fly 77 = .ok (.iconst 1, 1) := by decide +kernel
theorem dX6_fly_78 : decode cX6_fly 78 = .ok (.goto 4, 3) := by decide +kernel
theorem dX6_fly_81 : decode cX6_fly 81 = .ok (.iconst 0, 1) := by decide +kernel
theorem dX6_fly_82 : decode cX6_fly 82 = .ok (.istore 16, 2) := by decide +kernel
theorem dX6_fly_84 : decode cX6_fly 84 = .ok (.aload_n 0, 1) := by decide +kernel
theorem dX6_fly_85 : decode cX6_fly 85 = .ok (.getfield 34, 3) := by decide +kernel
theorem dX6_fly_88 : decode cX6_fly 88 = .ok (.iload 13, 2) := by decide +kernel
theorem dX6_fly_90 : decode cX6_fly 90 = .ok (.iconst 1, 1) := by decide +kernel
theorem dX6_fly_91 : decode cX6_fly 91 = .ok (.iadd, 1) := by decide +kernel
theorem dX6_fly_92 : decode cX6_fly 92 = .ok (.iload 6, 2) := by decide +kernel
theorem dX6_fly_94 : decode cX6_fly 94 = .ok (.iastore, 1) := by decide +kernel
theorem dX6_fly_95 : decode cX6_fly 95 = .ok (.aload_n 0, 1) := by decide +kernel
theorem dX6_fly_96 : decode cX6_fly 96 = .ok (.getfield 34, 3) := by decide +kernel
theorem dX6_fly_99 : decode cX6_fly 99 = .ok (.iload 13, 2) := by decide +kernel
theorem dX6_fly_101 : decode cX6_fly 101 = .ok (.iconst 2, 1) := by decide +kernel
theorem dX6_fly_102 : decode cX6_fly 102 = .ok (.iadd, 1) := by decide +kernel
theorem dX6_fly_103 : decode cX6_fly 103 = .ok (.iload 7, 2) := by decide +kernel
theorem dX6_fly_105 : decode cX6_fly 105 = .ok (.iastore, 1) := by decide +kernel
theorem dX6_fly_106 : decode cX6_fly 106 = .ok (.aload_n 0, 1) := by decide +kernel
theorem dX6_fly_107 : decode cX6_fly 107 = .ok (.getfield 34, 3) := by decide +kernel
theorem dX6_fly_110 : decode cX6_fly 110 = .ok (.iload 13, 2) := by decide +kernel
theorem dX6_fly_112 : decode cX6_fly 112 = .ok (.iconst 3, 1) := by decide +kernel
theorem dX6_fly_113 : decode cX6_fly 113 = .ok (.iadd, 1) := by decide +kernel
theorem dX6_fly_114 : decode cX6_fly 114 = .ok (.iload 8, 2) := by decide +kernel
theorem dX6_fly_116 : decode cX6_fly 116 = .ok (.iastore, 1) := by decide +kernel
theorem dX6_fly_117 : decode cX6_fly 117 = .ok (.aload_n 0, 1) := by decide +kernel
theorem dX6_fly_118 : decode cX6_fly 118 = .ok (.getfield 34, 3) := by decide +kernel
theorem dX6_fly_121 : decode cX6_fly 121 = .ok (.iload 13, 2) := by decide +kernel
theorem dX6_fly_123 : decode cX6_fly 123 = .ok (.iconst 4, 1) := by decide +kernel
theorem dX6_fly_124 : decode cX6_fly 124 = .ok (.iadd, 1) := by decide +kernel
theorem dX6_fly_125 : decode cX6_fly 125 = .ok (.iload 9, 2) := by decide +kernel
theorem dX6_fly_127 : decode cX6_fly 127 = .ok (.iastore, 1) := by decide +kernel
theorem dX6_fly_128 : decode cX6_fly 128 = .ok (.aload_n 0, 1) := by decide +kernel
theorem dX6_fly_129 : decode cX6_fly 129 = .ok (.getfield 34, 3) := by decide +kernel
theorem dX6_fly_132 : decode cX6_fly 132 = .ok (.iload 13, 2) := by decide +kernel
theorem dX6_fly_134 : decode cX6_fly 134 = .ok (.iconst 5, 1) := by decide +kernel
theorem dX6_fly_135 : decode cX6_fly 135 = .ok (.iadd, 1) := by decide +kernel
theorem dX6_fly_136 : decode cX6_fly 136 = .ok (.iload 10, 2) := by decide +kernel
theorem dX6_fly_138 : decode cX6_fly 138 = .ok (.iastore, 1) := by decide +kernel
theorem dX6_fly_139 : decode cX6_fly 139 = .ok (.aload_n 0, 1) := by decide +kernel
theorem dX6_fly_140 : decode cX6_fly 140 = .ok (.getfield 34, 3) := by decide +kernel
theorem dX6_fly_143 : decode cX6_fly 143 = .ok (.iload 13, 2) := by decide +kernel
theorem dX6_fly_145 : decode cX6_fly 145 = .ok (.bipush 6, 2) := by decide +kernel
theorem dX6_fly_147 : decode cX6_fly 147 = .ok (.iadd, 1) := by decide +kernel
theorem dX6_fly_148 : decode cX6_fly 148 = .ok (.iload 14, 2) := by decide +kernel
theorem dX6_fly_150 : decode cX6_fly 150 = .ok (.iastore, 1) := by decide +kernel
theorem dX6_fly_151 : decode cX6_fly 151 = .ok (.aload_n 0, 1) := by decide +kernel
theorem dX6_fly_152 : decode cX6_fly 152 = .ok (.getfield 34, 3) := by decide +kernel
theorem dX6_fly_155 : decode cX6_fly 155 = .ok (.iload 13, 2) := by decide +kernel
theorem dX6_fly_157 : decode cX6_fly 157 = .ok (.bipush 8, 2) := by decide +kernel
theorem dX6_fly_159 : decode cX6_fly 159 = .ok (.iadd, 1) := by decide +kernel
theorem dX6_fly_160 : decode cX6_fly 160 = .ok (.iload 11, 2) := by decide +kernel
theorem dX6_fly_162 : decode cX6_fly 162 = .ok (.iastore, 1) := by decide +kernel
theorem dX6_fly_163 : decode cX6_fly 163 = .ok (.aload_n 0, 1) := by decide +kernel
theorem dX6_fly_164 : decode cX6_fly 164 = .ok (.dup, 1) := by decide +kernel
theorem dX6_fly_165 : decode cX6_fly 165 = .ok (.getfield 150, 3) := by decide +kernel
theorem dX6_fly_168 : decode cX6_fly 168 = .ok (.iconst 1, 1) := by decide +kernel
theorem dX6_fly_169 : decode cX6_fly 169 = .ok (.iadd, 1) := by decide +kernel
theorem dX6_fly_170 : decode cX6_fly 170 = .ok (.putfield 150, 3) := by decide +kernel
theorem dX6_fly_173 : decode cX6_fly 173 = .ok (.iload 15, 2) := by decide +kernel
theorem dX6_fly_175 : decode cX6_fly 175 = .ok (.ifCond .eq 23, 3) := by decide +kernel
theorem dX6_fly_178 : decode cX6_fly 178 = .ok (.aload_n 0, 1) := by decide +kernel
theorem dX6_fly_179 : decode cX6_fly 179 = .ok (.getfield 34, 3) := by decide +kernel
theorem dX6_fly_182 : decode cX6_fly 182 = .ok (.iload 13, 2) := by decide +kernel
theorem dX6_fly_184 : decode cX6_fly 184 = .ok (.iconst 0, 1) := by decide +kernel
theorem dX6_fly_185 : decode cX6_fly 185 = .ok (.iastore, 1) := by decide +kernel
theorem dX6_fly_186 : decode cX6_fly 186 = .ok (.aload_n 0, 1) := by decide +kernel
theorem dX6_fly_187 : decode cX6_fly 187 = .ok (.getfield 34, 3) := by decide +kernel
theorem dX6_fly_190 : decode cX6_fly 190 = .ok (.iload 13, 2) := by decide +kernel
theorem dX6_fly_192 : decode cX6_fly 192 = .ok (.bipush 7, 2) := by decide +kernel
theorem dX6_fly_194 : decode cX6_fly 194 = .ok (.iadd, 1) := by decide +kernel
theorem dX6_fly_195 : decode cX6_fly 195 = .ok (.iconst 0, 1) := by decide +kernel
theorem dX6_fly_196 : decode cX6_fly 196 = .ok (.iastore, 1) := by decide +kernel
theorem dX6_fly_197 : decode cX6_fly 197 = .ok (.return_, 1) := by decide +kernel
theorem dX6_fly_198 : decode cX6_fly 198 = .ok (.iload 7, 2) := by decide +kernel
theorem dX6_fly_200 : decode cX6_fly 200 = .ok (.aload_n 0, 1) := by decide +kernel
theorem dX6_fly_201 : decode cX6_fly 201 = .ok (.getfield 25, 3) := by decide +kernel
theorem dX6_fly_204 : decode cX6_fly 204 = .ok (.iconst 1, 1) := by decide +kernel
theorem dX6_fly_205 : decode cX6_fly 205 = .ok (.iaload, 1) := by decide +kernel
theorem dX6_fly_206 : decode cX6_fly 206 = .ok (.iload 14, 2) := by decide +kernel
theorem dX6_fly_208 : decode cX6_fly 208 = .ok (.iadd, 1) := by decide +kernel
theorem dX6_fly_209 : decode cX6_fly 209 = .ok (.aload_n 0, 1) := by decide +kernel
theorem dX6_fly_210 : decode cX6_fly 210 = .ok (.getfield 16, 3) := by decide +kernel
theorem dX6_fly_213 : decode cX6_fly 213 = .ok (.iload_n 1, 1) := by decide +kernel
theorem dX6_fly_214 : decode cX6_fly 214 = .ok (.iaload, 1) := by decide +kernel
theorem dX6_fly_215 : decode cX6_fly 215 = .ok (.iadd, 1) := by decide +kernel
theorem dX6_fly_216 : decode cX6_fly 216 = .ok (.imul, 1) := by decide +kernel
theorem dX6_fly_217 : decode cX6_fly 217 = .ok (.iload 16, 2) := by decide +kernel
theorem dX6_fly_219 : decode cX6_fly 219 = .ok (.ifCond .eq 8, 3) := by decide +kernel
theorem dX6_fly_222 : decode cX6_fly 222 = .ok (.bipush 50, 2) := by decide +kernel
theorem dX6_fly_224 : decode cX6_fly 224 = .ok (.goto 5, 3) := by decide +kernel
theorem dX6_fly_227 : decode cX6_fly 227 = .ok (.bipush 100, 2) := by decide +kernel
theorem dX6_fly_229 : decode cX6_fly 229 = .ok (.idiv, 1) := by decide +kernel
theorem dX6_fly_230 : decode cX6_fly 230 = .ok (.iconst 1, 1) := by decide +kernel
theorem dX6_fly_231 : decode cX6_fly 231 = .ok (.iadd, 1) := by decide +kernel
theorem dX6_fly_232 : decode cX6_fly 232 = .ok (.istore 17, 2) := by decide +kernel
theorem dX6_fly_234 : decode cX6_fly 234 = .ok (.iload 16, 2) := by decide +kernel
theorem dX6_fly_236 : decode cX6_fly 236 = .ok (.ifCond .eq 8, 3) := by decide +kernel
theorem dX6_fly_239 : decode cX6_fly 239 = .ok (.iload 8, 2) := by decide +kernel
theorem dX6_fly_241 : decode cX6_fly 241 = .ok (.goto 19, 3) := by decide +kernel
theorem dX6_fly_244 : decode cX6_fly 244 = .ok (.iconst 1, 1) := by decide +kernel
theorem dX6_fly_245 : decode cX6_fly 245 = .ok (.iload 8, 2) := by decide +kernel
theorem dX6_fly_247 : decode cX6_fly 247 = .ok (.aload_n 0, 1) := by decide +kernel
theorem dX6_fly_248 : decode cX6_fly 248 = .ok (.getfield 25, 3) := by decide +kernel
theorem dX6_fly_251 : decode cX6_fly 251 = .ok (.iconst 2, 1) := by decide +kernel
theorem dX6_fly_252 : decode cX6_fly 252 = .ok (.iaload, 1) := by decide +kernel
theorem dX6_fly_253 : decode cX6_fly 253 = .ok (.imul, 1) := by decide +kernel
theorem dX6_fly_254 : decode cX6_fly 254 = .ok (.bipush 100, 2) := by decide +kernel
theorem dX6_fly_256 : decode cX6_fly 256 = .ok (.idiv, 1) := by decide +kernel
theorem dX6_fly_257 : decode cX6_fly 257 = .ok (.invokestatic 156, 3) := by decide +kernel
theorem dX6_fly_260 : decode cX6_fly 260 = .ok (.istore 8, 2) := by decide +kernel
theorem dX6_fly_262 : decode cX6_fly 262 = .ok (.aload_n 0, 1) := by decide +kernel
theorem dX6_fly_263 : decode cX6_fly 263 = .ok (.getfield 34, 3) := by decide +kernel
theorem dX6_fly_266 : decode cX6_fly 266 = .ok (.iload 13, 2) := by decide +kernel
theorem dX6_fly_268 : decode cX6_fly 268 = .ok (.iload 16, 2) := by decide +kernel
theorem dX6_fly_270 : decode cX6_fly 270 = .ok (.ifCond .eq 7, 3) := by decide +kernel
theorem dX6_fly_273 : decode cX6_fly 273 = .ok (.iconst 3, 1) := by decide +kernel
theorem dX6_fly_274 : decode cX6_fly 274 = .ok (.goto 19, 3) := by decide +kernel
theorem dX6_fly_277 : decode cX6_fly 277 = .ok (.iload 8, 2) := by decide +kernel
theorem dX6_fly_279 : decode cX6_fly 279 = .ok (.aload_n 0, 1) := by decide +kernel
theorem dX6_fly_280 : decode cX6_fly 280 = .ok (.getfield 25, 3) := by decide +kernel
theorem dX6_fly_283 : decode cX6_fly 283 = .ok (.iconst 4, 1) := by decide +kernel
theorem dX6_fly_284 : decode cX6_fly 284 = .ok (.iaload, 1) := by decide +kernel
theorem dX6_fly_285 : decode cX6_fly 285 = .ok (.if_icmp .gt 7, 3) := by decide +kernel
theorem dX6_fly_288 : decode cX6_fly 288 = .ok (.iconst 2, 1) := by decide +kernel
theorem dX6_fly_289 : decode cX6_fly 289 = .ok (.goto 4, 3) := by decide +kernel
theorem dX6_fly_292 : decode cX6_fly 292 = .ok (.iconst 1, 1) := by decide +kernel
theorem dX6_fly_293 : decode cX6_fly 293 = .ok (.iastore, 1) := by decide +kernel
theorem dX6_fly_294 : decode cX6_fly 294 = .ok (.iconst 0, 1) := by decide +kernel
theorem dX6_fly_295 : decode cX6_fly 295 = .ok (.iload 7, 2) := by decide +kernel
theorem dX6_fly_297 : decode cX6_fly 297 = .ok (.iload 17, 2) := by decide +kernel
theorem dX6_fly_299 : decode cX6_fly 299 = .ok (.isub, 1) := by decide +kernel
theorem dX6_fly_300 : decode cX6_fly 300 = .ok (.invokestatic 156, 3) := by decide +kernel
theorem dX6_fly_303 : decode cX6_fly 303 = .ok (.istore 18, 2) := by decide +kernel
theorem dX6_fly_305 : decode cX6_fly 305 = .ok (.aload_n 0, 1) := by decide +kernel
theorem dX6_fly_306 : decode cX6_fly 306 = .ok (.getfield 34, 3) := by decide +kernel
theorem dX6_fly_309 : decode cX6_fly 309 = .ok (.iload 13, 2) := by decide +kernel
theorem dX6_fly_311 : decode cX6_fly 311 = .ok (.bipush 7, 2) := by decide +kernel
theorem dX6_fly_313 : decode cX6_fly 313 = .ok (.iadd, 1) := by decide +kernel
theorem dX6_fly_314 : decode cX6_fly 314 = .ok (.iload 17, 2) := by decide +kernel
theorem dX6_fly_316 : decode cX6_fly 316 = .ok (.iastore, 1) := by decide +kernel
theorem dX6_fly_317 : decode cX6_fly 317 = .ok (.iload 18, 2) := by decide +kernel
theorem dX6_fly_319 : decode cX6_fly 319 = .ok (.istore 7, 2) := by decide +kernel
theorem dX6_fly_321 : decode cX6_fly 321 = .ok (.iconst 0, 1) := by decide +kernel
theorem dX6_fly_322 : decode cX6_fly 322 = .ok (.iload 10, 2) := by decide +kernel
theorem dX6_fly_324 : decode cX6_fly 324 = .ok (.iload 10, 2) := by decide +kernel
theorem dX6_fly_326 : decode cX6_fly 326 = .ok (.bipush 10, 2) := by decide +kernel
theorem dX6_fly_328 : decode cX6_fly 328 = .ok (.idiv, 1) := by decide +kernel
theorem dX6_fly_329 : decode cX6_fly 329 = .ok (.isub, 1) := by decide +kernel
theorem dX6_fly_330 : decode cX6_fly 330 = .ok (.iconst 1, 1) := by decide +kernel
theorem dX6_fly_331 : decode cX6_fly 331 = .ok (.isub, 1) := by decide +kernel
theorem dX6_fly_332 : decode cX6_fly 332 = .ok (.invokestatic 156, 3) := by decide +kernel
theorem dX6_fly_335 : decode cX6_fly 335 = .ok (.istore 10, 2) := by decide +kernel
theorem dX6_fly_337 : decode cX6_fly 337 = .ok (.iload 9, 2) := by decide +kernel
theorem dX6_fly_339 : decode cX6_fly 339 = .ok (.iload 10, 2) := by decide +kernel
theorem dX6_fly_341 : decode cX6_fly 341 = .ok (.aload_n 0, 1) := by decide +kernel
theorem dX6_fly_342 : decode cX6_fly 342 = .ok (.getfield 25, 3) := by decide +kernel
theorem dX6_fly_345 : decode cX6_fly 345 = .ok (.iconst 3, 1) := by decide +kernel
theorem dX6_fly_346 : decode cX6_fly 346 = .ok (.iaload, 1) := by decide +kernel
theorem dX6_fly_347 : decode cX6_fly 347 = .ok (.if_icmp .ge 17, 3) := by decide +kernel
theorem dX6_fly_350 : decode cX6_fly 350 = .ok (.aload_n 0, 1) := by decide +kernel
theorem dX6_fly_351 : decode cX6_fly 351 = .ok (.getfield 25, 3) := by decide +kernel
theorem dX6_fly_354 : decode cX6_fly 354 = .ok (.iconst 3, 1) := by decide +kernel
theorem dX6_fly_355 : decode cX6_fly 355 = .ok (.iaload, 1) := by decide +kernel
theorem dX6_fly_356 : decode cX6_fly 356 = .ok (.iload 10, 2) := by decide +kernel
theorem dX6_fly_358 : decode cX6_fly 358 = .ok (.isub, 1) := by decide +kernel
theorem dX6_fly_359 : decode cX6_fly 359 = .ok (.iconst 5, 1) := by decide +kernel
theorem dX6_fly_360 : decode cX6_fly 360 = .ok (.idiv, 1) := by decide +kernel
theorem dX6_fly_361 : decode cX6_fly 361 = .ok (.goto 4, 3) := by decide +kernel
theorem dX6_fly_364 : decode cX6_fly 364 = .ok (.iconst 0, 1) := by decide +kernel
theorem dX6_fly_365 : decode cX6_fly 365 = .ok (.iadd, 1) := by decide +kernel
theorem dX6_fly_366 : decode cX6_fly 366 = .ok (.istore 9, 2) := by decide +kernel
theorem dX6_fly_368 : decode cX6_fly 368 = .ok (.iload 7, 2) := by decide +kernel
theorem dX6_fly_370 : decode cX6_fly 370 = .ok (.ifCond .le 16, 3) := by decide +kernel
theorem dX6_fly_373 : decode cX6_fly 373 = .ok (.aload_n 0, 1) := by decide +kernel
theorem dX6_fly_374 : decode cX6_fly 374 = .ok (.getfield 150, 3) := by decide +kernel
theorem dX6_fly_377 : decode cX6_fly 377 = .ok (.bipush 90, 2) := by decide +kernel
theorem dX6_fly_379 : decode cX6_fly 379 = .ok (.if_icmp .ge 7, 3) := by decide +kernel
theorem dX6_fly_382 : decode cX6_fly 382 = .ok (.iconst 1, 1) := by decide +kernel
theorem dX6_fly_383 : decode cX6_fly 383 = .ok (.goto 4, 3) := by decide +kernel
theorem dX6_fly_386 : decode cX6_fly 386 = .ok (.iconst 0, 1) := by decide +kernel
theorem dX6_fly_387 : decode cX6_fly 387 = .ok (.istore 12, 2) := by decide +kernel
theorem dX6_fly_389 : decode cX6_fly 389 = .ok (.iload 6, 2) := by decide +kernel
theorem dX6_fly_391 : decode cX6_fly 391 = .ok (.iload 7, 2) := by decide +kernel
theorem dX6_fly_393 : decode cX6_fly 393 = .ok (.iload 8, 2) := by decide +kernel
theorem dX6_fly_395 : decode cX6_fly 395 = .ok (.imul, 1) := by decide +kernel
theorem dX6_fly_396 : decode cX6_fly 396 = .ok (.bipush 20, 2) := by decide +kernel
theorem dX6_fly_398 : decode cX6_fly 398 = .ok (.idiv, 1) := by decide +kernel
theorem dX6_fly_399 : decode cX6_fly 399 = .ok (.iadd, 1) := by decide +kernel
theorem dX6_fly_400 : decode cX6_fly 400 = .ok (.istore 6, 2) := by decide +kernel
theorem dX6_fly_402 : decode cX6_fly 402 = .ok (.iload 11, 2) := by decide +kernel
theorem dX6_fly_404 : decode cX6_fly 404 = .ok (.iload 8, 2) := by decide +kernel
theorem dX6_fly_406 : decode cX6_fly 406 = .ok (.iconst 5, 1) := by decide +kernel
theorem dX6_fly_407 : decode cX6_fly 407 = .ok (.idiv, 1) := by decide +kernel
theorem dX6_fly_408 : decode cX6_fly 408 = .ok (.iadd, 1) := by decide +kernel
theorem dX6_fly_409 : decode cX6_fly 409 = .ok (.istore 11, 2) := by decide +kernel
theorem dX6_fly_411 : decode cX6_fly 411 = .ok (.goto (-383), 3) := by decide +kernel
theorem dX6_fly_414 : decode cX6_fly 414 = .ok (.return_, 1) := by decide +kernel
theorem dX6_counted_0 : decode cX6_counted 0 = .ok (.iconst 0, 1) := by decide +kernel
theorem dX6_counted_1 : decode cX6_counted 1 = .ok (.istore_n 2, 1) := by decide +kernel
theorem dX6_counted_2 : decode cX6_counted 2 = .ok (.bipush (-9), 2) := by decide +kernel
theorem dX6_counted_4 : decode cX6_counted 4 = .ok (.istore_n 3, 1) := by decide +kernel
theorem dX6_counted_5 : decode cX6_counted 5 = .ok (.iconst 0, 1) := by decide +kernel
theorem dX6_counted_6 : decode cX6_counted 6 = .ok (.istore 4, 2) := by decide +kernel
theorem dX6_counted_8 : decode cX6_counted 8 = .ok (.iload 4, 2) := by decide +kernel
theorem dX6_counted_10 : decode cX6_counted 10 = .ok (.aload_n 0, 1) := by decide +kernel
theorem dX6_counted_11 : decode cX6_counted 11 = .ok (.getfield 150, 3) := by decide +kernel
theorem dX6_counted_14 : decode cX6_counted 14 = .ok (.if_icmp .ge 182, 3) := by decide +kernel
theorem dX6_counted_17 : decode cX6_counted 17 = .ok (.bipush 9, 2) := by decide +kernel
theorem dX6_counted_19 : decode cX6_counted 19 = .ok (.iload 4, 2) := by decide +kernel
theorem dX6_counted_21 : decode cX6_counted 21 = .ok (.imul, 1) := by decide +kernel
theorem dX6_counted_22 : decode cX6_counted 22 = .ok (.istore 5, 2) := by decide +kernel
theorem dX6_counted_24 : decode cX6_counted 24 = .ok (.aload_n 0, 1) := by decide +kernel
theorem dX6_counted_25 : decode cX6_counted 25 = .ok (.getfield 34, 3) := by decide +kernel
theorem dX6_counted_28 : decode cX6_counted 28 = .ok (.iload 5, 2) := by decide +kernel
theorem dX6_counted_30 : decode cX6_counted 30 = .ok (.iaload, 1) := by decide +kernel
theorem dX6_counted_31 : decode cX6_counted 31 = .ok (.ifCond .le 7, 3) := by decide +kernel
theorem dX6_counted_34 : decode cX6_counted 34 = .ok (.iconst 1, 1) := by decide +kernel
theorem dX6_counted_35 : decode cX6_counted 35 = .ok (.goto 4, 3) := by decide +kernel
theorem dX6_counted_38 : decode cX6_counted 38 = .ok (.iconst 0, 1) := by decide +kernel
theorem dX6_counted_39 : decode cX6_counted 39 = .ok (.istore 6, 2) := by decide +kernel
theorem dX6_counted_41 : decode cX6_counted 41 = .ok (.iload_n 1, 1) := by decide +kernel
theorem dX6_counted_42 : decode cX6_counted 42 = .ok (.iconst 1, 1) := by decide +kernel
theorem dX6_counted_43 : decode cX6_counted 43 = .ok (.if_icmp .ne 35, 3) := by decide +kernel
theorem dX6_counted_46 : decode cX6_counted 46 = .ok (.aload_n 0, 1) := by decide +kernel
theorem dX6_counted_47 : decode cX6_counted 47 = .ok (.getfield 34, 3) := by decide +kernel
theorem dX6_counted_50 : decode cX6_counted 50 = .ok (.iload 5, 2) := by decide +kernel
theorem dX6_counted_52 : decode cX6_counted 52 = .ok (.iaload, 1) := by decide +kernel
theorem dX6_counted_53 : decode cX6_counted 53 = .ok (.iconst 1, 1) := by decide +kernel
theorem dX6_counted_54 : decode cX6_counted 54 = .ok (.if_icmp .eq 14, 3) := by decide +kernel
theorem dX6_counted_57 : decode cX6_counted 57 = .ok (.aload_n 0, 1) := by decide +kernel
theorem dX6_counted_58 : decode cX6_counted 58 = .ok (.getfield 34, 3) := by decide +kernel
theorem dX6_counted_61 : decode cX6_counted 61 = .ok (.iload 5, 2) := by decide +kernel
theorem dX6_counted_63 : decode cX6_counted 63 = .ok (.iaload, 1) := by decide +kernel
theorem dX6_counted_64 : decode cX6_counted 64 = .ok (.iconst 3, 1) := by decide +kernel
theorem dX6_counted_65 : decode cX6_counted 65 = .ok (.if_icmp .ne 7, 3) := by decide +kernel
theorem dX6_counted_68 : decode cX6_counted 68 = .ok (.iconst 1, 1) := by decide +kernel
theorem dX6_counted_69 : decode cX6_counted 69 = .ok (.goto 4, 3) := by decide +kernel
theorem dX6_counted_72 : decode cX6_counted 72 = .ok (.iconst 0, 1) := by decide +kernel
theorem dX6_counted_73 : decode cX6_counted 73 = .ok (.istore 6, 2) := by decide +kernel
theorem dX6_counted_75 : decode cX6_counted 75 = .ok (.goto 102, 3) := by decide +kernel
theorem dX6_counted_78 : decode cX6_counted 78 = .ok (.iload_n 1, 1) := by decide +kernel
theorem dX6_counted_79 : decode cX6_counted 79 = .ok (.iconst 2, 1) := by decide +kernel
theorem dX6_counted_80 : decode cX6_counted 80 = .ok (.if_icmp .ne 56, 3) := by decide +kernel
theorem dX6_counted_83 : decode cX6_counted 83 = .ok (.iload 6, 2) := by decide +kernel
theorem dX6_counted_85 : decode cX6_counted 85 = .ok (.ifCond .eq 26, 3) := by decide +kernel
theorem dX6_counted_88 : decode cX6_counted 88 = .ok (.iload_n 3, 1) := by decide +kernel
theorem dX6_counted_89 : decode cX6_counted 89 = .ok (.ifCond .lt 18, 3) := by decide +kernel
theorem dX6_counted_92 : decode cX6_counted 92 = .ok (.aload_n 0, 1) := by decide +kernel
theorem dX6_counted_93 : decode cX6_counted 93 = .ok (.getfield 34, 3) := by decide +kernel
theorem dX6_counted_96 : decode cX6_counted 96 = .ok (.iload 5, 2) := by decide +kernel
theorem dX6_counted_98 : decode cX6_counted 98 = .ok (.iconst 1, 1) := by decide +kernel
theorem dX6_counted_99 : decode cX6_counted 99 = .ok (.iadd, 1) := by decide +kernel
theorem dX6_counted_100 : decode cX6_counted 100 = .ok (.iaload, 1) := by decide +kernel
theorem dX6_counted_101 : decode cX6_counted 101 = .ok (.iload_n 3, 1) := by decide +kernel
theorem dX6_counted_102 : decode cX6_counted 102 = .ok (.isub, 1) := by decide +kernel
theorem dX6_counted_103 : decode cX6_counted 103 = .ok (.iconst 2, 1) := by decide +kernel
theorem dX6_counted_104 : decode cX6_counted 104 = .ok (.if_icmp .le 7, 3) := by decide +kernel
theorem dX6_counted_107 : decode cX6_counted 107 = .ok (.iconst 1, 1) := by decide +kernel
theorem dX6_counted_108 : decode cX6_counted 108 = .ok (.goto 4, 3) := by decide +kernel
theorem dX6_counted_111 : decode cX6_counted 111 = .ok (.iconst 0, 1) := by decide +kernel
theorem dX6_counted_112 : decode cX6_counted 112 = .ok (.istore 6, 2) := by decide +kernel
theorem dX6_counted_114 : decode cX6_counted 114 = .ok (.iload 6, 2) := by decide +kernel
theorem dX6_counted_116 : decode cX6_counted 116 = .ok (.ifCond .eq 15, 3) := by decide +kernel
theorem dX6_counted_119 : decode cX6_counted 119 = .ok (.aload_n 0, 1) := by decide +kernel
theorem dX6_counted_120 : decode cX6_counted 120 = .ok (.getfield 34, 3) := by decide +kernel
theorem dX6_counted_123 : decode cX6_counted 123 = .ok (.iload 5, 2) := by decide +kernel
theorem dX6_counted_125 : decode cX6_counted 125 = .ok (.iconst 1, 1) := by decide +kernel
theorem dX6_counted_126 : decode cX6_counted 126 = .ok (.iadd, 1) := by decide +kernel
theorem dX6_counted_127 : decode cX6_counted 127 = .ok (.iaload, 1) := by decide +kernel
theorem dX6_counted_128 : decode cX6_counted 128 = .ok (.goto 4, 3) := by decide +kernel
theorem dX6_counted_131 : decode cX6_counted 131 = .ok (.iload_n 3, 1) := by decide +kernel
theorem dX6_counted_132 : decode cX6_counted 132 = .ok (.istore_n 3, 1) := by decide +kernel
theorem dX6_counted_133 : decode cX6_counted 133 = .ok (.goto 44, 3) := by decide +kernel
theorem dX6_counted_136 : decode cX6_counted 136 = .ok (.iload_n 1, 1) := by decide +kernel
theorem dX6_counted_137 : decode cX6_counted 137 = .ok (.iconst 3, 1) := by decide +kernel
theorem dX6_counted_138 : decode cX6_counted 138 = .ok (.if_icmp .ne 39, 3) := by decide +kernel
theorem dX6_counted_141 : decode cX6_counted 141 = .ok (.iload 4, 2) := by decide +kernel
theorem dX6_counted_143 : decode cX6_counted 143 = .ok (.ifCond .eq 27, 3) := by decide +kernel
theorem dX6_counted_146 : decode cX6_counted 146 = .ok (.aload_n 0, 1) := by decide +kernel
theorem dX6_counted_147 : decode cX6_counted 147 = .ok (.getfield 34, 3) := by decide +kernel
theorem dX6_counted_150 : decode cX6_counted 150 = .ok (.iload 5, 2) := by decide +kernel
theorem dX6_counted_152 : decode cX6_counted 152 = .ok (.bipush 8, 2) := by decide +kernel
theorem dX6_counted_154 : decode cX6_counted 154 = .ok (.iadd, 1) := by decide +kernel
theorem dX6_counted_155 : decode cX6_counted 155 = .ok (.iaload, 1) := by decide +kernel
theorem dX6_counted_156 : decode cX6_counted 156 = .ok (.aload_n 0, 1) := by decide +kernel
theorem dX6_counted_157 : decode cX6_counted 157 = .ok (.getfield 34, 3) := by decide +kernel
theorem dX6_counted_160 : decode cX6_counted 160 = .ok (.iload 5, 2) := by decide +kernel
theorem dX6_counted_162 : decode cX6_counted 162 = .ok (.iconst 1, 1) := by decide +kernel
theorem dX6_counted_163 : decode cX6_counted 163 = .ok (.isub, 1) := by decide +kernel
theorem dX6_counted_164 : decode cX6_counted 164 = .ok (.iaload, 1) := by decide +kernel
theorem dX6_counted_165 : decode cX6_counted 165 = .ok (.isub, 1) := by decide +kernel
theorem dX6_counted_166 : decode cX6_counted 166 = .ok (.iconst 1, 1) := by decide +kernel
theorem dX6_counted_167 : decode cX6_counted 167 = .ok (.if_icmp .le 7, 3) := by decide +kernel
theorem dX6_counted_170 : decode cX6_counted 170 = .ok (.iconst 1, 1) := by decide +kernel
theorem dX6_counted_171 : decode cX6_counted 171 = .ok (.goto 4, 3) := by decide +kernel
theorem dX6_counted_174 : decode cX6_counted 174 = .ok (.iconst 0, 1) := by decide +kernel
theorem dX6_counted_175 : decode cX6_counted 175 = .ok (.istore 6, 2) := by decide +kernel
theorem dX6_counted_177 : decode cX6_counted 177 = .ok (.iload_n 2, 1) := by decide +kernel
theorem dX6_counted_178 : decode cX6_counted 178 = .ok (.iload 6, 2) := by decide +kernel
theorem dX6_counted_180 : decode cX6_counted 180 = .ok (.ifCond .eq 7, 3) := by decide +kernel
theorem dX6_counted_183 : decode cX6_counted 183 = .ok (.iconst 1, 1) := by decide +kernel
theorem dX6_counted_184 : decode cX6_counted 184 = .ok (.goto 4, 3) := by decide +kernel
theorem dX6_counted_187 : decode cX6_counted 187 = .ok (.iconst 0, 1) := by decide +kernel
theorem dX6_counted_188 : decode cX6_counted 188 = .ok (.iadd, 1) := by decide +kernel
theorem dX6_counted_189 : decode cX6_counted 189 = .ok (.istore_n 2, 1) := by decide +kernel
theorem dX6_counted_190 : decode cX6_counted 190 = .ok (.iinc 4 1, 3) := by decide +kernel
theorem dX6_counted_193 : decode cX6_counted 193 = .ok (.goto (-185), 3) := by decide +kernel
theorem dX6_counted_196 : decode cX6_counted 196 = .ok (.iload_n 1, 1) := by decide +kernel
theorem dX6_counted_197 : decode cX6_counted 197 = .ok (.iconst 4, 1) := by decide +kernel
theorem dX6_counted_198 : decode cX6_counted 198 = .ok (.if_icmp .ne 21, 3) := by decide +kernel
theorem dX6_counted_201 : decode cX6_counted 201 = .ok (.aload_n 0, 1) := by decide +kernel
theorem dX6_counted_202 : decode cX6_counted 202 = .ok (.getfield 34, 3) := by decide +kernel
theorem dX6_counted_205 : decode cX6_counted 205 = .ok (.bipush 9, 2) := by decide +kernel
theorem dX6_counted_207 : decode cX6_counted 207 = .ok (.aload_n 0, 1) := by decide +kernel
theorem dX6_counted_208 : decode cX6_counted 208 = .ok (.getfield 150, 3) := by decide +kernel
theorem dX6_counted_211 : decode cX6_counted 211 = .ok (.imul, 1) := by decide +kernel
theorem dX6_counted_212 : decode cX6_counted 212 = .ok (.bipush 8, 2) := by decide +kernel
theorem dX6_counted_214 : decode cX6_counted 214 = .ok (.isub, 1) := by decide +kernel
theorem dX6_counted_215 : decode cX6_counted 215 = .ok (.iaload, 1) := by decide +kernel
theorem dX6_counted_216 : decode cX6_counted 216 = .ok (.goto 4, 3) := by decide +kernel
theorem dX6_counted_219 : decode cX6_counted 219 = .ok (.iload_n 2, 1) := by decide +kernel
theorem dX6_counted_220 : decode cX6_counted 220 = .ok (.ireturn, 1) := by decide +kernel
set_option maxRecDepth 20000 in
theorem ggX6_isSpeed_X6_in : GoodIn wsX6_isSpeed wsX6_in := goodIn_r _ [5] (by decide +kernel) (by decide +kernel)
set_option maxRecDepth 20000 in
theorem gX6_isSpeed_X6_in : GoodIn wsX6_isSpeed (va_wsS RX6 87 yX6_in wsX6_in) := goodIn_app (goodIn_of _ (by decide +kernel)) ggX6_isSpeed_X6_in
theorem dX6_isSpeed_0 : decode cX6_isSpeed 0 = .ok (.iload_n 0, 1) := by decide +kernel
theorem dX6_isSpeed_1 : decode cX6_isSpeed 1 = .ok (.i2l, 1) := by decide +kernel
theorem dX6_isSpeed_2 : decode cX6_isSpeed 2 = .ok (.lconst 1, 1) := by decide +kernel
theorem dX6_isSpeed_3 : decode cX6_isSpeed 3 = .ok (.ldc2_w 159, 3) := by decide +kernel
theorem dX6_isSpeed_6 : decode cX6_isSpeed 6 = .ok (.invokestatic 87, 3) := by decide +kernel
theorem dX6_isSpeed_9 : decode cX6_isSpeed 9 = .ok (.ireturn, 1) := by decide +kernel
set_option maxRecDepth 20000 in
theorem ggX6_isFall_X6_in : GoodIn wsX6_isFall wsX6_in := goodIn_r _ [5] (by decide +kernel) (by decide +kernel)
set_option maxRecDepth 20000 in
theorem gX6_isFall_X6_in : GoodIn wsX6_isFall (va_wsS RX6 87 yX6_in wsX6_in) := goodIn_app (goodIn_of _ (by decide +kernel)) ggX6_isFall_X6_in
theorem dX6_isFall_0 : decode cX6_isFall 0 = .ok (.iload_n 0, 1) := by decide +kernel
theorem dX6_isFall_1 : decode cX6_isFall 1 = .ok (.i2l, 1) := by decide +kernel
theorem dX6_isFall_2 : decode cX6_isFall 2 = .ok (.lconst 1, 1) := by decide +kernel
theorem dX6_isFall_3 : decode cX6_isFall 3 = .ok (.ldc2_w 101, 3) := by decide +kernel
theorem dX6_isFall_6 : decode cX6_isFall 6 = .ok (.invokestatic 87, 3) := by decide +kernel
theorem dX6_isFall_9 : decode cX6_isFall 9 = .ok (.ireturn, 1) := by decide +kernel
set_option maxRecDepth 20000 in
theorem ggX6_isSlant_X6_in : GoodIn wsX6_isSlant wsX6_in := goodIn_r _ [5] (by decide +kernel) (by decide +kernel)
set_option maxRecDepth 20000 in
theorem gX6_isSlant_X6_in : GoodIn wsX6_isSlant (va_wsS RX6 87 yX6_in wsX6_in) := goodIn_app (goodIn_of _ (by decide +kernel)) ggX6_isSlant_X6_in
theorem dX6_isSlant_0 : decode cX6_isSlant 0 = .ok (.iload_n 0, 1) := by decide +kernel
theorem dX6_isSlant_1 : decode cX6_isSlant 1 = .ok (.i2l, 1) := by decide +kernel
theorem dX6_isSlant_2 : decode cX6_isSlant 2 = .ok (.lconst 0, 1) := by decide +kernel
theorem dX6_isSlant_3 : decode cX6_isSlant 3 = .ok (.ldc2_w 148, 3) := by decide +kernel
theorem dX6_isSlant_6 : decode cX6_isSlant 6 = .ok (.invokestatic 87, 3) := by decide +kernel
theorem dX6_isSlant_9 : decode cX6_isSlant 9 = .ok (.ireturn, 1) := by decide +kernel
set_option maxRecDepth 20000 in
theorem ggX6_isSpin_X6_in : GoodIn wsX6_isSpin wsX6_in := goodIn_r _ [5] (by decide +kernel) (by decide +kernel)
set_option maxRecDepth 20000 in
theorem gX6_isSpin_X6_in : GoodIn wsX6_isSpin (va_wsS RX6 87 yX6_in wsX6_in) := goodIn_app (goodIn_of _ (by decide +kernel)) ggX6_isSpin_X6_in
theorem dX6_isSpin_0 : decode cX6_isSpin 0 = .ok (.iload_n 0, 1) := by decide +kernel
theorem dX6_isSpin_1 : decode cX6_isSpin 1 = .ok (.i2l, 1) := by decide +kernel
theorem dX6_isSpin_2 : decode cX6_isSpin 2 = .ok (.lconst 0, 1) := by decide +kernel
theorem dX6_isSpin_3 : decode cX6_isSpin 3 = .ok (.ldc2_w 101, 3) := by decide +kernel
theorem dX6_isSpin_6 : decode cX6_isSpin 6 = .ok (.invokestatic 87, 3) := by decide +kernel
theorem dX6_isSpin_9 : decode cX6_isSpin 9 = .ok (.ireturn, 1) := by decide +kernel
set_option maxRecDepth 20000 in
theorem ggX6_noJudge_X6_in : GoodIn wsX6_noJudge wsX6_in := goodIn_r _ [5] (by decide +kernel) (by decide +kernel)
set_option maxRecDepth 20000 in
theorem gX6_noJudge_X6_in : GoodIn wsX6_noJudge (va_wsS RX6 87 yX6_in wsX6_in) := goodIn_app (goodIn_of _ (by decide +kernel)) ggX6_noJudge_X6_in
theorem dX6_noJudge_0 : decode cX6_noJudge 0 = .ok (.iload_n 0, 1) := by decide +kernel
theorem dX6_noJudge_1 : decode cX6_noJudge 1 = .ok (.i2l, 1) := by decide +kernel
theorem dX6_noJudge_2 : decode cX6_noJudge 2 = .ok (.lconst 0, 1) := by decide +kernel
theorem dX6_noJudge_3 : decode cX6_noJudge 3 = .ok (.ldc2_w 161, 3) := by decide +kernel
theorem dX6_noJudge_6 : decode cX6_noJudge 6 = .ok (.invokestatic 87, 3) := by decide +kernel
theorem dX6_noJudge_9 : decode cX6_noJudge 9 = .ok (.ifCond .ne 7, 3) := by decide +kernel
theorem dX6_noJudge_12 : decode cX6_noJudge 12 = .ok (.iconst 1, 1) := by decide +kernel
theorem dX6_noJudge_13 : decode cX6_noJudge 13 = .ok (.goto 4, 3) := by decide +kernel
theorem dX6_noJudge_16 : decode cX6_noJudge 16 = .ok (.iconst 0, 1) := by decide +kernel
theorem dX6_noJudge_17 : decode cX6_noJudge 17 = .ok (.ireturn, 1) := by decide +kernel
set_option maxRecDepth 20000 in
theorem ggX6_toss_X6_noStone : GoodIn wsX6_toss wsX6_noStone := goodIn_r _ [9, 10, 11, 12, 8, 13, 51, 52, 53, 54, 55, 56, 57, 58, 59, 60, 61, 62, 63, 64, 65, 66, 67, 68, 69, 70, 71, 72, 73, 74, 75, 76] (by decide +kernel) (by decide +kernel)
set_option maxRecDepth 20000 in
theorem gX6_toss_X6_noStone : GoodIn wsX6_toss (wsV RX6 105 RX6 yX6_noStone wsX6_noStone) := goodIn_app (goodIn_of _ (by decide +kernel)) ggX6_toss_X6_noStone
set_option maxRecDepth 20000 in
theorem ggX6_toss_X6_isSpeed : GoodIn wsX6_toss wsX6_isSpeed := goodIn_r _ [16, 17, 11, 12, 8, 13] (by decide +kernel) (by decide +kernel)
set_option maxRecDepth 20000 in
theorem gX6_toss_X6_isSpeed : GoodIn wsX6_toss (va_wsS RX6 163 yX6_isSpeed wsX6_isSpeed) := goodIn_app (goodIn_of _ (by decide +kernel)) ggX6_toss_X6_isSpeed
set_option maxRecDepth 20000 in
theorem ggX6_toss_X6_isFall : GoodIn wsX6_toss wsX6_isFall := goodIn_r _ [20, 21, 11, 12, 8, 13] (by decide +kernel) (by decide +kernel)
set_option maxRecDepth 20000 in
theorem gX6_toss_X6_isFall : GoodIn wsX6_toss (va_wsS RX6 166 yX6_isFall wsX6_isFall) := goodIn_app (goodIn_of _ (by decide +kernel)) ggX6_toss_X6_isFall
set_option maxRecDepth 20000 in
theorem ggX6_toss_X6_isSlant : GoodIn wsX6_toss wsX6_isSlant := goodIn_r _ [24, 25, 11, 12, 8, 13] (by decide +kernel) (by decide +kernel)
set_option maxRecDepth 20000 in
theorem gX6_toss_X6_isSlant : GoodIn wsX6_toss (va_wsS RX6 169 yX6_isSlant wsX6_isSlant) := goodIn_app (goodIn_of _ (by decide +kernel)) ggX6_toss_X6_isSlant
set_option maxRecDepth 20000 in
theorem ggX6_toss_X6_isSpin : GoodIn wsX6_toss wsX6_isSpin := goodIn_r _ [28, 21, 11, 12, 8, 13] (by decide +kernel) (by decide +kernel)
set_option maxRecDepth 20000 in
theorem gX6_toss_X6_isSpin : GoodIn wsX6_toss (va_wsS RX6 172 yX6_isSpin wsX6_isSpin) := goodIn_app (goodIn_of _ (by decide +kernel)) ggX6_toss_X6_isSpin
set_option maxRecDepth 20000 in
theorem ggX6_toss_X6_fly : GoodIn wsX6_toss wsX6_fly := goodIn_r _ [32, 1, 33, 4, 34, 35, 36, 37, 8, 38, 39, 40, 41, 42, 43, 44, 45, 25, 46, 47, 11, 12, 13, 48, 49, 50, 51, 52, 53, 54, 55, 56, 57, 58, 59, 60, 61, 62, 63, 64, 65, 66, 67, 68, 69, 70, 71, 72, 73, 74, 75, 76] (by decide +kernel) (by decide +kernel)
set_option maxRecDepth 20000 in
theorem gX6_toss_X6_fly : GoodIn wsX6_toss (wsV RX6 175 RX6 yX6_fly wsX6_fly) := goodIn_app (goodIn_of _ (by decide +kernel)) ggX6_toss_X6_fly
theorem dX6_toss_0 : decode cX6_toss 0 = .ok (.aload_n 0, 1) := by decide +kernel
theorem dX6_toss_1 : decode cX6_toss 1 = .ok (.iload_n 1, 1) := by decide +kernel
theorem dX6_toss_2 : decode cX6_toss 2 = .ok (.invokevirtual 105, 3) := by decide +kernel
theorem dX6_toss_5 : decode cX6_toss 5 = .ok (.ifCond .eq 5, 3) := by decide +kernel
theorem dX6_toss_8 : decode cX6_toss 8 = .ok (.iconst (-1), 1) := by decide +kernel
theorem dX6_toss_9 : decode cX6_toss 9 = .ok (.ireturn, 1) := by decide +kernel
theorem dX6_toss_10 : decode cX6_toss 10 = .ok (.iload_n 2, 1) := by decide +kernel
theorem dX6_toss_11 : decode cX6_toss 11 = .ok (.invokestatic 163, 3) := by decide +kernel
theorem dX6_toss_14 : decode cX6_toss 14 = .ok (.ifCond .eq 26, 3) := by decide +kernel
theorem dX6_toss_17 : decode cX6_toss 17 = .ok (.iload_n 3, 1) := by decide +kernel
theorem dX6_toss_18 : decode cX6_toss 18 = .ok (.invokestatic 166, 3) := by decide +kernel
theorem dX6_toss_21 : decode cX6_toss 21 = .ok (.ifCond .eq 19, 3) := by decide +kernel
theorem dX6_toss_24 : decode cX6_toss 24 = .ok (.iload 4, 2) := by decide +kernel
theorem dX6_toss_26 : decode cX6_toss 26 = .ok (.invokestatic 169, 3) := by decide +kernel
theorem dX6_toss_29 : decode cX6_toss 29 = .ok (.ifCond .eq 11, 3) := by decide +kernel
theorem dX6_toss_32 : decode cX6_toss 32 = .ok (.iload 5, 2) := by decide +kernel
theorem dX6_toss_34 : decode cX6_toss 34 = .ok (.invokestatic 172, 3) := by decide +kernel
theorem dX6_toss_37 : decode cX6_toss 37 = .ok (.ifCond .ne 6, 3) := by decide +kernel
theorem dX6_toss_40 : decode cX6_toss 40 = .ok (.bipush (-2), 2) := by decide +kernel
theorem dX6_toss_42 : decode cX6_toss 42 = .ok (.ireturn, 1) := by decide +kernel
theorem dX6_toss_43 : decode cX6_toss 43 = .ok (.aload_n 0, 1) := by decide +kernel
theorem dX6_toss_44 : decode cX6_toss 44 = .ok (.iload_n 1, 1) := by decide +kernel
theorem dX6_toss_45 : decode cX6_toss 45 = .ok (.iload_n 2, 1) := by decide +kernel
theorem dX6_toss_46 : decode cX6_toss 46 = .ok (.iload_n 3, 1) := by decide +kernel
theorem dX6_toss_47 : decode cX6_toss 47 = .ok (.iload 4, 2) := by decide +kernel
theorem dX6_toss_49 : decode cX6_toss 49 = .ok (.iload 5, 2) := by decide +kernel
theorem dX6_toss_51 : decode cX6_toss 51 = .ok (.invokevirtual 175, 3) := by decide +kernel
theorem dX6_toss_54 : decode cX6_toss 54 = .ok (.aload_n 0, 1) := by decide +kernel
theorem dX6_toss_55 : decode cX6_toss 55 = .ok (.aload_n 0, 1) := by decide +kernel
theorem dX6_toss_56 : decode cX6_toss 56 = .ok (.getfield 150, 3) := by decide +kernel
theorem dX6_toss_59 : decode cX6_toss 59 = .ok (.putfield 179, 3) := by decide +kernel
theorem dX6_toss_62 : decode cX6_toss 62 = .ok (.iconst 0, 1) := by decide +kernel
theorem dX6_toss_63 : decode cX6_toss 63 = .ok (.istore 6, 2) := by decide +kernel
theorem dX6_toss_65 : decode cX6_toss 65 = .ok (.iload 6, 2) := by decide +kernel
theorem dX6_toss_67 : decode cX6_toss 67 = .ok (.bipush 9, 2) := by decide +kernel
theorem dX6_toss_69 : decode cX6_toss 69 = .ok (.aload_n 0, 1) := by decide +kernel
theorem dX6_toss_70 : decode cX6_toss 70 = .ok (.getfield 150, 3) := by decide +kernel
theorem dX6_toss_73 : decode cX6_toss 73 = .ok (.imul, 1) := by decide +kernel
theorem dX6_toss_74 : decode cX6_toss 74 = .ok (.if_icmp .ge 23, 3) := by decide +kernel
theorem dX6_toss_77 : decode cX6_toss 77 = .ok (.aload_n 0, 1) := by decide +kernel
theorem dX6_toss_78 : decode cX6_toss 78 = .ok (.getfield 37, 3) := by decide +kernel
theorem dX6_toss_81 : decode cX6_toss 81 = .ok (.iload 6, 2) := by decide +kernel
theorem dX6_toss_83 : decode cX6_toss 83 = .ok (.aload_n 0, 1) := by decide +kernel
theorem dX6_toss_84 : decode cX6_toss 84 = .ok (.getfield 34, 3) := by decide +kernel
theorem dX6_toss_87 : decode cX6_toss 87 = .ok (.iload 6, 2) := by decide +kernel
theorem dX6_toss_89 : decode cX6_toss 89 = .ok (.iaload, 1) := by decide +kernel
theorem dX6_toss_90 : decode cX6_toss 90 = .ok (.iastore, 1) := by decide +kernel
theorem dX6_toss_91 : decode cX6_toss 91 = .ok (.iinc 6 1, 3) := by decide +kernel
theorem dX6_toss_94 : decode cX6_toss 94 = .ok (.goto (-29), 3) := by decide +kernel
theorem dX6_toss_97 : decode cX6_toss 97 = .ok (.aload_n 0, 1) := by decide +kernel
theorem dX6_toss_98 : decode cX6_toss 98 = .ok (.getfield 150, 3) := by decide +kernel
theorem dX6_toss_101 : decode cX6_toss 101 = .ok (.ireturn, 1) := by decide +kernel
set_option maxRecDepth 20000 in
theorem ggX6_noTouch_X6_in : GoodIn wsX6_noTouch wsX6_in := goodIn_r _ [5] (by decide +kernel) (by decide +kernel)
set_option maxRecDepth 20000 in
theorem gX6_noTouch_X6_in : GoodIn wsX6_noTouch (va_wsS RX6 87 yX6_in wsX6_in) := goodIn_app (goodIn_of _ (by decide +kernel)) ggX6_noTouch_X6_in
theorem dX6_noTouch_0 : decode cX6_noTouch 0 = .ok (.iload_n 1, 1) := by decide +kernel
theorem dX6_noTouch_1 : decode cX6_noTouch 1 = .ok (.i2l, 1) := by decide +kernel
theorem dX6_noTouch_2 : decode cX6_noTouch 2 = .ok (.lconst 0, 1) := by decide +kernel
theorem dX6_noTouch_3 : decode cX6_noTouch 3 = .ok (.aload_n 0, 1) := by decide +kernel
theorem dX6_noTouch_4 : decode cX6_noTouch 4 = .ok (.getfield 179, 3) := by decide +kernel
theorem dX6_noTouch_7 : decode cX6_noTouch 7 = .ok (.i2l, 1) := by decide +kernel
theorem dX6_noTouch_8 : decode cX6_noTouch 8 = .ok (.lconst 1, 1) := by decide +kernel
theorem dX6_noTouch_9 : decode cX6_noTouch 9 = .ok (.lsub, 1) := by decide +kernel
theorem dX6_noTouch_10 : decode cX6_noTouch 10 = .ok (.invokestatic 87, 3) := by decide +kernel
theorem dX6_noTouch_13 : decode cX6_noTouch 13 = .ok (.ifCond .ne 7, 3) := by decide +kernel
theorem dX6_noTouch_16 : decode cX6_noTouch 16 = .ok (.iconst 1, 1) := by decide +kernel
theorem dX6_noTouch_17 : decode cX6_noTouch 17 = .ok (.goto 4, 3) := by decide +kernel
theorem dX6_noTouch_20 : decode cX6_noTouch 20 = .ok (.iconst 0, 1) := by decide +kernel
theorem dX6_noTouch_21 : decode cX6_noTouch 21 = .ok (.ireturn, 1) := by decide +kernel
set_option maxRecDepth 20000 in
theorem ggX6_touch_X6_noTouch : GoodIn wsX6_touch wsX6_noTouch := goodIn_r _ [7, 8, 9, 10, 6, 11, 12, 13, 14, 15, 16, 17, 18, 19, 20, 21, 22, 23, 24, 25, 26, 27, 28, 29, 30, 31, 32, 33, 34, 35, 36, 37] (by decide +kernel) (by decide +kernel)
set_option maxRecDepth 20000 in
theorem gX6_touch_X6_noTouch : GoodIn wsX6_touch (wsV RX6 182 RX6 yX6_noTouch wsX6_noTouch) := goodIn_app (goodIn_of _ (by decide +kernel)) ggX6_touch_X6_noTouch
set_option maxRecDepth 20000 in
theorem ggX6_touch_X6_in : GoodIn wsX6_touch wsX6_in := goodIn_r _ [11] (by decide +kernel) (by decide +kernel)
set_option maxRecDepth 20000 in
theorem gX6_touch_X6_in : GoodIn wsX6_touch (va_wsS RX6 87 yX6_in wsX6_in) := goodIn_app (goodIn_of _ (by decide +kernel)) ggX6_touch_X6_in
theorem dX6_touch_0 : decode cX6_touch 0 = .ok (.aload_n 0, 1) := by decide +kernel
theorem dX6_touch_1 : decode cX6_touch 1 = .ok (.iload_n 1, 1) := by decide +kernel
theorem dX6_touch_2 : decode cX6_touch 2 = .ok (.invokevirtual 182, 3) := by decide +kernel
theorem dX6_touch_5 : decode cX6_touch 5 = .ok (.ifCond .eq 5, 3) := by decide +kernel
theorem dX6_touch_8 : decode cX6_touch 8 = .ok (.iconst (-1), 1) := by decide +kernel
theorem dX6_touch_9 : decode cX6_touch 9 = .ok (.ireturn, 1) := by decide +kernel
theorem dX6_touch_10 : decode cX6_touch 10 = .ok (.iload_n 2, 1) := by decide +kernel
theorem dX6_touch_11 : decode cX6_touch 11 = .ok (.i2l, 1) := by decide +kernel
theorem dX6_touch_12 : decode cX6_touch 12 = .ok (.lconst 0, 1) := by decide +kernel
theorem dX6_touch_13 : decode cX6_touch 13 = .ok (.ldc2_w 185, 3) := by decide +kernel
theorem dX6_touch_16 : decode cX6_touch 16 = .ok (.invokestatic 87, 3) := by decide +kernel
theorem dX6_touch_19 : decode cX6_touch 19 = .ok (.ifCond .eq 17, 3) := by decide +kernel
theorem dX6_touch_22 : decode cX6_touch 22 = .ok (.aload_n 0, 1) := by decide +kernel
theorem dX6_touch_23 : decode cX6_touch 23 = .ok (.getfield 37, 3) := by decide +kernel
theorem dX6_touch_26 : decode cX6_touch 26 = .ok (.bipush 9, 2) := by decide +kernel
theorem dX6_touch_28 : decode cX6_touch 28 = .ok (.iload_n 1, 1) := by decide +kernel
theorem dX6_touch_29 : decode cX6_touch 29 = .ok (.imul, 1) := by decide +kernel
theorem dX6_touch_30 : decode cX6_touch 30 = .ok (.iload_n 2, 1) := by decide +kernel
theorem dX6_touch_31 : decode cX6_touch 31 = .ok (.iadd, 1) := by decide +kernel
theorem dX6_touch_32 : decode cX6_touch 32 = .ok (.iaload, 1) := by decide +kernel
theorem dX6_touch_33 : decode cX6_touch 33 = .ok (.goto 5, 3) := by decide +kernel
theorem dX6_touch_36 : decode cX6_touch 36 = .ok (.bipush (-2), 2) := by decide +kernel
theorem dX6_touch_38 : decode cX6_touch 38 = .ok (.ireturn, 1) := by decide +kernel
set_option maxRecDepth 20000 in
theorem ggX6_judge_X6_noJudge : GoodIn wsX6_judge wsX6_noJudge := goodIn_r _ [8, 9, 10, 11, 7, 12] (by decide +kernel) (by decide +kernel)
set_option maxRecDepth 20000 in
theorem gX6_judge_X6_noJudge : GoodIn wsX6_judge (va_wsS RX6 187 yX6_noJudge wsX6_noJudge) := goodIn_app (goodIn_of _ (by decide +kernel)) ggX6_judge_X6_noJudge
set_option maxRecDepth 20000 in
theorem ggX6_judge_X6_counted : GoodIn wsX6_judge wsX6_counted := goodIn_r _ [16, 2, 3, 17, 18, 19, 20, 21, 22, 23, 24, 25, 26, 27, 28, 29, 30, 31, 32, 33, 34, 35, 36, 37, 38, 39, 40, 41, 42] (by decide +kernel) (by decide +kernel)
set_option maxRecDepth 20000 in
theorem gX6_judge_X6_counted : GoodIn wsX6_judge (wsV RX6 190 RX6 yX6_counted wsX6_counted) := goodIn_app (goodIn_of _ (by decide +kernel)) ggX6_judge_X6_counted
theorem dX6_judge_0 : decode cX6_judge 0 = .ok (.iload_n 1, 1) := by decide +kernel
theorem dX6_judge_1 : decode cX6_judge 1 = .ok (.invokestatic 187, 3) := by decide +kernel
theorem dX6_judge_4 : decode cX6_judge 4 = .ok (.ifCond .eq 5, 3) := by decide +kernel
theorem dX6_judge_7 : decode cX6_judge 7 = .ok (.iconst (-1), 1) := by decide +kernel
theorem dX6_judge_8 : decode cX6_judge 8 = .ok (.ireturn, 1) := by decide +kernel
theorem dX6_judge_9 : decode cX6_judge 9 = .ok (.aload_n 0, 1) := by decide +kernel
theorem dX6_judge_10 : decode cX6_judge 10 = .ok (.getfield 179, 3) := by decide +kernel
theorem dX6_judge_13 : decode cX6_judge 13 = .ok (.ifCond .ne 6, 3) := by decide +kernel
theorem dX6_judge_16 : decode cX6_judge 16 = .ok (.bipush (-3), 2) := by decide +kernel
theorem dX6_judge_18 : decode cX6_judge 18 = .ok (.ireturn, 1) := by decide +kernel
theorem dX6_judge_19 : decode cX6_judge 19 = .ok (.aload_n 0, 1) := by decide +kernel
theorem dX6_judge_20 : decode cX6_judge 20 = .ok (.aload_n 0, 1) := by decide +kernel
theorem dX6_judge_21 : decode cX6_judge 21 = .ok (.getfield 179, 3) := by decide +kernel
theorem dX6_judge_24 : decode cX6_judge 24 = .ok (.putfield 150, 3) := by decide +kernel
theorem dX6_judge_27 : decode cX6_judge 27 = .ok (.iconst 0, 1) := by decide +kernel
theorem dX6_judge_28 : decode cX6_judge 28 = .ok (.istore_n 2, 1) := by decide +kernel
theorem dX6_judge_29 : decode cX6_judge 29 = .ok (.iload_n 2, 1) := by decide +kernel
theorem dX6_judge_30 : decode cX6_judge 30 = .ok (.bipush 9, 2) := by decide +kernel
theorem dX6_judge_32 : decode cX6_judge 32 = .ok (.aload_n 0, 1) := by decide +kernel
theorem dX6_judge_33 : decode cX6_judge 33 = .ok (.getfield 179, 3) := by decide +kernel
theorem dX6_judge_36 : decode cX6_judge 36 = .ok (.imul, 1) := by decide +kernel
theorem dX6_judge_37 : decode cX6_judge 37 = .ok (.if_icmp .ge 21, 3) := by decide +kernel
theorem dX6_judge_40 : decode cX6_judge 40 = .ok (.aload_n 0, 1) := by decide +kernel
theorem dX6_judge_41 : decode cX6_judge 41 = .ok (.getfield 34, 3) := by decide +kernel
theorem dX6_judge_44 : decode cX6_judge 44 = .ok (.iload_n 2, 1) := by decide +kernel
theorem dX6_judge_45 : decode cX6_judge 45 = .ok (.aload_n 0, 1) := by decide +kernel
theorem dX6_judge_46 : decode cX6_judge 46 = .ok (.getfield 37, 3) := by decide +kernel
theorem dX6_judge_49 : decode cX6_judge 49 = .ok (.iload_n 2, 1) := by decide +kernel
theorem dX6_judge_50 : decode cX6_judge 50 = .ok (.iaload, 1) := by decide +kernel
theorem dX6_judge_51 : decode cX6_judge 51 = .ok (.iastore, 1) := by decide +kernel
theorem dX6_judge_52 : decode cX6_judge 52 = .ok (.iinc 2 1, 3) := by decide +kernel
theorem dX6_judge_55 : decode cX6_judge 55 = .ok (.goto (-26), 3) := by decide +kernel
theorem dX6_judge_58 : decode cX6_judge 58 = .ok (.aload_n 0, 1) := by decide +kernel
theorem dX6_judge_59 : decode cX6_judge 59 = .ok (.iload_n 1, 1) := by decide +kernel
theorem dX6_judge_60 : decode cX6_judge 60 = .ok (.invokevirtual 190, 3) := by decide +kernel
theorem dX6_judge_63 : decode cX6_judge 63 = .ok (.ireturn, 1) := by decide +kernel
set_option maxRecDepth 20000 in
theorem ggX6_line_X6_noStone : GoodIn wsX6_line wsX6_noStone := goodIn_r _ [5, 6, 7, 8, 4, 9, 32, 33, 34, 35, 36, 37, 38, 39, 40, 41, 42, 43, 44, 45, 46, 47, 48, 49, 50, 51, 52, 53, 54, 55, 56, 57] (by decide +kernel) (by decide +kernel)
set_option maxRecDepth 20000 in
theorem gX6_line_X6_noStone : GoodIn wsX6_line (wsV RX6 105 RX6 yX6_noStone wsX6_noStone) := goodIn_app (goodIn_of _ (by decide +kernel)) ggX6_line_X6_noStone
set_option maxRecDepth 20000 in
theorem ggX6_line_X6_isSlant : GoodIn wsX6_line wsX6_isSlant := goodIn_r _ [12, 13, 7, 8, 4, 9] (by decide +kernel) (by decide +kernel)
set_option maxRecDepth 20000 in
theorem gX6_line_X6_isSlant : GoodIn wsX6_line (va_wsS RX6 169 yX6_isSlant wsX6_isSlant) := goodIn_app (goodIn_of _ (by decide +kernel)) ggX6_line_X6_isSlant
set_option maxRecDepth 20000 in
theorem ggX6_line_X6_isFall : GoodIn wsX6_line wsX6_isFall := goodIn_r _ [16, 17, 7, 8, 4, 9] (by decide +kernel) (by decide +kernel)
set_option maxRecDepth 20000 in
theorem gX6_line_X6_isFall : GoodIn wsX6_line (va_wsS RX6 166 yX6_isFall wsX6_isFall) := goodIn_app (goodIn_of _ (by decide +kernel)) ggX6_line_X6_isFall
set_option maxRecDepth 20000 in
theorem ggX6_line_X6_waveAt : GoodIn wsX6_line wsX6_waveAt := goodIn_r _ [21, 22, 23, 24, 32, 33, 34, 35, 36, 37, 38, 39, 40, 41, 42, 43, 44, 45, 46, 47, 48, 49, 50, 51, 52, 53, 54, 55, 56, 57] (by decide +kernel) (by decide +kernel)
set_option maxRecDepth 20000 in
theorem gX6_line_X6_waveAt : GoodIn wsX6_line (wsV RX6 145 RX6 yX6_waveAt wsX6_waveAt) := goodIn_app (goodIn_of _ (by decide +kernel)) ggX6_line_X6_waveAt
set_option maxRecDepth 20000 in
theorem ggX6_line_X6_isSunk : GoodIn wsX6_line wsX6_isSunk := goodIn_r _ [28, 13, 29, 30, 31, 7, 8, 4, 9, 32, 33, 34, 35, 36, 37, 38, 39, 40, 41, 42, 43, 44, 45, 46, 47, 48, 49, 50, 51, 52, 53, 54, 55, 56, 57] (by decide +kernel) (by decide +kernel)
set_option maxRecDepth 20000 in
theorem gX6_line_X6_isSunk : GoodIn wsX6_line (wsV RX6 153 RX6 yX6_isSunk wsX6_isSunk) := goodIn_app (goodIn_of _ (by decide +kernel)) ggX6_line_X6_isSunk
theorem dX6_line_0 : decode cX6_line 0 = .ok (.aload_n 0, 1) := by decide +kernel
theorem dX6_line_1 : decode cX6_line 1 = .ok (.iload_n 1, 1) := by decide +kernel
theorem dX6_line_2 : decode cX6_line 2 = .ok (.invokevirtual 105, 3) := by decide +kernel
theorem dX6_line_5 : decode cX6_line 5 = .ok (.ifCond .eq 5, 3) := by decide +kernel
theorem dX6_line_8 : decode cX6_line 8 = .ok (.iconst (-1), 1) := by decide +kernel
theorem dX6_line_9 : decode cX6_line 9 = .ok (.ireturn, 1) := by decide +kernel
theorem dX6_line_10 : decode cX6_line 10 = .ok (.iload_n 2, 1) := by decide +kernel
theorem dX6_line_11 : decode cX6_line 11 = .ok (.invokestatic 169, 3) := by decide +kernel
theorem dX6_line_14 : decode cX6_line 14 = .ok (.ifCond .eq 10, 3) := by decide +kernel
theorem dX6_line_17 : decode cX6_line 17 = .ok (.iload_n 3, 1) := by decide +kernel
theorem dX6_line_18 : decode cX6_line 18 = .ok (.invokestatic 166, 3) := by decide +kernel
theorem dX6_line_21 : decode cX6_line 21 = .ok (.ifCond .ne 6, 3) := by decide +kernel
theorem dX6_line_24 : decode cX6_line 24 = .ok (.bipush (-2), 2) := by decide +kernel
theorem dX6_line_26 : decode cX6_line 26 = .ok (.ireturn, 1) := by decide +kernel
theorem dX6_line_27 : decode cX6_line 27 = .ok (.iload_n 2, 1) := by decide +kernel
theorem dX6_line_28 : decode cX6_line 28 = .ok (.aload_n 0, 1) := by decide +kernel
theorem dX6_line_29 : decode cX6_line 29 = .ok (.iconst 0, 1) := by decide +kernel
theorem dX6_line_30 : decode cX6_line 30 = .ok (.invokevirtual 145, 3) := by decide +kernel
theorem dX6_line_33 : decode cX6_line 33 = .ok (.iadd, 1) := by decide +kernel
theorem dX6_line_34 : decode cX6_line 34 = .ok (.istore 4, 2) := by decide +kernel
theorem dX6_line_36 : decode cX6_line 36 = .ok (.iconst 1, 1) := by decide +kernel
theorem dX6_line_37 : decode cX6_line 37 = .ok (.istore 5, 2) := by decide +kernel
theorem dX6_line_39 : decode cX6_line 39 = .ok (.iload 5, 2) := by decide +kernel
theorem dX6_line_41 : decode cX6_line 41 = .ok (.sipush 301, 3) := by decide +kernel
theorem dX6_line_44 : decode cX6_line 44 = .ok (.if_icmp .ge 25, 3) := by decide +kernel
theorem dX6_line_47 : decode cX6_line 47 = .ok (.aload_n 0, 1) := by decide +kernel
theorem dX6_line_48 : decode cX6_line 48 = .ok (.iload_n 1, 1) := by decide +kernel
theorem dX6_line_49 : decode cX6_line 49 = .ok (.iload 5, 2) := by decide +kernel
theorem dX6_line_51 : decode cX6_line 51 = .ok (.iload_n 3, 1) := by decide +kernel
theorem dX6_line_52 : decode cX6_line 52 = .ok (.iload 4, 2) := by decide +kernel
theorem dX6_line_54 : decode cX6_line 54 = .ok (.invokevirtual 153, 3) := by decide +kernel
theorem dX6_line_57 : decode cX6_line 57 = .ok (.ifCond .ne 6, 3) := by decide +kernel
theorem dX6_line_60 : decode cX6_line 60 = .ok (.iload 5, 2) := by decide +kernel
theorem dX6_line_62 : decode cX6_line 62 = .ok (.ireturn, 1) := by decide +kernel
theorem dX6_line_63 : decode cX6_line 63 = .ok (.iinc 5 1, 3) := by decide +kernel
theorem dX6_line_66 : decode cX6_line 66 = .ok (.goto (-27), 3) := by decide +kernel
theorem dX6_line_69 : decode cX6_line 69 = .ok (.bipush (-9), 2) := by decide +kernel
theorem dX6_line_71 : decode cX6_line 71 = .ok (.ireturn, 1) := by decide +kernel
set_option maxRecDepth 20000 in
theorem ggX6_isGrid_X6_in : GoodIn wsX6_isGrid wsX6_in := goodIn_r _ [6] (by decide +kernel) (by decide +kernel)
set_option maxRecDepth 20000 in
theorem gX6_isGrid_X6_in : GoodIn wsX6_isGrid (va_wsS RX6 87 yX6_in wsX6_in) := goodIn_app (goodIn_of _ (by decide +kernel)) ggX6_isGrid_X6_in
set_option maxRecDepth 20000 in
theorem ggX6_isGrid_X6_isSpeed : GoodIn wsX6_isGrid wsX6_isSpeed := goodIn_r _ [9, 10, 3, 4, 5, 6] (by decide +kernel) (by decide +kernel)
set_option maxRecDepth 20000 in
theorem gX6_isGrid_X6_isSpeed : GoodIn wsX6_isGrid (va_wsS RX6 163 yX6_isSpeed wsX6_isSpeed) := goodIn_app (goodIn_of _ (by decide +kernel)) ggX6_isGrid_X6_isSpeed
set_option maxRecDepth 20000 in
theorem ggX6_isGrid_X6_isSlant : GoodIn wsX6_isGrid wsX6_isSlant := goodIn_r _ [13, 14, 3, 4, 5, 6] (by decide +kernel) (by decide +kernel)
set_option maxRecDepth 20000 in
theorem gX6_isGrid_X6_isSlant : GoodIn wsX6_isGrid (va_wsS RX6 169 yX6_isSlant wsX6_isSlant) := goodIn_app (goodIn_of _ (by decide +kernel)) ggX6_isGrid_X6_isSlant
theorem dX6_isGrid_0 : decode cX6_isGrid 0 = .ok (.iload_n 1, 1) := by decide +kernel
theorem dX6_isGrid_1 : decode cX6_isGrid 1 = .ok (.i2l, 1) := by decide +kernel
theorem dX6_isGrid_2 : decode cX6_isGrid 2 = .ok (.lconst 0, 1) := by decide +kernel
theorem dX6_isGrid_3 : decode cX6_isGrid 3 = .ok (.ldc2_w 132, 3) := by decide +kernel
theorem dX6_isGrid_6 : decode cX6_isGrid 6 = .ok (.invokestatic 87, 3) := by decide +kernel
theorem dX6_isGrid_9 : decode cX6_isGrid 9 = .ok (.ifCond .eq 51, 3) := by decide +kernel
theorem dX6_isGrid_12 : decode cX6_isGrid 12 = .ok (.iload_n 3, 1) := by decide +kernel
theorem dX6_isGrid_13 : decode cX6_isGrid 13 = .ok (.i2l, 1) := by decide +kernel
theorem dX6_isGrid_14 : decode cX6_isGrid 14 = .ok (.lconst 0, 1) := by decide +kernel
theorem dX6_isGrid_15 : decode cX6_isGrid 15 = .ok (.ldc2_w 193, 3) := by decide +kernel
theorem dX6_isGrid_18 : decode cX6_isGrid 18 = .ok (.invokestatic 87, 3) := by decide +kernel
theorem dX6_isGrid_21 : decode cX6_isGrid 21 = .ok (.ifCond .eq 39, 3) := by decide +kernel
theorem dX6_isGrid_24 : decode cX6_isGrid 24 = .ok (.iload_n 0, 1) := by decide +kernel
theorem dX6_isGrid_25 : decode cX6_isGrid 25 = .ok (.invokestatic 163, 3) := by decide +kernel
theorem dX6_isGrid_28 : decode cX6_isGrid 28 = .ok (.ifCond .eq 32, 3) := by decide +kernel
theorem dX6_isGrid_31 : decode cX6_isGrid 31 = .ok (.iload_n 0, 1) := by decide +kernel
theorem dX6_isGrid_32 : decode cX6_isGrid 32 = .ok (.iload_n 1, 1) := by decide +kernel
theorem dX6_isGrid_33 : decode cX6_isGrid 33 = .ok (.iadd, 1) := by decide +kernel
theorem dX6_isGrid_34 : decode cX6_isGrid 34 = .ok (.invokestatic 163, 3) := by decide +kernel
theorem dX6_isGrid_37 : decode cX6_isGrid 37 = .ok (.ifCond .eq 23, 3) := by decide +kernel
theorem dX6_isGrid_40 : decode cX6_isGrid 40 = .ok (.iload_n 2, 1) := by decide +kernel
theorem dX6_isGrid_41 : decode cX6_isGrid 41 = .ok (.invokestatic 169, 3) := by decide +kernel
theorem dX6_isGrid_44 : decode cX6_isGrid 44 = .ok (.ifCond .eq 16, 3) := by decide +kernel
theorem dX6_isGrid_47 : decode cX6_isGrid 47 = .ok (.iload_n 2, 1) := by decide +kernel
theorem dX6_isGrid_48 : decode cX6_isGrid 48 = .ok (.iload_n 3, 1) := by decide +kernel
theorem dX6_isGrid_49 : decode cX6_isGrid 49 = .ok (.iadd, 1) := by decide +kernel
theorem dX6_isGrid_50 : decode cX6_isGrid 50 = .ok (.invokestatic 169, 3) := by decide +kernel
theorem dX6_isGrid_53 : decode cX6_isGrid 53 = .ok (.ifCond .eq 7, 3) := by decide +kernel
theorem dX6_isGrid_56 : decode cX6_isGrid 56 = .ok (.iconst 1, 1) := by decide +kernel
theorem dX6_isGrid_57 : decode cX6_isGrid 57 = .ok (.goto 4, 3) := by decide +kernel
theorem dX6_isGrid_60 : decode cX6_isGrid 60 = .ok (.iconst 0, 1) := by decide +kernel
theorem dX6_isGrid_61 : decode cX6_isGrid 61 = .ok (.ireturn, 1) := by decide +kernel
set_option maxRecDepth 20000 in
theorem ggX6_grid_X6_isFall : GoodIn wsX6_grid wsX6_isFall := goodIn_r _ [6, 7, 8, 9, 5, 10] (by decide +kernel) (by decide +kernel)
set_option maxRecDepth 20000 in
theorem gX6_grid_X6_isFall : GoodIn wsX6_grid (va_wsS RX6 166 yX6_isFall wsX6_isFall) := goodIn_app (goodIn_of _ (by decide +kernel)) ggX6_grid_X6_isFall
set_option maxRecDepth 20000 in
theorem ggX6_grid_X6_isSpin : GoodIn wsX6_grid wsX6_isSpin := goodIn_r _ [13, 7, 8, 9, 5, 10] (by decide +kernel) (by decide +kernel)
set_option maxRecDepth 20000 in
theorem gX6_grid_X6_isSpin : GoodIn wsX6_grid (va_wsS RX6 172 yX6_isSpin wsX6_isSpin) := goodIn_app (goodIn_of _ (by decide +kernel)) ggX6_grid_X6_isSpin
theorem dX6_grid_0 : decode cX6_grid 0 = .ok (.iload_n 1, 1) := by decide +kernel
theorem dX6_grid_1 : decode cX6_grid 1 = .ok (.invokestatic 166, 3) := by decide +kernel
theorem dX6_grid_4 : decode cX6_grid 4 = .ok (.ifCond .eq 10, 3) := by decide +kernel
theorem dX6_grid_7 : decode cX6_grid 7 = .ok (.iload_n 2, 1) := by decide +kernel
theorem dX6_grid_8 : decode cX6_grid 8 = .ok (.invokestatic 172, 3) := by decide +kernel
theorem dX6_grid_11 : decode cX6_grid 11 = .ok (.ifCond .ne 6, 3) := by decide +kernel
theorem dX6_grid_14 : decode cX6_grid 14 = .ok (.bipush (-2), 2) := by decide +kernel
theorem dX6_grid_16 : decode cX6_grid 16 = .ok (.ireturn, 1) := by decide +kernel
theorem dX6_grid_17 : decode cX6_grid 17 = .ok (.aload_n 0, 1) := by decide +kernel
theorem dX6_grid_18 : decode cX6_grid 18 = .ok (.getfield 63, 3) := by decide +kernel
theorem dX6_grid_21 : decode cX6_grid 21 = .ok (.iload_n 1, 1) := by decide +kernel
theorem dX6_grid_22 : decode cX6_grid 22 = .ok (.if_icmp .ne 15, 3) := by decide +kernel
theorem dX6_grid_25 : decode cX6_grid 25 = .ok (.aload_n 0, 1) := by decide +kernel
theorem dX6_grid_26 : decode cX6_grid 26 = .ok (.getfield 66, 3) := by decide +kernel
theorem dX6_grid_29 : decode cX6_grid 29 = .ok (.iload_n 2, 1) := by decide +kernel
theorem dX6_grid_30 : decode cX6_grid 30 = .ok (.if_icmp .ne 7, 3) := by decide +kernel
theorem dX6_grid_33 : decode cX6_grid 33 = .ok (.iconst 1, 1) := by decide +kernel
theorem dX6_grid_34 : decode cX6_grid 34 = .ok (.goto 4, 3) := by decide +kernel
theorem dX6_grid_37 : decode cX6_grid 37 = .ok (.iconst 0, 1) := by decide +kernel
theorem dX6_grid_38 : decode cX6_grid 38 = .ok (.istore_n 3, 1) := by decide +kernel
theorem dX6_grid_39 : decode cX6_grid 39 = .ok (.aload_n 0, 1) := by decide +kernel
theorem dX6_grid_40 : decode cX6_grid 40 = .ok (.iload_n 1, 1) := by decide +kernel
theorem dX6_grid_41 : decode cX6_grid 41 = .ok (.putfield 63, 3) := by decide +kernel
theorem dX6_grid_44 : decode cX6_grid 44 = .ok (.aload_n 0, 1) := by decide +kernel
theorem dX6_grid_45 : decode cX6_grid 45 = .ok (.iload_n 2, 1) := by decide +kernel
theorem dX6_grid_46 : decode cX6_grid 46 = .ok (.putfield 66, 3) := by decide +kernel
theorem dX6_grid_49 : decode cX6_grid 49 = .ok (.iload_n 3, 1) := by decide +kernel
theorem dX6_grid_50 : decode cX6_grid 50 = .ok (.ifCond .eq 7, 3) := by decide +kernel
theorem dX6_grid_53 : decode cX6_grid 53 = .ok (.iconst 0, 1) := by decide +kernel
theorem dX6_grid_54 : decode cX6_grid 54 = .ok (.goto 4, 3) := by decide +kernel
theorem dX6_grid_57 : decode cX6_grid 57 = .ok (.iconst 1, 1) := by decide +kernel
theorem dX6_grid_58 : decode cX6_grid 58 = .ok (.ireturn, 1) := by decide +kernel
set_option maxRecDepth 20000 in
theorem ggX6_best_X6_noStone : GoodIn wsX6_best wsX6_noStone := goodIn_r _ [8, 9, 10, 11, 7, 12, 58, 59, 60, 61, 62, 63, 64, 65, 66, 67, 68, 69, 70, 71, 72, 73, 74, 75, 76, 77, 78, 79, 80, 81, 82, 83] (by decide +kernel) (by decide +kernel)
set_option maxRecDepth 20000 in
theorem gX6_best_X6_noStone : GoodIn wsX6_best (wsV RX6 105 RX6 yX6_noStone wsX6_noStone) := goodIn_app (goodIn_of _ (by decide +kernel)) ggX6_best_X6_noStone
set_option maxRecDepth 20000 in
theorem ggX6_best_X6_noJudge : GoodIn wsX6_best wsX6_noJudge := goodIn_r _ [15, 16, 10, 11, 7, 12] (by decide +kernel) (by decide +kernel)
set_option maxRecDepth 20000 in
theorem gX6_best_X6_noJudge : GoodIn wsX6_best (va_wsS RX6 187 yX6_noJudge wsX6_noJudge) := goodIn_app (goodIn_of _ (by decide +kernel)) ggX6_best_X6_noJudge
set_option maxRecDepth 20000 in
theorem ggX6_best_X6_isGrid : GoodIn wsX6_best wsX6_isGrid := goodIn_r _ [19, 20, 21, 10, 11, 7, 12, 22, 23, 24, 25, 26, 27, 28, 29] (by decide +kernel) (by decide +kernel)
set_option maxRecDepth 20000 in
theorem gX6_best_X6_isGrid : GoodIn wsX6_best (va_wsS RX6 195 yX6_isGrid wsX6_isGrid) := goodIn_app (goodIn_of _ (by decide +kernel)) ggX6_best_X6_isGrid
set_option maxRecDepth 20000 in
theorem ggX6_best_X6_in : GoodIn wsX6_best wsX6_in := goodIn_r _ [12] (by decide +kernel) (by decide +kernel)
set_option maxRecDepth 20000 in
theorem gX6_best_X6_in : GoodIn wsX6_best (va_wsS RX6 87 yX6_in wsX6_in) := goodIn_app (goodIn_of _ (by decide +kernel)) ggX6_best_X6_in
set_option maxRecDepth 20000 in
theorem ggX6_best_X6_fly : GoodIn wsX6_best wsX6_fly := goodIn_r _ [33, 34, 35, 36, 37, 38, 39, 40, 7, 41, 42, 43, 44, 45, 46, 47, 48, 29, 49, 50, 10, 11, 12, 51, 52, 53, 58, 59, 60, 61, 62, 63, 64, 65, 66, 67, 68, 69, 70, 71, 72, 73, 74, 75, 76, 77, 78, 79, 80, 81, 82, 83] (by decide +kernel) (by decide +kernel)
set_option maxRecDepth 20000 in
theorem gX6_best_X6_fly : GoodIn wsX6_best (wsV RX6 175 RX6 yX6_fly wsX6_fly) := goodIn_app (goodIn_of _ (by decide +kernel)) ggX6_best_X6_fly
set_option maxRecDepth 20000 in
theorem ggX6_best_X6_counted : GoodIn wsX6_best wsX6_counted := goodIn_r _ [57, 34, 36, 58, 59, 60, 61, 62, 63, 64, 65, 66, 67, 68, 69, 70, 71, 72, 73, 74, 75, 76, 77, 78, 79, 80, 81, 82, 83] (by decide +kernel) (by decide +kernel)
set_option maxRecDepth 20000 in
theorem gX6_best_X6_counted : GoodIn wsX6_best (wsV RX6 190 RX6 yX6_counted wsX6_counted) := goodIn_app (goodIn_of _ (by decide +kernel)) ggX6_best_X6_counted
theorem dX6_best_0 : decode cX6_best 0 = .ok (.aload_n 0, 1) := by decide +kernel
theorem dX6_best_1 : decode cX6_best 1 = .ok (.iload_n 1, 1) := by decide +kernel
theorem dX6_best_2 : decode cX6_best 2 = .ok (.invokevirtual 105, 3) := by decide +kernel
theorem dX6_best_5 : decode cX6_best 5 = .ok (.ifCond .ne 11, 3) := by decide +kernel
theorem dX6_best_8 : decode cX6_best 8 = .ok (.iload 6, 2) := by decide +kernel
theorem dX6_best_10 : decode cX6_best 10 = .ok (.invokestatic 187, 3) := by decide +kernel
theorem dX6_best_13 : decode cX6_best 13 = .ok (.ifCond .eq 5, 3) := by decide +kernel
theorem dX6_best_16 : decode cX6_best 16 = .ok (.iconst (-1), 1) := by decide +kernel
theorem dX6_best_17 : decode cX6_best 17 = .ok (.ireturn, 1) := by decide +kernel
theorem dX6_best_18 : decode cX6_best 18 = .ok (.iload_n 2, 1) := by decide +kernel
theorem dX6_best_19 : decode cX6_best 19 = .ok (.iload_n 3, 1) := by decide +kernel
theorem dX6_best_20 : decode cX6_best 20 = .ok (.iload 4, 2) := by decide +kernel
theorem dX6_best_22 : decode cX6_best 22 = .ok (.iload 5, 2) := by decide +kernel
theorem dX6_best_24 : decode cX6_best 24 = .ok (.invokestatic 195, 3) := by decide +kernel
theorem dX6_best_27 : decode cX6_best 27 = .ok (.ifCond .eq 16, 3) := by decide +kernel
theorem dX6_best_30 : decode cX6_best 30 = .ok (.iload 7, 2) := by decide +kernel
theorem dX6_best_32 : decode cX6_best 32 = .ok (.i2l, 1) := by decide +kernel
theorem dX6_best_33 : decode cX6_best 33 = .ok (.lconst 0, 1) := by decide +kernel
theorem dX6_best_34 : decode cX6_best 34 = .ok (.ldc2_w 85, 3) := by decide +kernel
theorem dX6_best_37 : decode cX6_best 37 = .ok (.invokestatic 87, 3) := by decide +kernel
theorem dX6_best_40 : decode cX6_best 40 = .ok (.ifCond .ne 6, 3) := by decide +kernel
theorem dX6_best_43 : decode cX6_best 43 = .ok (.bipush (-2), 2) := by decide +kernel
theorem dX6_best_45 : decode cX6_best 45 = .ok (.ireturn, 1) := by decide +kernel
theorem dX6_best_46 : decode cX6_best 46 = .ok (.bipush (-9), 2) := by decide +kernel
theorem dX6_best_48 : decode cX6_best 48 = .ok (.istore 8, 2) := by decide +kernel
theorem dX6_best_50 : decode cX6_best 50 = .ok (.iconst 0, 1) := by decide +kernel
theorem dX6_best_51 : decode cX6_best 51 = .ok (.istore 9, 2) := by decide +kernel
theorem dX6_best_53 : decode cX6_best 53 = .ok (.iconst 0, 1) := by decide +kernel
theorem dX6_best_54 : decode cX6_best 54 = .ok (.istore 10, 2) := by decide +kernel
theorem dX6_best_56 : decode cX6_best 56 = .ok (.iload_n 2, 1) := by decide +kernel
theorem dX6_best_57 : decode cX6_best 57 = .ok (.istore 11, 2) := by decide +kernel
theorem dX6_best_59 : decode cX6_best 59 = .ok (.iload 11, 2) := by decide +kernel
theorem dX6_best_61 : decode cX6_best 61 = .ok (.iload_n 2, 1) := by decide +kernel
theorem dX6_best_62 : decode cX6_best 62 = .ok (.iload_n 3, 1) := by decide +kernel
theorem dX6_best_63 : decode cX6_best 63 = .ok (.iadd, 1) := by decide +kernel
theorem dX6_best_64 : decode cX6_best 64 = .ok (.if_icmp .gt 73, 3) := by decide +kernel
theorem dX6_best_67 : decode cX6_best 67 = .ok (.iload 4, 2) := by decide +kernel
theorem dX6_best_69 : decode cX6_best 69 = .ok (.istore 12, 2) := by decide +kernel
theorem dX6_best_71 : decode cX6_best 71 = .ok (.iload 12, 2) := by decide +kernel
theorem dX6_best_73 : decode cX6_best 73 = .ok (.iload 4, 2) := by decide +kernel
theorem dX6_best_75 : decode cX6_best 75 = .ok (.iload 5, 2) := by decide +kernel
theorem dX6_best_77 : decode cX6_best 77 = .ok (.iadd, 1) := by decide +kernel
theorem dX6_best_78 : decode cX6_best 78 = .ok (.if_icmp .gt 53, 3) := by decide +kernel
theorem dX6_best_81 : decode cX6_best 81 = .ok (.aload_n 0, 1) := by decide +kernel
theorem dX6_best_82 : decode cX6_best 82 = .ok (.iload_n 1, 1) := by decide +kernel
theorem dX6_best_83 : decode cX6_best 83 = .ok (.iload 11, 2) := by decide +kernel
theorem dX6_best_85 : decode cX6_best 85 = .ok (.aload_n 0, 1) := by decide +kernel
theorem dX6_best_86 : decode cX6_best 86 = .ok (.getfield 63, 3) := by decide +kernel
theorem dX6_best_89 : decode cX6_best 89 = .ok (.iload 12, 2) := by decide +kernel
theorem dX6_best_91 : decode cX6_best 91 = .ok (.aload_n 0, 1) := by decide +kernel
theorem dX6_best_92 : decode cX6_best 92 = .ok (.getfield 66, 3) := by decide +kernel
theorem dX6_best_95 : decode cX6_best 95 = .ok (.invokevirtual 175, 3) := by decide +kernel
theorem dX6_best_98 : decode cX6_best 98 = .ok (.aload_n 0, 1) := by decide +kernel
theorem dX6_best_99 : decode cX6_best 99 = .ok (.iload 6, 2) := by decide +kernel
theorem dX6_best_101 : decode cX6_best 101 = .ok (.invokevirtual 190, 3) := by decide +kernel
theorem dX6_best_104 : decode cX6_best 104 = .ok (.istore 13, 2) := by decide +kernel
theorem dX6_best_106 : decode cX6_best 106 = .ok (.iload 13, 2) := by decide +kernel
theorem dX6_best_108 : decode cX6_best 108 = .ok (.iload 8, 2) := by decide +kernel
theorem dX6_best_110 : decode cX6_best 110 = .ok (.if_icmp .le 15, 3) := by decide +kernel
theorem dX6_best_113 : decode cX6_best 113 = .ok (.iload 13, 2) := by decide +kernel
theorem dX6_best_115 : decode cX6_best 115 = .ok (.istore 8, 2) := by decide +kernel
theorem dX6_best_117 : decode cX6_best 117 = .ok (.iload 11, 2) := by decide +kernel
theorem dX6_best_119 : decode cX6_best 119 = .ok (.istore 9, 2) := by decide +kernel
theorem dX6_best_121 : decode cX6_best 121 = .ok (.iload 12, 2) := by decide +kernel
theorem dX6_best_123 : decode cX6_best 123 = .ok (.istore 10, 2) := by decide +kernel
theorem dX6_best_125 : decode cX6_best 125 = .ok (.iinc 12 1, 3) := by decide +kernel
theorem dX6_best_128 : decode cX6_best 128 = .ok (.goto (-57), 3) := by decide +kernel
theorem dX6_best_131 : decode cX6_best 131 = .ok (.iinc 11 1, 3) := by decide +kernel
theorem dX6_best_134 : decode cX6_best 134 = .ok (.goto (-75), 3) := by decide +kernel
theorem dX6_best_137 : decode cX6_best 137 = .ok (.iload 7, 2) := by decide +kernel
theorem dX6_best_139 : decode cX6_best 139 = .ok (.ifCond .ne 8, 3) := by decide +kernel
theorem dX6_best_142 : decode cX6_best 142 = .ok (.iload 8, 2) := by decide +kernel
theorem dX6_best_144 : decode cX6_best 144 = .ok (.goto 16, 3) := by decide +kernel
theorem dX6_best_147 : decode cX6_best 147 = .ok (.iload 7, 2) := by decide +kernel
theorem dX6_best_149 : decode cX6_best 149 = .ok (.iconst 1, 1) := by decide +kernel
theorem dX6_best_150 : decode cX6_best 150 = .ok (.if_icmp .ne 8, 3) := by decide +kernel
theorem dX6_best_153 : decode cX6_best 153 = .ok (.iload 9, 2) := by decide +kernel
theorem dX6_best_155 : decode cX6_best 155 = .ok (.goto 5, 3) := by decide +kernel
theorem dX6_best_158 : decode cX6_best 158 = .ok (.iload 10, 2) := by decide +kernel
theorem dX6_best_160 : decode cX6_best 160 = .ok (.ireturn, 1) := by decide +kernel
set_option maxRecDepth 20000 in
theorem ggX6_enough_X6_fly : GoodIn wsX6_enough wsX6_fly := goodIn_r _ [7, 8, 9, 10, 11, 12, 13, 14, 6, 15, 16, 17, 18, 19, 20, 21, 22, 23, 24, 25, 26, 27, 28, 29, 30, 31, 36, 37, 38, 39, 40, 41, 42, 43, 44, 45, 46, 47, 48, 49, 50, 51, 52, 53, 54, 55, 56, 57, 58, 59, 60, 61] (by decide +kernel) (by decide +kernel)
set_option maxRecDepth 20000 in
theorem gX6_enough_X6_fly : GoodIn wsX6_enough (wsV RX6 175 RX6 yX6_fly wsX6_fly) := goodIn_app (goodIn_of _ (by decide +kernel)) ggX6_enough_X6_fly
set_option maxRecDepth 20000 in
theorem ggX6_enough_X6_counted : GoodIn wsX6_enough wsX6_counted := goodIn_r _ [35, 8, 10, 36, 37, 38, 39, 40, 41, 42, 43, 44, 45, 46, 47, 48, 49, 50, 51, 52, 53, 54, 55, 56, 57, 58, 59, 60, 61] (by decide +kernel) (by decide +kernel)
set_option maxRecDepth 20000 in
theorem gX6_enough_X6_counted : GoodIn wsX6_enough (wsV RX6 190 RX6 yX6_counted wsX6_counted) := goodIn_app (goodIn_of _ (by decide +kernel)) ggX6_enough_X6_counted
theorem dX6_enough_0 : decode cX6_enough 0 = .ok (.iconst 0, 1) := by decide +kernel
theorem dX6_enough_1 : decode cX6_enough 1 = .ok (.istore 8, 2) := by decide +kernel
theorem dX6_enough_3 : decode cX6_enough 3 = .ok (.iload_n 2, 1) := by decide +kernel
theorem dX6_enough_4 : decode cX6_enough 4 = .ok (.istore 9, 2) := by decide +kernel
theorem dX6_enough_6 : decode cX6_enough 6 = .ok (.iload 9, 2) := by decide +kernel
theorem dX6_enough_8 : decode cX6_enough 8 = .ok (.iload_n 2, 1) := by decide +kernel
theorem dX6_enough_9 : decode cX6_enough 9 = .ok (.iload_n 3, 1) := by decide +kernel
theorem dX6_enough_10 : decode cX6_enough 10 = .ok (.iadd, 1) := by decide +kernel
theorem dX6_enough_11 : decode cX6_enough 11 = .ok (.if_icmp .gt 67, 3) := by decide +kernel
theorem dX6_enough_14 : decode cX6_enough 14 = .ok (.iload 4, 2) := by decide +kernel
theorem dX6_enough_16 : decode cX6_enough 16 = .ok (.istore 10, 2) := by decide +kernel
theorem dX6_enough_18 : decode cX6_enough 18 = .ok (.iload 10, 2) := by decide +kernel
theorem dX6_enough_20 : decode cX6_enough 20 = .ok (.iload 4, 2) := by decide +kernel
theorem dX6_enough_22 : decode cX6_enough 22 = .ok (.iload 5, 2) := by decide +kernel
theorem dX6_enough_24 : decode cX6_enough 24 = .ok (.iadd, 1) := by decide +kernel
theorem dX6_enough_25 : decode cX6_enough 25 = .ok (.if_icmp .gt 47, 3) := by decide +kernel
theorem dX6_enough_28 : decode cX6_enough 28 = .ok (.aload_n 0, 1) := by decide +kernel
theorem dX6_enough_29 : decode cX6_enough 29 = .ok (.iload_n 1, 1) := by decide +kernel
theorem dX6_enough_30 : decode cX6_enough 30 = .ok (.iload 9, 2) := by decide +kernel
theorem dX6_enough_32 : decode cX6_enough 32 = .ok (.aload_n 0, 1) := by decide +kernel
theorem dX6_enough_33 : decode cX6_enough 33 = .ok (.getfield 63, 3) := by decide +kernel
theorem dX6_enough_36 : decode cX6_enough 36 = .ok (.iload 10, 2) := by decide +kernel
theorem dX6_enough_38 : decode cX6_enough 38 = .ok (.aload_n 0, 1) := by decide +kernel
theorem dX6_enough_39 : decode cX6_enough 39 = .ok (.getfield 66, 3) := by decide +kernel
theorem dX6_enough_42 : decode cX6_enough 42 = .ok (.invokevirtual 175, 3) := by decide +kernel
theorem dX6_enough_45 : decode cX6_enough 45 = .ok (.iload 8, 2) := by decide +kernel
theorem dX6_enough_47 : decode cX6_enough 47 = .ok (.aload_n 0, 1) := by decide +kernel
theorem dX6_enough_48 : decode cX6_enough 48 = .ok (.iload 6, 2) := by decide +kernel
theorem dX6_enough_50 : decode cX6_enough 50 = .ok (.invokevirtual 190, 3) := by decide +kernel
theorem dX6_enough_53 : decode cX6_enough 53 = .ok (.iload 7, 2) := by decide +kernel
theorem dX6_enough_55 : decode cX6_enough 55 = .ok (.if_icmp .lt 7, 3) := by decide +kernel
theorem dX6_enough_58 : decode cX6_enough 58 = .ok (.iconst 1, 1) := by decide +kernel
theorem dX6_enough_59 : decode cX6_enough 59 = .ok (.goto 4, 3) := by decide +kernel
theorem dX6_enough_62 : decode cX6_enough 62 = .ok (.iconst 0, 1) := by decide +kernel
theorem dX6_enough_63 : decode cX6_enough 63 = .ok (.iadd, 1) := by decide +kernel
theorem dX6_enough_64 : decode cX6_enough 64 = .ok (.istore 8, 2) := by decide +kernel
theorem dX6_enough_66 : decode cX6_enough 66 = .ok (.iinc 10 1, 3) := by decide +kernel
theorem dX6_enough_69 : decode cX6_enough 69 = .ok (.goto (-51), 3) := by decide +kernel
theorem dX6_enough_72 : decode cX6_enough 72 = .ok (.iinc 9 1, 3) := by decide +kernel
theorem dX6_enough_75 : decode cX6_enough 75 = .ok (.goto (-69), 3) := by decide +kernel
theorem dX6_enough_78 : decode cX6_enough 78 = .ok (.iload 8, 2) := by decide +kernel
theorem dX6_enough_80 : decode cX6_enough 80 = .ok (.ireturn, 1) := by decide +kernel
set_option maxRecDepth 20000 in
theorem ggX6_odds_X6_noStone : GoodIn wsX6_odds wsX6_noStone := goodIn_r _ [5, 6, 7, 8, 4, 9, 68, 69, 70, 71, 72, 73, 74, 75, 76, 77, 78, 79, 80, 81, 82, 83, 84, 85, 86, 87, 88, 89, 90, 91, 92, 93] (by decide +kernel) (by decide +kernel)
set_option maxRecDepth 20000 in
theorem gX6_odds_X6_noStone : GoodIn wsX6_odds (wsV RX6 105 RX6 yX6_noStone wsX6_noStone) := goodIn_app (goodIn_of _ (by decide +kernel)) ggX6_odds_X6_noStone
set_option maxRecDepth 20000 in
theorem ggX6_odds_X6_noJudge : GoodIn wsX6_odds wsX6_noJudge := goodIn_r _ [12, 13, 7, 8, 4, 9] (by decide +kernel) (by decide +kernel)
set_option maxRecDepth 20000 in
theorem gX6_odds_X6_noJudge : GoodIn wsX6_odds (va_wsS RX6 187 yX6_noJudge wsX6_noJudge) := goodIn_app (goodIn_of _ (by decide +kernel)) ggX6_odds_X6_noJudge
set_option maxRecDepth 20000 in
theorem ggX6_odds_X6_isGrid : GoodIn wsX6_odds wsX6_isGrid := goodIn_r _ [16, 17, 18, 7, 8, 4, 9, 19, 20, 21, 22, 23, 24, 25, 26] (by decide +kernel) (by decide +kernel)
set_option maxRecDepth 20000 in
theorem gX6_odds_X6_isGrid : GoodIn wsX6_odds (va_wsS RX6 195 yX6_isGrid wsX6_isGrid) := goodIn_app (goodIn_of _ (by decide +kernel)) ggX6_odds_X6_isGrid
set_option maxRecDepth 20000 in
theorem ggX6_odds_X6_in : GoodIn wsX6_odds wsX6_in := goodIn_r _ [9] (by decide +kernel) (by decide +kernel)
set_option maxRecDepth 20000 in
theorem gX6_odds_X6_in : GoodIn wsX6_odds (va_wsS RX6 87 yX6_in wsX6_in) := goodIn_app (goodIn_of _ (by decide +kernel)) ggX6_odds_X6_in
set_option maxRecDepth 20000 in
theorem ggX6_odds_X6_lost : GoodIn wsX6_odds wsX6_lost := goodIn_r _ [29, 30] (by decide +kernel) (by decide +kernel)
set_option maxRecDepth 20000 in
theorem gX6_odds_X6_lost : GoodIn wsX6_odds (va_wsS RX6 74 yX6_lost wsX6_lost) := goodIn_app (goodIn_of _ (by decide +kernel)) ggX6_odds_X6_lost
set_option maxRecDepth 20000 in
theorem ggX6_odds_X6_enough : GoodIn wsX6_odds wsX6_enough := goodIn_r _ [34, 35, 36, 37, 38, 39, 4, 40, 41, 42, 43, 44, 45, 46, 47, 48, 49, 50, 51, 52, 53, 54, 55, 26, 56, 57, 7, 8, 9, 58, 59, 60, 61, 62, 63, 64, 68, 69, 70, 71, 72, 73, 74, 75, 76, 77, 78, 79, 80, 81, 82, 83, 84, 85, 86, 87, 88, 89, 90, 91, 92, 93] (by decide +kernel) (by decide +kernel)
set_option maxRecDepth 20000 in
theorem gX6_odds_X6_enough : GoodIn wsX6_odds (wsV RX6 198 RX6 yX6_enough wsX6_enough) := goodIn_app (goodIn_of _ (by decide +kernel)) ggX6_odds_X6_enough
set_option maxRecDepth 20000 in
theorem ggX6_odds_X6_share : GoodIn wsX6_odds wsX6_share := goodIn_r _ [67] (by decide +kernel) (by decide +kernel)
set_option maxRecDepth 20000 in
theorem gX6_odds_X6_share : GoodIn wsX6_odds (va_wsS RX6 202 yX6_share wsX6_share) := goodIn_app (goodIn_of _ (by decide +kernel)) ggX6_odds_X6_share
theorem dX6_odds_0 : decode cX6_odds 0 = .ok (.aload_n 0, 1) := by decide +kernel
theorem dX6_odds_1 : decode cX6_odds 1 = .ok (.iload_n 1, 1) := by decide +kernel
theorem dX6_odds_2 : decode cX6_odds 2 = .ok (.invokevirtual 105, 3) := by decide +kernel
theorem dX6_odds_5 : decode cX6_odds 5 = .ok (.ifCond .ne 34, 3) := by decide +kernel
theorem dX6_odds_8 : decode cX6_odds 8 = .ok (.iload 6, 2) := by decide +kernel
theorem dX6_odds_10 : decode cX6_odds 10 = .ok (.invokestatic 187, 3) := by decide +kernel
theorem dX6_odds_13 : decode cX6_odds 13 = .ok (.ifCond .ne 26, 3) := by decide +kernel
theorem dX6_odds_16 : decode cX6_odds 16 = .ok (.iload_n 2, 1) := by decide +kernel
theorem dX6_odds_17 : decode cX6_odds 17 = .ok (.iload_n 3, 1) := by decide +kernel
theorem dX6_odds_18 : decode cX6_odds 18 = .ok (.iload 4, 2) := by decide +kernel
theorem dX6_odds_20 : decode cX6_odds 20 = .ok (.iload 5, 2) := by decide +kernel
theorem dX6_odds_22 : decode cX6_odds 22 = .ok (.invokestatic 195, 3) := by decide +kernel
theorem dX6_odds_25 : decode cX6_odds 25 = .ok (.ifCond .eq 14, 3) := by decide +kernel
theorem dX6_odds_28 : decode cX6_odds 28 = .ok (.iload 8, 2) := by decide +kernel
theorem dX6_odds_30 : decode cX6_odds 30 = .ok (.i2l, 1) := by decide +kernel
theorem dX6_odds_31 : decode cX6_odds 31 = .ok (.lconst 0, 1) := by decide +kernel
theorem dX6_odds_32 : decode cX6_odds 32 = .ok (.lconst 1, 1) := by decide +kernel
theorem dX6_odds_33 : decode cX6_odds 33 = .ok (.invokestatic 87, 3) := by decide +kernel
theorem dX6_odds_36 : decode cX6_odds 36 = .ok (.ifCond .ne 7, 3) := by decide +kernel
theorem dX6_odds_39 : decode cX6_odds 39 = .ok (.invokestatic 74, 3) := by decide +kernel
theorem dX6_odds_42 : decode cX6_odds 42 = .ok (.lreturn, 1) := by decide +kernel
theorem dX6_odds_43 : decode cX6_odds 43 = .ok (.aload_n 0, 1) := by decide +kernel
theorem dX6_odds_44 : decode cX6_odds 44 = .ok (.iload_n 1, 1) := by decide +kernel
theorem dX6_odds_45 : decode cX6_odds 45 = .ok (.iload_n 2, 1) := by decide +kernel
theorem dX6_odds_46 : decode cX6_odds 46 = .ok (.iload_n 3, 1) := by decide +kernel
theorem dX6_odds_47 : decode cX6_odds 47 = .ok (.iload 4, 2) := by decide +kernel
theorem dX6_odds_49 : decode cX6_odds 49 = .ok (.iload 5, 2) := by decide +kernel
theorem dX6_odds_51 : decode cX6_odds 51 = .ok (.iload 6, 2) := by decide +kernel
theorem dX6_odds_53 : decode cX6_odds 53 = .ok (.iload 7, 2) := by decide +kernel
theorem dX6_odds_55 : decode cX6_odds 55 = .ok (.invokevirtual 198, 3) := by decide +kernel
theorem dX6_odds_58 : decode cX6_odds 58 = .ok (.i2l, 1) := by decide +kernel
theorem dX6_odds_59 : decode cX6_odds 59 = .ok (.iload_n 3, 1) := by decide +kernel
theorem dX6_odds_60 : decode cX6_odds 60 = .ok (.iconst 1, 1) := by decide +kernel
theorem dX6_odds_61 : decode cX6_odds 61 = .ok (.iadd, 1) := by decide +kernel
theorem dX6_odds_62 : decode cX6_odds 62 = .ok (.iload 5, 2) := by decide +kernel
theorem dX6_odds_64 : decode cX6_odds 64 = .ok (.iconst 1, 1) := by decide +kernel
theorem dX6_odds_65 : decode cX6_odds 65 = .ok (.iadd, 1) := by decide +kernel
theorem dX6_odds_66 : decode cX6_odds 66 = .ok (.imul, 1) := by decide +kernel
theorem dX6_odds_67 : decode cX6_odds 67 = .ok (.i2l, 1) := by decide +kernel
theorem dX6_odds_68 : decode cX6_odds 68 = .ok (.iload 8, 2) := by decide +kernel
theorem dX6_odds_70 : decode cX6_odds 70 = .ok (.invokestatic 202, 3) := by decide +kernel
theorem dX6_odds_73 : decode cX6_odds 73 = .ok (.lreturn, 1) := by decide +kernel
set_option maxRecDepth 20000 in
theorem ggX6_narrow_X6_noStone : GoodIn wsX6_narrow wsX6_noStone := goodIn_r _ [5, 6, 7, 8, 4, 9, 61, 62, 63, 64, 65, 66, 67, 68, 69, 70, 71, 72, 73, 74, 75, 76, 77, 78, 79, 80, 81, 82, 83, 84, 85, 86] (by decide +kernel) (by decide +kernel)
set_option maxRecDepth 20000 in
theorem gX6_narrow_X6_noStone : GoodIn wsX6_narrow (wsV RX6 105 RX6 yX6_noStone wsX6_noStone) := goodIn_app (goodIn_of _ (by decide +kernel)) ggX6_narrow_X6_noStone
set_option maxRecDepth 20000 in
theorem ggX6_narrow_X6_noJudge : GoodIn wsX6_narrow wsX6_noJudge := goodIn_r _ [12, 13, 7, 8, 4, 9] (by decide +kernel) (by decide +kernel)
set_option maxRecDepth 20000 in
theorem gX6_narrow_X6_noJudge : GoodIn wsX6_narrow (va_wsS RX6 187 yX6_noJudge wsX6_noJudge) := goodIn_app (goodIn_of _ (by decide +kernel)) ggX6_narrow_X6_noJudge
set_option maxRecDepth 20000 in
theorem ggX6_narrow_X6_isGrid : GoodIn wsX6_narrow wsX6_isGrid := goodIn_r _ [16, 17, 18, 7, 8, 4, 9, 19, 20, 21, 22, 23, 24, 25, 26] (by decide +kernel) (by decide +kernel)
set_option maxRecDepth 20000 in
theorem gX6_narrow_X6_isGrid : GoodIn wsX6_narrow (va_wsS RX6 195 yX6_isGrid wsX6_isGrid) := goodIn_app (goodIn_of _ (by decide +kernel)) ggX6_narrow_X6_isGrid
set_option maxRecDepth 20000 in
theorem ggX6_narrow_X6_enough : GoodIn wsX6_narrow wsX6_enough := goodIn_r _ [30, 31, 32, 33, 34, 35, 4, 36, 37, 38, 39, 40, 41, 42, 43, 44, 45, 46, 47, 48, 49, 50, 51, 26, 52, 53, 7, 8, 9, 54, 55, 56, 57, 58, 59, 60, 61, 62, 63, 64, 65, 66, 67, 68, 69, 70, 71, 72, 73, 74, 75, 76, 77, 78, 79, 80, 81, 82, 83, 84, 85, 86] (by decide +kernel) (by decide +kernel)
set_option maxRecDepth 20000 in
theorem gX6_narrow_X6_enough : GoodIn wsX6_narrow (wsV RX6 198 RX6 yX6_enough wsX6_enough) := goodIn_app (goodIn_of _ (by decide +kernel)) ggX6_narrow_X6_enough
theorem dX6_narrow_0 : decode cX6_narrow 0 = .ok (.aload_n 0, 1) := by decide +kernel
theorem dX6_narrow_1 : decode cX6_narrow 1 = .ok (.iload_n 1, 1) := by decide +kernel
theorem dX6_narrow_2 : decode cX6_narrow 2 = .ok (.invokevirtual 105, 3) := by decide +kernel
theorem dX6_narrow_5 : decode cX6_narrow 5 = .ok (.ifCond .ne 11, 3) := by decide +kernel
theorem dX6_narrow_8 : decode cX6_narrow 8 = .ok (.iload 6, 2) := by decide +kernel
theorem dX6_narrow_10 : decode cX6_narrow 10 = .ok (.invokestatic 187, 3) := by decide +kernel
theorem dX6_narrow_13 : decode cX6_narrow 13 = .ok (.ifCond .eq 5, 3) := by decide +kernel
theorem dX6_narrow_16 : decode cX6_narrow 16 = .ok (.iconst (-1), 1) := by decide +kernel
theorem dX6_narrow_17 : decode cX6_narrow 17 = .ok (.ireturn, 1) := by decide +kernel
theorem dX6_narrow_18 : decode cX6_narrow 18 = .ok (.iload_n 2, 1) := by decide +kernel
theorem dX6_narrow_19 : decode cX6_narrow 19 = .ok (.iload_n 3, 1) := by decide +kernel
theorem dX6_narrow_20 : decode cX6_narrow 20 = .ok (.iload 4, 2) := by decide +kernel
theorem dX6_narrow_22 : decode cX6_narrow 22 = .ok (.iload 5, 2) := by decide +kernel
theorem dX6_narrow_24 : decode cX6_narrow 24 = .ok (.invokestatic 195, 3) := by decide +kernel
theorem dX6_narrow_27 : decode cX6_narrow 27 = .ok (.ifCond .ne 6, 3) := by decide +kernel
theorem dX6_narrow_30 : decode cX6_narrow 30 = .ok (.bipush (-2), 2) := by decide +kernel
theorem dX6_narrow_32 : decode cX6_narrow 32 = .ok (.ireturn, 1) := by decide +kernel
theorem dX6_narrow_33 : decode cX6_narrow 33 = .ok (.iload_n 3, 1) := by decide +kernel
theorem dX6_narrow_34 : decode cX6_narrow 34 = .ok (.ifCond .eq 8, 3) := by decide +kernel
theorem dX6_narrow_37 : decode cX6_narrow 37 = .ok (.iload 5, 2) := by decide +kernel
theorem dX6_narrow_39 : decode cX6_narrow 39 = .ok (.ifCond .ne 23, 3) := by decide +kernel
theorem dX6_narrow_42 : decode cX6_narrow 42 = .ok (.iload_n 3, 1) := by decide +kernel
theorem dX6_narrow_43 : decode cX6_narrow 43 = .ok (.ifCond .le 7, 3) := by decide +kernel
theorem dX6_narrow_46 : decode cX6_narrow 46 = .ok (.iconst 0, 1) := by decide +kernel
theorem dX6_narrow_47 : decode cX6_narrow 47 = .ok (.goto 14, 3) := by decide +kernel
theorem dX6_narrow_50 : decode cX6_narrow 50 = .ok (.iload 5, 2) := by decide +kernel
theorem dX6_narrow_52 : decode cX6_narrow 52 = .ok (.ifCond .le 7, 3) := by decide +kernel
theorem dX6_narrow_55 : decode cX6_narrow 55 = .ok (.iconst 1, 1) := by decide +kernel
theorem dX6_narrow_56 : decode cX6_narrow 56 = .ok (.goto 5, 3) := by decide +kernel
theorem dX6_narrow_59 : decode cX6_narrow 59 = .ok (.bipush (-9), 2) := by decide +kernel
theorem dX6_narrow_61 : decode cX6_narrow 61 = .ok (.ireturn, 1) := by decide +kernel
theorem dX6_narrow_62 : decode cX6_narrow 62 = .ok (.aload_n 0, 1) := by decide +kernel
theorem dX6_narrow_63 : decode cX6_narrow 63 = .ok (.iload_n 1, 1) := by decide +kernel
theorem dX6_narrow_64 : decode cX6_narrow 64 = .ok (.iload_n 2, 1) := by decide +kernel
theorem dX6_narrow_65 : decode cX6_narrow 65 = .ok (.iload_n 3, 1) := by decide +kernel
theorem dX6_narrow_66 : decode cX6_narrow 66 = .ok (.iconst 1, 1) := by decide +kernel
theorem dX6_narrow_67 : decode cX6_narrow 67 = .ok (.isub, 1) := by decide +kernel
theorem dX6_narrow_68 : decode cX6_narrow 68 = .ok (.iload 4, 2) := by decide +kernel
theorem dX6_narrow_70 : decode cX6_narrow 70 = .ok (.iload 5, 2) := by decide +kernel
theorem dX6_narrow_72 : decode cX6_narrow 72 = .ok (.iload 6, 2) := by decide +kernel
theorem dX6_narrow_74 : decode cX6_narrow 74 = .ok (.iload 7, 2) := by decide +kernel
theorem dX6_narrow_76 : decode cX6_narrow 76 = .ok (.invokevirtual 198, 3) := by decide +kernel
theorem dX6_narrow_79 : decode cX6_narrow 79 = .ok (.istore 8, 2) := by decide +kernel
theorem dX6_narrow_81 : decode cX6_narrow 81 = .ok (.aload_n 0, 1) := by decide +kernel
theorem dX6_narrow_82 : decode cX6_narrow 82 = .ok (.iload_n 1, 1) := by decide +kernel
theorem dX6_narrow_83 : decode cX6_narrow 83 = .ok (.iload_n 2, 1) := by decide +kernel
theorem dX6_narrow_84 : decode cX6_narrow 84 = .ok (.iload_n 3, 1) := by decide +kernel
theorem dX6_narrow_85 : decode cX6_narrow 85 = .ok (.iload 4, 2) := by decide +kernel
theorem dX6_narrow_87 : decode cX6_narrow 87 = .ok (.iload 5, 2) := by decide +kernel
theorem dX6_narrow_89 : decode cX6_narrow 89 = .ok (.iconst 1, 1) := by decide +kernel
theorem dX6_narrow_90 : decode cX6_narrow 90 = .ok (.isub, 1) := by decide +kernel
theorem dX6_narrow_91 : decode cX6_narrow 91 = .ok (.iload 6, 2) := by decide +kernel
theorem dX6_narrow_93 : decode cX6_narrow 93 = .ok (.iload 7, 2) := by decide +kernel
theorem dX6_narrow_95 : decode cX6_narrow 95 = .ok (.invokevirtual 198, 3) := by decide +kernel
theorem dX6_narrow_98 : decode cX6_narrow 98 = .ok (.istore 9, 2) := by decide +kernel
theorem dX6_narrow_100 : decode cX6_narrow 100 = .ok (.iload 9, 2) := by decide +kernel
theorem dX6_narrow_102 : decode cX6_narrow 102 = .ok (.iload_n 3, 1) := by decide +kernel
theorem dX6_narrow_103 : decode cX6_narrow 103 = .ok (.imul, 1) := by decide +kernel
theorem dX6_narrow_104 : decode cX6_narrow 104 = .ok (.iload 5, 2) := by decide +kernel
theorem dX6_narrow_106 : decode cX6_narrow 106 = .ok (.iconst 1, 1) := by decide +kernel
theorem dX6_narrow_107 : decode cX6_narrow 107 = .ok (.iadd, 1) := by decide +kernel
theorem dX6_narrow_108 : decode cX6_narrow 108 = .ok (.imul, 1) := by decide +kernel
theorem dX6_narrow_109 : decode cX6_narrow 109 = .ok (.iload 8, 2) := by decide +kernel
theorem dX6_narrow_111 : decode cX6_narrow 111 = .ok (.iload_n 3, 1) := by decide +kernel
theorem dX6_narrow_112 : decode cX6_narrow 112 = .ok (.iconst 1, 1) := by decide +kernel
theorem dX6_narrow_113 : decode cX6_narrow 113 = .ok (.iadd, 1) := by decide +kernel
theorem dX6_narrow_114 : decode cX6_narrow 114 = .ok (.imul, 1) := by decide +kernel
theorem dX6_narrow_115 : decode cX6_narrow 115 = .ok (.iload 5, 2) := by decide +kernel
theorem dX6_narrow_117 : decode cX6_narrow 117 = .ok (.imul, 1) := by decide +kernel
theorem dX6_narrow_118 : decode cX6_narrow 118 = .ok (.if_icmp .le 7, 3) := by decide +kernel
theorem dX6_narrow_121 : decode cX6_narrow 121 = .ok (.iconst 1, 1) := by decide +kernel
theorem dX6_narrow_122 : decode cX6_narrow 122 = .ok (.goto 4, 3) := by decide +kernel
theorem dX6_narrow_125 : decode cX6_narrow 125 = .ok (.iconst 0, 1) := by decide +kernel
theorem dX6_narrow_126 : decode cX6_narrow 126 = .ok (.ireturn, 1) := by decide +kernel
set_option maxRecDepth 20000 in
theorem ggX6_rings_X6_barred : GoodIn wsX6_rings wsX6_barred := goodIn_r _ [9, 10, 11, 12, 13, 14, 8, 15, 16, 17, 18, 19, 20, 21, 22, 23, 24, 25, 26, 27, 28, 29, 30, 31, 37, 38, 39, 40, 41, 42, 43, 44, 45, 46, 47, 48, 49, 50, 51, 52, 53, 54, 55, 56, 57, 58, 59, 60, 61, 62] (by decide +kernel) (by decide +kernel)
set_option maxRecDepth 20000 in
theorem gX6_rings_X6_barred : GoodIn wsX6_rings (wsV RX6 122 RX6 yX6_barred wsX6_barred) := goodIn_app (goodIn_of _ (by decide +kernel)) ggX6_rings_X6_barred
set_option maxRecDepth 20000 in
theorem ggX6_rings_X6_areNumbers : GoodIn wsX6_rings wsX6_areNumbers := goodIn_r _ [35, 36, 4, 17, 18, 8, 19, 37, 38, 39, 40, 41, 42, 43, 44, 45, 46, 47, 48, 49, 50, 51, 52, 53, 54, 55, 56, 57, 58, 59, 60, 61, 62] (by decide +kernel) (by decide +kernel)
set_option maxRecDepth 20000 in
theorem gX6_rings_X6_areNumbers : GoodIn wsX6_rings (wsV RX6 134 RX6 yX6_areNumbers wsX6_areNumbers) := goodIn_app (goodIn_of _ (by decide +kernel)) ggX6_rings_X6_areNumbers
set_option maxRecDepth 20000 in
theorem ggX6_rings_X6_refused : GoodIn wsX6_rings wsX6_refused := goodIn_r _ [23, 24, 37, 38, 39, 40, 41, 42, 43, 44, 45, 46, 47, 48, 49, 50, 51, 52, 53, 54, 55, 56, 57, 58, 59, 60, 61, 62] (by decide +kernel) (by decide +kernel)
set_option maxRecDepth 20000 in
theorem gX6_rings_X6_refused : GoodIn wsX6_rings (wsV RX6 82 RX6 yX6_refused wsX6_refused) := goodIn_app (goodIn_of _ (by decide +kernel)) ggX6_rings_X6_refused
theorem dX6_rings_0 : decode cX6_rings 0 = .ok (.aload_n 0, 1) := by decide +kernel
theorem dX6_rings_1 : decode cX6_rings 1 = .ok (.iload_n 1, 1) := by decide +kernel
theorem dX6_rings_2 : decode cX6_rings 2 = .ok (.iload_n 2, 1) := by decide +kernel
theorem dX6_rings_3 : decode cX6_rings 3 = .ok (.iload_n 3, 1) := by decide +kernel
theorem dX6_rings_4 : decode cX6_rings 4 = .ok (.iload 4, 2) := by decide +kernel
theorem dX6_rings_6 : decode cX6_rings 6 = .ok (.i2l, 1) := by decide +kernel
theorem dX6_rings_7 : decode cX6_rings 7 = .ok (.invokevirtual 122, 3) := by decide +kernel
theorem dX6_rings_10 : decode cX6_rings 10 = .ok (.istore 5, 2) := by decide +kernel
theorem dX6_rings_12 : decode cX6_rings 12 = .ok (.iload 5, 2) := by decide +kernel
theorem dX6_rings_14 : decode cX6_rings 14 = .ok (.ifCond .ge 6, 3) := by decide +kernel
theorem dX6_rings_17 : decode cX6_rings 17 = .ok (.iload 5, 2) := by decide +kernel
theorem dX6_rings_19 : decode cX6_rings 19 = .ok (.ireturn, 1) := by decide +kernel
theorem dX6_rings_20 : decode cX6_rings 20 = .ok (.aload_n 0, 1) := by decide +kernel
theorem dX6_rings_21 : decode cX6_rings 21 = .ok (.bipush 60, 2) := by decide +kernel
theorem dX6_rings_23 : decode cX6_rings 23 = .ok (.iload_n 1, 1) := by decide +kernel
theorem dX6_rings_24 : decode cX6_rings 24 = .ok (.imul, 1) := by decide +kernel
theorem dX6_rings_25 : decode cX6_rings 25 = .ok (.iload_n 3, 1) := by decide +kernel
theorem dX6_rings_26 : decode cX6_rings 26 = .ok (.iadd, 1) := by decide +kernel
theorem dX6_rings_27 : decode cX6_rings 27 = .ok (.iload 4, 2) := by decide +kernel
theorem dX6_rings_29 : decode cX6_rings 29 = .ok (.iconst 1, 1) := by decide +kernel
theorem dX6_rings_30 : decode cX6_rings 30 = .ok (.ldc 206, 2) := by decide +kernel
theorem dX6_rings_32 : decode cX6_rings 32 = .ok (.invokevirtual 134, 3) := by decide +kernel
theorem dX6_rings_35 : decode cX6_rings 35 = .ok (.ifCond .ne 10, 3) := by decide +kernel
theorem dX6_rings_38 : decode cX6_rings 38 = .ok (.aload_n 0, 1) := by decide +kernel
theorem dX6_rings_39 : decode cX6_rings 39 = .ok (.bipush (-2), 2) := by decide +kernel
theorem dX6_rings_41 : decode cX6_rings 41 = .ok (.invokevirtual 82, 3) := by decide +kernel
theorem dX6_rings_44 : decode cX6_rings 44 = .ok (.ireturn, 1) := by decide +kernel
theorem dX6_rings_45 : decode cX6_rings 45 = .ok (.aload_n 0, 1) := by decide +kernel
theorem dX6_rings_46 : decode cX6_rings 46 = .ok (.iload 4, 2) := by decide +kernel
theorem dX6_rings_48 : decode cX6_rings 48 = .ok (.putfield 207, 3) := by decide +kernel
theorem dX6_rings_51 : decode cX6_rings 51 = .ok (.iconst 0, 1) := by decide +kernel
theorem dX6_rings_52 : decode cX6_rings 52 = .ok (.istore 6, 2) := by decide +kernel
theorem dX6_rings_54 : decode cX6_rings 54 = .ok (.iload 6, 2) := by decide +kernel
theorem dX6_rings_56 : decode cX6_rings 56 = .ok (.iload 4, 2) := by decide +kernel
theorem dX6_rings_58 : decode cX6_rings 58 = .ok (.if_icmp .ge 30, 3) := by decide +kernel
theorem dX6_rings_61 : decode cX6_rings 61 = .ok (.aload_n 0, 1) := by decide +kernel
theorem dX6_rings_62 : decode cX6_rings 62 = .ok (.getfield 40, 3) := by decide +kernel
theorem dX6_rings_65 : decode cX6_rings 65 = .ok (.iload 6, 2) := by decide +kernel
theorem dX6_rings_67 : decode cX6_rings 67 = .ok (.aload_n 0, 1) := by decide +kernel
theorem dX6_rings_68 : decode cX6_rings 68 = .ok (.getfield 49, 3) := by decide +kernel
theorem dX6_rings_71 : decode cX6_rings 71 = .ok (.bipush 60, 2) := by decide +kernel
theorem dX6_rings_73 : decode cX6_rings 73 = .ok (.iload_n 1, 1) := by decide +kernel
theorem dX6_rings_74 : decode cX6_rings 74 = .ok (.imul, 1) := by decide +kernel
theorem dX6_rings_75 : decode cX6_rings 75 = .ok (.iload_n 3, 1) := by decide +kernel
theorem dX6_rings_76 : decode cX6_rings 76 = .ok (.iadd, 1) := by decide +kernel
theorem dX6_rings_77 : decode cX6_rings 77 = .ok (.iload 6, 2) := by decide +kernel
theorem dX6_rings_79 : decode cX6_rings 79 = .ok (.iadd, 1) := by decide +kernel
theorem dX6_rings_80 : decode cX6_rings 80 = .ok (.iaload, 1) := by decide +kernel
theorem dX6_rings_81 : decode cX6_rings 81 = .ok (.iastore, 1) := by decide +kernel
theorem dX6_rings_82 : decode cX6_rings 82 = .ok (.iinc 6 1, 3) := by decide +kernel
theorem dX6_rings_85 : decode cX6_rings 85 = .ok (.goto (-31), 3) := by decide +kernel
theorem dX6_rings_88 : decode cX6_rings 88 = .ok (.aload_n 0, 1) := by decide +kernel
theorem dX6_rings_89 : decode cX6_rings 89 = .ok (.iload 4, 2) := by decide +kernel
theorem dX6_rings_91 : decode cX6_rings 91 = .ok (.invokevirtual 82, 3) := by decide +kernel
theorem dX6_rings_94 : decode cX6_rings 94 = .ok (.ireturn, 1) := by decide +kernel
theorem dX6_areRings_0 : decode cX6_areRings 0 = .ok (.aload_n 0, 1) := by decide +kernel
theorem dX6_areRings_1 : decode cX6_areRings 1 = .ok (.getfield 150, 3) := by decide +kernel
theorem dX6_areRings_4 : decode cX6_areRings 4 = .ok (.aload_n 0, 1) := by decide +kernel
theorem dX6_areRings_5 : decode cX6_areRings 5 = .ok (.getfield 207, 3) := by decide +kernel
theorem dX6_areRings_8 : decode cX6_areRings 8 = .ok (.if_icmp .le 7, 3) := by decide +kernel
theorem dX6_areRings_11 : decode cX6_areRings 11 = .ok (.iconst 1, 1) := by decide +kernel
theorem dX6_areRings_12 : decode cX6_areRings 12 = .ok (.goto 4, 3) := by decide +kernel
theorem dX6_areRings_15 : decode cX6_areRings 15 = .ok (.iconst 0, 1) := by decide +kernel
theorem dX6_areRings_16 : decode cX6_areRings 16 = .ok (.istore_n 1, 1) := by decide +kernel
theorem dX6_areRings_17 : decode cX6_areRings 17 = .ok (.iconst 0, 1) := by decide +kernel
theorem dX6_areRings_18 : decode cX6_areRings 18 = .ok (.istore_n 2, 1) := by decide +kernel
theorem dX6_areRings_19 : decode cX6_areRings 19 = .ok (.iload_n 2, 1) := by decide +kernel
theorem dX6_areRings_20 : decode cX6_areRings 20 = .ok (.aload_n 0, 1) := by decide +kernel
theorem dX6_areRings_21 : decode cX6_areRings 21 = .ok (.getfield 207, 3) := by decide +kernel
theorem dX6_areRings_24 : decode cX6_areRings 24 = .ok (.if_icmp .ge 41, 3) := by decide +kernel
theorem dX6_areRings_27 : decode cX6_areRings 27 = .ok (.iload_n 1, 1) := by decide +kernel
theorem dX6_areRings_28 : decode cX6_areRings 28 = .ok (.ifCond .eq 37, 3) := by decide +kernel
theorem dX6_areRings_31 : decode cX6_areRings 31 = .ok (.aload_n 0, 1) := by decide +kernel
theorem dX6_areRings_32 : decode cX6_areRings 32 = .ok (.getfield 34, 3) := by decide +kernel
theorem dX6_areRings_35 : decode cX6_areRings 35 = .ok (.bipush 9, 2) := by decide +kernel
theorem dX6_areRings_37 : decode cX6_areRings 37 = .ok (.iload_n 2, 1) := by decide +kernel
theorem dX6_areRings_38 : decode cX6_areRings 38 = .ok (.iconst 1, 1) := by decide +kernel
theorem dX6_areRings_39 : decode cX6_areRings 39 = .ok (.iadd, 1) := by decide +kernel
theorem dX6_areRings_40 : decode cX6_areRings 40 = .ok (.imul, 1) := by decide +kernel
theorem dX6_areRings_41 : decode cX6_areRings 41 = .ok (.iconst 1, 1) := by decide +kernel
theorem dX6_areRings_42 : decode cX6_areRings 42 = .ok (.iadd, 1) := by decide +kernel
theorem dX6_areRings_43 : decode cX6_areRings 43 = .ok (.iaload, 1) := by decide +kernel
theorem dX6_areRings_44 : decode cX6_areRings 44 = .ok (.aload_n 0, 1) := by decide +kernel
theorem dX6_areRings_45 : decode cX6_areRings 45 = .ok (.getfield 40, 3) := by decide +kernel
theorem dX6_areRings_48 : decode cX6_areRings 48 = .ok (.iload_n 2, 1) := by decide +kernel
theorem dX6_areRings_49 : decode cX6_areRings 49 = .ok (.iaload, 1) := by decide +kernel
theorem dX6_areRings_50 : decode cX6_areRings 50 = .ok (.if_icmp .ne 7, 3) := by decide +kernel
theorem dX6_areRings_53 : decode cX6_areRings 53 = .ok (.iconst 1, 1) := by decide +kernel
theorem dX6_areRings_54 : decode cX6_areRings 54 = .ok (.goto 4, 3) := by decide +kernel
theorem dX6_areRings_57 : decode cX6_areRings 57 = .ok (.iconst 0, 1) := by decide +kernel
theorem dX6_areRings_58 : decode cX6_areRings 58 = .ok (.istore_n 1, 1) := by decide +kernel
theorem dX6_areRings_59 : decode cX6_areRings 59 = .ok (.iinc 2 1, 3) := by decide +kernel
theorem dX6_areRings_62 : decode cX6_areRings 62 = .ok (.goto (-43), 3) := by decide +kernel
theorem dX6_areRings_65 : decode cX6_areRings 65 = .ok (.iload_n 1, 1) := by decide +kernel
theorem dX6_areRings_66 : decode cX6_areRings 66 = .ok (.ireturn, 1) := by decide +kernel
set_option maxRecDepth 20000 in
theorem ggX6_read_X6_noStone : GoodIn wsX6_read wsX6_noStone := goodIn_r _ [9, 10, 11, 12, 8, 13, 56, 57, 58, 59, 60, 61, 62, 63, 64, 65, 66, 67, 68, 69, 70, 71, 72, 73, 74, 75, 76, 77, 78, 79, 80, 81] (by decide +kernel) (by decide +kernel)
set_option maxRecDepth 20000 in
theorem gX6_read_X6_noStone : GoodIn wsX6_read (wsV RX6 105 RX6 yX6_noStone wsX6_noStone) := goodIn_app (goodIn_of _ (by decide +kernel)) ggX6_read_X6_noStone
set_option maxRecDepth 20000 in
theorem ggX6_read_X6_isGrid : GoodIn wsX6_read wsX6_isGrid := goodIn_r _ [16, 17, 18, 11, 12, 8, 13, 19, 20, 21, 22, 23, 24, 25, 26] (by decide +kernel) (by decide +kernel)
set_option maxRecDepth 20000 in
theorem gX6_read_X6_isGrid : GoodIn wsX6_read (va_wsS RX6 195 yX6_isGrid wsX6_isGrid) := goodIn_app (goodIn_of _ (by decide +kernel)) ggX6_read_X6_isGrid
set_option maxRecDepth 20000 in
theorem ggX6_read_X6_in : GoodIn wsX6_read wsX6_in := goodIn_r _ [13] (by decide +kernel) (by decide +kernel)
set_option maxRecDepth 20000 in
theorem gX6_read_X6_in : GoodIn wsX6_read (va_wsS RX6 87 yX6_in wsX6_in) := goodIn_app (goodIn_of _ (by decide +kernel)) ggX6_read_X6_in
set_option maxRecDepth 20000 in
theorem ggX6_read_X6_fly : GoodIn wsX6_read wsX6_fly := goodIn_r _ [30, 31, 32, 33, 34, 35, 36, 37, 8, 38, 39, 40, 41, 42, 43, 44, 45, 26, 46, 47, 11, 12, 13, 48, 49, 50, 56, 57, 58, 59, 60, 61, 62, 63, 64, 65, 66, 67, 68, 69, 70, 71, 72, 73, 74, 75, 76, 77, 78, 79, 80, 81] (by decide +kernel) (by decide +kernel)
set_option maxRecDepth 20000 in
theorem gX6_read_X6_fly : GoodIn wsX6_read (wsV RX6 175 RX6 yX6_fly wsX6_fly) := goodIn_app (goodIn_of _ (by decide +kernel)) ggX6_read_X6_fly
set_option maxRecDepth 20000 in
theorem ggX6_read_X6_areRings : GoodIn wsX6_read wsX6_areRings := goodIn_r _ [54, 31, 2, 33, 55, 56, 57, 58, 59, 60, 61, 62, 63, 64, 65, 66, 67, 68, 69, 70, 71, 72, 73, 74, 75, 76, 77, 78, 79, 80, 81] (by decide +kernel) (by decide +kernel)
set_option maxRecDepth 20000 in
theorem gX6_read_X6_areRings : GoodIn wsX6_read (wsV RX6 210 RX6 yX6_areRings wsX6_areRings) := goodIn_app (goodIn_of _ (by decide +kernel)) ggX6_read_X6_areRings
theorem dX6_read_0 : decode cX6_read 0 = .ok (.aload_n 0, 1) := by decide +kernel
theorem dX6_read_1 : decode cX6_read 1 = .ok (.iload_n 1, 1) := by decide +kernel
theorem dX6_read_2 : decode cX6_read 2 = .ok (.invokevirtual 105, 3) := by decide +kernel
theorem dX6_read_5 : decode cX6_read 5 = .ok (.ifCond .eq 5, 3) := by decide +kernel
theorem dX6_read_8 : decode cX6_read 8 = .ok (.iconst (-1), 1) := by decide +kernel
theorem dX6_read_9 : decode cX6_read 9 = .ok (.ireturn, 1) := by decide +kernel
theorem dX6_read_10 : decode cX6_read 10 = .ok (.iload_n 2, 1) := by decide +kernel
theorem dX6_read_11 : decode cX6_read 11 = .ok (.iload_n 3, 1) := by decide +kernel
theorem dX6_read_12 : decode cX6_read 12 = .ok (.iload 4, 2) := by decide +kernel
theorem dX6_read_14 : decode cX6_read 14 = .ok (.iload 5, 2) := by decide +kernel
theorem dX6_read_16 : decode cX6_read 16 = .ok (.invokestatic 195, 3) := by decide +kernel
theorem dX6_read_19 : decode cX6_read 19 = .ok (.ifCond .eq 16, 3) := by decide +kernel
theorem dX6_read_22 : decode cX6_read 22 = .ok (.iload 6, 2) := by decide +kernel
theorem dX6_read_24 : decode cX6_read 24 = .ok (.i2l, 1) := by decide +kernel
theorem dX6_read_25 : decode cX6_read 25 = .ok (.lconst 0, 1) := by decide +kernel
theorem dX6_read_26 : decode cX6_read 26 = .ok (.ldc2_w 85, 3) := by decide +kernel
theorem dX6_read_29 : decode cX6_read 29 = .ok (.invokestatic 87, 3) := by decide +kernel
theorem dX6_read_32 : decode cX6_read 32 = .ok (.ifCond .ne 6, 3) := by decide +kernel
theorem dX6_read_35 : decode cX6_read 35 = .ok (.bipush (-2), 2) := by decide +kernel
theorem dX6_read_37 : decode cX6_read 37 = .ok (.ireturn, 1) := by decide +kernel
theorem dX6_read_38 : decode cX6_read 38 = .ok (.aload_n 0, 1) := by decide +kernel
theorem dX6_read_39 : decode cX6_read 39 = .ok (.getfield 207, 3) := by decide +kernel
theorem dX6_read_42 : decode cX6_read 42 = .ok (.ifCond .ne 6, 3) := by decide +kernel
theorem dX6_read_45 : decode cX6_read 45 = .ok (.bipush (-3), 2) := by decide +kernel
theorem dX6_read_47 : decode cX6_read 47 = .ok (.ireturn, 1) := by decide +kernel
theorem dX6_read_48 : decode cX6_read 48 = .ok (.iconst 0, 1) := by decide +kernel
theorem dX6_read_49 : decode cX6_read 49 = .ok (.istore 7, 2) := by decide +kernel
theorem dX6_read_51 : decode cX6_read 51 = .ok (.bipush (-9), 2) := by decide +kernel
theorem dX6_read_53 : decode cX6_read 53 = .ok (.istore 8, 2) := by decide +kernel
theorem dX6_read_55 : decode cX6_read 55 = .ok (.bipush (-9), 2) := by decide +kernel
theorem dX6_read_57 : decode cX6_read 57 = .ok (.istore 9, 2) := by decide +kernel
theorem dX6_read_59 : decode cX6_read 59 = .ok (.iload_n 2, 1) := by decide +kernel
theorem dX6_read_60 : decode cX6_read 60 = .ok (.istore 10, 2) := by decide +kernel
theorem dX6_read_62 : decode cX6_read 62 = .ok (.iload 10, 2) := by decide +kernel
theorem dX6_read_64 : decode cX6_read 64 = .ok (.iload_n 2, 1) := by decide +kernel
theorem dX6_read_65 : decode cX6_read 65 = .ok (.iload_n 3, 1) := by decide +kernel
theorem dX6_read_66 : decode cX6_read 66 = .ok (.iadd, 1) := by decide +kernel
theorem dX6_read_67 : decode cX6_read 67 = .ok (.if_icmp .gt 105, 3) := by decide +kernel
theorem dX6_read_70 : decode cX6_read 70 = .ok (.iload 4, 2) := by decide +kernel
theorem dX6_read_72 : decode cX6_read 72 = .ok (.istore 11, 2) := by decide +kernel
theorem dX6_read_74 : decode cX6_read 74 = .ok (.iload 11, 2) := by decide +kernel
theorem dX6_read_76 : decode cX6_read 76 = .ok (.iload 4, 2) := by decide +kernel
theorem dX6_read_78 : decode cX6_read 78 = .ok (.iload 5, 2) := by decide +kernel
theorem dX6_read_80 : decode cX6_read 80 = .ok (.iadd, 1) := by decide +kernel
theorem dX6_read_81 : decode cX6_read 81 = .ok (.if_icmp .gt 85, 3) := by decide +kernel
theorem dX6_read_84 : decode cX6_read 84 = .ok (.aload_n 0, 1) := by decide +kernel
theorem dX6_read_85 : decode cX6_read 85 = .ok (.iload_n 1, 1) := by decide +kernel
theorem dX6_read_86 : decode cX6_read 86 = .ok (.iload 10, 2) := by decide +kernel
theorem dX6_read_88 : decode cX6_read 88 = .ok (.aload_n 0, 1) := by decide +kernel
theorem dX6_read_89 : decode cX6_read 89 = .ok (.getfield 63, 3) := by decide +kernel
theorem dX6_read_92 : decode cX6_read 92 = .ok (.iload 11, 2) := by decide +kernel
theorem dX6_read_94 : decode cX6_read 94 = .ok (.aload_n 0, 1) := by decide +kernel
theorem dX6_read_95 : decode cX6_read 95 = .ok (.getfield 66, 3) := by decide +kernel
theorem dX6_read_98 : decode cX6_read 98 = .ok (.invokevirtual 175, 3) := by decide +kernel
theorem dX6_read_101 : decode cX6_read 101 = .ok (.aload_n 0, 1) := by decide +kernel
theorem dX6_read_102 : decode cX6_read 102 = .ok (.invokevirtual 210, 3) := by decide +kernel
theorem dX6_read_105 : decode cX6_read 105 = .ok (.istore 12, 2) := by decide +kernel
theorem dX6_read_107 : decode cX6_read 107 = .ok (.iload 12, 2) := by decide +kernel
theorem dX6_read_109 : decode cX6_read 109 = .ok (.ifCond .eq 13, 3) := by decide +kernel
theorem dX6_read_112 : decode cX6_read 112 = .ok (.iload 7, 2) := by decide +kernel
theorem dX6_read_114 : decode cX6_read 114 = .ok (.ifCond .ne 8, 3) := by decide +kernel
theorem dX6_read_117 : decode cX6_read 117 = .ok (.iload 10, 2) := by decide +kernel
theorem dX6_read_119 : decode cX6_read 119 = .ok (.goto 5, 3) := by decide +kernel
theorem dX6_read_122 : decode cX6_read 122 = .ok (.iload 8, 2) := by decide +kernel
theorem dX6_read_124 : decode cX6_read 124 = .ok (.istore 8, 2) := by decide +kernel
theorem dX6_read_126 : decode cX6_read 126 = .ok (.iload 12, 2) := by decide +kernel
theorem dX6_read_128 : decode cX6_read 128 = .ok (.ifCond .eq 13, 3) := by decide +kernel
theorem dX6_read_131 : decode cX6_read 131 = .ok (.iload 7, 2) := by decide +kernel
theorem dX6_read_133 : decode cX6_read 133 = .ok (.ifCond .ne 8, 3) := by decide +kernel
theorem dX6_read_136 : decode cX6_read 136 = .ok (.iload 11, 2) := by decide +kernel
theorem dX6_read_138 : decode cX6_read 138 = .ok (.goto 5, 3) := by decide +kernel
theorem dX6_read_141 : decode cX6_read 141 = .ok (.iload 9, 2) := by decide +kernel
theorem dX6_read_143 : decode cX6_read 143 = .ok (.istore 9, 2) := by decide +kernel
theorem dX6_read_145 : decode cX6_read 145 = .ok (.iload 7, 2) := by decide +kernel
theorem dX6_read_147 : decode cX6_read 147 = .ok (.iload 12, 2) := by decide +kernel
theorem dX6_read_149 : decode cX6_read 149 = .ok (.ifCond .eq 7, 3) := by decide +kernel
theorem dX6_read_152 : decode cX6_read 152 = .ok (.iconst 1, 1) := by decide +kernel
theorem dX6_read_153 : decode cX6_read 153 = .ok (.goto 4, 3) := by decide +kernel
theorem dX6_read_156 : decode cX6_read 156 = .ok (.iconst 0, 1) := by decide +kernel
theorem dX6_read_157 : decode cX6_read 157 = .ok (.iadd, 1) := by decide +kernel
theorem dX6_read_158 : decode cX6_read 158 = .ok (.istore 7, 2) := by decide +kernel
theorem dX6_read_160 : decode cX6_read 160 = .ok (.iinc 11 1, 3) := by decide +kernel
theorem dX6_read_163 : decode cX6_read 163 = .ok (.goto (-89), 3) := by decide +kernel
theorem dX6_read_166 : decode cX6_read 166 = .ok (.iinc 10 1, 3) := by decide +kernel
theorem dX6_read_169 : decode cX6_read 169 = .ok (.goto (-107), 3) := by decide +kernel
theorem dX6_read_172 : decode cX6_read 172 = .ok (.iload 6, 2) := by decide +kernel
theorem dX6_read_174 : decode cX6_read 174 = .ok (.ifCond .ne 8, 3) := by decide +kernel
theorem dX6_read_177 : decode cX6_read 177 = .ok (.iload 7, 2) := by decide +kernel
theorem dX6_read_179 : decode cX6_read 179 = .ok (.goto 16, 3) := by decide +kernel
theorem dX6_read_182 : decode cX6_read 182 = .ok (.iload 6, 2) := by decide +kernel
theorem dX6_read_184 : decode cX6_read 184 = .ok (.iconst 1, 1) := by decide +kernel
theorem dX6_read_185 : decode cX6_read 185 = .ok (.if_icmp .ne 8, 3) := by decide +kernel
theorem dX6_read_188 : decode cX6_read 188 = .ok (.iload 8, 2) := by decide +kernel
theorem dX6_read_190 : decode cX6_read 190 = .ok (.goto 5, 3) := by decide +kernel
theorem dX6_read_193 : decode cX6_read 193 = .ok (.iload 9, 2) := by decide +kernel
theorem dX6_read_195 : decode cX6_read 195 = .ok (.ireturn, 1) := by decide +kernel
set_option maxRecDepth 20000 in
theorem ggX6_there_X6_noStone : GoodIn wsX6_there wsX6_noStone := goodIn_r _ [7, 8, 9, 10, 6, 11, 53, 54, 55, 56, 57, 58, 59, 60, 61, 62, 63, 64, 65, 66, 67, 68, 69, 70, 71, 72, 73, 74, 75, 76, 77, 78] (by decide +kernel) (by decide +kernel)
set_option maxRecDepth 20000 in
theorem gX6_there_X6_noStone : GoodIn wsX6_there (wsV RX6 105 RX6 yX6_noStone wsX6_noStone) := goodIn_app (goodIn_of _ (by decide +kernel)) ggX6_there_X6_noStone
set_option maxRecDepth 20000 in
theorem ggX6_there_X6_isGrid : GoodIn wsX6_there wsX6_isGrid := goodIn_r _ [14, 15, 16, 9, 10, 6, 11, 17, 18, 19, 20, 21, 22, 23, 24] (by decide +kernel) (by decide +kernel)
set_option maxRecDepth 20000 in
theorem gX6_there_X6_isGrid : GoodIn wsX6_there (va_wsS RX6 195 yX6_isGrid wsX6_isGrid) := goodIn_app (goodIn_of _ (by decide +kernel)) ggX6_there_X6_isGrid
set_option maxRecDepth 20000 in
theorem ggX6_there_X6_fly : GoodIn wsX6_there wsX6_fly := goodIn_r _ [28, 29, 30, 31, 32, 33, 34, 35, 6, 36, 37, 38, 39, 40, 41, 42, 43, 24, 44, 45, 9, 10, 11, 46, 47, 48, 53, 54, 55, 56, 57, 58, 59, 60, 61, 62, 63, 64, 65, 66, 67, 68, 69, 70, 71, 72, 73, 74, 75, 76, 77, 78] (by decide +kernel) (by decide +kernel)
set_option maxRecDepth 20000 in
theorem gX6_there_X6_fly : GoodIn wsX6_there (wsV RX6 175 RX6 yX6_fly wsX6_fly) := goodIn_app (goodIn_of _ (by decide +kernel)) ggX6_there_X6_fly
set_option maxRecDepth 20000 in
theorem ggX6_there_X6_counted : GoodIn wsX6_there wsX6_counted := goodIn_r _ [52, 29, 31, 53, 54, 55, 56, 57, 58, 59, 60, 61, 62, 63, 64, 65, 66, 67, 68, 69, 70, 71, 72, 73, 74, 75, 76, 77, 78] (by decide +kernel) (by decide +kernel)
set_option maxRecDepth 20000 in
theorem gX6_there_X6_counted : GoodIn wsX6_there (wsV RX6 190 RX6 yX6_counted wsX6_counted) := goodIn_app (goodIn_of _ (by decide +kernel)) ggX6_there_X6_counted
set_option maxRecDepth 20000 in
theorem ggX6_there_X6_in : GoodIn wsX6_there wsX6_in := goodIn_r _ [11] (by decide +kernel) (by decide +kernel)
set_option maxRecDepth 20000 in
theorem gX6_there_X6_in : GoodIn wsX6_there (va_wsS RX6 87 yX6_in wsX6_in) := goodIn_app (goodIn_of _ (by decide +kernel)) ggX6_there_X6_in
theorem dX6_there_0 : decode cX6_there 0 = .ok (.aload_n 0, 1) := by decide +kernel
theorem dX6_there_1 : decode cX6_there 1 = .ok (.iload_n 1, 1) := by decide +kernel
theorem dX6_there_2 : decode cX6_there 2 = .ok (.invokevirtual 105, 3) := by decide +kernel
theorem dX6_there_5 : decode cX6_there 5 = .ok (.ifCond .eq 5, 3) := by decide +kernel
theorem dX6_there_8 : decode cX6_there 8 = .ok (.iconst (-1), 1) := by decide +kernel
theorem dX6_there_9 : decode cX6_there 9 = .ok (.ireturn, 1) := by decide +kernel
theorem dX6_there_10 : decode cX6_there 10 = .ok (.iload_n 2, 1) := by decide +kernel
theorem dX6_there_11 : decode cX6_there 11 = .ok (.iload_n 3, 1) := by decide +kernel
theorem dX6_there_12 : decode cX6_there 12 = .ok (.iload 4, 2) := by decide +kernel
theorem dX6_there_14 : decode cX6_there 14 = .ok (.iload 5, 2) := by decide +kernel
theorem dX6_there_16 : decode cX6_there 16 = .ok (.invokestatic 195, 3) := by decide +kernel
theorem dX6_there_19 : decode cX6_there 19 = .ok (.ifCond .ne 6, 3) := by decide +kernel
theorem dX6_there_22 : decode cX6_there 22 = .ok (.bipush (-2), 2) := by decide +kernel
theorem dX6_there_24 : decode cX6_there 24 = .ok (.ireturn, 1) := by decide +kernel
theorem dX6_there_25 : decode cX6_there 25 = .ok (.iconst 0, 1) := by decide +kernel
theorem dX6_there_26 : decode cX6_there 26 = .ok (.istore 8, 2) := by decide +kernel
theorem dX6_there_28 : decode cX6_there 28 = .ok (.iload_n 2, 1) := by decide +kernel
theorem dX6_there_29 : decode cX6_there 29 = .ok (.istore 9, 2) := by decide +kernel
theorem dX6_there_31 : decode cX6_there 31 = .ok (.iload 9, 2) := by decide +kernel
theorem dX6_there_33 : decode cX6_there 33 = .ok (.iload_n 2, 1) := by decide +kernel
theorem dX6_there_34 : decode cX6_there 34 = .ok (.iload_n 3, 1) := by decide +kernel
theorem dX6_there_35 : decode cX6_there 35 = .ok (.iadd, 1) := by decide +kernel
theorem dX6_there_36 : decode cX6_there 36 = .ok (.if_icmp .gt 74, 3) := by decide +kernel
theorem dX6_there_39 : decode cX6_there 39 = .ok (.iload 4, 2) := by decide +kernel
theorem dX6_there_41 : decode cX6_there 41 = .ok (.istore 10, 2) := by decide +kernel
theorem dX6_there_43 : decode cX6_there 43 = .ok (.iload 10, 2) := by decide +kernel
theorem dX6_there_45 : decode cX6_there 45 = .ok (.iload 4, 2) := by decide +kernel
theorem dX6_there_47 : decode cX6_there 47 = .ok (.iload 5, 2) := by decide +kernel
theorem dX6_there_49 : decode cX6_there 49 = .ok (.iadd, 1) := by decide +kernel
theorem dX6_there_50 : decode cX6_there 50 = .ok (.if_icmp .gt 54, 3) := by decide +kernel
theorem dX6_there_53 : decode cX6_there 53 = .ok (.aload_n 0, 1) := by decide +kernel
theorem dX6_there_54 : decode cX6_there 54 = .ok (.iload_n 1, 1) := by decide +kernel
theorem dX6_there_55 : decode cX6_there 55 = .ok (.iload 9, 2) := by decide +kernel
theorem dX6_there_57 : decode cX6_there 57 = .ok (.aload_n 0, 1) := by decide +kernel
theorem dX6_there_58 : decode cX6_there 58 = .ok (.getfield 63, 3) := by decide +kernel
theorem dX6_there_61 : decode cX6_there 61 = .ok (.iload 10, 2) := by decide +kernel
theorem dX6_there_63 : decode cX6_there 63 = .ok (.aload_n 0, 1) := by decide +kernel
theorem dX6_there_64 : decode cX6_there 64 = .ok (.getfield 66, 3) := by decide +kernel
theorem dX6_there_67 : decode cX6_there 67 = .ok (.invokevirtual 175, 3) := by decide +kernel
theorem dX6_there_70 : decode cX6_there 70 = .ok (.iload 8, 2) := by decide +kernel
theorem dX6_there_72 : decode cX6_there 72 = .ok (.aload_n 0, 1) := by decide +kernel
theorem dX6_there_73 : decode cX6_there 73 = .ok (.iconst 4, 1) := by decide +kernel
theorem dX6_there_74 : decode cX6_there 74 = .ok (.invokevirtual 190, 3) := by decide +kernel
theorem dX6_there_77 : decode cX6_there 77 = .ok (.i2l, 1) := by decide +kernel
theorem dX6_there_78 : decode cX6_there 78 = .ok (.iload 6, 2) := by decide +kernel
theorem dX6_there_80 : decode cX6_there 80 = .ok (.i2l, 1) := by decide +kernel
theorem dX6_there_81 : decode cX6_there 81 = .ok (.iload 7, 2) := by decide +kernel
theorem dX6_there_83 : decode cX6_there 83 = .ok (.i2l, 1) := by decide +kernel
theorem dX6_there_84 : decode cX6_there 84 = .ok (.invokestatic 87, 3) := by decide +kernel
theorem dX6_there_87 : decode cX6_there 87 = .ok (.ifCond .eq 7, 3) := by decide +kernel
theorem dX6_there_90 : decode cX6_there 90 = .ok (.iconst 1, 1) := by decide +kernel
theorem dX6_there_91 : decode cX6_there 91 = .ok (.goto 4, 3) := by decide +kernel
theorem dX6_there_94 : decode cX6_there 94 = .ok (.iconst 0, 1) := by decide +kernel
theorem dX6_there_95 : decode cX6_there 95 = .ok (.iadd, 1) := by decide +kernel
theorem dX6_there_96 : decode cX6_there 96 = .ok (.istore 8, 2) := by decide +kernel
theorem dX6_there_98 : decode cX6_there 98 = .ok (.iinc 10 1, 3) := by decide +kernel
theorem dX6_there_101 : decode cX6_there 101 = .ok (.goto (-58), 3) := by decide +kernel
theorem dX6_there_104 : decode cX6_there 104 = .ok (.iinc 9 1, 3) := by decide +kernel
theorem dX6_there_107 : decode cX6_there 107 = .ok (.goto (-76), 3) := by decide +kernel
theorem dX6_there_110 : decode cX6_there 110 = .ok (.iload 8, 2) := by decide +kernel
theorem dX6_there_112 : decode cX6_there 112 = .ok (.ireturn, 1) := by decide +kernel
set_option maxRecDepth 20000 in
theorem ggX6_when_X6_noStone : GoodIn wsX6_when wsX6_noStone := goodIn_r _ [9, 10, 11, 12, 8, 13, 52, 53, 54, 55, 56, 57, 58, 59, 60, 61, 62, 63, 64, 65, 66, 67, 68, 69, 70, 71, 72, 73, 74, 75, 76, 77] (by decide +kernel) (by decide +kernel)
set_option maxRecDepth 20000 in
theorem gX6_when_X6_noStone : GoodIn wsX6_when (wsV RX6 105 RX6 yX6_noStone wsX6_noStone) := goodIn_app (goodIn_of _ (by decide +kernel)) ggX6_when_X6_noStone
set_option maxRecDepth 20000 in
theorem ggX6_when_X6_noJudge : GoodIn wsX6_when wsX6_noJudge := goodIn_r _ [16, 17, 11, 12, 8, 13] (by decide +kernel) (by decide +kernel)
set_option maxRecDepth 20000 in
theorem gX6_when_X6_noJudge : GoodIn wsX6_when (va_wsS RX6 187 yX6_noJudge wsX6_noJudge) := goodIn_app (goodIn_of _ (by decide +kernel)) ggX6_when_X6_noJudge
set_option maxRecDepth 20000 in
theorem ggX6_when_X6_isSpeed : GoodIn wsX6_when wsX6_isSpeed := goodIn_r _ [20, 21, 11, 12, 8, 13] (by decide +kernel) (by decide +kernel)
set_option maxRecDepth 20000 in
theorem gX6_when_X6_isSpeed : GoodIn wsX6_when (va_wsS RX6 163 yX6_isSpeed wsX6_isSpeed) := goodIn_app (goodIn_of _ (by decide +kernel)) ggX6_when_X6_isSpeed
set_option maxRecDepth 20000 in
theorem ggX6_when_X6_isSlant : GoodIn wsX6_when wsX6_isSlant := goodIn_r _ [24, 25, 11, 12, 8, 13] (by decide +kernel) (by decide +kernel)
set_option maxRecDepth 20000 in
theorem gX6_when_X6_isSlant : GoodIn wsX6_when (va_wsS RX6 169 yX6_isSlant wsX6_isSlant) := goodIn_app (goodIn_of _ (by decide +kernel)) ggX6_when_X6_isSlant
set_option maxRecDepth 20000 in
theorem ggX6_when_X6_in : GoodIn wsX6_when wsX6_in := goodIn_r _ [13] (by decide +kernel) (by decide +kernel)
set_option maxRecDepth 20000 in
theorem gX6_when_X6_in : GoodIn wsX6_when (va_wsS RX6 87 yX6_in wsX6_in) := goodIn_app (goodIn_of _ (by decide +kernel)) ggX6_when_X6_in
set_option maxRecDepth 20000 in
theorem ggX6_when_X6_fly : GoodIn wsX6_when wsX6_fly := goodIn_r _ [29, 30, 31, 32, 33, 34, 35, 36, 8, 37, 38, 1, 2, 39, 40, 41, 42, 25, 43, 44, 11, 12, 13, 45, 46, 47, 52, 53, 54, 55, 56, 57, 58, 59, 60, 61, 62, 63, 64, 65, 66, 67, 68, 69, 70, 71, 72, 73, 74, 75, 76, 77] (by decide +kernel) (by decide +kernel)
set_option maxRecDepth 20000 in
theorem gX6_when_X6_fly : GoodIn wsX6_when (wsV RX6 175 RX6 yX6_fly wsX6_fly) := goodIn_app (goodIn_of _ (by decide +kernel)) ggX6_when_X6_fly
set_option maxRecDepth 20000 in
theorem ggX6_when_X6_counted : GoodIn wsX6_when wsX6_counted := goodIn_r _ [51, 30, 32, 52, 53, 54, 55, 56, 57, 58, 59, 60, 61, 62, 63, 64, 65, 66, 67, 68, 69, 70, 71, 72, 73, 74, 75, 76, 77] (by decide +kernel) (by decide +kernel)
set_option maxRecDepth 20000 in
theorem gX6_when_X6_counted : GoodIn wsX6_when (wsV RX6 190 RX6 yX6_counted wsX6_counted) := goodIn_app (goodIn_of _ (by decide +kernel)) ggX6_when_X6_counted
set_option maxRecDepth 20000 in
theorem ggX6_when_X6_greater : GoodIn wsX6_when wsX6_greater := goodIn_r _ [47] (by decide +kernel) (by decide +kernel)
set_option maxRecDepth 20000 in
theorem gX6_when_X6_greater : GoodIn wsX6_when (va_wsS RX6 156 yX6_greater wsX6_greater) := goodIn_app (goodIn_of _ (by decide +kernel)) ggX6_when_X6_greater
theorem dX6_when_0 : decode cX6_when 0 = .ok (.aload_n 0, 1) := by decide +kernel
theorem dX6_when_1 : decode cX6_when 1 = .ok (.iload_n 1, 1) := by decide +kernel
theorem dX6_when_2 : decode cX6_when 2 = .ok (.invokevirtual 105, 3) := by decide +kernel
theorem dX6_when_5 : decode cX6_when 5 = .ok (.ifCond .ne 11, 3) := by decide +kernel
theorem dX6_when_8 : decode cX6_when 8 = .ok (.iload 4, 2) := by decide +kernel
theorem dX6_when_10 : decode cX6_when 10 = .ok (.invokestatic 187, 3) := by decide +kernel
theorem dX6_when_13 : decode cX6_when 13 = .ok (.ifCond .eq 5, 3) := by decide +kernel
theorem dX6_when_16 : decode cX6_when 16 = .ok (.iconst (-1), 1) := by decide +kernel
theorem dX6_when_17 : decode cX6_when 17 = .ok (.ireturn, 1) := by decide +kernel
theorem dX6_when_18 : decode cX6_when 18 = .ok (.iload_n 2, 1) := by decide +kernel
theorem dX6_when_19 : decode cX6_when 19 = .ok (.invokestatic 163, 3) := by decide +kernel
theorem dX6_when_22 : decode cX6_when 22 = .ok (.ifCond .eq 21, 3) := by decide +kernel
theorem dX6_when_25 : decode cX6_when 25 = .ok (.iload_n 3, 1) := by decide +kernel
theorem dX6_when_26 : decode cX6_when 26 = .ok (.invokestatic 169, 3) := by decide +kernel
theorem dX6_when_29 : decode cX6_when 29 = .ok (.ifCond .eq 14, 3) := by decide +kernel
theorem dX6_when_32 : decode cX6_when 32 = .ok (.iload 5, 2) := by decide +kernel
theorem dX6_when_34 : decode cX6_when 34 = .ok (.i2l, 1) := by decide +kernel
theorem dX6_when_35 : decode cX6_when 35 = .ok (.lconst 0, 1) := by decide +kernel
theorem dX6_when_36 : decode cX6_when 36 = .ok (.lconst 1, 1) := by decide +kernel
theorem dX6_when_37 : decode cX6_when 37 = .ok (.invokestatic 87, 3) := by decide +kernel
theorem dX6_when_40 : decode cX6_when 40 = .ok (.ifCond .ne 6, 3) := by decide +kernel
theorem dX6_when_43 : decode cX6_when 43 = .ok (.bipush (-2), 2) := by decide +kernel
theorem dX6_when_45 : decode cX6_when 45 = .ok (.ireturn, 1) := by decide +kernel
theorem dX6_when_46 : decode cX6_when 46 = .ok (.aload_n 0, 1) := by decide +kernel
theorem dX6_when_47 : decode cX6_when 47 = .ok (.getfield 140, 3) := by decide +kernel
theorem dX6_when_50 : decode cX6_when 50 = .ok (.istore 6, 2) := by decide +kernel
theorem dX6_when_52 : decode cX6_when 52 = .ok (.iconst 0, 1) := by decide +kernel
theorem dX6_when_53 : decode cX6_when 53 = .ok (.istore 7, 2) := by decide +kernel
theorem dX6_when_55 : decode cX6_when 55 = .ok (.bipush (-9), 2) := by decide +kernel
theorem dX6_when_57 : decode cX6_when 57 = .ok (.istore 8, 2) := by decide +kernel
theorem dX6_when_59 : decode cX6_when 59 = .ok (.iconst 0, 1) := by decide +kernel
theorem dX6_when_60 : decode cX6_when 60 = .ok (.istore 9, 2) := by decide +kernel
theorem dX6_when_62 : decode cX6_when 62 = .ok (.iload 9, 2) := by decide +kernel
theorem dX6_when_64 : decode cX6_when 64 = .ok (.aload_n 0, 1) := by decide +kernel
theorem dX6_when_65 : decode cX6_when 65 = .ok (.getfield 59, 3) := by decide +kernel
theorem dX6_when_68 : decode cX6_when 68 = .ok (.if_icmp .ge 63, 3) := by decide +kernel
theorem dX6_when_71 : decode cX6_when 71 = .ok (.aload_n 0, 1) := by decide +kernel
theorem dX6_when_72 : decode cX6_when 72 = .ok (.iload 9, 2) := by decide +kernel
theorem dX6_when_74 : decode cX6_when 74 = .ok (.putfield 140, 3) := by decide +kernel
theorem dX6_when_77 : decode cX6_when 77 = .ok (.aload_n 0, 1) := by decide +kernel
theorem dX6_when_78 : decode cX6_when 78 = .ok (.iload_n 1, 1) := by decide +kernel
theorem dX6_when_79 : decode cX6_when 79 = .ok (.iload_n 2, 1) := by decide +kernel
theorem dX6_when_80 : decode cX6_when 80 = .ok (.aload_n 0, 1) := by decide +kernel
theorem dX6_when_81 : decode cX6_when 81 = .ok (.getfield 63, 3) := by decide +kernel
theorem dX6_when_84 : decode cX6_when 84 = .ok (.iload_n 3, 1) := by decide +kernel
theorem dX6_when_85 : decode cX6_when 85 = .ok (.aload_n 0, 1) := by decide +kernel
theorem dX6_when_86 : decode cX6_when 86 = .ok (.getfield 66, 3) := by decide +kernel
theorem dX6_when_89 : decode cX6_when 89 = .ok (.invokevirtual 175, 3) := by decide +kernel
theorem dX6_when_92 : decode cX6_when 92 = .ok (.aload_n 0, 1) := by decide +kernel
theorem dX6_when_93 : decode cX6_when 93 = .ok (.iload 4, 2) := by decide +kernel
theorem dX6_when_95 : decode cX6_when 95 = .ok (.invokevirtual 190, 3) := by decide +kernel
theorem dX6_when_98 : decode cX6_when 98 = .ok (.istore 10, 2) := by decide +kernel
theorem dX6_when_100 : decode cX6_when 100 = .ok (.iload 10, 2) := by decide +kernel
theorem dX6_when_102 : decode cX6_when 102 = .ok (.iload 8, 2) := by decide +kernel
theorem dX6_when_104 : decode cX6_when 104 = .ok (.if_icmp .le 8, 3) := by decide +kernel
theorem dX6_when_107 : decode cX6_when 107 = .ok (.iload 9, 2) := by decide +kernel
theorem dX6_when_109 : decode cX6_when 109 = .ok (.goto 5, 3) := by decide +kernel
theorem dX6_when_112 : decode cX6_when 112 = .ok (.iload 7, 2) := by decide +kernel
theorem dX6_when_114 : decode cX6_when 114 = .ok (.istore 7, 2) := by decide +kernel
theorem dX6_when_116 : decode cX6_when 116 = .ok (.iload 8, 2) := by decide +kernel
theorem dX6_when_118 : decode cX6_when 118 = .ok (.iload 10, 2) := by decide +kernel
theorem dX6_when_120 : decode cX6_when 120 = .ok (.invokestatic 156, 3) := by decide +kernel
theorem dX6_when_123 : decode cX6_when 123 = .ok (.istore 8, 2) := by decide +kernel
theorem dX6_when_125 : decode cX6_when 125 = .ok (.iinc 9 1, 3) := by decide +kernel
theorem dX6_when_128 : decode cX6_when 128 = .ok (.goto (-66), 3) := by decide +kernel
theorem dX6_when_131 : decode cX6_when 131 = .ok (.aload_n 0, 1) := by decide +kernel
theorem dX6_when_132 : decode cX6_when 132 = .ok (.iload 6, 2) := by decide +kernel
theorem dX6_when_134 : decode cX6_when 134 = .ok (.putfield 140, 3) := by decide +kernel
theorem dX6_when_137 : decode cX6_when 137 = .ok (.iload 5, 2) := by decide +kernel
theorem dX6_when_139 : decode cX6_when 139 = .ok (.ifCond .ne 8, 3) := by decide +kernel
theorem dX6_when_142 : decode cX6_when 142 = .ok (.iload 7, 2) := by decide +kernel
theorem dX6_when_144 : decode cX6_when 144 = .ok (.goto 5, 3) := by decide +kernel
theorem dX6_when_147 : decode cX6_when 147 = .ok (.iload 8, 2) := by decide +kernel
theorem dX6_when_149 : decode cX6_when 149 = .ok (.ireturn, 1) := by decide +kernel
set_option maxRecDepth 20000 in
theorem ggX6_beach_X6_noStone : GoodIn wsX6_beach wsX6_noStone := goodIn_r _ [9, 10, 11, 12, 8, 13, 14, 15, 16, 17, 18, 19, 20, 21, 22, 23, 24, 25, 26, 27, 28, 29, 30, 31, 32, 33, 34, 35, 36, 37, 38, 39] (by decide +kernel) (by decide +kernel)
set_option maxRecDepth 20000 in
theorem gX6_beach_X6_noStone : GoodIn wsX6_beach (wsV RX6 105 RX6 yX6_noStone wsX6_noStone) := goodIn_app (goodIn_of _ (by decide +kernel)) ggX6_beach_X6_noStone
set_option maxRecDepth 20000 in
theorem ggX6_beach_X6_in : GoodIn wsX6_beach wsX6_in := goodIn_r _ [13] (by decide +kernel) (by decide +kernel)
set_option maxRecDepth 20000 in
theorem gX6_beach_X6_in : GoodIn wsX6_beach (va_wsS RX6 87 yX6_in wsX6_in) := goodIn_app (goodIn_of _ (by decide +kernel)) ggX6_beach_X6_in
theorem dX6_beach_0 : decode cX6_beach 0 = .ok (.aload_n 0, 1) := by decide +kernel
theorem dX6_beach_1 : decode cX6_beach 1 = .ok (.iload_n 1, 1) := by decide +kernel
theorem dX6_beach_2 : decode cX6_beach 2 = .ok (.invokevirtual 105, 3) := by decide +kernel
theorem dX6_beach_5 : decode cX6_beach 5 = .ok (.ifCond .eq 5, 3) := by decide +kernel
theorem dX6_beach_8 : decode cX6_beach 8 = .ok (.iconst (-1), 1) := by decide +kernel
theorem dX6_beach_9 : decode cX6_beach 9 = .ok (.ireturn, 1) := by decide +kernel
theorem dX6_beach_10 : decode cX6_beach 10 = .ok (.iload_n 2, 1) := by decide +kernel
theorem dX6_beach_11 : decode cX6_beach 11 = .ok (.i2l, 1) := by decide +kernel
theorem dX6_beach_12 : decode cX6_beach 12 = .ok (.lconst 0, 1) := by decide +kernel
theorem dX6_beach_13 : decode cX6_beach 13 = .ok (.ldc2_w 103, 3) := by decide +kernel
theorem dX6_beach_16 : decode cX6_beach 16 = .ok (.invokestatic 87, 3) := by decide +kernel
theorem dX6_beach_19 : decode cX6_beach 19 = .ok (.ifCond .eq 15, 3) := by decide +kernel
theorem dX6_beach_22 : decode cX6_beach 22 = .ok (.iload_n 3, 1) := by decide +kernel
theorem dX6_beach_23 : decode cX6_beach 23 = .ok (.i2l, 1) := by decide +kernel
theorem dX6_beach_24 : decode cX6_beach 24 = .ok (.lconst 0, 1) := by decide +kernel
theorem dX6_beach_25 : decode cX6_beach 25 = .ok (.ldc2_w 101, 3) := by decide +kernel
theorem dX6_beach_28 : decode cX6_beach 28 = .ok (.invokestatic 87, 3) := by decide +kernel
theorem dX6_beach_31 : decode cX6_beach 31 = .ok (.ifCond .ne 6, 3) := by decide +kernel
theorem dX6_beach_34 : decode cX6_beach 34 = .ok (.bipush (-2), 2) := by decide +kernel
theorem dX6_beach_36 : decode cX6_beach 36 = .ok (.ireturn, 1) := by decide +kernel
theorem dX6_beach_37 : decode cX6_beach 37 = .ok (.aload_n 0, 1) := by decide +kernel
theorem dX6_beach_38 : decode cX6_beach 38 = .ok (.getfield 19, 3) := by decide +kernel
theorem dX6_beach_41 : decode cX6_beach 41 = .ok (.iload_n 1, 1) := by decide +kernel
theorem dX6_beach_42 : decode cX6_beach 42 = .ok (.iaload, 1) := by decide +kernel
theorem dX6_beach_43 : decode cX6_beach 43 = .ok (.iload_n 2, 1) := by decide +kernel
theorem dX6_beach_44 : decode cX6_beach 44 = .ok (.if_icmp .ne 17, 3) := by decide +kernel
theorem dX6_beach_47 : decode cX6_beach 47 = .ok (.aload_n 0, 1) := by decide +kernel
theorem dX6_beach_48 : decode cX6_beach 48 = .ok (.getfield 22, 3) := by decide +kernel
theorem dX6_beach_51 : decode cX6_beach 51 = .ok (.iload_n 1, 1) := by decide +kernel
theorem dX6_beach_52 : decode cX6_beach 52 = .ok (.iaload, 1) := by decide +kernel
theorem dX6_beach_53 : decode cX6_beach 53 = .ok (.iload_n 3, 1) := by decide +kernel
theorem dX6_beach_54 : decode cX6_beach 54 = .ok (.if_icmp .ne 7, 3) := by decide +kernel
theorem dX6_beach_57 : decode cX6_beach 57 = .ok (.iconst 1, 1) := by decide +kernel
theorem dX6_beach_58 : decode cX6_beach 58 = .ok (.goto 4, 3) := by decide +kernel
theorem dX6_beach_61 : decode cX6_beach 61 = .ok (.iconst 0, 1) := by decide +kernel
theorem dX6_beach_62 : decode cX6_beach 62 = .ok (.istore 4, 2) := by decide +kernel
theorem dX6_beach_64 : decode cX6_beach 64 = .ok (.aload_n 0, 1) := by decide +kernel
theorem dX6_beach_65 : decode cX6_beach 65 = .ok (.getfield 19, 3) := by decide +kernel
theorem dX6_beach_68 : decode cX6_beach 68 = .ok (.iload_n 1, 1) := by decide +kernel
theorem dX6_beach_69 : decode cX6_beach 69 = .ok (.iload_n 2, 1) := by decide +kernel
theorem dX6_beach_70 : decode cX6_beach 70 = .ok (.iastore, 1) := by decide +kernel
theorem dX6_beach_71 : decode cX6_beach 71 = .ok (.aload_n 0, 1) := by decide +kernel
theorem dX6_beach_72 : decode cX6_beach 72 = .ok (.getfield 22, 3) := by decide +kernel
theorem dX6_beach_75 : decode cX6_beach 75 = .ok (.iload_n 1, 1) := by decide +kernel
theorem dX6_beach_76 : decode cX6_beach 76 = .ok (.iload_n 3, 1) := by decide +kernel
theorem dX6_beach_77 : decode cX6_beach 77 = .ok (.iastore, 1) := by decide +kernel
theorem dX6_beach_78 : decode cX6_beach 78 = .ok (.iload 4, 2) := by decide +kernel
theorem dX6_beach_80 : decode cX6_beach 80 = .ok (.ifCond .eq 7, 3) := by decide +kernel
theorem dX6_beach_83 : decode cX6_beach 83 = .ok (.iconst 0, 1) := by decide +kernel
theorem dX6_beach_84 : decode cX6_beach 84 = .ok (.goto 4, 3) := by decide +kernel
theorem dX6_beach_87 : decode cX6_beach 87 = .ok (.iconst 1, 1) := by decide +kernel
theorem dX6_beach_88 : decode cX6_beach 88 = .ok (.ireturn, 1) := by decide +kernel
theorem dX6_lieBelow_0 : decode cX6_lieBelow 0 = .ok (.iconst 0, 1) := by decide +kernel
theorem dX6_lieBelow_1 : decode cX6_lieBelow 1 = .ok (.istore_n 2, 1) := by decide +kernel
theorem dX6_lieBelow_2 : decode cX6_lieBelow 2 = .ok (.iconst 0, 1) := by decide +kernel
theorem dX6_lieBelow_3 : decode cX6_lieBelow 3 = .ok (.istore_n 3, 1) := by decide +kernel
theorem dX6_lieBelow_4 : decode cX6_lieBelow 4 = .ok (.iload_n 3, 1) := by decide +kernel
theorem dX6_lieBelow_5 : decode cX6_lieBelow 5 = .ok (.aload_n 0, 1) := by decide +kernel
theorem dX6_lieBelow_6 : decode cX6_lieBelow 6 = .ok (.getfield 98, 3) := by decide +kernel
theorem dX6_lieBelow_9 : decode cX6_lieBelow 9 = .ok (.if_icmp .ge 32, 3) := by decide +kernel
theorem dX6_lieBelow_12 : decode cX6_lieBelow 12 = .ok (.iload_n 2, 1) := by decide +kernel
theorem dX6_lieBelow_13 : decode cX6_lieBelow 13 = .ok (.aload_n 0, 1) := by decide +kernel
theorem dX6_lieBelow_14 : decode cX6_lieBelow 14 = .ok (.getfield 22, 3) := by decide +kernel
theorem dX6_lieBelow_17 : decode cX6_lieBelow 17 = .ok (.iload_n 3, 1) := by decide +kernel
theorem dX6_lieBelow_18 : decode cX6_lieBelow 18 = .ok (.iaload, 1) := by decide +kernel
theorem dX6_lieBelow_19 : decode cX6_lieBelow 19 = .ok (.iload_n 1, 1) := by decide +kernel
theorem dX6_lieBelow_20 : decode cX6_lieBelow 20 = .ok (.if_icmp .gt 12, 3) := by decide +kernel
theorem dX6_lieBelow_23 : decode cX6_lieBelow 23 = .ok (.aload_n 0, 1) := by decide +kernel
theorem dX6_lieBelow_24 : decode cX6_lieBelow 24 = .ok (.getfield 19, 3) := by decide +kernel
theorem dX6_lieBelow_27 : decode cX6_lieBelow 27 = .ok (.iload_n 3, 1) := by decide +kernel
theorem dX6_lieBelow_28 : decode cX6_lieBelow 28 = .ok (.iaload, 1) := by decide +kernel
theorem dX6_lieBelow_29 : decode cX6_lieBelow 29 = .ok (.goto 4, 3) := by decide +kernel
theorem dX6_lieBelow_32 : decode cX6_lieBelow 32 = .ok (.iconst 0, 1) := by decide +kernel
theorem dX6_lieBelow_33 : decode cX6_lieBelow 33 = .ok (.iadd, 1) := by decide +kernel
theorem dX6_lieBelow_34 : decode cX6_lieBelow 34 = .ok (.istore_n 2, 1) := by decide +kernel
theorem dX6_lieBelow_35 : decode cX6_lieBelow 35 = .ok (.iinc 3 1, 3) := by decide +kernel
theorem dX6_lieBelow_38 : decode cX6_lieBelow 38 = .ok (.goto (-34), 3) := by decide +kernel
theorem dX6_lieBelow_41 : decode cX6_lieBelow 41 = .ok (.iload_n 2, 1) := by decide +kernel
theorem dX6_lieBelow_42 : decode cX6_lieBelow 42 = .ok (.ireturn, 1) := by decide +kernel
theorem dX6_power_0 : decode cX6_power 0 = .ok (.lconst 1, 1) := by decide +kernel
theorem dX6_power_1 : decode cX6_power 1 = .ok (.lstore_n 2, 1) := by decide +kernel
theorem dX6_power_2 : decode cX6_power 2 = .ok (.iconst 0, 1) := by decide +kernel
theorem dX6_power_3 : decode cX6_power 3 = .ok (.istore 4, 2) := by decide +kernel
theorem dX6_power_5 : decode cX6_power 5 = .ok (.iload 4, 2) := by decide +kernel
theorem dX6_power_7 : decode cX6_power 7 = .ok (.iload_n 1, 1) := by decide +kernel
theorem dX6_power_8 : decode cX6_power 8 = .ok (.if_icmp .ge 14, 3) := by decide +kernel
theorem dX6_power_11 : decode cX6_power 11 = .ok (.lload_n 2, 1) := by decide +kernel
theorem dX6_power_12 : decode cX6_power 12 = .ok (.iload_n 0, 1) := by decide +kernel
theorem dX6_power_13 : decode cX6_power 13 = .ok (.i2l, 1) := by decide +kernel
theorem dX6_power_14 : decode cX6_power 14 = .ok (.lmul, 1) := by decide +kernel
theorem dX6_power_15 : decode cX6_power 15 = .ok (.lstore_n 2, 1) := by decide +kernel
theorem dX6_power_16 : decode cX6_power 16 = .ok (.iinc 4 1, 3) := by decide +kernel
theorem dX6_power_19 : decode cX6_power 19 = .ok (.goto (-14), 3) := by decide +kernel
theorem dX6_power_22 : decode cX6_power 22 = .ok (.lload_n 2, 1) := by decide +kernel
theorem dX6_power_23 : decode cX6_power 23 = .ok (.lreturn, 1) := by decide +kernel
set_option maxRecDepth 20000 in
theorem ggX6_bestSum_X6_lieBelow : GoodIn wsX6_bestSum wsX6_lieBelow := goodIn_r _ [5, 6, 7, 8, 12, 13, 14, 15, 16, 17, 18, 19, 20, 21, 22, 23, 24, 25, 26, 27, 28, 29, 30, 31, 32, 33, 34, 35, 36, 37] (by decide +kernel) (by decide +kernel)
set_option maxRecDepth 20000 in
theorem gX6_bestSum_X6_lieBelow : GoodIn wsX6_bestSum (wsV RX6 214 RX6 yX6_lieBelow wsX6_lieBelow) := goodIn_app (goodIn_of _ (by decide +kernel)) ggX6_bestSum_X6_lieBelow
set_option maxRecDepth 20000 in
theorem ggX6_bestSum_X6_power : GoodIn wsX6_bestSum wsX6_power := goodIn_r _ [11] (by decide +kernel) (by decide +kernel)
set_option maxRecDepth 20000 in
theorem gX6_bestSum_X6_power : GoodIn wsX6_bestSum (va_wsS RX6 217 yX6_power wsX6_power) := goodIn_app (goodIn_of _ (by decide +kernel)) ggX6_bestSum_X6_power
theorem dX6_bestSum_0 : decode cX6_bestSum 0 = .ok (.lconst 0, 1) := by decide +kernel
theorem dX6_bestSum_1 : decode cX6_bestSum 1 = .ok (.lstore_n 2, 1) := by decide +kernel
theorem dX6_bestSum_2 : decode cX6_bestSum 2 = .ok (.iconst 1, 1) := by decide +kernel
theorem dX6_bestSum_3 : decode cX6_bestSum 3 = .ok (.istore 4, 2) := by decide +kernel
theorem dX6_bestSum_5 : decode cX6_bestSum 5 = .ok (.iload 4, 2) := by decide +kernel
theorem dX6_bestSum_7 : decode cX6_bestSum 7 = .ok (.bipush 100, 2) := by decide +kernel
theorem dX6_bestSum_9 : decode cX6_bestSum 9 = .ok (.if_icmp .ge 39, 3) := by decide +kernel
theorem dX6_bestSum_12 : decode cX6_bestSum 12 = .ok (.lload_n 2, 1) := by decide +kernel
theorem dX6_bestSum_13 : decode cX6_bestSum 13 = .ok (.iload 4, 2) := by decide +kernel
theorem dX6_bestSum_15 : decode cX6_bestSum 15 = .ok (.i2l, 1) := by decide +kernel
theorem dX6_bestSum_16 : decode cX6_bestSum 16 = .ok (.aload_n 0, 1) := by decide +kernel
theorem dX6_bestSum_17 : decode cX6_bestSum 17 = .ok (.iload 4, 2) := by decide +kernel
theorem dX6_bestSum_19 : decode cX6_bestSum 19 = .ok (.invokevirtual 214, 3) := by decide +kernel
theorem dX6_bestSum_22 : decode cX6_bestSum 22 = .ok (.iload_n 1, 1) := by decide +kernel
theorem dX6_bestSum_23 : decode cX6_bestSum 23 = .ok (.invokestatic 217, 3) := by decide +kernel
theorem dX6_bestSum_26 : decode cX6_bestSum 26 = .ok (.aload_n 0, 1) := by decide +kernel
theorem dX6_bestSum_27 : decode cX6_bestSum 27 = .ok (.iload 4, 2) := by decide +kernel
theorem dX6_bestSum_29 : decode cX6_bestSum 29 = .ok (.iconst 1, 1) := by decide +kernel
theorem dX6_bestSum_30 : decode cX6_bestSum 30 = .ok (.isub, 1) := by decide +kernel
theorem dX6_bestSum_31 : decode cX6_bestSum 31 = .ok (.invokevirtual 214, 3) := by decide +kernel
theorem dX6_bestSum_34 : decode cX6_bestSum 34 = .ok (.iload_n 1, 1) := by decide +kernel
theorem dX6_bestSum_35 : decode cX6_bestSum 35 = .ok (.invokestatic 217, 3) := by decide +kernel
theorem dX6_bestSum_38 : decode cX6_bestSum 38 = .ok (.lsub, 1) := by decide +kernel
theorem dX6_bestSum_39 : decode cX6_bestSum 39 = .ok (.lmul, 1) := by decide +kernel
theorem dX6_bestSum_40 : decode cX6_bestSum 40 = .ok (.ladd, 1) := by decide +kernel
theorem dX6_bestSum_41 : decode cX6_bestSum 41 = .ok (.lstore_n 2, 1) := by decide +kernel
theorem dX6_bestSum_42 : decode cX6_bestSum 42 = .ok (.iinc 4 1, 3) := by decide +kernel
theorem dX6_bestSum_45 : decode cX6_bestSum 45 = .ok (.goto (-40), 3) := by decide +kernel
theorem dX6_bestSum_48 : decode cX6_bestSum 48 = .ok (.lload_n 2, 1) := by decide +kernel
theorem dX6_bestSum_49 : decode cX6_bestSum 49 = .ok (.lreturn, 1) := by decide +kernel
set_option maxRecDepth 20000 in
theorem ggX6_mean_X6_lieBelow : GoodIn wsX6_mean wsX6_lieBelow := goodIn_r _ [6, 7, 8, 9, 27, 28, 29, 30, 31, 32, 33, 34, 35, 36, 37, 38, 39, 40, 41, 42, 43, 44, 45, 46, 47, 48, 49, 50, 51, 52] (by decide +kernel) (by decide +kernel)
set_option maxRecDepth 20000 in
theorem gX6_mean_X6_lieBelow : GoodIn wsX6_mean (wsV RX6 214 RX6 yX6_lieBelow wsX6_lieBelow) := goodIn_app (goodIn_of _ (by decide +kernel)) ggX6_mean_X6_lieBelow
set_option maxRecDepth 20000 in
theorem ggX6_mean_X6_in : GoodIn wsX6_mean wsX6_in := goodIn_r _ [12] (by decide +kernel) (by decide +kernel)
set_option maxRecDepth 20000 in
theorem gX6_mean_X6_in : GoodIn wsX6_mean (va_wsS RX6 87 yX6_in wsX6_in) := goodIn_app (goodIn_of _ (by decide +kernel)) ggX6_mean_X6_in
set_option maxRecDepth 20000 in
theorem ggX6_mean_X6_lost : GoodIn wsX6_mean wsX6_lost := goodIn_r _ [15, 16] (by decide +kernel) (by decide +kernel)
set_option maxRecDepth 20000 in
theorem gX6_mean_X6_lost : GoodIn wsX6_mean (va_wsS RX6 74 yX6_lost wsX6_lost) := goodIn_app (goodIn_of _ (by decide +kernel)) ggX6_mean_X6_lost
set_option maxRecDepth 20000 in
theorem ggX6_mean_X6_bestSum : GoodIn wsX6_mean wsX6_bestSum := goodIn_r _ [20, 2, 3, 4, 5, 6, 7, 8, 9, 21, 22, 23, 27, 28, 29, 30, 31, 32, 33, 34, 35, 36, 37, 38, 39, 40, 41, 42, 43, 44, 45, 46, 47, 48, 49, 50, 51, 52] (by decide +kernel) (by decide +kernel)
set_option maxRecDepth 20000 in
theorem gX6_mean_X6_bestSum : GoodIn wsX6_mean (wsV RX6 223 RX6 yX6_bestSum wsX6_bestSum) := goodIn_app (goodIn_of _ (by decide +kernel)) ggX6_mean_X6_bestSum
set_option maxRecDepth 20000 in
theorem ggX6_mean_X6_power : GoodIn wsX6_mean wsX6_power := goodIn_r _ [23] (by decide +kernel) (by decide +kernel)
set_option maxRecDepth 20000 in
theorem gX6_mean_X6_power : GoodIn wsX6_mean (va_wsS RX6 217 yX6_power wsX6_power) := goodIn_app (goodIn_of _ (by decide +kernel)) ggX6_mean_X6_power
set_option maxRecDepth 20000 in
theorem ggX6_mean_X6_share : GoodIn wsX6_mean wsX6_share := goodIn_r _ [26] (by decide +kernel) (by decide +kernel)
set_option maxRecDepth 20000 in
theorem gX6_mean_X6_share : GoodIn wsX6_mean (va_wsS RX6 202 yX6_share wsX6_share) := goodIn_app (goodIn_of _ (by decide +kernel)) ggX6_mean_X6_share
theorem dX6_mean_0 : decode cX6_mean 0 = .ok (.aload_n 0, 1) := by decide +kernel
theorem dX6_mean_1 : decode cX6_mean 1 = .ok (.bipush 99, 2) := by decide +kernel
theorem dX6_mean_3 : decode cX6_mean 3 = .ok (.invokevirtual 214, 3) := by decide +kernel
theorem dX6_mean_6 : decode cX6_mean 6 = .ok (.istore_n 3, 1) := by decide +kernel
theorem dX6_mean_7 : decode cX6_mean 7 = .ok (.iload_n 1, 1) := by decide +kernel
theorem dX6_mean_8 : decode cX6_mean 8 = .ok (.i2l, 1) := by decide +kernel
theorem dX6_mean_9 : decode cX6_mean 9 = .ok (.lconst 1, 1) := by decide +kernel
theorem dX6_mean_10 : decode cX6_mean 10 = .ok (.ldc2_w 221, 3) := by decide +kernel
theorem dX6_mean_13 : decode cX6_mean 13 = .ok (.invokestatic 87, 3) := by decide +kernel
theorem dX6_mean_16 : decode cX6_mean 16 = .ok (.ifCond .eq 17, 3) := by decide +kernel
theorem dX6_mean_19 : decode cX6_mean 19 = .ok (.iload_n 2, 1) := by decide +kernel
theorem dX6_mean_20 : decode cX6_mean 20 = .ok (.i2l, 1) := by decide +kernel
theorem dX6_mean_21 : decode cX6_mean 21 = .ok (.lconst 0, 1) := by decide +kernel
theorem dX6_mean_22 : decode cX6_mean 22 = .ok (.lconst 1, 1) := by decide +kernel
theorem dX6_mean_23 : decode cX6_mean 23 = .ok (.invokestatic 87, 3) := by decide +kernel
theorem dX6_mean_26 : decode cX6_mean 26 = .ok (.ifCond .eq 7, 3) := by decide +kernel
theorem dX6_mean_29 : decode cX6_mean 29 = .ok (.iload_n 3, 1) := by decide +kernel
theorem dX6_mean_30 : decode cX6_mean 30 = .ok (.ifCond .ne 7, 3) := by decide +kernel
theorem dX6_mean_33 : decode cX6_mean 33 = .ok (.invokestatic 74, 3) := by decide +kernel
theorem dX6_mean_36 : decode cX6_mean 36 = .ok (.lreturn, 1) := by decide +kernel
theorem dX6_mean_37 : decode cX6_mean 37 = .ok (.aload_n 0, 1) := by decide +kernel
theorem dX6_mean_38 : decode cX6_mean 38 = .ok (.iload_n 1, 1) := by decide +kernel
theorem dX6_mean_39 : decode cX6_mean 39 = .ok (.invokevirtual 223, 3) := by decide +kernel
theorem dX6_mean_42 : decode cX6_mean 42 = .ok (.iload_n 3, 1) := by decide +kernel
theorem dX6_mean_43 : decode cX6_mean 43 = .ok (.iload_n 1, 1) := by decide +kernel
theorem dX6_mean_44 : decode cX6_mean 44 = .ok (.invokestatic 217, 3) := by decide +kernel
theorem dX6_mean_47 : decode cX6_mean 47 = .ok (.iload_n 2, 1) := by decide +kernel
theorem dX6_mean_48 : decode cX6_mean 48 = .ok (.invokestatic 202, 3) := by decide +kernel
theorem dX6_mean_51 : decode cX6_mean 51 = .ok (.lreturn, 1) := by decide +kernel
set_option maxRecDepth 20000 in
theorem ggX6_hours_X6_lieBelow : GoodIn wsX6_hours wsX6_lieBelow := goodIn_r _ [6, 7, 8, 9, 20, 21, 22, 23, 24, 25, 26, 27, 28, 29, 30, 31, 32, 33, 34, 35, 36, 37, 38, 39, 40, 41, 42, 43, 44, 45] (by decide +kernel) (by decide +kernel)
set_option maxRecDepth 20000 in
theorem gX6_hours_X6_lieBelow : GoodIn wsX6_hours (wsV RX6 214 RX6 yX6_lieBelow wsX6_lieBelow) := goodIn_app (goodIn_of _ (by decide +kernel)) ggX6_hours_X6_lieBelow
set_option maxRecDepth 20000 in
theorem ggX6_hours_X6_in : GoodIn wsX6_hours wsX6_in := goodIn_r _ [12] (by decide +kernel) (by decide +kernel)
set_option maxRecDepth 20000 in
theorem gX6_hours_X6_in : GoodIn wsX6_hours (va_wsS RX6 87 yX6_in wsX6_in) := goodIn_app (goodIn_of _ (by decide +kernel)) ggX6_hours_X6_in
set_option maxRecDepth 20000 in
theorem ggX6_hours_X6_bestSum : GoodIn wsX6_hours wsX6_bestSum := goodIn_r _ [16, 2, 3, 4, 5, 6, 7, 8, 9, 17, 18, 19, 20, 21, 22, 23, 24, 25, 26, 27, 28, 29, 30, 31, 32, 33, 34, 35, 36, 37, 38, 39, 40, 41, 42, 43, 44, 45] (by decide +kernel) (by decide +kernel)
set_option maxRecDepth 20000 in
theorem gX6_hours_X6_bestSum : GoodIn wsX6_hours (wsV RX6 223 RX6 yX6_bestSum wsX6_bestSum) := goodIn_app (goodIn_of _ (by decide +kernel)) ggX6_hours_X6_bestSum
set_option maxRecDepth 20000 in
theorem ggX6_hours_X6_power : GoodIn wsX6_hours wsX6_power := goodIn_r _ [19] (by decide +kernel) (by decide +kernel)
set_option maxRecDepth 20000 in
theorem gX6_hours_X6_power : GoodIn wsX6_hours (va_wsS RX6 217 yX6_power wsX6_power) := goodIn_app (goodIn_of _ (by decide +kernel)) ggX6_hours_X6_power
theorem dX6_hours_0 : decode cX6_hours 0 = .ok (.aload_n 0, 1) := by decide +kernel
theorem dX6_hours_1 : decode cX6_hours 1 = .ok (.bipush 99, 2) := by decide +kernel
theorem dX6_hours_3 : decode cX6_hours 3 = .ok (.invokevirtual 214, 3) := by decide +kernel
theorem dX6_hours_6 : decode cX6_hours 6 = .ok (.istore_n 2, 1) := by decide +kernel
theorem dX6_hours_7 : decode cX6_hours 7 = .ok (.iload_n 1, 1) := by decide +kernel
theorem dX6_hours_8 : decode cX6_hours 8 = .ok (.i2l, 1) := by decide +kernel
theorem dX6_hours_9 : decode cX6_hours 9 = .ok (.lconst 0, 1) := by decide +kernel
theorem dX6_hours_10 : decode cX6_hours 10 = .ok (.ldc2_w 101, 3) := by decide +kernel
theorem dX6_hours_13 : decode cX6_hours 13 = .ok (.invokestatic 87, 3) := by decide +kernel
theorem dX6_hours_16 : decode cX6_hours 16 = .ok (.ifCond .ne 6, 3) := by decide +kernel
theorem dX6_hours_19 : decode cX6_hours 19 = .ok (.bipush (-2), 2) := by decide +kernel
theorem dX6_hours_21 : decode cX6_hours 21 = .ok (.ireturn, 1) := by decide +kernel
theorem dX6_hours_22 : decode cX6_hours 22 = .ok (.iload_n 2, 1) := by decide +kernel
theorem dX6_hours_23 : decode cX6_hours 23 = .ok (.ifCond .ne 6, 3) := by decide +kernel
theorem dX6_hours_26 : decode cX6_hours 26 = .ok (.bipush (-3), 2) := by decide +kernel
theorem dX6_hours_28 : decode cX6_hours 28 = .ok (.ireturn, 1) := by decide +kernel
theorem dX6_hours_29 : decode cX6_hours 29 = .ok (.iconst 0, 1) := by decide +kernel
theorem dX6_hours_30 : decode cX6_hours 30 = .ok (.istore_n 3, 1) := by decide +kernel
theorem dX6_hours_31 : decode cX6_hours 31 = .ok (.lconst 0, 1) := by decide +kernel
theorem dX6_hours_32 : decode cX6_hours 32 = .ok (.lstore 4, 2) := by decide +kernel
theorem dX6_hours_34 : decode cX6_hours 34 = .ok (.iconst 1, 1) := by decide +kernel
theorem dX6_hours_35 : decode cX6_hours 35 = .ok (.istore 6, 2) := by decide +kernel
theorem dX6_hours_37 : decode cX6_hours 37 = .ok (.iload 6, 2) := by decide +kernel
theorem dX6_hours_39 : decode cX6_hours 39 = .ok (.bipush 7, 2) := by decide +kernel
theorem dX6_hours_41 : decode cX6_hours 41 = .ok (.if_icmp .ge 60, 3) := by decide +kernel
theorem dX6_hours_44 : decode cX6_hours 44 = .ok (.aload_n 0, 1) := by decide +kernel
theorem dX6_hours_45 : decode cX6_hours 45 = .ok (.iload 6, 2) := by decide +kernel
theorem dX6_hours_47 : decode cX6_hours 47 = .ok (.invokevirtual 223, 3) := by decide +kernel
theorem dX6_hours_50 : decode cX6_hours 50 = .ok (.iload_n 2, 1) := by decide +kernel
theorem dX6_hours_51 : decode cX6_hours 51 = .ok (.bipush 6, 2) := by decide +kernel
theorem dX6_hours_53 : decode cX6_hours 53 = .ok (.iload 6, 2) := by decide +kernel
theorem dX6_hours_55 : decode cX6_hours 55 = .ok (.isub, 1) := by decide +kernel
theorem dX6_hours_56 : decode cX6_hours 56 = .ok (.invokestatic 217, 3) := by decide +kernel
theorem dX6_hours_59 : decode cX6_hours 59 = .ok (.lmul, 1) := by decide +kernel
theorem dX6_hours_60 : decode cX6_hours 60 = .ok (.iload 6, 2) := by decide +kernel
theorem dX6_hours_62 : decode cX6_hours 62 = .ok (.i2l, 1) := by decide +kernel
theorem dX6_hours_63 : decode cX6_hours 63 = .ok (.iload_n 1, 1) := by decide +kernel
theorem dX6_hours_64 : decode cX6_hours 64 = .ok (.i2l, 1) := by decide +kernel
theorem dX6_hours_65 : decode cX6_hours 65 = .ok (.lmul, 1) := by decide +kernel
theorem dX6_hours_66 : decode cX6_hours 66 = .ok (.iload_n 2, 1) := by decide +kernel
theorem dX6_hours_67 : decode cX6_hours 67 = .ok (.bipush 6, 2) := by decide +kernel
theorem dX6_hours_69 : decode cX6_hours 69 = .ok (.invokestatic 217, 3) := by decide +kernel
theorem dX6_hours_72 : decode cX6_hours 72 = .ok (.lmul, 1) := by decide +kernel
theorem dX6_hours_73 : decode cX6_hours 73 = .ok (.lsub, 1) := by decide +kernel
theorem dX6_hours_74 : decode cX6_hours 74 = .ok (.lstore 7, 2) := by decide +kernel
theorem dX6_hours_76 : decode cX6_hours 76 = .ok (.iload_n 3, 1) := by decide +kernel
theorem dX6_hours_77 : decode cX6_hours 77 = .ok (.ifCond .eq 11, 3) := by decide +kernel
theorem dX6_hours_80 : decode cX6_hours 80 = .ok (.lload 7, 2) := by decide +kernel
theorem dX6_hours_82 : decode cX6_hours 82 = .ok (.lload 4, 2) := by decide +kernel
theorem dX6_hours_84 : decode cX6_hours 84 = .ok (.lcmp, 1) := by decide +kernel
theorem dX6_hours_85 : decode cX6_hours 85 = .ok (.ifCond .le 10, 3) := by decide +kernel
theorem dX6_hours_88 : decode cX6_hours 88 = .ok (.iload 6, 2) := by decide +kernel
theorem dX6_hours_90 : decode cX6_hours 90 = .ok (.istore_n 3, 1) := by decide +kernel
theorem dX6_hours_91 : decode cX6_hours 91 = .ok (.lload 7, 2) := by decide +kernel
theorem dX6_hours_93 : decode cX6_hours 93 = .ok (.lstore 4, 2) := by decide +kernel
theorem dX6_hours_95 : decode cX6_hours 95 = .ok (.iinc 6 1, 3) := by decide +kernel
theorem dX6_hours_98 : decode cX6_hours 98 = .ok (.goto (-61), 3) := by decide +kernel
theorem dX6_hours_101 : decode cX6_hours 101 = .ok (.iload_n 3, 1) := by decide +kernel
theorem dX6_hours_102 : decode cX6_hours 102 = .ok (.ireturn, 1) := by decide +kernel
set_option maxRecDepth 20000 in
theorem ggX6_noSheet_X6_in : GoodIn wsX6_noSheet wsX6_in := goodIn_r _ [5] (by decide +kernel) (by decide +kernel)
set_option maxRecDepth 20000 in
theorem gX6_noSheet_X6_in : GoodIn wsX6_noSheet (va_wsS RX6 87 yX6_in wsX6_in) := goodIn_app (goodIn_of _ (by decide +kernel)) ggX6_noSheet_X6_in
theorem dX6_noSheet_0 : decode cX6_noSheet 0 = .ok (.iload_n 0, 1) := by decide +kernel
theorem dX6_noSheet_1 : decode cX6_noSheet 1 = .ok (.i2l, 1) := by decide +kernel
theorem dX6_noSheet_2 : decode cX6_noSheet 2 = .ok (.lconst 0, 1) := by decide +kernel
theorem dX6_noSheet_3 : decode cX6_noSheet 3 = .ok (.ldc2_w 227, 3) := by decide +kernel
theorem dX6_noSheet_6 : decode cX6_noSheet 6 = .ok (.invokestatic 87, 3) := by decide +kernel
theorem dX6_noSheet_9 : decode cX6_noSheet 9 = .ok (.ifCond .ne 7, 3) := by decide +kernel
theorem dX6_noSheet_12 : decode cX6_noSheet 12 = .ok (.iconst 1, 1) := by decide +kernel
theorem dX6_noSheet_13 : decode cX6_noSheet 13 = .ok (.goto 4, 3) := by decide +kernel
theorem dX6_noSheet_16 : decode cX6_noSheet 16 = .ok (.iconst 0, 1) := by decide +kernel
theorem dX6_noSheet_17 : decode cX6_noSheet 17 = .ok (.ireturn, 1) := by decide +kernel
set_option maxRecDepth 20000 in
theorem ggX6_sheet_X6_noSheet : GoodIn wsX6_sheet wsX6_noSheet := goodIn_r _ [8, 9, 10, 11, 7, 12] (by decide +kernel) (by decide +kernel)
set_option maxRecDepth 20000 in
theorem gX6_sheet_X6_noSheet : GoodIn wsX6_sheet (va_wsS RX6 78 yX6_noSheet wsX6_noSheet) := goodIn_app (goodIn_of _ (by decide +kernel)) ggX6_sheet_X6_noSheet
set_option maxRecDepth 20000 in
theorem ggX6_sheet_X6_refused : GoodIn wsX6_sheet wsX6_refused := goodIn_r _ [16, 17, 22, 23, 24, 25, 26, 27, 28, 29, 30, 31, 32, 33, 34, 35, 36, 37, 38, 39, 40, 41, 42, 43, 44, 45, 46, 47] (by decide +kernel) (by decide +kernel)
set_option maxRecDepth 20000 in
theorem gX6_sheet_X6_refused : GoodIn wsX6_sheet (wsV RX6 82 RX6 yX6_refused wsX6_refused) := goodIn_app (goodIn_of _ (by decide +kernel)) ggX6_sheet_X6_refused
set_option maxRecDepth 20000 in
theorem ggX6_sheet_X6_in : GoodIn wsX6_sheet wsX6_in := goodIn_r _ [12] (by decide +kernel) (by decide +kernel)
set_option maxRecDepth 20000 in
theorem gX6_sheet_X6_in : GoodIn wsX6_sheet (va_wsS RX6 87 yX6_in wsX6_in) := goodIn_app (goodIn_of _ (by decide +kernel)) ggX6_sheet_X6_in
set_option maxRecDepth 20000 in
theorem ggX6_sheet_X6_failed : GoodIn wsX6_sheet wsX6_failed := goodIn_r _ [21, 17, 22, 23, 24, 25, 26, 27, 28, 29, 30, 31, 32, 33, 34, 35, 36, 37, 38, 39, 40, 41, 42, 43, 44, 45, 46, 47] (by decide +kernel) (by decide +kernel)
set_option maxRecDepth 20000 in
theorem gX6_sheet_X6_failed : GoodIn wsX6_sheet (wsV RX6 91 RX6 yX6_failed wsX6_failed) := goodIn_app (goodIn_of _ (by decide +kernel)) ggX6_sheet_X6_failed
theorem dX6_sheet_0 : decode cX6_sheet 0 = .ok (.iload_n 1, 1) := by decide +kernel
theorem dX6_sheet_1 : decode cX6_sheet 1 = .ok (.invokestatic 78, 3) := by decide +kernel
theorem dX6_sheet_4 : decode cX6_sheet 4 = .ok (.ifCond .eq 9, 3) := by decide +kernel
theorem dX6_sheet_7 : decode cX6_sheet 7 = .ok (.aload_n 0, 1) := by decide +kernel
theorem dX6_sheet_8 : decode cX6_sheet 8 = .ok (.iconst (-1), 1) := by decide +kernel
theorem dX6_sheet_9 : decode cX6_sheet 9 = .ok (.invokevirtual 82, 3) := by decide +kernel
theorem dX6_sheet_12 : decode cX6_sheet 12 = .ok (.ireturn, 1) := by decide +kernel
theorem dX6_sheet_13 : decode cX6_sheet 13 = .ok (.iload_n 2, 1) := by decide +kernel
theorem dX6_sheet_14 : decode cX6_sheet 14 = .ok (.i2l, 1) := by decide +kernel
theorem dX6_sheet_15 : decode cX6_sheet 15 = .ok (.lconst 0, 1) := by decide +kernel
theorem dX6_sheet_16 : decode cX6_sheet 16 = .ok (.ldc2_w 85, 3) := by decide +kernel
theorem dX6_sheet_19 : decode cX6_sheet 19 = .ok (.invokestatic 87, 3) := by decide +kernel
theorem dX6_sheet_22 : decode cX6_sheet 22 = .ok (.ifCond .eq 9, 3) := by decide +kernel
theorem dX6_sheet_25 : decode cX6_sheet 25 = .ok (.iload_n 3, 1) := by decide +kernel
theorem dX6_sheet_26 : decode cX6_sheet 26 = .ok (.bipush 60, 2) := by decide +kernel
theorem dX6_sheet_28 : decode cX6_sheet 28 = .ok (.if_icmp .le 10, 3) := by decide +kernel
theorem dX6_sheet_31 : decode cX6_sheet 31 = .ok (.aload_n 0, 1) := by decide +kernel
theorem dX6_sheet_32 : decode cX6_sheet 32 = .ok (.bipush (-2), 2) := by decide +kernel
theorem dX6_sheet_34 : decode cX6_sheet 34 = .ok (.invokevirtual 82, 3) := by decide +kernel
theorem dX6_sheet_37 : decode cX6_sheet 37 = .ok (.ireturn, 1) := by decide +kernel
theorem dX6_sheet_38 : decode cX6_sheet 38 = .ok (.iload_n 3, 1) := by decide +kernel
theorem dX6_sheet_39 : decode cX6_sheet 39 = .ok (.ifCond .ge 9, 3) := by decide +kernel
theorem dX6_sheet_42 : decode cX6_sheet 42 = .ok (.aload_n 0, 1) := by decide +kernel
theorem dX6_sheet_43 : decode cX6_sheet 43 = .ok (.iconst 4, 1) := by decide +kernel
theorem dX6_sheet_44 : decode cX6_sheet 44 = .ok (.invokevirtual 91, 3) := by decide +kernel
theorem dX6_sheet_47 : decode cX6_sheet 47 = .ok (.ireturn, 1) := by decide +kernel
theorem dX6_sheet_48 : decode cX6_sheet 48 = .ok (.aload_n 0, 1) := by decide +kernel
theorem dX6_sheet_49 : decode cX6_sheet 49 = .ok (.getfield 43, 3) := by decide +kernel
theorem dX6_sheet_52 : decode cX6_sheet 52 = .ok (.iload_n 1, 1) := by decide +kernel
theorem dX6_sheet_53 : decode cX6_sheet 53 = .ok (.iload_n 3, 1) := by decide +kernel
theorem dX6_sheet_54 : decode cX6_sheet 54 = .ok (.iastore, 1) := by decide +kernel
theorem dX6_sheet_55 : decode cX6_sheet 55 = .ok (.aload_n 0, 1) := by decide +kernel
theorem dX6_sheet_56 : decode cX6_sheet 56 = .ok (.getfield 46, 3) := by decide +kernel
theorem dX6_sheet_59 : decode cX6_sheet 59 = .ok (.iload_n 1, 1) := by decide +kernel
theorem dX6_sheet_60 : decode cX6_sheet 60 = .ok (.iload_n 2, 1) := by decide +kernel
theorem dX6_sheet_61 : decode cX6_sheet 61 = .ok (.iastore, 1) := by decide +kernel
theorem dX6_sheet_62 : decode cX6_sheet 62 = .ok (.iconst 0, 1) := by decide +kernel
theorem dX6_sheet_63 : decode cX6_sheet 63 = .ok (.istore 4, 2) := by decide +kernel
theorem dX6_sheet_65 : decode cX6_sheet 65 = .ok (.iload 4, 2) := by decide +kernel
theorem dX6_sheet_67 : decode cX6_sheet 67 = .ok (.iload_n 3, 1) := by decide +kernel
theorem dX6_sheet_68 : decode cX6_sheet 68 = .ok (.if_icmp .ge 22, 3) := by decide +kernel
theorem dX6_sheet_71 : decode cX6_sheet 71 = .ok (.aload_n 0, 1) := by decide +kernel
theorem dX6_sheet_72 : decode cX6_sheet 72 = .ok (.getfield 49, 3) := by decide +kernel
theorem dX6_sheet_75 : decode cX6_sheet 75 = .ok (.bipush 60, 2) := by decide +kernel
theorem dX6_sheet_77 : decode cX6_sheet 77 = .ok (.iload_n 1, 1) := by decide +kernel
theorem dX6_sheet_78 : decode cX6_sheet 78 = .ok (.imul, 1) := by decide +kernel
theorem dX6_sheet_79 : decode cX6_sheet 79 = .ok (.iload 4, 2) := by decide +kernel
theorem dX6_sheet_81 : decode cX6_sheet 81 = .ok (.iadd, 1) := by decide +kernel
theorem dX6_sheet_82 : decode cX6_sheet 82 = .ok (.iconst 0, 1) := by decide +kernel
theorem dX6_sheet_83 : decode cX6_sheet 83 = .ok (.iastore, 1) := by decide +kernel
theorem dX6_sheet_84 : decode cX6_sheet 84 = .ok (.iinc 4 1, 3) := by decide +kernel
theorem dX6_sheet_87 : decode cX6_sheet 87 = .ok (.goto (-22), 3) := by decide +kernel
theorem dX6_sheet_90 : decode cX6_sheet 90 = .ok (.aload_n 0, 1) := by decide +kernel
theorem dX6_sheet_91 : decode cX6_sheet 91 = .ok (.iconst 1, 1) := by decide +kernel
theorem dX6_sheet_92 : decode cX6_sheet 92 = .ok (.invokevirtual 82, 3) := by decide +kernel
theorem dX6_sheet_95 : decode cX6_sheet 95 = .ok (.ireturn, 1) := by decide +kernel
set_option maxRecDepth 20000 in
theorem ggX6_lose_X6_noSheet : GoodIn wsX6_lose wsX6_noSheet := goodIn_r _ [5, 6, 7, 8, 4, 9] (by decide +kernel) (by decide +kernel)
set_option maxRecDepth 20000 in
theorem gX6_lose_X6_noSheet : GoodIn wsX6_lose (va_wsS RX6 78 yX6_noSheet wsX6_noSheet) := goodIn_app (goodIn_of _ (by decide +kernel)) ggX6_lose_X6_noSheet
theorem dX6_lose_0 : decode cX6_lose 0 = .ok (.iload_n 1, 1) := by decide +kernel
theorem dX6_lose_1 : decode cX6_lose 1 = .ok (.invokestatic 78, 3) := by decide +kernel
theorem dX6_lose_4 : decode cX6_lose 4 = .ok (.ifCond .eq 5, 3) := by decide +kernel
theorem dX6_lose_7 : decode cX6_lose 7 = .ok (.iconst (-1), 1) := by decide +kernel
theorem dX6_lose_8 : decode cX6_lose 8 = .ok (.ireturn, 1) := by decide +kernel
theorem dX6_lose_9 : decode cX6_lose 9 = .ok (.aload_n 0, 1) := by decide +kernel
theorem dX6_lose_10 : decode cX6_lose 10 = .ok (.getfield 43, 3) := by decide +kernel
theorem dX6_lose_13 : decode cX6_lose 13 = .ok (.iload_n 1, 1) := by decide +kernel
theorem dX6_lose_14 : decode cX6_lose 14 = .ok (.iaload, 1) := by decide +kernel
theorem dX6_lose_15 : decode cX6_lose 15 = .ok (.ifCond .ge 7, 3) := by decide +kernel
theorem dX6_lose_18 : decode cX6_lose 18 = .ok (.iconst 0, 1) := by decide +kernel
theorem dX6_lose_19 : decode cX6_lose 19 = .ok (.goto 4, 3) := by decide +kernel
theorem dX6_lose_22 : decode cX6_lose 22 = .ok (.iconst 1, 1) := by decide +kernel
theorem dX6_lose_23 : decode cX6_lose 23 = .ok (.istore_n 2, 1) := by decide +kernel
theorem dX6_lose_24 : decode cX6_lose 24 = .ok (.aload_n 0, 1) := by decide +kernel
theorem dX6_lose_25 : decode cX6_lose 25 = .ok (.getfield 43, 3) := by decide +kernel
theorem dX6_lose_28 : decode cX6_lose 28 = .ok (.iload_n 1, 1) := by decide +kernel
theorem dX6_lose_29 : decode cX6_lose 29 = .ok (.iconst (-1), 1) := by decide +kernel
theorem dX6_lose_30 : decode cX6_lose 30 = .ok (.iastore, 1) := by decide +kernel
theorem dX6_lose_31 : decode cX6_lose 31 = .ok (.iload_n 2, 1) := by decide +kernel
theorem dX6_lose_32 : decode cX6_lose 32 = .ok (.ireturn, 1) := by decide +kernel
set_option maxRecDepth 20000 in
theorem ggX6_noCell_X6_in : GoodIn wsX6_noCell wsX6_in := goodIn_r _ [5] (by decide +kernel) (by decide +kernel)
set_option maxRecDepth 20000 in
theorem gX6_noCell_X6_in : GoodIn wsX6_noCell (va_wsS RX6 87 yX6_in wsX6_in) := goodIn_app (goodIn_of _ (by decide +kernel)) ggX6_noCell_X6_in
theorem dX6_noCell_0 : decode cX6_noCell 0 = .ok (.aload_n 0, 1) := by decide +kernel
theorem dX6_noCell_1 : decode cX6_noCell 1 = .ok (.getfield 43, 3) := by decide +kernel
theorem dX6_noCell_4 : decode cX6_noCell 4 = .ok (.iload_n 1, 1) := by decide +kernel
theorem dX6_noCell_5 : decode cX6_noCell 5 = .ok (.iaload, 1) := by decide +kernel
theorem dX6_noCell_6 : decode cX6_noCell 6 = .ok (.ifCond .ge 7, 3) := by decide +kernel
theorem dX6_noCell_9 : decode cX6_noCell 9 = .ok (.iconst 1, 1) := by decide +kernel
theorem dX6_noCell_10 : decode cX6_noCell 10 = .ok (.goto 26, 3) := by decide +kernel
theorem dX6_noCell_13 : decode cX6_noCell 13 = .ok (.iload_n 2, 1) := by decide +kernel
theorem dX6_noCell_14 : decode cX6_noCell 14 = .ok (.i2l, 1) := by decide +kernel
theorem dX6_noCell_15 : decode cX6_noCell 15 = .ok (.lconst 0, 1) := by decide +kernel
theorem dX6_noCell_16 : decode cX6_noCell 16 = .ok (.aload_n 0, 1) := by decide +kernel
theorem dX6_noCell_17 : decode cX6_noCell 17 = .ok (.getfield 43, 3) := by decide +kernel
theorem dX6_noCell_20 : decode cX6_noCell 20 = .ok (.iload_n 1, 1) := by decide +kernel
theorem dX6_noCell_21 : decode cX6_noCell 21 = .ok (.iaload, 1) := by decide +kernel
theorem dX6_noCell_22 : decode cX6_noCell 22 = .ok (.i2l, 1) := by decide +kernel
theorem dX6_noCell_23 : decode cX6_noCell 23 = .ok (.lconst 1, 1) := by decide +kernel
theorem dX6_noCell_24 : decode cX6_noCell 24 = .ok (.lsub, 1) := by decide +kernel
theorem dX6_noCell_25 : decode cX6_noCell 25 = .ok (.invokestatic 87, 3) := by decide +kernel
theorem dX6_noCell_28 : decode cX6_noCell 28 = .ok (.ifCond .eq 7, 3) := by decide +kernel
theorem dX6_noCell_31 : decode cX6_noCell 31 = .ok (.iconst 0, 1) := by decide +kernel
theorem dX6_noCell_32 : decode cX6_noCell 32 = .ok (.goto 4, 3) := by decide +kernel
theorem dX6_noCell_35 : decode cX6_noCell 35 = .ok (.iconst 3, 1) := by decide +kernel
theorem dX6_noCell_36 : decode cX6_noCell 36 = .ok (.ireturn, 1) := by decide +kernel
set_option maxRecDepth 20000 in
theorem ggX6_put_X6_noSheet : GoodIn wsX6_put wsX6_noSheet := goodIn_r _ [6, 7, 8, 9, 5, 10] (by decide +kernel) (by decide +kernel)
set_option maxRecDepth 20000 in
theorem gX6_put_X6_noSheet : GoodIn wsX6_put (va_wsS RX6 78 yX6_noSheet wsX6_noSheet) := goodIn_app (goodIn_of _ (by decide +kernel)) ggX6_put_X6_noSheet
set_option maxRecDepth 20000 in
theorem ggX6_put_X6_refused : GoodIn wsX6_put wsX6_refused := goodIn_r _ [14, 15, 25, 26, 27, 28, 29, 30, 31, 32, 33, 34, 35, 36, 37, 38, 39, 40, 41, 42, 43, 44, 45, 46, 47, 48, 49, 50] (by decide +kernel) (by decide +kernel)
set_option maxRecDepth 20000 in
theorem gX6_put_X6_refused : GoodIn wsX6_put (wsV RX6 82 RX6 yX6_refused wsX6_refused) := goodIn_app (goodIn_of _ (by decide +kernel)) ggX6_put_X6_refused
set_option maxRecDepth 20000 in
theorem ggX6_put_X6_noCell : GoodIn wsX6_put wsX6_noCell := goodIn_r _ [19, 20, 8, 9, 5, 10, 25, 26, 27, 28, 29, 30, 31, 32, 33, 34, 35, 36, 37, 38, 39, 40, 41, 42, 43, 44, 45, 46, 47, 48, 49, 50] (by decide +kernel) (by decide +kernel)
set_option maxRecDepth 20000 in
theorem gX6_put_X6_noCell : GoodIn wsX6_put (wsV RX6 229 RX6 yX6_noCell wsX6_noCell) := goodIn_app (goodIn_of _ (by decide +kernel)) ggX6_put_X6_noCell
set_option maxRecDepth 20000 in
theorem ggX6_put_X6_failed : GoodIn wsX6_put wsX6_failed := goodIn_r _ [24, 15, 25, 26, 27, 28, 29, 30, 31, 32, 33, 34, 35, 36, 37, 38, 39, 40, 41, 42, 43, 44, 45, 46, 47, 48, 49, 50] (by decide +kernel) (by decide +kernel)
set_option maxRecDepth 20000 in
theorem gX6_put_X6_failed : GoodIn wsX6_put (wsV RX6 91 RX6 yX6_failed wsX6_failed) := goodIn_app (goodIn_of _ (by decide +kernel)) ggX6_put_X6_failed
theorem dX6_put_0 : decode cX6_put 0 = .ok (.iload_n 1, 1) := by decide +kernel
theorem dX6_put_1 : decode cX6_put 1 = .ok (.invokestatic 78, 3) := by decide +kernel
theorem dX6_put_4 : decode cX6_put 4 = .ok (.ifCond .eq 9, 3) := by decide +kernel
theorem dX6_put_7 : decode cX6_put 7 = .ok (.aload_n 0, 1) := by decide +kernel
theorem dX6_put_8 : decode cX6_put 8 = .ok (.iconst (-1), 1) := by decide +kernel
theorem dX6_put_9 : decode cX6_put 9 = .ok (.invokevirtual 82, 3) := by decide +kernel
theorem dX6_put_12 : decode cX6_put 12 = .ok (.ireturn, 1) := by decide +kernel
theorem dX6_put_13 : decode cX6_put 13 = .ok (.aload_n 0, 1) := by decide +kernel
theorem dX6_put_14 : decode cX6_put 14 = .ok (.iload_n 1, 1) := by decide +kernel
theorem dX6_put_15 : decode cX6_put 15 = .ok (.iload_n 2, 1) := by decide +kernel
theorem dX6_put_16 : decode cX6_put 16 = .ok (.invokevirtual 229, 3) := by decide +kernel
theorem dX6_put_19 : decode cX6_put 19 = .ok (.ifCond .le 14, 3) := by decide +kernel
theorem dX6_put_22 : decode cX6_put 22 = .ok (.aload_n 0, 1) := by decide +kernel
theorem dX6_put_23 : decode cX6_put 23 = .ok (.aload_n 0, 1) := by decide +kernel
theorem dX6_put_24 : decode cX6_put 24 = .ok (.iload_n 1, 1) := by decide +kernel
theorem dX6_put_25 : decode cX6_put 25 = .ok (.iload_n 2, 1) := by decide +kernel
theorem dX6_put_26 : decode cX6_put 26 = .ok (.invokevirtual 229, 3) := by decide +kernel
theorem dX6_put_29 : decode cX6_put 29 = .ok (.invokevirtual 91, 3) := by decide +kernel
theorem dX6_put_32 : decode cX6_put 32 = .ok (.ireturn, 1) := by decide +kernel
theorem dX6_put_33 : decode cX6_put 33 = .ok (.aload_n 0, 1) := by decide +kernel
theorem dX6_put_34 : decode cX6_put 34 = .ok (.getfield 49, 3) := by decide +kernel
theorem dX6_put_37 : decode cX6_put 37 = .ok (.bipush 60, 2) := by decide +kernel
theorem dX6_put_39 : decode cX6_put 39 = .ok (.iload_n 1, 1) := by decide +kernel
theorem dX6_put_40 : decode cX6_put 40 = .ok (.imul, 1) := by decide +kernel
theorem dX6_put_41 : decode cX6_put 41 = .ok (.iload_n 2, 1) := by decide +kernel
theorem dX6_put_42 : decode cX6_put 42 = .ok (.iadd, 1) := by decide +kernel
theorem dX6_put_43 : decode cX6_put 43 = .ok (.aload_n 0, 1) := by decide +kernel
theorem dX6_put_44 : decode cX6_put 44 = .ok (.getfield 46, 3) := by decide +kernel
theorem dX6_put_47 : decode cX6_put 47 = .ok (.iload_n 1, 1) := by decide +kernel
theorem dX6_put_48 : decode cX6_put 48 = .ok (.iaload, 1) := by decide +kernel
theorem dX6_put_49 : decode cX6_put 49 = .ok (.ifCond .ne 8, 3) := by decide +kernel
theorem dX6_put_52 : decode cX6_put 52 = .ok (.iload_n 3, 1) := by decide +kernel
theorem dX6_put_53 : decode cX6_put 53 = .ok (.i2b, 1) := by decide +kernel
theorem dX6_put_54 : decode cX6_put 54 = .ok (.goto 19, 3) := by decide +kernel
theorem dX6_put_57 : decode cX6_put 57 = .ok (.aload_n 0, 1) := by decide +kernel
theorem dX6_put_58 : decode cX6_put 58 = .ok (.getfield 46, 3) := by decide +kernel
theorem dX6_put_61 : decode cX6_put 61 = .ok (.iload_n 1, 1) := by decide +kernel
theorem dX6_put_62 : decode cX6_put 62 = .ok (.iaload, 1) := by decide +kernel
theorem dX6_put_63 : decode cX6_put 63 = .ok (.iconst 1, 1) := by decide +kernel
theorem dX6_put_64 : decode cX6_put 64 = .ok (.if_icmp .ne 8, 3) := by decide +kernel
theorem dX6_put_67 : decode cX6_put 67 = .ok (.iload_n 3, 1) := by decide +kernel
theorem dX6_put_68 : decode cX6_put 68 = .ok (.i2s, 1) := by decide +kernel
theorem dX6_put_69 : decode cX6_put 69 = .ok (.goto 4, 3) := by decide +kernel
theorem dX6_put_72 : decode cX6_put 72 = .ok (.iload_n 3, 1) := by decide +kernel
theorem dX6_put_73 : decode cX6_put 73 = .ok (.iastore, 1) := by decide +kernel
theorem dX6_put_74 : decode cX6_put 74 = .ok (.aload_n 0, 1) := by decide +kernel
theorem dX6_put_75 : decode cX6_put 75 = .ok (.iconst 1, 1) := by decide +kernel
theorem dX6_put_76 : decode cX6_put 76 = .ok (.invokevirtual 82, 3) := by decide +kernel
theorem dX6_put_79 : decode cX6_put 79 = .ok (.ireturn, 1) := by decide +kernel
set_option maxRecDepth 20000 in
theorem ggX6_cell_X6_noSheet : GoodIn wsX6_cell wsX6_noSheet := goodIn_r _ [9, 10, 11, 12, 8, 13] (by decide +kernel) (by decide +kernel)
set_option maxRecDepth 20000 in
theorem gX6_cell_X6_noSheet : GoodIn wsX6_cell (va_wsS RX6 78 yX6_noSheet wsX6_noSheet) := goodIn_app (goodIn_of _ (by decide +kernel)) ggX6_cell_X6_noSheet
set_option maxRecDepth 20000 in
theorem ggX6_cell_X6_in : GoodIn wsX6_cell wsX6_in := goodIn_r _ [13] (by decide +kernel) (by decide +kernel)
set_option maxRecDepth 20000 in
theorem gX6_cell_X6_in : GoodIn wsX6_cell (va_wsS RX6 87 yX6_in wsX6_in) := goodIn_app (goodIn_of _ (by decide +kernel)) ggX6_cell_X6_in
set_option maxRecDepth 20000 in
theorem ggX6_cell_X6_lost : GoodIn wsX6_cell wsX6_lost := goodIn_r _ [16, 17] (by decide +kernel) (by decide +kernel)
set_option maxRecDepth 20000 in
theorem gX6_cell_X6_lost : GoodIn wsX6_cell (va_wsS RX6 74 yX6_lost wsX6_lost) := goodIn_app (goodIn_of _ (by decide +kernel)) ggX6_cell_X6_lost
set_option maxRecDepth 20000 in
theorem ggX6_cell_X6_failedLong : GoodIn wsX6_cell wsX6_failedLong := goodIn_r _ [21, 1, 14, 15, 8, 16, 17, 26, 27, 28, 29, 30, 31, 32, 33, 34, 35, 36, 37, 38, 39, 40, 41, 42, 43, 44, 45, 46, 47, 48, 49, 50, 51] (by decide +kernel) (by decide +kernel)
set_option maxRecDepth 20000 in
theorem gX6_cell_X6_failedLong : GoodIn wsX6_cell (wsV RX6 232 RX6 yX6_failedLong wsX6_failedLong) := goodIn_app (goodIn_of _ (by decide +kernel)) ggX6_cell_X6_failedLong
set_option maxRecDepth 20000 in
theorem ggX6_cell_X6_noCell : GoodIn wsX6_cell wsX6_noCell := goodIn_r _ [25, 3, 11, 12, 8, 13, 26, 27, 28, 29, 30, 31, 32, 33, 34, 35, 36, 37, 38, 39, 40, 41, 42, 43, 44, 45, 46, 47, 48, 49, 50, 51] (by decide +kernel) (by decide +kernel)
set_option maxRecDepth 20000 in
theorem gX6_cell_X6_noCell : GoodIn wsX6_cell (wsV RX6 229 RX6 yX6_noCell wsX6_noCell) := goodIn_app (goodIn_of _ (by decide +kernel)) ggX6_cell_X6_noCell
theorem dX6_cell_0 : decode cX6_cell 0 = .ok (.aload_n 0, 1) := by decide +kernel
theorem dX6_cell_1 : decode cX6_cell 1 = .ok (.iconst 0, 1) := by decide +kernel
theorem dX6_cell_2 : decode cX6_cell 2 = .ok (.putfield 71, 3) := by decide +kernel
theorem dX6_cell_5 : decode cX6_cell 5 = .ok (.iload_n 1, 1) := by decide +kernel
theorem dX6_cell_6 : decode cX6_cell 6 = .ok (.invokestatic 78, 3) := by decide +kernel
theorem dX6_cell_9 : decode cX6_cell 9 = .ok (.ifCond .ne 15, 3) := by decide +kernel
theorem dX6_cell_12 : decode cX6_cell 12 = .ok (.iload_n 3, 1) := by decide +kernel
theorem dX6_cell_13 : decode cX6_cell 13 = .ok (.i2l, 1) := by decide +kernel
theorem dX6_cell_14 : decode cX6_cell 14 = .ok (.lconst 0, 1) := by decide +kernel
theorem dX6_cell_15 : decode cX6_cell 15 = .ok (.ldc2_w 85, 3) := by decide +kernel
theorem dX6_cell_18 : decode cX6_cell 18 = .ok (.invokestatic 87, 3) := by decide +kernel
theorem dX6_cell_21 : decode cX6_cell 21 = .ok (.ifCond .ne 7, 3) := by decide +kernel
theorem dX6_cell_24 : decode cX6_cell 24 = .ok (.invokestatic 74, 3) := by decide +kernel
theorem dX6_cell_27 : decode cX6_cell 27 = .ok (.lreturn, 1) := by decide +kernel
theorem dX6_cell_28 : decode cX6_cell 28 = .ok (.aload_n 0, 1) := by decide +kernel
theorem dX6_cell_29 : decode cX6_cell 29 = .ok (.getfield 43, 3) := by decide +kernel
theorem dX6_cell_32 : decode cX6_cell 32 = .ok (.iload_n 1, 1) := by decide +kernel
theorem dX6_cell_33 : decode cX6_cell 33 = .ok (.iaload, 1) := by decide +kernel
theorem dX6_cell_34 : decode cX6_cell 34 = .ok (.ifCond .lt 19, 3) := by decide +kernel
theorem dX6_cell_37 : decode cX6_cell 37 = .ok (.aload_n 0, 1) := by decide +kernel
theorem dX6_cell_38 : decode cX6_cell 38 = .ok (.getfield 46, 3) := by decide +kernel
theorem dX6_cell_41 : decode cX6_cell 41 = .ok (.iload_n 1, 1) := by decide +kernel
theorem dX6_cell_42 : decode cX6_cell 42 = .ok (.iaload, 1) := by decide +kernel
theorem dX6_cell_43 : decode cX6_cell 43 = .ok (.iload_n 3, 1) := by decide +kernel
theorem dX6_cell_44 : decode cX6_cell 44 = .ok (.if_icmp .eq 9, 3) := by decide +kernel
theorem dX6_cell_47 : decode cX6_cell 47 = .ok (.aload_n 0, 1) := by decide +kernel
theorem dX6_cell_48 : decode cX6_cell 48 = .ok (.iconst 2, 1) := by decide +kernel
theorem dX6_cell_49 : decode cX6_cell 49 = .ok (.invokevirtual 232, 3) := by decide +kernel
theorem dX6_cell_52 : decode cX6_cell 52 = .ok (.lreturn, 1) := by decide +kernel
theorem dX6_cell_53 : decode cX6_cell 53 = .ok (.aload_n 0, 1) := by decide +kernel
theorem dX6_cell_54 : decode cX6_cell 54 = .ok (.iload_n 1, 1) := by decide +kernel
theorem dX6_cell_55 : decode cX6_cell 55 = .ok (.iload_n 2, 1) := by decide +kernel
theorem dX6_cell_56 : decode cX6_cell 56 = .ok (.invokevirtual 229, 3) := by decide +kernel
theorem dX6_cell_59 : decode cX6_cell 59 = .ok (.ifCond .le 16, 3) := by decide +kernel
theorem dX6_cell_62 : decode cX6_cell 62 = .ok (.aload_n 0, 1) := by decide +kernel
theorem dX6_cell_63 : decode cX6_cell 63 = .ok (.aload_n 0, 1) := by decide +kernel
theorem dX6_cell_64 : decode cX6_cell 64 = .ok (.iload_n 1, 1) := by decide +kernel
theorem dX6_cell_65 : decode cX6_cell 65 = .ok (.iload_n 2, 1) := by decide +kernel
theorem dX6_cell_66 : decode cX6_cell 66 = .ok (.invokevirtual 229, 3) := by decide +kernel
theorem dX6_cell_69 : decode cX6_cell 69 = .ok (.invokevirtual 232, 3) := by decide +kernel
theorem dX6_cell_72 : decode cX6_cell 72 = .ok (.goto 15, 3) := by decide +kernel
theorem dX6_cell_75 : decode cX6_cell 75 = .ok (.aload_n 0, 1) := by decide +kernel
theorem dX6_cell_76 : decode cX6_cell 76 = .ok (.getfield 49, 3) := by decide +kernel
theorem dX6_cell_79 : decode cX6_cell 79 = .ok (.bipush 60, 2) := by decide +kernel
theorem dX6_cell_81 : decode cX6_cell 81 = .ok (.iload_n 1, 1) := by decide +kernel
theorem dX6_cell_82 : decode cX6_cell 82 = .ok (.imul, 1) := by decide +kernel
theorem dX6_cell_83 : decode cX6_cell 83 = .ok (.iload_n 2, 1) := by decide +kernel
theorem dX6_cell_84 : decode cX6_cell 84 = .ok (.iadd, 1) := by decide +kernel
theorem dX6_cell_85 : decode cX6_cell 85 = .ok (.iaload, 1) := by decide +kernel
theorem dX6_cell_86 : decode cX6_cell 86 = .ok (.i2l, 1) := by decide +kernel
theorem dX6_cell_87 : decode cX6_cell 87 = .ok (.lreturn, 1) := by decide +kernel
theorem dX6_isBeyond_0 : decode cX6_isBeyond 0 = .ok (.iload_n 0, 1) := by decide +kernel
theorem dX6_isBeyond_1 : decode cX6_isBeyond 1 = .ok (.ifCond .lt 19, 3) := by decide +kernel
theorem dX6_isBeyond_4 : decode cX6_isBeyond 4 = .ok (.lload_n 1, 1) := by decide +kernel
theorem dX6_isBeyond_5 : decode cX6_isBeyond 5 = .ok (.lconst 0, 1) := by decide +kernel
theorem dX6_isBeyond_6 : decode cX6_isBeyond 6 = .ok (.lcmp, 1) := by decide +kernel
theorem dX6_isBeyond_7 : decode cX6_isBeyond 7 = .ok (.ifCond .lt 13, 3) := by decide +kernel
theorem dX6_isBeyond_10 : decode cX6_isBeyond 10 = .ok (.iload_n 0, 1) := by decide +kernel
theorem dX6_isBeyond_11 : decode cX6_isBeyond 11 = .ok (.i2l, 1) := by decide +kernel
theorem dX6_isBeyond_12 : decode cX6_isBeyond 12 = .ok (.lload_n 1, 1) := by decide +kernel
theorem dX6_isBeyond_13 : decode cX6_isBeyond 13 = .ok (.ladd, 1) := by decide +kernel
theorem dX6_isBeyond_14 : decode cX6_isBeyond 14 = .ok (.iload_n 3, 1) := by decide +kernel
theorem dX6_isBeyond_15 : decode cX6_isBeyond 15 = .ok (.i2l, 1) := by decide +kernel
theorem dX6_isBeyond_16 : decode cX6_isBeyond 16 = .ok (.lcmp, 1) := by decide +kernel
theorem dX6_isBeyond_17 : decode cX6_isBeyond 17 = .ok (.ifCond .le 7, 3) := by decide +kernel
theorem dX6_isBeyond_20 : decode cX6_isBeyond 20 = .ok (.iconst 1, 1) := by decide +kernel
theorem dX6_isBeyond_21 : decode cX6_isBeyond 21 = .ok (.goto 4, 3) := by decide +kernel
theorem dX6_isBeyond_24 : decode cX6_isBeyond 24 = .ok (.iconst 0, 1) := by decide +kernel
theorem dX6_isBeyond_25 : decode cX6_isBeyond 25 = .ok (.ireturn, 1) := by decide +kernel
set_option maxRecDepth 20000 in
theorem ggX6_copy_X6_noSheet : GoodIn wsX6_copy wsX6_noSheet := goodIn_r _ [8, 9, 10, 11, 7, 12] (by decide +kernel) (by decide +kernel)
set_option maxRecDepth 20000 in
theorem gX6_copy_X6_noSheet : GoodIn wsX6_copy (va_wsS RX6 78 yX6_noSheet wsX6_noSheet) := goodIn_app (goodIn_of _ (by decide +kernel)) ggX6_copy_X6_noSheet
set_option maxRecDepth 20000 in
theorem ggX6_copy_X6_refused : GoodIn wsX6_copy wsX6_refused := goodIn_r _ [16, 17, 25, 26, 27, 28, 29, 30, 31, 32, 33, 34, 35, 36, 37, 38, 39, 40, 41, 42, 43, 44, 45, 46, 47, 48, 49, 50] (by decide +kernel) (by decide +kernel)
set_option maxRecDepth 20000 in
theorem gX6_copy_X6_refused : GoodIn wsX6_copy (wsV RX6 82 RX6 yX6_refused wsX6_refused) := goodIn_app (goodIn_of _ (by decide +kernel)) ggX6_copy_X6_refused
set_option maxRecDepth 20000 in
theorem ggX6_copy_X6_failed : GoodIn wsX6_copy wsX6_failed := goodIn_r _ [21, 17, 25, 26, 27, 28, 29, 30, 31, 32, 33, 34, 35, 36, 37, 38, 39, 40, 41, 42, 43, 44, 45, 46, 47, 48, 49, 50] (by decide +kernel) (by decide +kernel)
set_option maxRecDepth 20000 in
theorem gX6_copy_X6_failed : GoodIn wsX6_copy (wsV RX6 91 RX6 yX6_failed wsX6_failed) := goodIn_app (goodIn_of _ (by decide +kernel)) ggX6_copy_X6_failed
set_option maxRecDepth 20000 in
theorem ggX6_copy_X6_isBeyond : GoodIn wsX6_copy wsX6_isBeyond := goodIn_r _ [24] (by decide +kernel) (by decide +kernel)
set_option maxRecDepth 20000 in
theorem gX6_copy_X6_isBeyond : GoodIn wsX6_copy (va_wsS RX6 94 yX6_isBeyond wsX6_isBeyond) := goodIn_app (goodIn_of _ (by decide +kernel)) ggX6_copy_X6_isBeyond
theorem dX6_copy_0 : decode cX6_copy 0 = .ok (.iload_n 1, 1) := by decide +kernel
theorem dX6_copy_1 : decode cX6_copy 1 = .ok (.invokestatic 78, 3) := by decide +kernel
theorem dX6_copy_4 : decode cX6_copy 4 = .ok (.ifCond .ne 10, 3) := by decide +kernel
theorem dX6_copy_7 : decode cX6_copy 7 = .ok (.iload_n 3, 1) := by decide +kernel
theorem dX6_copy_8 : decode cX6_copy 8 = .ok (.invokestatic 78, 3) := by decide +kernel
theorem dX6_copy_11 : decode cX6_copy 11 = .ok (.ifCond .eq 9, 3) := by decide +kernel
theorem dX6_copy_14 : decode cX6_copy 14 = .ok (.aload_n 0, 1) := by decide +kernel
theorem dX6_copy_15 : decode cX6_copy 15 = .ok (.iconst (-1), 1) := by decide +kernel
theorem dX6_copy_16 : decode cX6_copy 16 = .ok (.invokevirtual 82, 3) := by decide +kernel
theorem dX6_copy_19 : decode cX6_copy 19 = .ok (.ireturn, 1) := by decide +kernel
theorem dX6_copy_20 : decode cX6_copy 20 = .ok (.aload_n 0, 1) := by decide +kernel
theorem dX6_copy_21 : decode cX6_copy 21 = .ok (.getfield 43, 3) := by decide +kernel
theorem dX6_copy_24 : decode cX6_copy 24 = .ok (.iload_n 1, 1) := by decide +kernel
theorem dX6_copy_25 : decode cX6_copy 25 = .ok (.iaload, 1) := by decide +kernel
theorem dX6_copy_26 : decode cX6_copy 26 = .ok (.ifCond .lt 12, 3) := by decide +kernel
theorem dX6_copy_29 : decode cX6_copy 29 = .ok (.aload_n 0, 1) := by decide +kernel
theorem dX6_copy_30 : decode cX6_copy 30 = .ok (.getfield 43, 3) := by decide +kernel
theorem dX6_copy_33 : decode cX6_copy 33 = .ok (.iload_n 3, 1) := by decide +kernel
theorem dX6_copy_34 : decode cX6_copy 34 = .ok (.iaload, 1) := by decide +kernel
theorem dX6_copy_35 : decode cX6_copy 35 = .ok (.ifCond .ge 9, 3) := by decide +kernel
theorem dX6_copy_38 : decode cX6_copy 38 = .ok (.aload_n 0, 1) := by decide +kernel
theorem dX6_copy_39 : decode cX6_copy 39 = .ok (.iconst 1, 1) := by decide +kernel
theorem dX6_copy_40 : decode cX6_copy 40 = .ok (.invokevirtual 91, 3) := by decide +kernel
theorem dX6_copy_43 : decode cX6_copy 43 = .ok (.ireturn, 1) := by decide +kernel
theorem dX6_copy_44 : decode cX6_copy 44 = .ok (.aload_n 0, 1) := by decide +kernel
theorem dX6_copy_45 : decode cX6_copy 45 = .ok (.getfield 46, 3) := by decide +kernel
theorem dX6_copy_48 : decode cX6_copy 48 = .ok (.iload_n 1, 1) := by decide +kernel
theorem dX6_copy_49 : decode cX6_copy 49 = .ok (.iaload, 1) := by decide +kernel
theorem dX6_copy_50 : decode cX6_copy 50 = .ok (.aload_n 0, 1) := by decide +kernel
theorem dX6_copy_51 : decode cX6_copy 51 = .ok (.getfield 46, 3) := by decide +kernel
theorem dX6_copy_54 : decode cX6_copy 54 = .ok (.iload_n 3, 1) := by decide +kernel
theorem dX6_copy_55 : decode cX6_copy 55 = .ok (.iaload, 1) := by decide +kernel
theorem dX6_copy_56 : decode cX6_copy 56 = .ok (.if_icmp .eq 9, 3) := by decide +kernel
theorem dX6_copy_59 : decode cX6_copy 59 = .ok (.aload_n 0, 1) := by decide +kernel
theorem dX6_copy_60 : decode cX6_copy 60 = .ok (.iconst 2, 1) := by decide +kernel
theorem dX6_copy_61 : decode cX6_copy 61 = .ok (.invokevirtual 91, 3) := by decide +kernel
theorem dX6_copy_64 : decode cX6_copy 64 = .ok (.ireturn, 1) := by decide +kernel
theorem dX6_copy_65 : decode cX6_copy 65 = .ok (.iload_n 2, 1) := by decide +kernel
theorem dX6_copy_66 : decode cX6_copy 66 = .ok (.iload 5, 2) := by decide +kernel
theorem dX6_copy_68 : decode cX6_copy 68 = .ok (.i2l, 1) := by decide +kernel
theorem dX6_copy_69 : decode cX6_copy 69 = .ok (.aload_n 0, 1) := by decide +kernel
theorem dX6_copy_70 : decode cX6_copy 70 = .ok (.getfield 43, 3) := by decide +kernel
theorem dX6_copy_73 : decode cX6_copy 73 = .ok (.iload_n 1, 1) := by decide +kernel
theorem dX6_copy_74 : decode cX6_copy 74 = .ok (.iaload, 1) := by decide +kernel
theorem dX6_copy_75 : decode cX6_copy 75 = .ok (.invokestatic 94, 3) := by decide +kernel
theorem dX6_copy_78 : decode cX6_copy 78 = .ok (.ifCond .ne 20, 3) := by decide +kernel
theorem dX6_copy_81 : decode cX6_copy 81 = .ok (.iload 4, 2) := by decide +kernel
theorem dX6_copy_83 : decode cX6_copy 83 = .ok (.iload 5, 2) := by decide +kernel
theorem dX6_copy_85 : decode cX6_copy 85 = .ok (.i2l, 1) := by decide +kernel
theorem dX6_copy_86 : decode cX6_copy 86 = .ok (.aload_n 0, 1) := by decide +kernel
theorem dX6_copy_87 : decode cX6_copy 87 = .ok (.getfield 43, 3) := by decide +kernel
theorem dX6_copy_90 : decode cX6_copy 90 = .ok (.iload_n 3, 1) := by decide +kernel
theorem dX6_copy_91 : decode cX6_copy 91 = .ok (.iaload, 1) := by decide +kernel
theorem dX6_copy_92 : decode cX6_copy 92 = .ok (.invokestatic 94, 3) := by decide +kernel
theorem dX6_copy_95 : decode cX6_copy 95 = .ok (.ifCond .eq 9, 3) := by decide +kernel
theorem dX6_copy_98 : decode cX6_copy 98 = .ok (.aload_n 0, 1) := by decide +kernel
theorem dX6_copy_99 : decode cX6_copy 99 = .ok (.iconst 3, 1) := by decide +kernel
theorem dX6_copy_100 : decode cX6_copy 100 = .ok (.invokevirtual 91, 3) := by decide +kernel
theorem dX6_copy_103 : decode cX6_copy 103 = .ok (.ireturn, 1) := by decide +kernel
theorem dX6_copy_104 : decode cX6_copy 104 = .ok (.iconst 0, 1) := by decide +kernel
theorem dX6_copy_105 : decode cX6_copy 105 = .ok (.istore 6, 2) := by decide +kernel
theorem dX6_copy_107 : decode cX6_copy 107 = .ok (.iload 6, 2) := by decide +kernel
theorem dX6_copy_109 : decode cX6_copy 109 = .ok (.iload 5, 2) := by decide +kernel
theorem dX6_copy_111 : decode cX6_copy 111 = .ok (.if_icmp .ge 30, 3) := by decide +kernel
theorem dX6_copy_114 : decode cX6_copy 114 = .ok (.aload_n 0, 1) := by decide +kernel
theorem dX6_copy_115 : decode cX6_copy 115 = .ok (.getfield 52, 3) := by decide +kernel
theorem dX6_copy_118 : decode cX6_copy 118 = .ok (.iload 6, 2) := by decide +kernel
theorem dX6_copy_120 : decode cX6_copy 120 = .ok (.aload_n 0, 1) := by decide +kernel
theorem dX6_copy_121 : decode cX6_copy 121 = .ok (.getfield 49, 3) := by decide +kernel
theorem dX6_copy_124 : decode cX6_copy 124 = .ok (.bipush 60, 2) := by decide +kernel
theorem dX6_copy_126 : decode cX6_copy 126 = .ok (.iload_n 1, 1) := by decide +kernel
theorem dX6_copy_127 : decode cX6_copy 127 = .ok (.imul, 1) := by decide +kernel
theorem dX6_copy_128 : decode cX6_copy 128 = .ok (.iload_n 2, 1) := by decide +kernel
theorem dX6_copy_129 : decode cX6_copy 129 = .ok (.iadd, 1) := by decide +kernel
theorem dX6_copy_130 : decode cX6_copy 130 = .ok (.iload 6, 2) := by decide +kernel
theorem dX6_copy_132 : decode cX6_copy 132 = .ok (.iadd, 1) := by decide +kernel
theorem dX6_copy_133 : decode cX6_copy 133 = .ok (.iaload, 1) := by decide +kernel
theorem dX6_copy_134 : decode cX6_copy 134 = .ok (.iastore, 1) := by decide +kernel
theorem dX6_copy_135 : decode cX6_copy 135 = .ok (.iinc 6 1, 3) := by decide +kernel
theorem dX6_copy_138 : decode cX6_copy 138 = .ok (.goto (-31), 3) := by decide +kernel
theorem dX6_copy_141 : decode cX6_copy 141 = .ok (.iconst 0, 1) := by decide +kernel
theorem dX6_copy_142 : decode cX6_copy 142 = .ok (.istore 6, 2) := by decide +kernel
theorem dX6_copy_144 : decode cX6_copy 144 = .ok (.iload 6, 2) := by decide +kernel
theorem dX6_copy_146 : decode cX6_copy 146 = .ok (.iload 5, 2) := by decide +kernel
theorem dX6_copy_148 : decode cX6_copy 148 = .ok (.if_icmp .ge 31, 3) := by decide +kernel
theorem dX6_copy_151 : decode cX6_copy 151 = .ok (.aload_n 0, 1) := by decide +kernel
theorem dX6_copy_152 : decode cX6_copy 152 = .ok (.getfield 49, 3) := by decide +kernel
theorem dX6_copy_155 : decode cX6_copy 155 = .ok (.bipush 60, 2) := by decide +kernel
theorem dX6_copy_157 : decode cX6_copy 157 = .ok (.iload_n 3, 1) := by decide +kernel
theorem dX6_copy_158 : decode cX6_copy 158 = .ok (.imul, 1) := by decide +kernel
theorem dX6_copy_159 : decode cX6_copy 159 = .ok (.iload 4, 2) := by decide +kernel
theorem dX6_copy_161 : decode cX6_copy 161 = .ok (.iadd, 1) := by decide +kernel
theorem dX6_copy_162 : decode cX6_copy 162 = .ok (.iload 6, 2) := by decide +kernel
theorem dX6_copy_164 : decode cX6_copy 164 = .ok (.iadd, 1) := by decide +kernel
theorem dX6_copy_165 : decode cX6_copy 165 = .ok (.aload_n 0, 1) := by decide +kernel
theorem dX6_copy_166 : decode cX6_copy 166 = .ok (.getfield 52, 3) := by decide +kernel
theorem dX6_copy_169 : decode cX6_copy 169 = .ok (.iload 6, 2) := by decide +kernel
theorem dX6_copy_171 : decode cX6_copy 171 = .ok (.iaload, 1) := by decide +kernel
theorem dX6_copy_172 : decode cX6_copy 172 = .ok (.iastore, 1) := by decide +kernel
theorem dX6_copy_173 : decode cX6_copy 173 = .ok (.iinc 6 1, 3) := by decide +kernel
theorem dX6_copy_176 : decode cX6_copy 176 = .ok (.goto (-32), 3) := by decide +kernel
theorem dX6_copy_179 : decode cX6_copy 179 = .ok (.aload_n 0, 1) := by decide +kernel
theorem dX6_copy_180 : decode cX6_copy 180 = .ok (.iload 5, 2) := by decide +kernel
theorem dX6_copy_182 : decode cX6_copy 182 = .ok (.invokevirtual 82, 3) := by decide +kernel
theorem dX6_copy_185 : decode cX6_copy 185 = .ok (.ireturn, 1) := by decide +kernel
theorem dX6_traced_0 : decode cX6_traced 0 = .ok (.aload_n 0, 1) := by decide +kernel
theorem dX6_traced_1 : decode cX6_traced 1 = .ok (.bipush 31, 2) := by decide +kernel
theorem dX6_traced_3 : decode cX6_traced 3 = .ok (.aload_n 0, 1) := by decide +kernel
theorem dX6_traced_4 : decode cX6_traced 4 = .ok (.getfield 235, 3) := by decide +kernel
theorem dX6_traced_7 : decode cX6_traced 7 = .ok (.imul, 1) := by decide +kernel
theorem dX6_traced_8 : decode cX6_traced 8 = .ok (.iload_n 1, 1) := by decide +kernel
theorem dX6_traced_9 : decode cX6_traced 9 = .ok (.iadd, 1) := by decide +kernel
theorem dX6_traced_10 : decode cX6_traced 10 = .ok (.putfield 235, 3) := by decide +kernel
theorem dX6_traced_13 : decode cX6_traced 13 = .ok (.return_, 1) := by decide +kernel
set_option maxRecDepth 20000 in
theorem ggX6_tell_X6_noTouch : GoodIn wsX6_tell wsX6_noTouch := goodIn_r _ [6, 7, 8, 9, 5, 10, 16, 17, 18, 19, 20, 21, 22, 23, 24, 25, 26, 27, 28, 29, 30, 31, 32, 33, 34, 35, 36, 37, 38, 39, 40, 41] (by decide +kernel) (by decide +kernel)
set_option maxRecDepth 20000 in
theorem gX6_tell_X6_noTouch : GoodIn wsX6_tell (wsV RX6 182 RX6 yX6_noTouch wsX6_noTouch) := goodIn_app (goodIn_of _ (by decide +kernel)) ggX6_tell_X6_noTouch
set_option maxRecDepth 20000 in
theorem ggX6_tell_X6_traced : GoodIn wsX6_tell wsX6_traced := goodIn_r _ [14, 15, 16, 17, 18, 19, 20, 21, 22, 23, 24, 25, 26, 27, 28, 29, 30, 31, 32, 33, 34, 35, 36, 37, 38, 39, 40, 41] (by decide +kernel) (by decide +kernel)
set_option maxRecDepth 20000 in
theorem gX6_tell_X6_traced : GoodIn wsX6_tell (wsV RX6 238 RX6 yX6_traced wsX6_traced) := goodIn_app (goodIn_of _ (by decide +kernel)) ggX6_tell_X6_traced
theorem dX6_tell_0 : decode cX6_tell 0 = .ok (.aload_n 0, 1) := by decide +kernel
theorem dX6_tell_1 : decode cX6_tell 1 = .ok (.iload_n 1, 1) := by decide +kernel
theorem dX6_tell_2 : decode cX6_tell 2 = .ok (.invokevirtual 182, 3) := by decide +kernel
theorem dX6_tell_5 : decode cX6_tell 5 = .ok (.ifCond .eq 5, 3) := by decide +kernel
theorem dX6_tell_8 : decode cX6_tell 8 = .ok (.iconst (-1), 1) := by decide +kernel
theorem dX6_tell_9 : decode cX6_tell 9 = .ok (.ireturn, 1) := by decide +kernel
theorem dX6_tell_10 : decode cX6_tell 10 = .ok (.aload_n 0, 1) := by decide +kernel
theorem dX6_tell_11 : decode cX6_tell 11 = .ok (.getfield 37, 3) := by decide +kernel
theorem dX6_tell_14 : decode cX6_tell 14 = .ok (.bipush 9, 2) := by decide +kernel
theorem dX6_tell_16 : decode cX6_tell 16 = .ok (.iload_n 1, 1) := by decide +kernel
theorem dX6_tell_17 : decode cX6_tell 17 = .ok (.imul, 1) := by decide +kernel
theorem dX6_tell_18 : decode cX6_tell 18 = .ok (.iaload, 1) := by decide +kernel
theorem dX6_tell_19 : decode cX6_tell 19 = .ok (.istore_n 2, 1) := by decide +kernel
theorem dX6_tell_20 : decode cX6_tell 20 = .ok (.aload_n 0, 1) := by decide +kernel
theorem dX6_tell_21 : decode cX6_tell 21 = .ok (.getfield 37, 3) := by decide +kernel
theorem dX6_tell_24 : decode cX6_tell 24 = .ok (.bipush 9, 2) := by decide +kernel
theorem dX6_tell_26 : decode cX6_tell 26 = .ok (.iload_n 1, 1) := by decide +kernel
theorem dX6_tell_27 : decode cX6_tell 27 = .ok (.imul, 1) := by decide +kernel
theorem dX6_tell_28 : decode cX6_tell 28 = .ok (.iconst 1, 1) := by decide +kernel
theorem dX6_tell_29 : decode cX6_tell 29 = .ok (.iadd, 1) := by decide +kernel
theorem dX6_tell_30 : decode cX6_tell 30 = .ok (.iaload, 1) := by decide +kernel
theorem dX6_tell_31 : decode cX6_tell 31 = .ok (.istore_n 3, 1) := by decide +kernel
theorem dX6_tell_32 : decode cX6_tell 32 = .ok (.iload_n 2, 1) := by decide +kernel
theorem dX6_tell_33 : decode cX6_tell 33 = .ok (.iconst 1, 1) := by decide +kernel
theorem dX6_tell_34 : decode cX6_tell 34 = .ok (.if_icmp .le 18, 3) := by decide +kernel
theorem dX6_tell_37 : decode cX6_tell 37 = .ok (.aload_n 0, 1) := by decide +kernel
theorem dX6_tell_38 : decode cX6_tell 38 = .ok (.iload_n 2, 1) := by decide +kernel
theorem dX6_tell_39 : decode cX6_tell 39 = .ok (.iconst 2, 1) := by decide +kernel
theorem dX6_tell_40 : decode cX6_tell 40 = .ok (.if_icmp .ne 7, 3) := by decide +kernel
theorem dX6_tell_43 : decode cX6_tell 43 = .ok (.iconst 3, 1) := by decide +kernel
theorem dX6_tell_44 : decode cX6_tell 44 = .ok (.goto 5, 3) := by decide +kernel
theorem dX6_tell_47 : decode cX6_tell 47 = .ok (.bipush 6, 2) := by decide +kernel
theorem dX6_tell_49 : decode cX6_tell 49 = .ok (.invokevirtual 238, 3) := by decide +kernel
theorem dX6_tell_52 : decode cX6_tell 52 = .ok (.iload_n 2, 1) := by decide +kernel
theorem dX6_tell_53 : decode cX6_tell 53 = .ok (.ifCond .le 8, 3) := by decide +kernel
theorem dX6_tell_56 : decode cX6_tell 56 = .ok (.aload_n 0, 1) := by decide +kernel
theorem dX6_tell_57 : decode cX6_tell 57 = .ok (.iconst 2, 1) := by decide +kernel
theorem dX6_tell_58 : decode cX6_tell 58 = .ok (.invokevirtual 238, 3) := by decide +kernel
theorem dX6_tell_61 : decode cX6_tell 61 = .ok (.aload_n 0, 1) := by decide +kernel
theorem dX6_tell_62 : decode cX6_tell 62 = .ok (.iconst 1, 1) := by decide +kernel
theorem dX6_tell_63 : decode cX6_tell 63 = .ok (.invokevirtual 238, 3) := by decide +kernel
theorem dX6_tell_66 : decode cX6_tell 66 = .ok (.iload_n 2, 1) := by decide +kernel
theorem dX6_tell_67 : decode cX6_tell 67 = .ok (.iconst 2, 1) := by decide +kernel
theorem dX6_tell_68 : decode cX6_tell 68 = .ok (.if_icmp .ne 8, 3) := by decide +kernel
theorem dX6_tell_71 : decode cX6_tell 71 = .ok (.aload_n 0, 1) := by decide +kernel
theorem dX6_tell_72 : decode cX6_tell 72 = .ok (.iconst 1, 1) := by decide +kernel
theorem dX6_tell_73 : decode cX6_tell 73 = .ok (.invokevirtual 238, 3) := by decide +kernel
theorem dX6_tell_76 : decode cX6_tell 76 = .ok (.iload_n 2, 1) := by decide +kernel
theorem dX6_tell_77 : decode cX6_tell 77 = .ok (.ifCond .ne 7, 3) := by decide +kernel
theorem dX6_tell_80 : decode cX6_tell 80 = .ok (.iload_n 3, 1) := by decide +kernel
theorem dX6_tell_81 : decode cX6_tell 81 = .ok (.goto 36, 3) := by decide +kernel
theorem dX6_tell_84 : decode cX6_tell 84 = .ok (.iload_n 2, 1) := by decide +kernel
theorem dX6_tell_85 : decode cX6_tell 85 = .ok (.iconst 1, 1) := by decide +kernel
theorem dX6_tell_86 : decode cX6_tell 86 = .ok (.if_icmp .ne 11, 3) := by decide +kernel
theorem dX6_tell_89 : decode cX6_tell 89 = .ok (.iload_n 3, 1) := by decide +kernel
theorem dX6_tell_90 : decode cX6_tell 90 = .ok (.sipush 1000, 3) := by decide +kernel
theorem dX6_tell_93 : decode cX6_tell 93 = .ok (.iadd, 1) := by decide +kernel
theorem dX6_tell_94 : decode cX6_tell 94 = .ok (.goto 23, 3) := by decide +kernel
theorem dX6_tell_97 : decode cX6_tell 97 = .ok (.iload_n 2, 1) := by decide +kernel
theorem dX6_tell_98 : decode cX6_tell 98 = .ok (.iconst 2, 1) := by decide +kernel
theorem dX6_tell_99 : decode cX6_tell 99 = .ok (.if_icmp .ne 13, 3) := by decide +kernel
theorem dX6_tell_102 : decode cX6_tell 102 = .ok (.iconst 2, 1) := by decide +kernel
theorem dX6_tell_103 : decode cX6_tell 103 = .ok (.iload_n 3, 1) := by decide +kernel
theorem dX6_tell_104 : decode cX6_tell 104 = .ok (.imul, 1) := by decide +kernel
theorem dX6_tell_105 : decode cX6_tell 105 = .ok (.sipush 1000, 3) := by decide +kernel
theorem dX6_tell_108 : decode cX6_tell 108 = .ok (.iadd, 1) := by decide +kernel
theorem dX6_tell_109 : decode cX6_tell 109 = .ok (.goto 8, 3) := by decide +kernel
theorem dX6_tell_112 : decode cX6_tell 112 = .ok (.iload_n 3, 1) := by decide +kernel
theorem dX6_tell_113 : decode cX6_tell 113 = .ok (.sipush 6000, 3) := by decide +kernel
theorem dX6_tell_116 : decode cX6_tell 116 = .ok (.iadd, 1) := by decide +kernel
theorem dX6_tell_117 : decode cX6_tell 117 = .ok (.ireturn, 1) := by decide +kernel
set_option maxRecDepth 20000 in
theorem ggX6_hear_X6_noTouch : GoodIn wsX6_hear wsX6_noTouch := goodIn_r _ [6, 7, 8, 9, 5, 10, 16, 17, 18, 19, 20, 21, 22, 23, 24, 25, 26, 27, 28, 29, 30, 31, 32, 33, 34, 35, 36, 37, 38, 39, 40, 41] (by decide +kernel) (by decide +kernel)
set_option maxRecDepth 20000 in
theorem gX6_hear_X6_noTouch : GoodIn wsX6_hear (wsV RX6 182 RX6 yX6_noTouch wsX6_noTouch) := goodIn_app (goodIn_of _ (by decide +kernel)) ggX6_hear_X6_noTouch
set_option maxRecDepth 20000 in
theorem ggX6_hear_X6_traced : GoodIn wsX6_hear wsX6_traced := goodIn_r _ [14, 15, 16, 17, 18, 19, 20, 21, 22, 23, 24, 25, 26, 27, 28, 29, 30, 31, 32, 33, 34, 35, 36, 37, 38, 39, 40, 41] (by decide +kernel) (by decide +kernel)
set_option maxRecDepth 20000 in
theorem gX6_hear_X6_traced : GoodIn wsX6_hear (wsV RX6 238 RX6 yX6_traced wsX6_traced) := goodIn_app (goodIn_of _ (by decide +kernel)) ggX6_hear_X6_traced
theorem dX6_hear_0 : decode cX6_hear 0 = .ok (.aload_n 0, 1) := by decide +kernel
theorem dX6_hear_1 : decode cX6_hear 1 = .ok (.iload_n 1, 1) := by decide +kernel
theorem dX6_hear_2 : decode cX6_hear 2 = .ok (.invokevirtual 182, 3) := by decide +kernel
theorem dX6_hear_5 : decode cX6_hear 5 = .ok (.ifCond .eq 5, 3) := by decide +kernel
theorem dX6_hear_8 : decode cX6_hear 8 = .ok (.iconst (-1), 1) := by decide +kernel
theorem dX6_hear_9 : decode cX6_hear 9 = .ok (.ireturn, 1) := by decide +kernel
theorem dX6_hear_10 : decode cX6_hear 10 = .ok (.aload_n 0, 1) := by decide +kernel
theorem dX6_hear_11 : decode cX6_hear 11 = .ok (.aload_n 0, 1) := by decide +kernel
theorem dX6_hear_12 : decode cX6_hear 12 = .ok (.getfield 37, 3) := by decide +kernel
theorem dX6_hear_15 : decode cX6_hear 15 = .ok (.bipush 9, 2) := by decide +kernel
theorem dX6_hear_17 : decode cX6_hear 17 = .ok (.iload_n 1, 1) := by decide +kernel
theorem dX6_hear_18 : decode cX6_hear 18 = .ok (.imul, 1) := by decide +kernel
theorem dX6_hear_19 : decode cX6_hear 19 = .ok (.iaload, 1) := by decide +kernel
theorem dX6_hear_20 : decode cX6_hear 20 = .ok (.iconst 2, 1) := by decide +kernel
theorem dX6_hear_21 : decode cX6_hear 21 = .ok (.if_icmp .ne 7, 3) := by decide +kernel
theorem dX6_hear_24 : decode cX6_hear 24 = .ok (.iconst 5, 1) := by decide +kernel
theorem dX6_hear_25 : decode cX6_hear 25 = .ok (.goto 4, 3) := by decide +kernel
theorem dX6_hear_28 : decode cX6_hear 28 = .ok (.iconst 4, 1) := by decide +kernel
theorem dX6_hear_29 : decode cX6_hear 29 = .ok (.invokevirtual 238, 3) := by decide +kernel
theorem dX6_hear_32 : decode cX6_hear 32 = .ok (.aload_n 0, 1) := by decide +kernel
theorem dX6_hear_33 : decode cX6_hear 33 = .ok (.getfield 37, 3) := by decide +kernel
theorem dX6_hear_36 : decode cX6_hear 36 = .ok (.bipush 9, 2) := by decide +kernel
theorem dX6_hear_38 : decode cX6_hear 38 = .ok (.iload_n 1, 1) := by decide +kernel
theorem dX6_hear_39 : decode cX6_hear 39 = .ok (.imul, 1) := by decide +kernel
theorem dX6_hear_40 : decode cX6_hear 40 = .ok (.iaload, 1) := by decide +kernel
theorem dX6_hear_41 : decode cX6_hear 41 = .ok (.iconst 2, 1) := by decide +kernel
theorem dX6_hear_42 : decode cX6_hear 42 = .ok (.if_icmp .ne 8, 3) := by decide +kernel
theorem dX6_hear_45 : decode cX6_hear 45 = .ok (.bipush 60, 2) := by decide +kernel
theorem dX6_hear_47 : decode cX6_hear 47 = .ok (.goto 4, 3) := by decide +kernel
theorem dX6_hear_50 : decode cX6_hear 50 = .ok (.iload_n 1, 1) := by decide +kernel
theorem dX6_hear_51 : decode cX6_hear 51 = .ok (.ireturn, 1) := by decide +kernel
set_option maxRecDepth 20000 in
theorem ggX6_as_X6_noTouch : GoodIn wsX6_as wsX6_noTouch := goodIn_r _ [7, 8, 9, 10, 6, 11, 21, 22, 23, 24, 25, 26, 27, 28, 29, 30, 31, 32, 33, 34, 35, 36, 37, 38, 39, 40, 41, 42, 43, 44, 45, 46] (by decide +kernel) (by decide +kernel)
set_option maxRecDepth 20000 in
theorem gX6_as_X6_noTouch : GoodIn wsX6_as (wsV RX6 182 RX6 yX6_noTouch wsX6_noTouch) := goodIn_app (goodIn_of _ (by decide +kernel)) ggX6_as_X6_noTouch
set_option maxRecDepth 20000 in
theorem ggX6_as_X6_refused : GoodIn wsX6_as wsX6_refused := goodIn_r _ [15, 16, 21, 22, 23, 24, 25, 26, 27, 28, 29, 30, 31, 32, 33, 34, 35, 36, 37, 38, 39, 40, 41, 42, 43, 44, 45, 46] (by decide +kernel) (by decide +kernel)
set_option maxRecDepth 20000 in
theorem gX6_as_X6_refused : GoodIn wsX6_as (wsV RX6 82 RX6 yX6_refused wsX6_refused) := goodIn_app (goodIn_of _ (by decide +kernel)) ggX6_as_X6_refused
set_option maxRecDepth 20000 in
theorem ggX6_as_X6_in : GoodIn wsX6_as wsX6_in := goodIn_r _ [11] (by decide +kernel) (by decide +kernel)
set_option maxRecDepth 20000 in
theorem gX6_as_X6_in : GoodIn wsX6_as (va_wsS RX6 87 yX6_in wsX6_in) := goodIn_app (goodIn_of _ (by decide +kernel)) ggX6_as_X6_in
set_option maxRecDepth 20000 in
theorem ggX6_as_X6_failed : GoodIn wsX6_as wsX6_failed := goodIn_r _ [20, 16, 21, 22, 23, 24, 25, 26, 27, 28, 29, 30, 31, 32, 33, 34, 35, 36, 37, 38, 39, 40, 41, 42, 43, 44, 45, 46] (by decide +kernel) (by decide +kernel)
set_option maxRecDepth 20000 in
theorem gX6_as_X6_failed : GoodIn wsX6_as (wsV RX6 91 RX6 yX6_failed wsX6_failed) := goodIn_app (goodIn_of _ (by decide +kernel)) ggX6_as_X6_failed
theorem dX6_as_0 : decode cX6_as 0 = .ok (.aload_n 0, 1) := by decide +kernel
theorem dX6_as_1 : decode cX6_as 1 = .ok (.iload_n 1, 1) := by decide +kernel
theorem dX6_as_2 : decode cX6_as 2 = .ok (.invokevirtual 182, 3) := by decide +kernel
theorem dX6_as_5 : decode cX6_as 5 = .ok (.ifCond .eq 9, 3) := by decide +kernel
theorem dX6_as_8 : decode cX6_as 8 = .ok (.aload_n 0, 1) := by decide +kernel
theorem dX6_as_9 : decode cX6_as 9 = .ok (.iconst (-1), 1) := by decide +kernel
theorem dX6_as_10 : decode cX6_as 10 = .ok (.invokevirtual 82, 3) := by decide +kernel
theorem dX6_as_13 : decode cX6_as 13 = .ok (.ireturn, 1) := by decide +kernel
theorem dX6_as_14 : decode cX6_as 14 = .ok (.iload_n 2, 1) := by decide +kernel
theorem dX6_as_15 : decode cX6_as 15 = .ok (.i2l, 1) := by decide +kernel
theorem dX6_as_16 : decode cX6_as 16 = .ok (.lconst 0, 1) := by decide +kernel
theorem dX6_as_17 : decode cX6_as 17 = .ok (.ldc2_w 227, 3) := by decide +kernel
theorem dX6_as_20 : decode cX6_as 20 = .ok (.invokestatic 87, 3) := by decide +kernel
theorem dX6_as_23 : decode cX6_as 23 = .ok (.ifCond .ne 10, 3) := by decide +kernel
theorem dX6_as_26 : decode cX6_as 26 = .ok (.aload_n 0, 1) := by decide +kernel
theorem dX6_as_27 : decode cX6_as 27 = .ok (.bipush (-2), 2) := by decide +kernel
theorem dX6_as_29 : decode cX6_as 29 = .ok (.invokevirtual 82, 3) := by decide +kernel
theorem dX6_as_32 : decode cX6_as 32 = .ok (.ireturn, 1) := by decide +kernel
theorem dX6_as_33 : decode cX6_as 33 = .ok (.aload_n 0, 1) := by decide +kernel
theorem dX6_as_34 : decode cX6_as 34 = .ok (.getfield 37, 3) := by decide +kernel
theorem dX6_as_37 : decode cX6_as 37 = .ok (.bipush 9, 2) := by decide +kernel
theorem dX6_as_39 : decode cX6_as 39 = .ok (.iload_n 1, 1) := by decide +kernel
theorem dX6_as_40 : decode cX6_as 40 = .ok (.imul, 1) := by decide +kernel
theorem dX6_as_41 : decode cX6_as 41 = .ok (.iaload, 1) := by decide +kernel
theorem dX6_as_42 : decode cX6_as 42 = .ok (.istore_n 3, 1) := by decide +kernel
theorem dX6_as_43 : decode cX6_as 43 = .ok (.iload_n 2, 1) := by decide +kernel
theorem dX6_as_44 : decode cX6_as 44 = .ok (.ifCond .eq 17, 3) := by decide +kernel
theorem dX6_as_47 : decode cX6_as 47 = .ok (.iload_n 2, 1) := by decide +kernel
theorem dX6_as_48 : decode cX6_as 48 = .ok (.iconst 1, 1) := by decide +kernel
theorem dX6_as_49 : decode cX6_as 49 = .ok (.if_icmp .ne 7, 3) := by decide +kernel
theorem dX6_as_52 : decode cX6_as 52 = .ok (.iload_n 3, 1) := by decide +kernel
theorem dX6_as_53 : decode cX6_as 53 = .ok (.ifCond .gt 8, 3) := by decide +kernel
theorem dX6_as_56 : decode cX6_as 56 = .ok (.iload_n 2, 1) := by decide +kernel
theorem dX6_as_57 : decode cX6_as 57 = .ok (.iload_n 3, 1) := by decide +kernel
theorem dX6_as_58 : decode cX6_as 58 = .ok (.if_icmp .ne 11, 3) := by decide +kernel
theorem dX6_as_61 : decode cX6_as 61 = .ok (.aload_n 0, 1) := by decide +kernel
theorem dX6_as_62 : decode cX6_as 62 = .ok (.iconst 1, 1) := by decide +kernel
theorem dX6_as_63 : decode cX6_as 63 = .ok (.invokevirtual 82, 3) := by decide +kernel
theorem dX6_as_66 : decode cX6_as 66 = .ok (.goto 8, 3) := by decide +kernel
theorem dX6_as_69 : decode cX6_as 69 = .ok (.aload_n 0, 1) := by decide +kernel
theorem dX6_as_70 : decode cX6_as 70 = .ok (.iconst 2, 1) := by decide +kernel
theorem dX6_as_71 : decode cX6_as 71 = .ok (.invokevirtual 91, 3) := by decide +kernel
theorem dX6_as_74 : decode cX6_as 74 = .ok (.ireturn, 1) := by decide +kernel
theorem dX6_trace_0 : decode cX6_trace 0 = .ok (.aload_n 0, 1) := by decide +kernel
theorem dX6_trace_1 : decode cX6_trace 1 = .ok (.getfield 235, 3) := by decide +kernel
theorem dX6_trace_4 : decode cX6_trace 4 = .ok (.ireturn, 1) := by decide +kernel
theorem dX6_fault_0 : decode cX6_fault 0 = .ok (.aload_n 0, 1) := by decide +kernel
theorem dX6_fault_1 : decode cX6_fault 1 = .ok (.getfield 71, 3) := by decide +kernel
theorem dX6_fault_4 : decode cX6_fault 4 = .ok (.ireturn, 1) := by decide +kernel
theorem dX6_many_0 : decode cX6_many 0 = .ok (.iload_n 1, 1) := by decide +kernel
theorem dX6_many_1 : decode cX6_many 1 = .ok (.ifCond .ne 10, 3) := by decide +kernel
theorem dX6_many_4 : decode cX6_many 4 = .ok (.aload_n 0, 1) := by decide +kernel
theorem dX6_many_5 : decode cX6_many 5 = .ok (.getfield 98, 3) := by decide +kernel
theorem dX6_many_8 : decode cX6_many 8 = .ok (.goto 41, 3) := by decide +kernel
theorem dX6_many_11 : decode cX6_many 11 = .ok (.iload_n 1, 1) := by decide +kernel
theorem dX6_many_12 : decode cX6_many 12 = .ok (.iconst 1, 1) := by decide +kernel
theorem dX6_many_13 : decode cX6_many 13 = .ok (.if_icmp .ne 10, 3) := by decide +kernel
theorem dX6_many_16 : decode cX6_many 16 = .ok (.aload_n 0, 1) := by decide +kernel
theorem dX6_many_17 : decode cX6_many 17 = .ok (.getfield 179, 3) := by decide +kernel
theorem dX6_many_20 : decode cX6_many 20 = .ok (.goto 29, 3) := by decide +kernel
theorem dX6_many_23 : decode cX6_many 23 = .ok (.iload_n 1, 1) := by decide +kernel
theorem dX6_many_24 : decode cX6_many 24 = .ok (.iconst 2, 1) := by decide +kernel
theorem dX6_many_25 : decode cX6_many 25 = .ok (.if_icmp .ne 10, 3) := by decide +kernel
theorem dX6_many_28 : decode cX6_many 28 = .ok (.aload_n 0, 1) := by decide +kernel
theorem dX6_many_29 : decode cX6_many 29 = .ok (.getfield 59, 3) := by decide +kernel
theorem dX6_many_32 : decode cX6_many 32 = .ok (.goto 17, 3) := by decide +kernel
theorem dX6_many_35 : decode cX6_many 35 = .ok (.iload_n 1, 1) := by decide +kernel
theorem dX6_many_36 : decode cX6_many 36 = .ok (.iconst 3, 1) := by decide +kernel
theorem dX6_many_37 : decode cX6_many 37 = .ok (.if_icmp .ne 10, 3) := by decide +kernel
theorem dX6_many_40 : decode cX6_many 40 = .ok (.aload_n 0, 1) := by decide +kernel
theorem dX6_many_41 : decode cX6_many 41 = .ok (.getfield 207, 3) := by decide +kernel
theorem dX6_many_44 : decode cX6_many 44 = .ok (.goto 5, 3) := by decide +kernel
theorem dX6_many_47 : decode cX6_many 47 = .ok (.bipush (-2), 2) := by decide +kernel
theorem dX6_many_49 : decode cX6_many 49 = .ok (.ireturn, 1) := by decide +kernel
