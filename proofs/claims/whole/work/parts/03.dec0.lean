theorem dX0_init_0 : decode cX0_init 0 = .ok (.aload_n 0, 1) := by decide +kernel
theorem dX0_init_1 : decode cX0_init 1 = .ok (.invokespecial 3, 3) := by decide +kernel
theorem dX0_init_4 : decode cX0_init 4 = .ok (.aload_n 0, 1) := by decide +kernel
theorem dX0_init_5 : decode cX0_init 5 = .ok (.sipush 810, 3) := by decide +kernel
theorem dX0_init_8 : decode cX0_init 8 = .ok (.newarray .int, 2) := by decide +kernel
theorem dX0_init_10 : decode cX0_init 10 = .ok (.putfield 11, 3) := by decide +kernel
theorem dX0_init_13 : decode cX0_init 13 = .ok (.aload_n 0, 1) := by decide +kernel
theorem dX0_init_14 : decode cX0_init 14 = .ok (.iconst 0, 1) := by decide +kernel
theorem dX0_init_15 : decode cX0_init 15 = .ok (.putfield 15, 3) := by decide +kernel
theorem dX0_init_18 : decode cX0_init 18 = .ok (.aload_n 0, 1) := by decide +kernel
theorem dX0_init_19 : decode cX0_init 19 = .ok (.iconst 0, 1) := by decide +kernel
theorem dX0_init_20 : decode cX0_init 20 = .ok (.putfield 19, 3) := by decide +kernel
theorem dX0_init_23 : decode cX0_init 23 = .ok (.aload_n 0, 1) := by decide +kernel
theorem dX0_init_24 : decode cX0_init 24 = .ok (.iconst 0, 1) := by decide +kernel
theorem dX0_init_25 : decode cX0_init 25 = .ok (.putfield 22, 3) := by decide +kernel
theorem dX0_init_28 : decode cX0_init 28 = .ok (.aload_n 0, 1) := by decide +kernel
theorem dX0_init_29 : decode cX0_init 29 = .ok (.iconst 0, 1) := by decide +kernel
theorem dX0_init_30 : decode cX0_init 30 = .ok (.putfield 25, 3) := by decide +kernel
theorem dX0_init_33 : decode cX0_init 33 = .ok (.aload_n 0, 1) := by decide +kernel
theorem dX0_init_34 : decode cX0_init 34 = .ok (.iconst 0, 1) := by decide +kernel
theorem dX0_init_35 : decode cX0_init 35 = .ok (.putfield 28, 3) := by decide +kernel
theorem dX0_init_38 : decode cX0_init 38 = .ok (.aload_n 0, 1) := by decide +kernel
theorem dX0_init_39 : decode cX0_init 39 = .ok (.iconst 0, 1) := by decide +kernel
theorem dX0_init_40 : decode cX0_init 40 = .ok (.putfield 31, 3) := by decide +kernel
theorem dX0_init_43 : decode cX0_init 43 = .ok (.aload_n 0, 1) := by decide +kernel
theorem dX0_init_44 : decode cX0_init 44 = .ok (.iconst 0, 1) := by decide +kernel
theorem dX0_init_45 : decode cX0_init 45 = .ok (.putfield 34, 3) := by decide +kernel
theorem dX0_init_48 : decode cX0_init 48 = .ok (.return_, 1) := by decide +kernel
theorem dX0_value_0 : decode cX0_value 0 = .ok (.iload_n 1, 1) := by decide +kernel
theorem dX0_value_1 : decode cX0_value 1 = .ok (.ifCond .lt 27, 3) := by decide +kernel
theorem dX0_value_4 : decode cX0_value 4 = .ok (.iload_n 1, 1) := by decide +kernel
theorem dX0_value_5 : decode cX0_value 5 = .ok (.aload_n 0, 1) := by decide +kernel
theorem dX0_value_6 : decode cX0_value 6 = .ok (.getfield 15, 3) := by decide +kernel
theorem dX0_value_9 : decode cX0_value 9 = .ok (.if_icmp .ge 19, 3) := by decide +kernel
theorem dX0_value_12 : decode cX0_value 12 = .ok (.iload_n 1, 1) := by decide +kernel
theorem dX0_value_13 : decode cX0_value 13 = .ok (.bipush 90, 2) := by decide +kernel
theorem dX0_value_15 : decode cX0_value 15 = .ok (.if_icmp .ge 13, 3) := by decide +kernel
theorem dX0_value_18 : decode cX0_value 18 = .ok (.iload_n 2, 1) := by decide +kernel
theorem dX0_value_19 : decode cX0_value 19 = .ok (.ifCond .lt 9, 3) := by decide +kernel
theorem dX0_value_22 : decode cX0_value 22 = .ok (.iload_n 2, 1) := by decide +kernel
theorem dX0_value_23 : decode cX0_value 23 = .ok (.bipush 9, 2) := by decide +kernel
theorem dX0_value_25 : decode cX0_value 25 = .ok (.if_icmp .lt 5, 3) := by decide +kernel
theorem dX0_value_28 : decode cX0_value 28 = .ok (.iconst 0, 1) := by decide +kernel
theorem dX0_value_29 : decode cX0_value 29 = .ok (.ireturn, 1) := by decide +kernel
theorem dX0_value_30 : decode cX0_value 30 = .ok (.iload_n 1, 1) := by decide +kernel
theorem dX0_value_31 : decode cX0_value 31 = .ok (.bipush 9, 2) := by decide +kernel
theorem dX0_value_33 : decode cX0_value 33 = .ok (.imul, 1) := by decide +kernel
theorem dX0_value_34 : decode cX0_value 34 = .ok (.iload_n 2, 1) := by decide +kernel
theorem dX0_value_35 : decode cX0_value 35 = .ok (.iadd, 1) := by decide +kernel
theorem dX0_value_36 : decode cX0_value 36 = .ok (.istore_n 3, 1) := by decide +kernel
theorem dX0_value_37 : decode cX0_value 37 = .ok (.iload_n 3, 1) := by decide +kernel
theorem dX0_value_38 : decode cX0_value 38 = .ok (.ifCond .lt 12, 3) := by decide +kernel
theorem dX0_value_41 : decode cX0_value 41 = .ok (.iload_n 3, 1) := by decide +kernel
theorem dX0_value_42 : decode cX0_value 42 = .ok (.aload_n 0, 1) := by decide +kernel
theorem dX0_value_43 : decode cX0_value 43 = .ok (.getfield 11, 3) := by decide +kernel
theorem dX0_value_46 : decode cX0_value 46 = .ok (.arraylength, 1) := by decide +kernel
theorem dX0_value_47 : decode cX0_value 47 = .ok (.if_icmp .lt 7, 3) := by decide +kernel
theorem dX0_value_50 : decode cX0_value 50 = .ok (.iconst 0, 1) := by decide +kernel
theorem dX0_value_51 : decode cX0_value 51 = .ok (.goto 9, 3) := by decide +kernel
theorem dX0_value_54 : decode cX0_value 54 = .ok (.aload_n 0, 1) := by decide +kernel
theorem dX0_value_55 : decode cX0_value 55 = .ok (.getfield 11, 3) := by decide +kernel
theorem dX0_value_58 : decode cX0_value 58 = .ok (.iload_n 3, 1) := by decide +kernel
theorem dX0_value_59 : decode cX0_value 59 = .ok (.iaload, 1) := by decide +kernel
theorem dX0_value_60 : decode cX0_value 60 = .ok (.ireturn, 1) := by decide +kernel
theorem dX0_begin_0 : decode cX0_begin 0 = .ok (.aload_n 0, 1) := by decide +kernel
theorem dX0_begin_1 : decode cX0_begin 1 = .ok (.iload_n 1, 1) := by decide +kernel
theorem dX0_begin_2 : decode cX0_begin 2 = .ok (.putfield 22, 3) := by decide +kernel
theorem dX0_begin_5 : decode cX0_begin 5 = .ok (.aload_n 0, 1) := by decide +kernel
theorem dX0_begin_6 : decode cX0_begin 6 = .ok (.iload_n 2, 1) := by decide +kernel
theorem dX0_begin_7 : decode cX0_begin 7 = .ok (.putfield 25, 3) := by decide +kernel
theorem dX0_begin_10 : decode cX0_begin 10 = .ok (.aload_n 0, 1) := by decide +kernel
theorem dX0_begin_11 : decode cX0_begin 11 = .ok (.iload_n 3, 1) := by decide +kernel
theorem dX0_begin_12 : decode cX0_begin 12 = .ok (.putfield 28, 3) := by decide +kernel
theorem dX0_begin_15 : decode cX0_begin 15 = .ok (.aload_n 0, 1) := by decide +kernel
theorem dX0_begin_16 : decode cX0_begin 16 = .ok (.iload 4, 2) := by decide +kernel
theorem dX0_begin_18 : decode cX0_begin 18 = .ok (.putfield 31, 3) := by decide +kernel
theorem dX0_begin_21 : decode cX0_begin 21 = .ok (.aload_n 0, 1) := by decide +kernel
theorem dX0_begin_22 : decode cX0_begin 22 = .ok (.iconst 0, 1) := by decide +kernel
theorem dX0_begin_23 : decode cX0_begin 23 = .ok (.putfield 19, 3) := by decide +kernel
theorem dX0_begin_26 : decode cX0_begin 26 = .ok (.aload_n 0, 1) := by decide +kernel
theorem dX0_begin_27 : decode cX0_begin 27 = .ok (.iconst 0, 1) := by decide +kernel
theorem dX0_begin_28 : decode cX0_begin 28 = .ok (.putfield 34, 3) := by decide +kernel
theorem dX0_begin_31 : decode cX0_begin 31 = .ok (.aload_n 0, 1) := by decide +kernel
theorem dX0_begin_32 : decode cX0_begin 32 = .ok (.iconst 0, 1) := by decide +kernel
theorem dX0_begin_33 : decode cX0_begin 33 = .ok (.putfield 15, 3) := by decide +kernel
theorem dX0_begin_36 : decode cX0_begin 36 = .ok (.return_, 1) := by decide +kernel
set_option maxRecDepth 20000 in
theorem ggX0_goOn_X4_waveAt : GoodIn wsX0_goOn wsX4_waveAt := goodIn_r _ [7, 8, 9, 57, 58, 59, 60, 61, 62, 63, 64, 65] (by decide +kernel) (by decide +kernel)
set_option maxRecDepth 20000 in
theorem gX0_goOn_X4_waveAt : GoodIn wsX0_goOn (wsV RX0 37 RX4 yX4_waveAt wsX4_waveAt) := goodIn_app (goodIn_of _ (by decide +kernel)) ggX0_goOn_X4_waveAt
set_option maxRecDepth 20000 in
theorem ggX0_goOn_X0_goesOffAgain : GoodIn wsX0_goOn wsX0_goesOffAgain := goodIn_r _ [14, 15, 16, 17, 18, 19, 20, 21, 22, 23, 24, 25, 26, 2, 27, 28, 29, 30, 31, 32, 33, 34, 35, 36, 13, 37, 38, 39, 1, 40, 41, 42, 43, 44, 45, 46, 47, 48, 49, 50, 51, 52, 53, 54, 55, 56, 57, 58, 59, 60, 61, 62, 63, 64, 65, 66, 67, 68, 69, 70] (by decide +kernel) (by decide +kernel)
set_option maxRecDepth 20000 in
theorem gX0_goOn_X0_goesOffAgain : GoodIn wsX0_goOn (wsV RX0 43 RX0 yX0_goesOffAgain wsX0_goesOffAgain) := goodIn_app (goodIn_of _ (by decide +kernel)) ggX0_goOn_X0_goesOffAgain
theorem dX0_goOn_0 : decode cX0_goOn 0 = .ok (.iconst 1, 1) := by decide +kernel
theorem dX0_goOn_1 : decode cX0_goOn 1 = .ok (.istore 4, 2) := by decide +kernel
theorem dX0_goOn_3 : decode cX0_goOn 3 = .ok (.iconst 0, 1) := by decide +kernel
theorem dX0_goOn_4 : decode cX0_goOn 4 = .ok (.istore 5, 2) := by decide +kernel
theorem dX0_goOn_6 : decode cX0_goOn 6 = .ok (.iload 5, 2) := by decide +kernel
theorem dX0_goOn_8 : decode cX0_goOn 8 = .ok (.bipush 90, 2) := by decide +kernel
theorem dX0_goOn_10 : decode cX0_goOn 10 = .ok (.if_icmp .ge 36, 3) := by decide +kernel
theorem dX0_goOn_13 : decode cX0_goOn 13 = .ok (.iload 4, 2) := by decide +kernel
theorem dX0_goOn_15 : decode cX0_goOn 15 = .ok (.ifCond .eq 31, 3) := by decide +kernel
theorem dX0_goOn_18 : decode cX0_goOn 18 = .ok (.aload_n 0, 1) := by decide +kernel
theorem dX0_goOn_19 : decode cX0_goOn 19 = .ok (.aload_n 1, 1) := by decide +kernel
theorem dX0_goOn_20 : decode cX0_goOn 20 = .ok (.aload_n 2, 1) := by decide +kernel
theorem dX0_goOn_21 : decode cX0_goOn 21 = .ok (.aload_n 0, 1) := by decide +kernel
theorem dX0_goOn_22 : decode cX0_goOn 22 = .ok (.getfield 28, 3) := by decide +kernel
theorem dX0_goOn_25 : decode cX0_goOn 25 = .ok (.aload_n 2, 1) := by decide +kernel
theorem dX0_goOn_26 : decode cX0_goOn 26 = .ok (.aload_n 0, 1) := by decide +kernel
theorem dX0_goOn_27 : decode cX0_goOn 27 = .ok (.getfield 19, 3) := by decide +kernel
theorem dX0_goOn_30 : decode cX0_goOn 30 = .ok (.iload_n 3, 1) := by decide +kernel
theorem dX0_goOn_31 : decode cX0_goOn 31 = .ok (.invokevirtual 37, 3) := by decide +kernel
theorem dX0_goOn_34 : decode cX0_goOn 34 = .ok (.iadd, 1) := by decide +kernel
theorem dX0_goOn_35 : decode cX0_goOn 35 = .ok (.invokevirtual 43, 3) := by decide +kernel
theorem dX0_goOn_38 : decode cX0_goOn 38 = .ok (.istore 4, 2) := by decide +kernel
theorem dX0_goOn_40 : decode cX0_goOn 40 = .ok (.iinc 5 1, 3) := by decide +kernel
theorem dX0_goOn_43 : decode cX0_goOn 43 = .ok (.goto (-37), 3) := by decide +kernel
theorem dX0_goOn_46 : decode cX0_goOn 46 = .ok (.return_, 1) := by decide +kernel
set_option maxRecDepth 20000 in
theorem ggX0_goesOffAgain_X5_sinks : GoodIn wsX0_goesOffAgain wsX5_sinks := goodIn_r _ [17, 18, 19, 20, 46, 47, 48, 49, 50, 51, 52, 53, 54, 55, 56, 57, 58, 59] (by decide +kernel) (by decide +kernel)
set_option maxRecDepth 20000 in
theorem gX0_goesOffAgain_X5_sinks_n47 : GoodIn wsX0_goesOffAgain (wsX5_sinks) := ggX0_goesOffAgain_X5_sinks
set_option maxRecDepth 20000 in
theorem ggX0_goesOffAgain_X0_keep : GoodIn wsX0_goesOffAgain wsX0_keep := goodIn_r _ [25, 26, 27, 13, 1, 2, 28, 29, 14, 38, 39, 40, 41, 42, 43, 44, 45] (by decide +kernel) (by decide +kernel)
set_option maxRecDepth 20000 in
theorem gX0_goesOffAgain_X0_keep : GoodIn wsX0_goesOffAgain (wsV RX0 51 RX0 yX0_keep wsX0_keep) := goodIn_app (goodIn_of _ (by decide +kernel)) ggX0_goesOffAgain_X0_keep
set_option maxRecDepth 20000 in
theorem ggX0_goesOffAgain_X0_slow : GoodIn wsX0_goesOffAgain wsX0_slow := goodIn_r _ [33, 1, 7, 8, 9, 10, 2, 21, 22, 23, 24, 25, 26, 27, 13, 28, 29, 14, 38, 39, 40, 41, 42, 43, 44, 45] (by decide +kernel) (by decide +kernel)
set_option maxRecDepth 20000 in
theorem gX0_goesOffAgain_X0_slow : GoodIn wsX0_goesOffAgain (wsV RX0 66 RX0 yX0_slow wsX0_slow) := goodIn_app (goodIn_of _ (by decide +kernel)) ggX0_goesOffAgain_X0_slow
set_option maxRecDepth 20000 in
theorem ggX0_goesOffAgain_X0_wobble : GoodIn wsX0_goesOffAgain wsX0_wobble := goodIn_r _ [37, 29, 7, 8, 9, 10, 28, 38, 39, 40, 41, 42, 43, 44, 45] (by decide +kernel) (by decide +kernel)
set_option maxRecDepth 20000 in
theorem gX0_goesOffAgain_X0_wobble : GoodIn wsX0_goesOffAgain (wsV RX0 84 RX0 yX0_wobble wsX0_wobble) := goodIn_app (goodIn_of _ (by decide +kernel)) ggX0_goesOffAgain_X0_wobble
theorem dX0_goesOffAgain_0 : decode cX0_goesOffAgain 0 = .ok (.aload_n 1, 1) := by decide +kernel
theorem dX0_goesOffAgain_1 : decode cX0_goesOffAgain 1 = .ok (.aload_n 2, 1) := by decide +kernel
theorem dX0_goesOffAgain_2 : decode cX0_goesOffAgain 2 = .ok (.aload_n 0, 1) := by decide +kernel
theorem dX0_goesOffAgain_3 : decode cX0_goesOffAgain 3 = .ok (.getfield 22, 3) := by decide +kernel
theorem dX0_goesOffAgain_6 : decode cX0_goesOffAgain 6 = .ok (.aload_n 0, 1) := by decide +kernel
theorem dX0_goesOffAgain_7 : decode cX0_goesOffAgain 7 = .ok (.getfield 25, 3) := by decide +kernel
theorem dX0_goesOffAgain_10 : decode cX0_goesOffAgain 10 = .ok (.iload_n 3, 1) := by decide +kernel
theorem dX0_goesOffAgain_11 : decode cX0_goesOffAgain 11 = .ok (.invokestatic 47, 3) := by decide +kernel
theorem dX0_goesOffAgain_14 : decode cX0_goesOffAgain 14 = .ok (.ifCond .eq 12, 3) := by decide +kernel
theorem dX0_goesOffAgain_17 : decode cX0_goesOffAgain 17 = .ok (.aload_n 0, 1) := by decide +kernel
theorem dX0_goesOffAgain_18 : decode cX0_goesOffAgain 18 = .ok (.iconst 0, 1) := by decide +kernel
theorem dX0_goesOffAgain_19 : decode cX0_goesOffAgain 19 = .ok (.iload_n 3, 1) := by decide +kernel
theorem dX0_goesOffAgain_20 : decode cX0_goesOffAgain 20 = .ok (.iconst 0, 1) := by decide +kernel
theorem dX0_goesOffAgain_21 : decode cX0_goesOffAgain 21 = .ok (.invokevirtual 51, 3) := by decide +kernel
theorem dX0_goesOffAgain_24 : decode cX0_goesOffAgain 24 = .ok (.iconst 0, 1) := by decide +kernel
theorem dX0_goesOffAgain_25 : decode cX0_goesOffAgain 25 = .ok (.ireturn, 1) := by decide +kernel
theorem dX0_goesOffAgain_26 : decode cX0_goesOffAgain 26 = .ok (.aload_n 0, 1) := by decide +kernel
theorem dX0_goesOffAgain_27 : decode cX0_goesOffAgain 27 = .ok (.getfield 22, 3) := by decide +kernel
theorem dX0_goesOffAgain_30 : decode cX0_goesOffAgain 30 = .ok (.aload_n 2, 1) := by decide +kernel
theorem dX0_goesOffAgain_31 : decode cX0_goesOffAgain 31 = .ok (.getfield 55, 3) := by decide +kernel
theorem dX0_goesOffAgain_34 : decode cX0_goesOffAgain 34 = .ok (.iload_n 3, 1) := by decide +kernel
theorem dX0_goesOffAgain_35 : decode cX0_goesOffAgain 35 = .ok (.iadd, 1) := by decide +kernel
theorem dX0_goesOffAgain_36 : decode cX0_goesOffAgain 36 = .ok (.aload_n 1, 1) := by decide +kernel
theorem dX0_goesOffAgain_37 : decode cX0_goesOffAgain 37 = .ok (.getfield 58, 3) := by decide +kernel
theorem dX0_goesOffAgain_40 : decode cX0_goesOffAgain 40 = .ok (.iadd, 1) := by decide +kernel
theorem dX0_goesOffAgain_41 : decode cX0_goesOffAgain 41 = .ok (.imul, 1) := by decide +kernel
theorem dX0_goesOffAgain_42 : decode cX0_goesOffAgain 42 = .ok (.istore 4, 2) := by decide +kernel
theorem dX0_goesOffAgain_44 : decode cX0_goesOffAgain 44 = .ok (.iload_n 3, 1) := by decide +kernel
theorem dX0_goesOffAgain_45 : decode cX0_goesOffAgain 45 = .ok (.aload_n 2, 1) := by decide +kernel
theorem dX0_goesOffAgain_46 : decode cX0_goesOffAgain 46 = .ok (.getfield 63, 3) := by decide +kernel
theorem dX0_goesOffAgain_49 : decode cX0_goesOffAgain 49 = .ok (.if_icmp .le 23, 3) := by decide +kernel
theorem dX0_goesOffAgain_52 : decode cX0_goesOffAgain 52 = .ok (.aload_n 0, 1) := by decide +kernel
theorem dX0_goesOffAgain_53 : decode cX0_goesOffAgain 53 = .ok (.iconst 3, 1) := by decide +kernel
theorem dX0_goesOffAgain_54 : decode cX0_goesOffAgain 54 = .ok (.iload_n 3, 1) := by decide +kernel
theorem dX0_goesOffAgain_55 : decode cX0_goesOffAgain 55 = .ok (.iload 4, 2) := by decide +kernel
theorem dX0_goesOffAgain_57 : decode cX0_goesOffAgain 57 = .ok (.bipush 50, 2) := by decide +kernel
theorem dX0_goesOffAgain_59 : decode cX0_goesOffAgain 59 = .ok (.idiv, 1) := by decide +kernel
theorem dX0_goesOffAgain_60 : decode cX0_goesOffAgain 60 = .ok (.iconst 1, 1) := by decide +kernel
theorem dX0_goesOffAgain_61 : decode cX0_goesOffAgain 61 = .ok (.iadd, 1) := by decide +kernel
theorem dX0_goesOffAgain_62 : decode cX0_goesOffAgain 62 = .ok (.aload_n 0, 1) := by decide +kernel
theorem dX0_goesOffAgain_63 : decode cX0_goesOffAgain 63 = .ok (.getfield 25, 3) := by decide +kernel
theorem dX0_goesOffAgain_66 : decode cX0_goesOffAgain 66 = .ok (.invokevirtual 66, 3) := by decide +kernel
theorem dX0_goesOffAgain_69 : decode cX0_goesOffAgain 69 = .ok (.goto 49, 3) := by decide +kernel
theorem dX0_goesOffAgain_72 : decode cX0_goesOffAgain 72 = .ok (.iconst 1, 1) := by decide +kernel
theorem dX0_goesOffAgain_73 : decode cX0_goesOffAgain 73 = .ok (.aload_n 0, 1) := by decide +kernel
theorem dX0_goesOffAgain_74 : decode cX0_goesOffAgain 74 = .ok (.getfield 25, 3) := by decide +kernel
theorem dX0_goesOffAgain_77 : decode cX0_goesOffAgain 77 = .ok (.aload_n 2, 1) := by decide +kernel
theorem dX0_goesOffAgain_78 : decode cX0_goesOffAgain 78 = .ok (.getfield 70, 3) := by decide +kernel
theorem dX0_goesOffAgain_81 : decode cX0_goesOffAgain 81 = .ok (.imul, 1) := by decide +kernel
theorem dX0_goesOffAgain_82 : decode cX0_goesOffAgain 82 = .ok (.bipush 100, 2) := by decide +kernel
theorem dX0_goesOffAgain_84 : decode cX0_goesOffAgain 84 = .ok (.idiv, 1) := by decide +kernel
theorem dX0_goesOffAgain_85 : decode cX0_goesOffAgain 85 = .ok (.invokestatic 73, 3) := by decide +kernel
theorem dX0_goesOffAgain_88 : decode cX0_goesOffAgain 88 = .ok (.istore 5, 2) := by decide +kernel
theorem dX0_goesOffAgain_90 : decode cX0_goesOffAgain 90 = .ok (.aload_n 0, 1) := by decide +kernel
theorem dX0_goesOffAgain_91 : decode cX0_goesOffAgain 91 = .ok (.iload 5, 2) := by decide +kernel
theorem dX0_goesOffAgain_93 : decode cX0_goesOffAgain 93 = .ok (.aload_n 2, 1) := by decide +kernel
theorem dX0_goesOffAgain_94 : decode cX0_goesOffAgain 94 = .ok (.getfield 78, 3) := by decide +kernel
theorem dX0_goesOffAgain_97 : decode cX0_goesOffAgain 97 = .ok (.if_icmp .gt 7, 3) := by decide +kernel
theorem dX0_goesOffAgain_100 : decode cX0_goesOffAgain 100 = .ok (.iconst 2, 1) := by decide +kernel
theorem dX0_goesOffAgain_101 : decode cX0_goesOffAgain 101 = .ok (.goto 4, 3) := by decide +kernel
theorem dX0_goesOffAgain_104 : decode cX0_goesOffAgain 104 = .ok (.iconst 1, 1) := by decide +kernel
theorem dX0_goesOffAgain_105 : decode cX0_goesOffAgain 105 = .ok (.iload_n 3, 1) := by decide +kernel
theorem dX0_goesOffAgain_106 : decode cX0_goesOffAgain 106 = .ok (.iload 4, 2) := by decide +kernel
theorem dX0_goesOffAgain_108 : decode cX0_goesOffAgain 108 = .ok (.bipush 100, 2) := by decide +kernel
theorem dX0_goesOffAgain_110 : decode cX0_goesOffAgain 110 = .ok (.idiv, 1) := by decide +kernel
theorem dX0_goesOffAgain_111 : decode cX0_goesOffAgain 111 = .ok (.iconst 1, 1) := by decide +kernel
theorem dX0_goesOffAgain_112 : decode cX0_goesOffAgain 112 = .ok (.iadd, 1) := by decide +kernel
theorem dX0_goesOffAgain_113 : decode cX0_goesOffAgain 113 = .ok (.iload 5, 2) := by decide +kernel
theorem dX0_goesOffAgain_115 : decode cX0_goesOffAgain 115 = .ok (.invokevirtual 66, 3) := by decide +kernel
theorem dX0_goesOffAgain_118 : decode cX0_goesOffAgain 118 = .ok (.aload_n 0, 1) := by decide +kernel
theorem dX0_goesOffAgain_119 : decode cX0_goesOffAgain 119 = .ok (.aload_n 2, 1) := by decide +kernel
theorem dX0_goesOffAgain_120 : decode cX0_goesOffAgain 120 = .ok (.getfield 81, 3) := by decide +kernel
theorem dX0_goesOffAgain_123 : decode cX0_goesOffAgain 123 = .ok (.invokevirtual 84, 3) := by decide +kernel
theorem dX0_goesOffAgain_126 : decode cX0_goesOffAgain 126 = .ok (.aload_n 0, 1) := by decide +kernel
theorem dX0_goesOffAgain_127 : decode cX0_goesOffAgain 127 = .ok (.getfield 22, 3) := by decide +kernel
theorem dX0_goesOffAgain_130 : decode cX0_goesOffAgain 130 = .ok (.ifCond .ne 5, 3) := by decide +kernel
theorem dX0_goesOffAgain_133 : decode cX0_goesOffAgain 133 = .ok (.iconst 0, 1) := by decide +kernel
theorem dX0_goesOffAgain_134 : decode cX0_goesOffAgain 134 = .ok (.ireturn, 1) := by decide +kernel
theorem dX0_goesOffAgain_135 : decode cX0_goesOffAgain 135 = .ok (.aload_n 0, 1) := by decide +kernel
theorem dX0_goesOffAgain_136 : decode cX0_goesOffAgain 136 = .ok (.dup, 1) := by decide +kernel
theorem dX0_goesOffAgain_137 : decode cX0_goesOffAgain 137 = .ok (.getfield 19, 3) := by decide +kernel
theorem dX0_goesOffAgain_140 : decode cX0_goesOffAgain 140 = .ok (.aload_n 0, 1) := by decide +kernel
theorem dX0_goesOffAgain_141 : decode cX0_goesOffAgain 141 = .ok (.getfield 22, 3) := by decide +kernel
theorem dX0_goesOffAgain_144 : decode cX0_goesOffAgain 144 = .ok (.aload_n 0, 1) := by decide +kernel
theorem dX0_goesOffAgain_145 : decode cX0_goesOffAgain 145 = .ok (.getfield 25, 3) := by decide +kernel
theorem dX0_goesOffAgain_148 : decode cX0_goesOffAgain 148 = .ok (.imul, 1) := by decide +kernel
theorem dX0_goesOffAgain_149 : decode cX0_goesOffAgain 149 = .ok (.bipush 20, 2) := by decide +kernel
theorem dX0_goesOffAgain_151 : decode cX0_goesOffAgain 151 = .ok (.idiv, 1) := by decide +kernel
theorem dX0_goesOffAgain_152 : decode cX0_goesOffAgain 152 = .ok (.iadd, 1) := by decide +kernel
theorem dX0_goesOffAgain_153 : decode cX0_goesOffAgain 153 = .ok (.putfield 19, 3) := by decide +kernel
theorem dX0_goesOffAgain_156 : decode cX0_goesOffAgain 156 = .ok (.aload_n 0, 1) := by decide +kernel
theorem dX0_goesOffAgain_157 : decode cX0_goesOffAgain 157 = .ok (.dup, 1) := by decide +kernel
theorem dX0_goesOffAgain_158 : decode cX0_goesOffAgain 158 = .ok (.getfield 34, 3) := by decide +kernel
theorem dX0_goesOffAgain_161 : decode cX0_goesOffAgain 161 = .ok (.aload_n 0, 1) := by decide +kernel
theorem dX0_goesOffAgain_162 : decode cX0_goesOffAgain 162 = .ok (.getfield 25, 3) := by decide +kernel
theorem dX0_goesOffAgain_165 : decode cX0_goesOffAgain 165 = .ok (.iconst 5, 1) := by decide +kernel
theorem dX0_goesOffAgain_166 : decode cX0_goesOffAgain 166 = .ok (.idiv, 1) := by decide +kernel
theorem dX0_goesOffAgain_167 : decode cX0_goesOffAgain 167 = .ok (.iadd, 1) := by decide +kernel
theorem dX0_goesOffAgain_168 : decode cX0_goesOffAgain 168 = .ok (.putfield 34, 3) := by decide +kernel
theorem dX0_goesOffAgain_171 : decode cX0_goesOffAgain 171 = .ok (.iconst 1, 1) := by decide +kernel
theorem dX0_goesOffAgain_172 : decode cX0_goesOffAgain 172 = .ok (.ireturn, 1) := by decide +kernel
set_option maxRecDepth 20000 in
theorem ggX0_slow_X0_keep : GoodIn wsX0_slow wsX0_keep := goodIn_r _ [11, 12, 13, 14, 1, 6, 15, 16, 17, 18, 19, 20, 21, 22, 23, 24, 25] (by decide +kernel) (by decide +kernel)
set_option maxRecDepth 20000 in
theorem gX0_slow_X0_keep : GoodIn wsX0_slow (wsV RX0 51 RX0 yX0_keep wsX0_keep) := goodIn_app (goodIn_of _ (by decide +kernel)) ggX0_slow_X0_keep
theorem dX0_slow_0 : decode cX0_slow 0 = .ok (.aload_n 0, 1) := by decide +kernel
theorem dX0_slow_1 : decode cX0_slow 1 = .ok (.iload_n 1, 1) := by decide +kernel
theorem dX0_slow_2 : decode cX0_slow 2 = .ok (.iload_n 2, 1) := by decide +kernel
theorem dX0_slow_3 : decode cX0_slow 3 = .ok (.iload_n 3, 1) := by decide +kernel
theorem dX0_slow_4 : decode cX0_slow 4 = .ok (.invokevirtual 51, 3) := by decide +kernel
theorem dX0_slow_7 : decode cX0_slow 7 = .ok (.aload_n 0, 1) := by decide +kernel
theorem dX0_slow_8 : decode cX0_slow 8 = .ok (.iconst 0, 1) := by decide +kernel
theorem dX0_slow_9 : decode cX0_slow 9 = .ok (.aload_n 0, 1) := by decide +kernel
theorem dX0_slow_10 : decode cX0_slow 10 = .ok (.getfield 22, 3) := by decide +kernel
theorem dX0_slow_13 : decode cX0_slow 13 = .ok (.iload_n 3, 1) := by decide +kernel
theorem dX0_slow_14 : decode cX0_slow 14 = .ok (.isub, 1) := by decide +kernel
theorem dX0_slow_15 : decode cX0_slow 15 = .ok (.invokestatic 73, 3) := by decide +kernel
theorem dX0_slow_18 : decode cX0_slow 18 = .ok (.putfield 22, 3) := by decide +kernel
theorem dX0_slow_21 : decode cX0_slow 21 = .ok (.aload_n 0, 1) := by decide +kernel
theorem dX0_slow_22 : decode cX0_slow 22 = .ok (.iload 4, 2) := by decide +kernel
theorem dX0_slow_24 : decode cX0_slow 24 = .ok (.putfield 25, 3) := by decide +kernel
theorem dX0_slow_27 : decode cX0_slow 27 = .ok (.return_, 1) := by decide +kernel
theorem dX0_wobble_0 : decode cX0_wobble 0 = .ok (.aload_n 0, 1) := by decide +kernel
theorem dX0_wobble_1 : decode cX0_wobble 1 = .ok (.iconst 0, 1) := by decide +kernel
theorem dX0_wobble_2 : decode cX0_wobble 2 = .ok (.aload_n 0, 1) := by decide +kernel
theorem dX0_wobble_3 : decode cX0_wobble 3 = .ok (.getfield 31, 3) := by decide +kernel
theorem dX0_wobble_6 : decode cX0_wobble 6 = .ok (.aload_n 0, 1) := by decide +kernel
theorem dX0_wobble_7 : decode cX0_wobble 7 = .ok (.getfield 31, 3) := by decide +kernel
theorem dX0_wobble_10 : decode cX0_wobble 10 = .ok (.bipush 10, 2) := by decide +kernel
theorem dX0_wobble_12 : decode cX0_wobble 12 = .ok (.idiv, 1) := by decide +kernel
theorem dX0_wobble_13 : decode cX0_wobble 13 = .ok (.iconst 1, 1) := by decide +kernel
theorem dX0_wobble_14 : decode cX0_wobble 14 = .ok (.iadd, 1) := by decide +kernel
theorem dX0_wobble_15 : decode cX0_wobble 15 = .ok (.isub, 1) := by decide +kernel
theorem dX0_wobble_16 : decode cX0_wobble 16 = .ok (.invokestatic 73, 3) := by decide +kernel
theorem dX0_wobble_19 : decode cX0_wobble 19 = .ok (.putfield 31, 3) := by decide +kernel
theorem dX0_wobble_22 : decode cX0_wobble 22 = .ok (.aload_n 0, 1) := by decide +kernel
theorem dX0_wobble_23 : decode cX0_wobble 23 = .ok (.getfield 31, 3) := by decide +kernel
theorem dX0_wobble_26 : decode cX0_wobble 26 = .ok (.iload_n 1, 1) := by decide +kernel
theorem dX0_wobble_27 : decode cX0_wobble 27 = .ok (.if_icmp .ge 20, 3) := by decide +kernel
theorem dX0_wobble_30 : decode cX0_wobble 30 = .ok (.aload_n 0, 1) := by decide +kernel
theorem dX0_wobble_31 : decode cX0_wobble 31 = .ok (.dup, 1) := by decide +kernel
theorem dX0_wobble_32 : decode cX0_wobble 32 = .ok (.getfield 28, 3) := by decide +kernel
theorem dX0_wobble_35 : decode cX0_wobble 35 = .ok (.iload_n 1, 1) := by decide +kernel
theorem dX0_wobble_36 : decode cX0_wobble 36 = .ok (.aload_n 0, 1) := by decide +kernel
theorem dX0_wobble_37 : decode cX0_wobble 37 = .ok (.getfield 31, 3) := by decide +kernel
theorem dX0_wobble_40 : decode cX0_wobble 40 = .ok (.isub, 1) := by decide +kernel
theorem dX0_wobble_41 : decode cX0_wobble 41 = .ok (.iconst 5, 1) := by decide +kernel
theorem dX0_wobble_42 : decode cX0_wobble 42 = .ok (.idiv, 1) := by decide +kernel
theorem dX0_wobble_43 : decode cX0_wobble 43 = .ok (.iadd, 1) := by decide +kernel
theorem dX0_wobble_44 : decode cX0_wobble 44 = .ok (.putfield 28, 3) := by decide +kernel
theorem dX0_wobble_47 : decode cX0_wobble 47 = .ok (.return_, 1) := by decide +kernel
theorem dX0_keep_0 : decode cX0_keep 0 = .ok (.aload_n 0, 1) := by decide +kernel
theorem dX0_keep_1 : decode cX0_keep 1 = .ok (.getfield 15, 3) := by decide +kernel
theorem dX0_keep_4 : decode cX0_keep 4 = .ok (.bipush 9, 2) := by decide +kernel
theorem dX0_keep_6 : decode cX0_keep 6 = .ok (.imul, 1) := by decide +kernel
theorem dX0_keep_7 : decode cX0_keep 7 = .ok (.istore 4, 2) := by decide +kernel
theorem dX0_keep_9 : decode cX0_keep 9 = .ok (.aload_n 0, 1) := by decide +kernel
theorem dX0_keep_10 : decode cX0_keep 10 = .ok (.getfield 15, 3) := by decide +kernel
theorem dX0_keep_13 : decode cX0_keep 13 = .ok (.ifCond .lt 30, 3) := by decide +kernel
theorem dX0_keep_16 : decode cX0_keep 16 = .ok (.aload_n 0, 1) := by decide +kernel
theorem dX0_keep_17 : decode cX0_keep 17 = .ok (.getfield 15, 3) := by decide +kernel
theorem dX0_keep_20 : decode cX0_keep 20 = .ok (.bipush 90, 2) := by decide +kernel
theorem dX0_keep_22 : decode cX0_keep 22 = .ok (.if_icmp .ge 21, 3) := by decide +kernel
theorem dX0_keep_25 : decode cX0_keep 25 = .ok (.iload 4, 2) := by decide +kernel
theorem dX0_keep_27 : decode cX0_keep 27 = .ok (.ifCond .lt 16, 3) := by decide +kernel
theorem dX0_keep_30 : decode cX0_keep 30 = .ok (.iload 4, 2) := by decide +kernel
theorem dX0_keep_32 : decode cX0_keep 32 = .ok (.bipush 8, 2) := by decide +kernel
theorem dX0_keep_34 : decode cX0_keep 34 = .ok (.iadd, 1) := by decide +kernel
theorem dX0_keep_35 : decode cX0_keep 35 = .ok (.aload_n 0, 1) := by decide +kernel
theorem dX0_keep_36 : decode cX0_keep 36 = .ok (.getfield 11, 3) := by decide +kernel
theorem dX0_keep_39 : decode cX0_keep 39 = .ok (.arraylength, 1) := by decide +kernel
theorem dX0_keep_40 : decode cX0_keep 40 = .ok (.if_icmp .lt 4, 3) := by decide +kernel
theorem dX0_keep_43 : decode cX0_keep 43 = .ok (.return_, 1) := by decide +kernel
theorem dX0_keep_44 : decode cX0_keep 44 = .ok (.aload_n 0, 1) := by decide +kernel
theorem dX0_keep_45 : decode cX0_keep 45 = .ok (.getfield 11, 3) := by decide +kernel
theorem dX0_keep_48 : decode cX0_keep 48 = .ok (.iload 4, 2) := by decide +kernel
theorem dX0_keep_50 : decode cX0_keep 50 = .ok (.iconst 0, 1) := by decide +kernel
theorem dX0_keep_51 : decode cX0_keep 51 = .ok (.iadd, 1) := by decide +kernel
theorem dX0_keep_52 : decode cX0_keep 52 = .ok (.iload_n 1, 1) := by decide +kernel
theorem dX0_keep_53 : decode cX0_keep 53 = .ok (.iastore, 1) := by decide +kernel
theorem dX0_keep_54 : decode cX0_keep 54 = .ok (.aload_n 0, 1) := by decide +kernel
theorem dX0_keep_55 : decode cX0_keep 55 = .ok (.getfield 11, 3) := by decide +kernel
theorem dX0_keep_58 : decode cX0_keep 58 = .ok (.iload 4, 2) := by decide +kernel
theorem dX0_keep_60 : decode cX0_keep 60 = .ok (.iconst 1, 1) := by decide +kernel
theorem dX0_keep_61 : decode cX0_keep 61 = .ok (.iadd, 1) := by decide +kernel
theorem dX0_keep_62 : decode cX0_keep 62 = .ok (.aload_n 0, 1) := by decide +kernel
theorem dX0_keep_63 : decode cX0_keep 63 = .ok (.getfield 19, 3) := by decide +kernel
theorem dX0_keep_66 : decode cX0_keep 66 = .ok (.iastore, 1) := by decide +kernel
theorem dX0_keep_67 : decode cX0_keep 67 = .ok (.aload_n 0, 1) := by decide +kernel
theorem dX0_keep_68 : decode cX0_keep 68 = .ok (.getfield 11, 3) := by decide +kernel
theorem dX0_keep_71 : decode cX0_keep 71 = .ok (.iload 4, 2) := by decide +kernel
theorem dX0_keep_73 : decode cX0_keep 73 = .ok (.iconst 2, 1) := by decide +kernel
theorem dX0_keep_74 : decode cX0_keep 74 = .ok (.iadd, 1) := by decide +kernel
theorem dX0_keep_75 : decode cX0_keep 75 = .ok (.aload_n 0, 1) := by decide +kernel
theorem dX0_keep_76 : decode cX0_keep 76 = .ok (.getfield 22, 3) := by decide +kernel
theorem dX0_keep_79 : decode cX0_keep 79 = .ok (.iastore, 1) := by decide +kernel
theorem dX0_keep_80 : decode cX0_keep 80 = .ok (.aload_n 0, 1) := by decide +kernel
theorem dX0_keep_81 : decode cX0_keep 81 = .ok (.getfield 11, 3) := by decide +kernel
theorem dX0_keep_84 : decode cX0_keep 84 = .ok (.iload 4, 2) := by decide +kernel
theorem dX0_keep_86 : decode cX0_keep 86 = .ok (.iconst 3, 1) := by decide +kernel
theorem dX0_keep_87 : decode cX0_keep 87 = .ok (.iadd, 1) := by decide +kernel
theorem dX0_keep_88 : decode cX0_keep 88 = .ok (.aload_n 0, 1) := by decide +kernel
theorem dX0_keep_89 : decode cX0_keep 89 = .ok (.getfield 25, 3) := by decide +kernel
theorem dX0_keep_92 : decode cX0_keep 92 = .ok (.iastore, 1) := by decide +kernel
theorem dX0_keep_93 : decode cX0_keep 93 = .ok (.aload_n 0, 1) := by decide +kernel
theorem dX0_keep_94 : decode cX0_keep 94 = .ok (.getfield 11, 3) := by decide +kernel
theorem dX0_keep_97 : decode cX0_keep 97 = .ok (.iload 4, 2) := by decide +kernel
theorem dX0_keep_99 : decode cX0_keep 99 = .ok (.iconst 4, 1) := by decide +kernel
theorem dX0_keep_100 : decode cX0_keep 100 = .ok (.iadd, 1) := by decide +kernel
theorem dX0_keep_101 : decode cX0_keep 101 = .ok (.aload_n 0, 1) := by decide +kernel
theorem dX0_keep_102 : decode cX0_keep 102 = .ok (.getfield 28, 3) := by decide +kernel
theorem dX0_keep_105 : decode cX0_keep 105 = .ok (.iastore, 1) := by decide +kernel
theorem dX0_keep_106 : decode cX0_keep 106 = .ok (.aload_n 0, 1) := by decide +kernel
theorem dX0_keep_107 : decode cX0_keep 107 = .ok (.getfield 11, 3) := by decide +kernel
theorem dX0_keep_110 : decode cX0_keep 110 = .ok (.iload 4, 2) := by decide +kernel
theorem dX0_keep_112 : decode cX0_keep 112 = .ok (.iconst 5, 1) := by decide +kernel
theorem dX0_keep_113 : decode cX0_keep 113 = .ok (.iadd, 1) := by decide +kernel
theorem dX0_keep_114 : decode cX0_keep 114 = .ok (.aload_n 0, 1) := by decide +kernel
theorem dX0_keep_115 : decode cX0_keep 115 = .ok (.getfield 31, 3) := by decide +kernel
theorem dX0_keep_118 : decode cX0_keep 118 = .ok (.iastore, 1) := by decide +kernel
theorem dX0_keep_119 : decode cX0_keep 119 = .ok (.aload_n 0, 1) := by decide +kernel
theorem dX0_keep_120 : decode cX0_keep 120 = .ok (.getfield 11, 3) := by decide +kernel
theorem dX0_keep_123 : decode cX0_keep 123 = .ok (.iload 4, 2) := by decide +kernel
theorem dX0_keep_125 : decode cX0_keep 125 = .ok (.bipush 6, 2) := by decide +kernel
theorem dX0_keep_127 : decode cX0_keep 127 = .ok (.iadd, 1) := by decide +kernel
theorem dX0_keep_128 : decode cX0_keep 128 = .ok (.iload_n 2, 1) := by decide +kernel
theorem dX0_keep_129 : decode cX0_keep 129 = .ok (.iastore, 1) := by decide +kernel
theorem dX0_keep_130 : decode cX0_keep 130 = .ok (.aload_n 0, 1) := by decide +kernel
theorem dX0_keep_131 : decode cX0_keep 131 = .ok (.getfield 11, 3) := by decide +kernel
theorem dX0_keep_134 : decode cX0_keep 134 = .ok (.iload 4, 2) := by decide +kernel
theorem dX0_keep_136 : decode cX0_keep 136 = .ok (.bipush 7, 2) := by decide +kernel
theorem dX0_keep_138 : decode cX0_keep 138 = .ok (.iadd, 1) := by decide +kernel
theorem dX0_keep_139 : decode cX0_keep 139 = .ok (.iload_n 3, 1) := by decide +kernel
theorem dX0_keep_140 : decode cX0_keep 140 = .ok (.iastore, 1) := by decide +kernel
theorem dX0_keep_141 : decode cX0_keep 141 = .ok (.aload_n 0, 1) := by decide +kernel
theorem dX0_keep_142 : decode cX0_keep 142 = .ok (.getfield 11, 3) := by decide +kernel
theorem dX0_keep_145 : decode cX0_keep 145 = .ok (.iload 4, 2) := by decide +kernel
theorem dX0_keep_147 : decode cX0_keep 147 = .ok (.bipush 8, 2) := by decide +kernel
theorem dX0_keep_149 : decode cX0_keep 149 = .ok (.iadd, 1) := by decide +kernel
theorem dX0_keep_150 : decode cX0_keep 150 = .ok (.aload_n 0, 1) := by decide +kernel
theorem dX0_keep_151 : decode cX0_keep 151 = .ok (.getfield 34, 3) := by decide +kernel
theorem dX0_keep_154 : decode cX0_keep 154 = .ok (.iastore, 1) := by decide +kernel
theorem dX0_keep_155 : decode cX0_keep 155 = .ok (.aload_n 0, 1) := by decide +kernel
theorem dX0_keep_156 : decode cX0_keep 156 = .ok (.dup, 1) := by decide +kernel
theorem dX0_keep_157 : decode cX0_keep 157 = .ok (.getfield 15, 3) := by decide +kernel
theorem dX0_keep_160 : decode cX0_keep 160 = .ok (.iconst 1, 1) := by decide +kernel
theorem dX0_keep_161 : decode cX0_keep 161 = .ok (.iadd, 1) := by decide +kernel
theorem dX0_keep_162 : decode cX0_keep 162 = .ok (.putfield 15, 3) := by decide +kernel
theorem dX0_keep_165 : decode cX0_keep 165 = .ok (.return_, 1) := by decide +kernel
set_option maxRecDepth 20000 in
theorem ggX0_counted_X0_value : GoodIn wsX0_counted wsX0_value := goodIn_r _ [6, 1, 7, 12, 13, 14, 15, 16, 17, 18, 19] (by decide +kernel) (by decide +kernel)
set_option maxRecDepth 20000 in
theorem gX0_counted_X0_value : GoodIn wsX0_counted (wsV RX0 88 RX0 yX0_value wsX0_value) := goodIn_app (goodIn_of _ (by decide +kernel)) ggX0_counted_X0_value
set_option maxRecDepth 20000 in
theorem ggX0_counted_X0_counts : GoodIn wsX0_counted wsX0_counts := goodIn_r _ [11, 2, 3, 4, 5, 6, 1, 7, 12, 13, 14, 15, 16, 17, 18, 19] (by decide +kernel) (by decide +kernel)
set_option maxRecDepth 20000 in
theorem gX0_counted_X0_counts : GoodIn wsX0_counted (wsV RX0 91 RX0 yX0_counts wsX0_counts) := goodIn_app (goodIn_of _ (by decide +kernel)) ggX0_counted_X0_counts
theorem dX0_counted_0 : decode cX0_counted 0 = .ok (.iload_n 1, 1) := by decide +kernel
theorem dX0_counted_1 : decode cX0_counted 1 = .ok (.iconst 4, 1) := by decide +kernel
theorem dX0_counted_2 : decode cX0_counted 2 = .ok (.if_icmp .ne 15, 3) := by decide +kernel
theorem dX0_counted_5 : decode cX0_counted 5 = .ok (.aload_n 0, 1) := by decide +kernel
theorem dX0_counted_6 : decode cX0_counted 6 = .ok (.aload_n 0, 1) := by decide +kernel
theorem dX0_counted_7 : decode cX0_counted 7 = .ok (.getfield 15, 3) := by decide +kernel
theorem dX0_counted_10 : decode cX0_counted 10 = .ok (.iconst 1, 1) := by decide +kernel
theorem dX0_counted_11 : decode cX0_counted 11 = .ok (.isub, 1) := by decide +kernel
theorem dX0_counted_12 : decode cX0_counted 12 = .ok (.iconst 1, 1) := by decide +kernel
theorem dX0_counted_13 : decode cX0_counted 13 = .ok (.invokevirtual 88, 3) := by decide +kernel
theorem dX0_counted_16 : decode cX0_counted 16 = .ok (.ireturn, 1) := by decide +kernel
theorem dX0_counted_17 : decode cX0_counted 17 = .ok (.iconst 0, 1) := by decide +kernel
theorem dX0_counted_18 : decode cX0_counted 18 = .ok (.istore_n 2, 1) := by decide +kernel
theorem dX0_counted_19 : decode cX0_counted 19 = .ok (.bipush (-3), 2) := by decide +kernel
theorem dX0_counted_21 : decode cX0_counted 21 = .ok (.istore_n 3, 1) := by decide +kernel
theorem dX0_counted_22 : decode cX0_counted 22 = .ok (.iconst 0, 1) := by decide +kernel
theorem dX0_counted_23 : decode cX0_counted 23 = .ok (.istore 4, 2) := by decide +kernel
theorem dX0_counted_25 : decode cX0_counted 25 = .ok (.iload 4, 2) := by decide +kernel
theorem dX0_counted_27 : decode cX0_counted 27 = .ok (.aload_n 0, 1) := by decide +kernel
theorem dX0_counted_28 : decode cX0_counted 28 = .ok (.getfield 15, 3) := by decide +kernel
theorem dX0_counted_31 : decode cX0_counted 31 = .ok (.if_icmp .ge 31, 3) := by decide +kernel
theorem dX0_counted_34 : decode cX0_counted 34 = .ok (.aload_n 0, 1) := by decide +kernel
theorem dX0_counted_35 : decode cX0_counted 35 = .ok (.iload 4, 2) := by decide +kernel
theorem dX0_counted_37 : decode cX0_counted 37 = .ok (.iload_n 1, 1) := by decide +kernel
theorem dX0_counted_38 : decode cX0_counted 38 = .ok (.iload_n 3, 1) := by decide +kernel
theorem dX0_counted_39 : decode cX0_counted 39 = .ok (.invokevirtual 91, 3) := by decide +kernel
theorem dX0_counted_42 : decode cX0_counted 42 = .ok (.ifCond .eq 14, 3) := by decide +kernel
theorem dX0_counted_45 : decode cX0_counted 45 = .ok (.iinc 2 1, 3) := by decide +kernel
theorem dX0_counted_48 : decode cX0_counted 48 = .ok (.aload_n 0, 1) := by decide +kernel
theorem dX0_counted_49 : decode cX0_counted 49 = .ok (.iload 4, 2) := by decide +kernel
theorem dX0_counted_51 : decode cX0_counted 51 = .ok (.iconst 1, 1) := by decide +kernel
theorem dX0_counted_52 : decode cX0_counted 52 = .ok (.invokevirtual 88, 3) := by decide +kernel
theorem dX0_counted_55 : decode cX0_counted 55 = .ok (.istore_n 3, 1) := by decide +kernel
theorem dX0_counted_56 : decode cX0_counted 56 = .ok (.iinc 4 1, 3) := by decide +kernel
theorem dX0_counted_59 : decode cX0_counted 59 = .ok (.goto (-34), 3) := by decide +kernel
theorem dX0_counted_62 : decode cX0_counted 62 = .ok (.iload_n 2, 1) := by decide +kernel
theorem dX0_counted_63 : decode cX0_counted 63 = .ok (.ireturn, 1) := by decide +kernel
set_option maxRecDepth 20000 in
theorem ggX0_counts_X0_value : GoodIn wsX0_counts wsX0_value := goodIn_r _ [5, 6, 7, 8, 9, 10, 11, 12, 13, 14, 15] (by decide +kernel) (by decide +kernel)
set_option maxRecDepth 20000 in
theorem gX0_counts_X0_value : GoodIn wsX0_counts (wsV RX0 88 RX0 yX0_value wsX0_value) := goodIn_app (goodIn_of _ (by decide +kernel)) ggX0_counts_X0_value
theorem dX0_counts_0 : decode cX0_counts 0 = .ok (.aload_n 0, 1) := by decide +kernel
theorem dX0_counts_1 : decode cX0_counts 1 = .ok (.iload_n 1, 1) := by decide +kernel
theorem dX0_counts_2 : decode cX0_counts 2 = .ok (.iconst 0, 1) := by decide +kernel
theorem dX0_counts_3 : decode cX0_counts 3 = .ok (.invokevirtual 88, 3) := by decide +kernel
theorem dX0_counts_6 : decode cX0_counts 6 = .ok (.istore 4, 2) := by decide +kernel
theorem dX0_counts_8 : decode cX0_counts 8 = .ok (.iload_n 2, 1) := by decide +kernel
theorem dX0_counts_9 : decode cX0_counts 9 = .ok (.tableswitch 99 1 3 #[27, 45, 68], 27) := by decide +kernel
theorem dX0_counts_36 : decode cX0_counts 36 = .ok (.iload 4, 2) := by decide +kernel
theorem dX0_counts_38 : decode cX0_counts 38 = .ok (.iconst 1, 1) := by decide +kernel
theorem dX0_counts_39 : decode cX0_counts 39 = .ok (.if_icmp .eq 9, 3) := by decide +kernel
theorem dX0_counts_42 : decode cX0_counts 42 = .ok (.iload 4, 2) := by decide +kernel
theorem dX0_counts_44 : decode cX0_counts 44 = .ok (.iconst 3, 1) := by decide +kernel
theorem dX0_counts_45 : decode cX0_counts 45 = .ok (.if_icmp .ne 7, 3) := by decide +kernel
theorem dX0_counts_48 : decode cX0_counts 48 = .ok (.iconst 1, 1) := by decide +kernel
theorem dX0_counts_49 : decode cX0_counts 49 = .ok (.goto 4, 3) := by decide +kernel
theorem dX0_counts_52 : decode cX0_counts 52 = .ok (.iconst 0, 1) := by decide +kernel
theorem dX0_counts_53 : decode cX0_counts 53 = .ok (.ireturn, 1) := by decide +kernel
theorem dX0_counts_54 : decode cX0_counts 54 = .ok (.iload 4, 2) := by decide +kernel
theorem dX0_counts_56 : decode cX0_counts 56 = .ok (.ifCond .eq 19, 3) := by decide +kernel
theorem dX0_counts_59 : decode cX0_counts 59 = .ok (.aload_n 0, 1) := by decide +kernel
theorem dX0_counts_60 : decode cX0_counts 60 = .ok (.iload_n 1, 1) := by decide +kernel
theorem dX0_counts_61 : decode cX0_counts 61 = .ok (.iconst 1, 1) := by decide +kernel
theorem dX0_counts_62 : decode cX0_counts 62 = .ok (.invokevirtual 88, 3) := by decide +kernel
theorem dX0_counts_65 : decode cX0_counts 65 = .ok (.iload_n 3, 1) := by decide +kernel
theorem dX0_counts_66 : decode cX0_counts 66 = .ok (.isub, 1) := by decide +kernel
theorem dX0_counts_67 : decode cX0_counts 67 = .ok (.iconst 3, 1) := by decide +kernel
theorem dX0_counts_68 : decode cX0_counts 68 = .ok (.if_icmp .lt 7, 3) := by decide +kernel
theorem dX0_counts_71 : decode cX0_counts 71 = .ok (.iconst 1, 1) := by decide +kernel
theorem dX0_counts_72 : decode cX0_counts 72 = .ok (.goto 4, 3) := by decide +kernel
theorem dX0_counts_75 : decode cX0_counts 75 = .ok (.iconst 0, 1) := by decide +kernel
theorem dX0_counts_76 : decode cX0_counts 76 = .ok (.ireturn, 1) := by decide +kernel
theorem dX0_counts_77 : decode cX0_counts 77 = .ok (.iload_n 1, 1) := by decide +kernel
theorem dX0_counts_78 : decode cX0_counts 78 = .ok (.ifCond .eq 24, 3) := by decide +kernel
theorem dX0_counts_81 : decode cX0_counts 81 = .ok (.aload_n 0, 1) := by decide +kernel
theorem dX0_counts_82 : decode cX0_counts 82 = .ok (.iload_n 1, 1) := by decide +kernel
theorem dX0_counts_83 : decode cX0_counts 83 = .ok (.bipush 8, 2) := by decide +kernel
theorem dX0_counts_85 : decode cX0_counts 85 = .ok (.invokevirtual 88, 3) := by decide +kernel
theorem dX0_counts_88 : decode cX0_counts 88 = .ok (.aload_n 0, 1) := by decide +kernel
theorem dX0_counts_89 : decode cX0_counts 89 = .ok (.iload_n 1, 1) := by decide +kernel
theorem dX0_counts_90 : decode cX0_counts 90 = .ok (.iconst 1, 1) := by decide +kernel
theorem dX0_counts_91 : decode cX0_counts 91 = .ok (.isub, 1) := by decide +kernel
theorem dX0_counts_92 : decode cX0_counts 92 = .ok (.bipush 8, 2) := by decide +kernel
theorem dX0_counts_94 : decode cX0_counts 94 = .ok (.invokevirtual 88, 3) := by decide +kernel
theorem dX0_counts_97 : decode cX0_counts 97 = .ok (.isub, 1) := by decide +kernel
theorem dX0_counts_98 : decode cX0_counts 98 = .ok (.iconst 2, 1) := by decide +kernel
theorem dX0_counts_99 : decode cX0_counts 99 = .ok (.if_icmp .lt 7, 3) := by decide +kernel
theorem dX0_counts_102 : decode cX0_counts 102 = .ok (.iconst 1, 1) := by decide +kernel
theorem dX0_counts_103 : decode cX0_counts 103 = .ok (.goto 4, 3) := by decide +kernel
theorem dX0_counts_106 : decode cX0_counts 106 = .ok (.iconst 0, 1) := by decide +kernel
theorem dX0_counts_107 : decode cX0_counts 107 = .ok (.ireturn, 1) := by decide +kernel
theorem dX0_counts_108 : decode cX0_counts 108 = .ok (.iload 4, 2) := by decide +kernel
theorem dX0_counts_110 : decode cX0_counts 110 = .ok (.ifCond .eq 7, 3) := by decide +kernel
theorem dX0_counts_113 : decode cX0_counts 113 = .ok (.iconst 1, 1) := by decide +kernel
theorem dX0_counts_114 : decode cX0_counts 114 = .ok (.goto 4, 3) := by decide +kernel
theorem dX0_counts_117 : decode cX0_counts 117 = .ok (.iconst 0, 1) := by decide +kernel
theorem dX0_counts_118 : decode cX0_counts 118 = .ok (.ireturn, 1) := by decide +kernel
set_option maxRecDepth 20000 in
theorem ggX0_ringsAt_X0_value : GoodIn wsX0_ringsAt wsX0_value := goodIn_r _ [6, 1, 7, 8, 9, 10, 11, 12, 13, 14, 15] (by decide +kernel) (by decide +kernel)
set_option maxRecDepth 20000 in
theorem gX0_ringsAt_X0_value : GoodIn wsX0_ringsAt (wsV RX0 88 RX0 yX0_value wsX0_value) := goodIn_app (goodIn_of _ (by decide +kernel)) ggX0_ringsAt_X0_value
theorem dX0_ringsAt_0 : decode cX0_ringsAt 0 = .ok (.aload_n 0, 1) := by decide +kernel
theorem dX0_ringsAt_1 : decode cX0_ringsAt 1 = .ok (.getfield 15, 3) := by decide +kernel
theorem dX0_ringsAt_4 : decode cX0_ringsAt 4 = .ok (.iload_n 2, 1) := by decide +kernel
theorem dX0_ringsAt_5 : decode cX0_ringsAt 5 = .ok (.if_icmp .gt 5, 3) := by decide +kernel
theorem dX0_ringsAt_8 : decode cX0_ringsAt 8 = .ok (.iconst 0, 1) := by decide +kernel
theorem dX0_ringsAt_9 : decode cX0_ringsAt 9 = .ok (.ireturn, 1) := by decide +kernel
theorem dX0_ringsAt_10 : decode cX0_ringsAt 10 = .ok (.iconst 0, 1) := by decide +kernel
theorem dX0_ringsAt_11 : decode cX0_ringsAt 11 = .ok (.istore_n 3, 1) := by decide +kernel
theorem dX0_ringsAt_12 : decode cX0_ringsAt 12 = .ok (.iload_n 3, 1) := by decide +kernel
theorem dX0_ringsAt_13 : decode cX0_ringsAt 13 = .ok (.iload_n 2, 1) := by decide +kernel
theorem dX0_ringsAt_14 : decode cX0_ringsAt 14 = .ok (.if_icmp .ge 31, 3) := by decide +kernel
theorem dX0_ringsAt_17 : decode cX0_ringsAt 17 = .ok (.iload_n 3, 1) := by decide +kernel
theorem dX0_ringsAt_18 : decode cX0_ringsAt 18 = .ok (.aload_n 1, 1) := by decide +kernel
theorem dX0_ringsAt_19 : decode cX0_ringsAt 19 = .ok (.arraylength, 1) := by decide +kernel
theorem dX0_ringsAt_20 : decode cX0_ringsAt 20 = .ok (.if_icmp .ge 25, 3) := by decide +kernel
theorem dX0_ringsAt_23 : decode cX0_ringsAt 23 = .ok (.aload_n 0, 1) := by decide +kernel
theorem dX0_ringsAt_24 : decode cX0_ringsAt 24 = .ok (.iload_n 3, 1) := by decide +kernel
theorem dX0_ringsAt_25 : decode cX0_ringsAt 25 = .ok (.iconst 1, 1) := by decide +kernel
theorem dX0_ringsAt_26 : decode cX0_ringsAt 26 = .ok (.iadd, 1) := by decide +kernel
theorem dX0_ringsAt_27 : decode cX0_ringsAt 27 = .ok (.iconst 1, 1) := by decide +kernel
theorem dX0_ringsAt_28 : decode cX0_ringsAt 28 = .ok (.invokevirtual 88, 3) := by decide +kernel
theorem dX0_ringsAt_31 : decode cX0_ringsAt 31 = .ok (.aload_n 1, 1) := by decide +kernel
theorem dX0_ringsAt_32 : decode cX0_ringsAt 32 = .ok (.iload_n 3, 1) := by decide +kernel
theorem dX0_ringsAt_33 : decode cX0_ringsAt 33 = .ok (.iaload, 1) := by decide +kernel
theorem dX0_ringsAt_34 : decode cX0_ringsAt 34 = .ok (.if_icmp .eq 5, 3) := by decide +kernel
theorem dX0_ringsAt_37 : decode cX0_ringsAt 37 = .ok (.iconst 0, 1) := by decide +kernel
theorem dX0_ringsAt_38 : decode cX0_ringsAt 38 = .ok (.ireturn, 1) := by decide +kernel
theorem dX0_ringsAt_39 : decode cX0_ringsAt 39 = .ok (.iinc 3 1, 3) := by decide +kernel
theorem dX0_ringsAt_42 : decode cX0_ringsAt 42 = .ok (.goto (-30), 3) := by decide +kernel
theorem dX0_ringsAt_45 : decode cX0_ringsAt 45 = .ok (.iconst 1, 1) := by decide +kernel
theorem dX0_ringsAt_46 : decode cX0_ringsAt 46 = .ok (.ireturn, 1) := by decide +kernel
theorem dX1_init_0 : decode cX1_init 0 = .ok (.aload_n 0, 1) := by decide +kernel
theorem dX1_init_1 : decode cX1_init 1 = .ok (.invokespecial 3, 3) := by decide +kernel
theorem dX1_init_4 : decode cX1_init 4 = .ok (.aload_n 0, 1) := by decide +kernel
theorem dX1_init_5 : decode cX1_init 5 = .ok (.getstatic 9, 3) := by decide +kernel
theorem dX1_init_8 : decode cX1_init 8 = .ok (.invokevirtual 13, 3) := by decide +kernel
theorem dX1_init_11 : decode cX1_init 11 = .ok (.checkcast 14, 3) := by decide +kernel
theorem dX1_init_14 : decode cX1_init 14 = .ok (.putfield 18, 3) := by decide +kernel
theorem dX1_init_17 : decode cX1_init 17 = .ok (.aload_n 0, 1) := by decide +kernel
theorem dX1_init_18 : decode cX1_init 18 = .ok (.bipush 6, 2) := by decide +kernel
theorem dX1_init_20 : decode cX1_init 20 = .ok (.newarray .int, 2) := by decide +kernel
theorem dX1_init_22 : decode cX1_init 22 = .ok (.putfield 23, 3) := by decide +kernel
theorem dX1_init_25 : decode cX1_init 25 = .ok (.aload_n 0, 1) := by decide +kernel
theorem dX1_init_26 : decode cX1_init 26 = .ok (.aconst_null, 1) := by decide +kernel
theorem dX1_init_27 : decode cX1_init 27 = .ok (.putfield 26, 3) := by decide +kernel
theorem dX1_init_30 : decode cX1_init 30 = .ok (.aload_n 0, 1) := by decide +kernel
theorem dX1_init_31 : decode cX1_init 31 = .ok (.iconst 0, 1) := by decide +kernel
theorem dX1_init_32 : decode cX1_init 32 = .ok (.putfield 30, 3) := by decide +kernel
theorem dX1_init_35 : decode cX1_init 35 = .ok (.aload_n 0, 1) := by decide +kernel
theorem dX1_init_36 : decode cX1_init 36 = .ok (.iconst 0, 1) := by decide +kernel
theorem dX1_init_37 : decode cX1_init 37 = .ok (.putfield 34, 3) := by decide +kernel
theorem dX1_init_40 : decode cX1_init 40 = .ok (.aload_n 0, 1) := by decide +kernel
theorem dX1_init_41 : decode cX1_init 41 = .ok (.iconst 0, 1) := by decide +kernel
theorem dX1_init_42 : decode cX1_init 42 = .ok (.putfield 37, 3) := by decide +kernel
theorem dX1_init_45 : decode cX1_init 45 = .ok (.aload_n 0, 1) := by decide +kernel
theorem dX1_init_46 : decode cX1_init 46 = .ok (.iconst 0, 1) := by decide +kernel
theorem dX1_init_47 : decode cX1_init 47 = .ok (.putfield 40, 3) := by decide +kernel
theorem dX1_init_50 : decode cX1_init 50 = .ok (.return_, 1) := by decide +kernel
theorem dX1_number_0 : decode cX1_number 0 = .ok (.iload_n 1, 1) := by decide +kernel
theorem dX1_number_1 : decode cX1_number 1 = .ok (.ifCond .lt 12, 3) := by decide +kernel
theorem dX1_number_4 : decode cX1_number 4 = .ok (.iload_n 1, 1) := by decide +kernel
theorem dX1_number_5 : decode cX1_number 5 = .ok (.aload_n 0, 1) := by decide +kernel
theorem dX1_number_6 : decode cX1_number 6 = .ok (.getfield 18, 3) := by decide +kernel
theorem dX1_number_9 : decode cX1_number 9 = .ok (.arraylength, 1) := by decide +kernel
theorem dX1_number_10 : decode cX1_number 10 = .ok (.if_icmp .lt 7, 3) := by decide +kernel
theorem dX1_number_13 : decode cX1_number 13 = .ok (.iconst 0, 1) := by decide +kernel
theorem dX1_number_14 : decode cX1_number 14 = .ok (.goto 9, 3) := by decide +kernel
theorem dX1_number_17 : decode cX1_number 17 = .ok (.aload_n 0, 1) := by decide +kernel
theorem dX1_number_18 : decode cX1_number 18 = .ok (.getfield 18, 3) := by decide +kernel
theorem dX1_number_21 : decode cX1_number 21 = .ok (.iload_n 1, 1) := by decide +kernel
theorem dX1_number_22 : decode cX1_number 22 = .ok (.iaload, 1) := by decide +kernel
theorem dX1_number_23 : decode cX1_number 23 = .ok (.ireturn, 1) := by decide +kernel
set_option maxRecDepth 20000 in
theorem ggX1_firstFault_J7_fill_53178 : GoodIn wsX1_firstFault wsJ7_fill_53178 := goodIn_r _ [15] (by decide +kernel) (by decide +kernel)
set_option maxRecDepth 20000 in
theorem gX1_firstFault_J7_fill_53178 : GoodIn wsX1_firstFault (va_wsS RX1 49 yJ7_fill_53178 wsJ7_fill_53178) := goodIn_app (goodIn_of _ (by decide +kernel)) ggX1_firstFault_J7_fill_53178
set_option maxRecDepth 20000 in
theorem ggX1_firstFault_X1_readsItem : GoodIn wsX1_firstFault wsX1_readsItem := goodIn_r _ [20, 4, 6, 11, 21, 22, 23, 19, 24, 25, 26, 27, 28, 1, 3, 2, 29, 30, 31, 32, 33, 34, 35, 36, 37, 38, 39, 40, 41, 42, 43, 44, 45, 46, 47, 48, 49, 50, 51, 52, 53, 54, 55, 56, 57, 58, 59, 60, 61, 62, 63, 64, 65] (by decide +kernel) (by decide +kernel)
set_option maxRecDepth 20000 in
theorem gX1_firstFault_X1_readsItem : GoodIn wsX1_firstFault (wsV RX1 55 RX1 yX1_readsItem wsX1_readsItem) := goodIn_app (goodIn_of _ (by decide +kernel)) ggX1_firstFault_X1_readsItem
set_option maxRecDepth 20000 in
theorem ggX1_firstFault_X1_code : GoodIn wsX1_firstFault wsX1_code := goodIn_r _ [28, 1, 3, 2, 29, 30, 31, 32, 33, 34, 35, 36, 37, 38, 39, 55, 56, 57, 58, 59, 60, 61, 62, 63, 64, 65] (by decide +kernel) (by decide +kernel)
set_option maxRecDepth 20000 in
theorem gX1_firstFault_X1_code : GoodIn wsX1_firstFault (wsV RX1 59 RX1 yX1_code wsX1_code) := goodIn_app (goodIn_of _ (by decide +kernel)) ggX1_firstFault_X1_code
theorem dX1_firstFault_0 : decode cX1_firstFault 0 = .ok (.aload_n 0, 1) := by decide +kernel
theorem dX1_firstFault_1 : decode cX1_firstFault 1 = .ok (.aload_n 1, 1) := by decide +kernel
theorem dX1_firstFault_2 : decode cX1_firstFault 2 = .ok (.putfield 26, 3) := by decide +kernel
theorem dX1_firstFault_5 : decode cX1_firstFault 5 = .ok (.aload_n 0, 1) := by decide +kernel
theorem dX1_firstFault_6 : decode cX1_firstFault 6 = .ok (.iload_n 2, 1) := by decide +kernel
theorem dX1_firstFault_7 : decode cX1_firstFault 7 = .ok (.putfield 30, 3) := by decide +kernel
theorem dX1_firstFault_10 : decode cX1_firstFault 10 = .ok (.aload_n 0, 1) := by decide +kernel
theorem dX1_firstFault_11 : decode cX1_firstFault 11 = .ok (.iload_n 3, 1) := by decide +kernel
theorem dX1_firstFault_12 : decode cX1_firstFault 12 = .ok (.putfield 34, 3) := by decide +kernel
theorem dX1_firstFault_15 : decode cX1_firstFault 15 = .ok (.aload_n 0, 1) := by decide +kernel
theorem dX1_firstFault_16 : decode cX1_firstFault 16 = .ok (.iconst 0, 1) := by decide +kernel
theorem dX1_firstFault_17 : decode cX1_firstFault 17 = .ok (.putfield 37, 3) := by decide +kernel
theorem dX1_firstFault_20 : decode cX1_firstFault 20 = .ok (.aload_n 0, 1) := by decide +kernel
theorem dX1_firstFault_21 : decode cX1_firstFault 21 = .ok (.iconst 0, 1) := by decide +kernel
theorem dX1_firstFault_22 : decode cX1_firstFault 22 = .ok (.putfield 40, 3) := by decide +kernel
theorem dX1_firstFault_25 : decode cX1_firstFault 25 = .ok (.getstatic 9, 3) := by decide +kernel
theorem dX1_firstFault_28 : decode cX1_firstFault 28 = .ok (.iconst 0, 1) := by decide +kernel
theorem dX1_firstFault_29 : decode cX1_firstFault 29 = .ok (.aload_n 0, 1) := by decide +kernel
theorem dX1_firstFault_30 : decode cX1_firstFault 30 = .ok (.getfield 18, 3) := by decide +kernel
theorem dX1_firstFault_33 : decode cX1_firstFault 33 = .ok (.iconst 0, 1) := by decide +kernel
theorem dX1_firstFault_34 : decode cX1_firstFault 34 = .ok (.bipush 6, 2) := by decide +kernel
theorem dX1_firstFault_36 : decode cX1_firstFault 36 = .ok (.invokestatic 43, 3) := by decide +kernel
theorem dX1_firstFault_39 : decode cX1_firstFault 39 = .ok (.aload_n 0, 1) := by decide +kernel
theorem dX1_firstFault_40 : decode cX1_firstFault 40 = .ok (.getfield 23, 3) := by decide +kernel
theorem dX1_firstFault_43 : decode cX1_firstFault 43 = .ok (.iconst 0, 1) := by decide +kernel
theorem dX1_firstFault_44 : decode cX1_firstFault 44 = .ok (.invokestatic 49, 3) := by decide +kernel
theorem dX1_firstFault_47 : decode cX1_firstFault 47 = .ok (.iconst 0, 1) := by decide +kernel
theorem dX1_firstFault_48 : decode cX1_firstFault 48 = .ok (.istore 4, 2) := by decide +kernel
theorem dX1_firstFault_50 : decode cX1_firstFault 50 = .ok (.iload 4, 2) := by decide +kernel
theorem dX1_firstFault_52 : decode cX1_firstFault 52 = .ok (.bipush 6, 2) := by decide +kernel
theorem dX1_firstFault_54 : decode cX1_firstFault 54 = .ok (.if_icmp .ge 81, 3) := by decide +kernel
theorem dX1_firstFault_57 : decode cX1_firstFault 57 = .ok (.aload_n 0, 1) := by decide +kernel
theorem dX1_firstFault_58 : decode cX1_firstFault 58 = .ok (.invokevirtual 55, 3) := by decide +kernel
theorem dX1_firstFault_61 : decode cX1_firstFault 61 = .ok (.ifCond .ne 8, 3) := by decide +kernel
theorem dX1_firstFault_64 : decode cX1_firstFault 64 = .ok (.aload_n 0, 1) := by decide +kernel
theorem dX1_firstFault_65 : decode cX1_firstFault 65 = .ok (.getfield 37, 3) := by decide +kernel
theorem dX1_firstFault_68 : decode cX1_firstFault 68 = .ok (.ireturn, 1) := by decide +kernel
theorem dX1_firstFault_69 : decode cX1_firstFault 69 = .ok (.aload_n 0, 1) := by decide +kernel
theorem dX1_firstFault_70 : decode cX1_firstFault 70 = .ok (.dup, 1) := by decide +kernel
theorem dX1_firstFault_71 : decode cX1_firstFault 71 = .ok (.getfield 40, 3) := by decide +kernel
theorem dX1_firstFault_74 : decode cX1_firstFault 74 = .ok (.iconst 1, 1) := by decide +kernel
theorem dX1_firstFault_75 : decode cX1_firstFault 75 = .ok (.iadd, 1) := by decide +kernel
theorem dX1_firstFault_76 : decode cX1_firstFault 76 = .ok (.putfield 40, 3) := by decide +kernel
theorem dX1_firstFault_79 : decode cX1_firstFault 79 = .ok (.aload_n 0, 1) := by decide +kernel
theorem dX1_firstFault_80 : decode cX1_firstFault 80 = .ok (.getfield 37, 3) := by decide +kernel
theorem dX1_firstFault_83 : decode cX1_firstFault 83 = .ok (.aload_n 0, 1) := by decide +kernel
theorem dX1_firstFault_84 : decode cX1_firstFault 84 = .ok (.getfield 34, 3) := by decide +kernel
theorem dX1_firstFault_87 : decode cX1_firstFault 87 = .ok (.if_icmp .lt 5, 3) := by decide +kernel
theorem dX1_firstFault_90 : decode cX1_firstFault 90 = .ok (.iconst (-1), 1) := by decide +kernel
theorem dX1_firstFault_91 : decode cX1_firstFault 91 = .ok (.ireturn, 1) := by decide +kernel
theorem dX1_firstFault_92 : decode cX1_firstFault 92 = .ok (.aload_n 0, 1) := by decide +kernel
theorem dX1_firstFault_93 : decode cX1_firstFault 93 = .ok (.aload_n 0, 1) := by decide +kernel
theorem dX1_firstFault_94 : decode cX1_firstFault 94 = .ok (.getfield 37, 3) := by decide +kernel
theorem dX1_firstFault_97 : decode cX1_firstFault 97 = .ok (.invokevirtual 59, 3) := by decide +kernel
theorem dX1_firstFault_100 : decode cX1_firstFault 100 = .ok (.bipush 59, 2) := by decide +kernel
theorem dX1_firstFault_102 : decode cX1_firstFault 102 = .ok (.if_icmp .ne 12, 3) := by decide +kernel
theorem dX1_firstFault_105 : decode cX1_firstFault 105 = .ok (.aload_n 0, 1) := by decide +kernel
theorem dX1_firstFault_106 : decode cX1_firstFault 106 = .ok (.getfield 40, 3) := by decide +kernel
theorem dX1_firstFault_109 : decode cX1_firstFault 109 = .ok (.bipush 6, 2) := by decide +kernel
theorem dX1_firstFault_111 : decode cX1_firstFault 111 = .ok (.if_icmp .ne 8, 3) := by decide +kernel
theorem dX1_firstFault_114 : decode cX1_firstFault 114 = .ok (.aload_n 0, 1) := by decide +kernel
theorem dX1_firstFault_115 : decode cX1_firstFault 115 = .ok (.getfield 37, 3) := by decide +kernel
theorem dX1_firstFault_118 : decode cX1_firstFault 118 = .ok (.ireturn, 1) := by decide +kernel
theorem dX1_firstFault_119 : decode cX1_firstFault 119 = .ok (.aload_n 0, 1) := by decide +kernel
theorem dX1_firstFault_120 : decode cX1_firstFault 120 = .ok (.dup, 1) := by decide +kernel
theorem dX1_firstFault_121 : decode cX1_firstFault 121 = .ok (.getfield 37, 3) := by decide +kernel
theorem dX1_firstFault_124 : decode cX1_firstFault 124 = .ok (.iconst 1, 1) := by decide +kernel
theorem dX1_firstFault_125 : decode cX1_firstFault 125 = .ok (.iadd, 1) := by decide +kernel
theorem dX1_firstFault_126 : decode cX1_firstFault 126 = .ok (.putfield 37, 3) := by decide +kernel
theorem dX1_firstFault_129 : decode cX1_firstFault 129 = .ok (.iinc 4 1, 3) := by decide +kernel
theorem dX1_firstFault_132 : decode cX1_firstFault 132 = .ok (.goto (-82), 3) := by decide +kernel
theorem dX1_firstFault_135 : decode cX1_firstFault 135 = .ok (.aload_n 0, 1) := by decide +kernel
theorem dX1_firstFault_136 : decode cX1_firstFault 136 = .ok (.getfield 37, 3) := by decide +kernel
theorem dX1_firstFault_139 : decode cX1_firstFault 139 = .ok (.ireturn, 1) := by decide +kernel
set_option maxRecDepth 20000 in
theorem ggX1_readsItem_X1_letterAt : GoodIn wsX1_readsItem wsX1_letterAt := goodIn_r _ [8, 9, 10, 11, 7, 12, 13, 14, 15, 16, 17, 18, 19, 20, 21, 22, 23, 24, 25, 26, 42, 43, 44, 45, 46, 47, 48, 49, 50, 51, 52] (by decide +kernel) (by decide +kernel)
set_option maxRecDepth 20000 in
theorem gX1_readsItem_X1_letterAt : GoodIn wsX1_readsItem (wsV RX1 63 RX1 yX1_letterAt wsX1_letterAt) := goodIn_app (goodIn_of _ (by decide +kernel)) ggX1_readsItem_X1_letterAt
set_option maxRecDepth 20000 in
theorem ggX1_readsItem_X1_isUntold : GoodIn wsX1_readsItem wsX1_isUntold := goodIn_r _ [30, 3, 42, 43, 44, 45, 46, 47, 48] (by decide +kernel) (by decide +kernel)
set_option maxRecDepth 20000 in
theorem gX1_readsItem_X1_isUntold : GoodIn wsX1_readsItem (wsV RX1 66 RX1 yX1_isUntold wsX1_isUntold) := goodIn_app (goodIn_of _ (by decide +kernel)) ggX1_readsItem_X1_isUntold
set_option maxRecDepth 20000 in
theorem ggX1_readsItem_X1_digitAt : GoodIn wsX1_readsItem wsX1_digitAt := goodIn_r _ [34, 9, 10, 11, 7, 12, 13, 14, 15, 16, 17, 18, 19, 20, 21, 22, 23, 24, 25, 26, 35, 36, 37, 42, 43, 44, 45, 46, 47, 48, 49, 50, 51, 52] (by decide +kernel) (by decide +kernel)
set_option maxRecDepth 20000 in
theorem gX1_readsItem_X1_digitAt : GoodIn wsX1_readsItem (wsV RX1 70 RX1 yX1_digitAt wsX1_digitAt) := goodIn_app (goodIn_of _ (by decide +kernel)) ggX1_readsItem_X1_digitAt
set_option maxRecDepth 20000 in
theorem ggX1_readsItem_X1_isLawful : GoodIn wsX1_readsItem wsX1_isLawful := goodIn_r _ [41, 2, 35, 36, 37, 42, 43, 44, 45, 46, 47, 48] (by decide +kernel) (by decide +kernel)
set_option maxRecDepth 20000 in
theorem gX1_readsItem_X1_isLawful : GoodIn wsX1_readsItem (wsV RX1 73 RX1 yX1_isLawful wsX1_isLawful) := goodIn_app (goodIn_of _ (by decide +kernel)) ggX1_readsItem_X1_isLawful
theorem dX1_readsItem_0 : decode cX1_readsItem 0 = .ok (.aload_n 0, 1) := by decide +kernel
theorem dX1_readsItem_1 : decode cX1_readsItem 1 = .ok (.aload_n 0, 1) := by decide +kernel
theorem dX1_readsItem_2 : decode cX1_readsItem 2 = .ok (.getfield 37, 3) := by decide +kernel
theorem dX1_readsItem_5 : decode cX1_readsItem 5 = .ok (.invokevirtual 63, 3) := by decide +kernel
theorem dX1_readsItem_8 : decode cX1_readsItem 8 = .ok (.istore_n 1, 1) := by decide +kernel
theorem dX1_readsItem_9 : decode cX1_readsItem 9 = .ok (.aload_n 0, 1) := by decide +kernel
theorem dX1_readsItem_10 : decode cX1_readsItem 10 = .ok (.iload_n 1, 1) := by decide +kernel
theorem dX1_readsItem_11 : decode cX1_readsItem 11 = .ok (.invokevirtual 66, 3) := by decide +kernel
theorem dX1_readsItem_14 : decode cX1_readsItem 14 = .ok (.ifCond .ne 5, 3) := by decide +kernel
theorem dX1_readsItem_17 : decode cX1_readsItem 17 = .ok (.iconst 0, 1) := by decide +kernel
theorem dX1_readsItem_18 : decode cX1_readsItem 18 = .ok (.ireturn, 1) := by decide +kernel
theorem dX1_readsItem_19 : decode cX1_readsItem 19 = .ok (.aload_n 0, 1) := by decide +kernel
theorem dX1_readsItem_20 : decode cX1_readsItem 20 = .ok (.dup, 1) := by decide +kernel
theorem dX1_readsItem_21 : decode cX1_readsItem 21 = .ok (.getfield 37, 3) := by decide +kernel
theorem dX1_readsItem_24 : decode cX1_readsItem 24 = .ok (.iconst 1, 1) := by decide +kernel
theorem dX1_readsItem_25 : decode cX1_readsItem 25 = .ok (.iadd, 1) := by decide +kernel
theorem dX1_readsItem_26 : decode cX1_readsItem 26 = .ok (.putfield 37, 3) := by decide +kernel
theorem dX1_readsItem_29 : decode cX1_readsItem 29 = .ok (.aload_n 0, 1) := by decide +kernel
theorem dX1_readsItem_30 : decode cX1_readsItem 30 = .ok (.aload_n 0, 1) := by decide +kernel
theorem dX1_readsItem_31 : decode cX1_readsItem 31 = .ok (.getfield 37, 3) := by decide +kernel
theorem dX1_readsItem_34 : decode cX1_readsItem 34 = .ok (.invokevirtual 70, 3) := by decide +kernel
theorem dX1_readsItem_37 : decode cX1_readsItem 37 = .ok (.istore_n 2, 1) := by decide +kernel
theorem dX1_readsItem_38 : decode cX1_readsItem 38 = .ok (.iload_n 2, 1) := by decide +kernel
theorem dX1_readsItem_39 : decode cX1_readsItem 39 = .ok (.iconst (-1), 1) := by decide +kernel
theorem dX1_readsItem_40 : decode cX1_readsItem 40 = .ok (.if_icmp .ne 5, 3) := by decide +kernel
theorem dX1_readsItem_43 : decode cX1_readsItem 43 = .ok (.iconst 0, 1) := by decide +kernel
theorem dX1_readsItem_44 : decode cX1_readsItem 44 = .ok (.ireturn, 1) := by decide +kernel
theorem dX1_readsItem_45 : decode cX1_readsItem 45 = .ok (.aload_n 0, 1) := by decide +kernel
theorem dX1_readsItem_46 : decode cX1_readsItem 46 = .ok (.aload_n 0, 1) := by decide +kernel
theorem dX1_readsItem_47 : decode cX1_readsItem 47 = .ok (.getfield 37, 3) := by decide +kernel
theorem dX1_readsItem_50 : decode cX1_readsItem 50 = .ok (.iconst 1, 1) := by decide +kernel
theorem dX1_readsItem_51 : decode cX1_readsItem 51 = .ok (.iadd, 1) := by decide +kernel
theorem dX1_readsItem_52 : decode cX1_readsItem 52 = .ok (.invokevirtual 70, 3) := by decide +kernel
theorem dX1_readsItem_55 : decode cX1_readsItem 55 = .ok (.istore_n 3, 1) := by decide +kernel
theorem dX1_readsItem_56 : decode cX1_readsItem 56 = .ok (.iload_n 3, 1) := by decide +kernel
theorem dX1_readsItem_57 : decode cX1_readsItem 57 = .ok (.iconst (-1), 1) := by decide +kernel
theorem dX1_readsItem_58 : decode cX1_readsItem 58 = .ok (.if_icmp .ne 7, 3) := by decide +kernel
theorem dX1_readsItem_61 : decode cX1_readsItem 61 = .ok (.iload_n 2, 1) := by decide +kernel
theorem dX1_readsItem_62 : decode cX1_readsItem 62 = .ok (.goto 9, 3) := by decide +kernel
theorem dX1_readsItem_65 : decode cX1_readsItem 65 = .ok (.bipush 10, 2) := by decide +kernel
theorem dX1_readsItem_67 : decode cX1_readsItem 67 = .ok (.iload_n 2, 1) := by decide +kernel
theorem dX1_readsItem_68 : decode cX1_readsItem 68 = .ok (.imul, 1) := by decide +kernel
theorem dX1_readsItem_69 : decode cX1_readsItem 69 = .ok (.iload_n 3, 1) := by decide +kernel
theorem dX1_readsItem_70 : decode cX1_readsItem 70 = .ok (.iadd, 1) := by decide +kernel
theorem dX1_readsItem_71 : decode cX1_readsItem 71 = .ok (.istore 4, 2) := by decide +kernel
theorem dX1_readsItem_73 : decode cX1_readsItem 73 = .ok (.aload_n 0, 1) := by decide +kernel
theorem dX1_readsItem_74 : decode cX1_readsItem 74 = .ok (.iload_n 1, 1) := by decide +kernel
theorem dX1_readsItem_75 : decode cX1_readsItem 75 = .ok (.iload 4, 2) := by decide +kernel
theorem dX1_readsItem_77 : decode cX1_readsItem 77 = .ok (.invokevirtual 73, 3) := by decide +kernel
theorem dX1_readsItem_80 : decode cX1_readsItem 80 = .ok (.ifCond .ne 5, 3) := by decide +kernel
theorem dX1_readsItem_83 : decode cX1_readsItem 83 = .ok (.iconst 0, 1) := by decide +kernel
theorem dX1_readsItem_84 : decode cX1_readsItem 84 = .ok (.ireturn, 1) := by decide +kernel
theorem dX1_readsItem_85 : decode cX1_readsItem 85 = .ok (.aload_n 0, 1) := by decide +kernel
theorem dX1_readsItem_86 : decode cX1_readsItem 86 = .ok (.getfield 18, 3) := by decide +kernel
theorem dX1_readsItem_89 : decode cX1_readsItem 89 = .ok (.iload_n 1, 1) := by decide +kernel
theorem dX1_readsItem_90 : decode cX1_readsItem 90 = .ok (.iload 4, 2) := by decide +kernel
theorem dX1_readsItem_92 : decode cX1_readsItem 92 = .ok (.iastore, 1) := by decide +kernel
theorem dX1_readsItem_93 : decode cX1_readsItem 93 = .ok (.aload_n 0, 1) := by decide +kernel
theorem dX1_readsItem_94 : decode cX1_readsItem 94 = .ok (.getfield 23, 3) := by decide +kernel
theorem dX1_readsItem_97 : decode cX1_readsItem 97 = .ok (.iload_n 1, 1) := by decide +kernel
theorem dX1_readsItem_98 : decode cX1_readsItem 98 = .ok (.dup2, 1) := by decide +kernel
theorem dX1_readsItem_99 : decode cX1_readsItem 99 = .ok (.iaload, 1) := by decide +kernel
theorem dX1_readsItem_100 : decode cX1_readsItem 100 = .ok (.iconst 1, 1) := by decide +kernel
theorem dX1_readsItem_101 : decode cX1_readsItem 101 = .ok (.iadd, 1) := by decide +kernel
theorem dX1_readsItem_102 : decode cX1_readsItem 102 = .ok (.iastore, 1) := by decide +kernel
theorem dX1_readsItem_103 : decode cX1_readsItem 103 = .ok (.aload_n 0, 1) := by decide +kernel
theorem dX1_readsItem_104 : decode cX1_readsItem 104 = .ok (.dup, 1) := by decide +kernel
theorem dX1_readsItem_105 : decode cX1_readsItem 105 = .ok (.getfield 37, 3) := by decide +kernel
theorem dX1_readsItem_108 : decode cX1_readsItem 108 = .ok (.iload_n 3, 1) := by decide +kernel
theorem dX1_readsItem_109 : decode cX1_readsItem 109 = .ok (.iconst (-1), 1) := by decide +kernel
theorem dX1_readsItem_110 : decode cX1_readsItem 110 = .ok (.if_icmp .ne 7, 3) := by decide +kernel
theorem dX1_readsItem_113 : decode cX1_readsItem 113 = .ok (.iconst 1, 1) := by decide +kernel
theorem dX1_readsItem_114 : decode cX1_readsItem 114 = .ok (.goto 4, 3) := by decide +kernel
theorem dX1_readsItem_117 : decode cX1_readsItem 117 = .ok (.iconst 2, 1) := by decide +kernel
theorem dX1_readsItem_118 : decode cX1_readsItem 118 = .ok (.iadd, 1) := by decide +kernel
theorem dX1_readsItem_119 : decode cX1_readsItem 119 = .ok (.putfield 37, 3) := by decide +kernel
theorem dX1_readsItem_122 : decode cX1_readsItem 122 = .ok (.iconst 1, 1) := by decide +kernel
theorem dX1_readsItem_123 : decode cX1_readsItem 123 = .ok (.ireturn, 1) := by decide +kernel
theorem dX1_isUntold_0 : decode cX1_isUntold 0 = .ok (.iload_n 1, 1) := by decide +kernel
theorem dX1_isUntold_1 : decode cX1_isUntold 1 = .ok (.ifCond .lt 25, 3) := by decide +kernel
theorem dX1_isUntold_4 : decode cX1_isUntold 4 = .ok (.iload_n 1, 1) := by decide +kernel
theorem dX1_isUntold_5 : decode cX1_isUntold 5 = .ok (.aload_n 0, 1) := by decide +kernel
theorem dX1_isUntold_6 : decode cX1_isUntold 6 = .ok (.getfield 23, 3) := by decide +kernel
theorem dX1_isUntold_9 : decode cX1_isUntold 9 = .ok (.arraylength, 1) := by decide +kernel
theorem dX1_isUntold_10 : decode cX1_isUntold 10 = .ok (.if_icmp .ge 16, 3) := by decide +kernel
theorem dX1_isUntold_13 : decode cX1_isUntold 13 = .ok (.aload_n 0, 1) := by decide +kernel
theorem dX1_isUntold_14 : decode cX1_isUntold 14 = .ok (.getfield 23, 3) := by decide +kernel
theorem dX1_isUntold_17 : decode cX1_isUntold 17 = .ok (.iload_n 1, 1) := by decide +kernel
theorem dX1_isUntold_18 : decode cX1_isUntold 18 = .ok (.iaload, 1) := by decide +kernel
theorem dX1_isUntold_19 : decode cX1_isUntold 19 = .ok (.ifCond .ne 7, 3) := by decide +kernel
theorem dX1_isUntold_22 : decode cX1_isUntold 22 = .ok (.iconst 1, 1) := by decide +kernel
theorem dX1_isUntold_23 : decode cX1_isUntold 23 = .ok (.goto 4, 3) := by decide +kernel
theorem dX1_isUntold_26 : decode cX1_isUntold 26 = .ok (.iconst 0, 1) := by decide +kernel
theorem dX1_isUntold_27 : decode cX1_isUntold 27 = .ok (.ireturn, 1) := by decide +kernel
set_option maxRecDepth 20000 in
theorem ggX1_isLawful_X5_within : GoodIn wsX1_isLawful wsX5_within := goodIn_r _ [4] (by decide +kernel) (by decide +kernel)
set_option maxRecDepth 20000 in
theorem gX1_isLawful_X5_within_n83 : GoodIn wsX1_isLawful (wsX5_within) := ggX1_isLawful_X5_within
theorem dX1_isLawful_0 : decode cX1_isLawful 0 = .ok (.iload_n 1, 1) := by decide +kernel
theorem dX1_isLawful_1 : decode cX1_isLawful 1 = .ok (.ifCond .lt 49, 3) := by decide +kernel
theorem dX1_isLawful_4 : decode cX1_isLawful 4 = .ok (.iload_n 1, 1) := by decide +kernel
theorem dX1_isLawful_5 : decode cX1_isLawful 5 = .ok (.getstatic 77, 3) := by decide +kernel
theorem dX1_isLawful_8 : decode cX1_isLawful 8 = .ok (.arraylength, 1) := by decide +kernel
theorem dX1_isLawful_9 : decode cX1_isLawful 9 = .ok (.if_icmp .ge 41, 3) := by decide +kernel
theorem dX1_isLawful_12 : decode cX1_isLawful 12 = .ok (.iload_n 1, 1) := by decide +kernel
theorem dX1_isLawful_13 : decode cX1_isLawful 13 = .ok (.getstatic 80, 3) := by decide +kernel
theorem dX1_isLawful_16 : decode cX1_isLawful 16 = .ok (.arraylength, 1) := by decide +kernel
theorem dX1_isLawful_17 : decode cX1_isLawful 17 = .ok (.if_icmp .ge 33, 3) := by decide +kernel
theorem dX1_isLawful_20 : decode cX1_isLawful 20 = .ok (.iload_n 1, 1) := by decide +kernel
theorem dX1_isLawful_21 : decode cX1_isLawful 21 = .ok (.aload_n 0, 1) := by decide +kernel
theorem dX1_isLawful_22 : decode cX1_isLawful 22 = .ok (.getfield 18, 3) := by decide +kernel
theorem dX1_isLawful_25 : decode cX1_isLawful 25 = .ok (.arraylength, 1) := by decide +kernel
theorem dX1_isLawful_26 : decode cX1_isLawful 26 = .ok (.if_icmp .ge 24, 3) := by decide +kernel
theorem dX1_isLawful_29 : decode cX1_isLawful 29 = .ok (.iload_n 2, 1) := by decide +kernel
theorem dX1_isLawful_30 : decode cX1_isLawful 30 = .ok (.getstatic 77, 3) := by decide +kernel
theorem dX1_isLawful_33 : decode cX1_isLawful 33 = .ok (.iload_n 1, 1) := by decide +kernel
theorem dX1_isLawful_34 : decode cX1_isLawful 34 = .ok (.iaload, 1) := by decide +kernel
theorem dX1_isLawful_35 : decode cX1_isLawful 35 = .ok (.getstatic 80, 3) := by decide +kernel
theorem dX1_isLawful_38 : decode cX1_isLawful 38 = .ok (.iload_n 1, 1) := by decide +kernel
theorem dX1_isLawful_39 : decode cX1_isLawful 39 = .ok (.iaload, 1) := by decide +kernel
theorem dX1_isLawful_40 : decode cX1_isLawful 40 = .ok (.invokestatic 83, 3) := by decide +kernel
theorem dX1_isLawful_43 : decode cX1_isLawful 43 = .ok (.ifCond .eq 7, 3) := by decide +kernel
theorem dX1_isLawful_46 : decode cX1_isLawful 46 = .ok (.iconst 1, 1) := by decide +kernel
theorem dX1_isLawful_47 : decode cX1_isLawful 47 = .ok (.goto 4, 3) := by decide +kernel
theorem dX1_isLawful_50 : decode cX1_isLawful 50 = .ok (.iconst 0, 1) := by decide +kernel
theorem dX1_isLawful_51 : decode cX1_isLawful 51 = .ok (.ireturn, 1) := by decide +kernel
set_option maxRecDepth 20000 in
theorem ggX1_letterAt_X1_code : GoodIn wsX1_letterAt wsX1_code := goodIn_r _ [5, 6, 7, 8, 9, 10, 11, 12, 13, 14, 15, 16, 17, 18, 19, 20, 21, 22, 23, 24, 25, 26, 27, 28, 29, 30] (by decide +kernel) (by decide +kernel)
set_option maxRecDepth 20000 in
theorem gX1_letterAt_X1_code : GoodIn wsX1_letterAt (wsV RX1 59 RX1 yX1_code wsX1_code) := goodIn_app (goodIn_of _ (by decide +kernel)) ggX1_letterAt_X1_code
theorem dX1_letterAt_0 : decode cX1_letterAt 0 = .ok (.iconst 0, 1) := by decide +kernel
theorem dX1_letterAt_1 : decode cX1_letterAt 1 = .ok (.istore_n 2, 1) := by decide +kernel
theorem dX1_letterAt_2 : decode cX1_letterAt 2 = .ok (.iload_n 2, 1) := by decide +kernel
theorem dX1_letterAt_3 : decode cX1_letterAt 3 = .ok (.getstatic 87, 3) := by decide +kernel
theorem dX1_letterAt_6 : decode cX1_letterAt 6 = .ok (.arraylength, 1) := by decide +kernel
theorem dX1_letterAt_7 : decode cX1_letterAt 7 = .ok (.if_icmp .ge 24, 3) := by decide +kernel
theorem dX1_letterAt_10 : decode cX1_letterAt 10 = .ok (.aload_n 0, 1) := by decide +kernel
theorem dX1_letterAt_11 : decode cX1_letterAt 11 = .ok (.iload_n 1, 1) := by decide +kernel
theorem dX1_letterAt_12 : decode cX1_letterAt 12 = .ok (.invokevirtual 59, 3) := by decide +kernel
theorem dX1_letterAt_15 : decode cX1_letterAt 15 = .ok (.getstatic 87, 3) := by decide +kernel
theorem dX1_letterAt_18 : decode cX1_letterAt 18 = .ok (.iload_n 2, 1) := by decide +kernel
theorem dX1_letterAt_19 : decode cX1_letterAt 19 = .ok (.iaload, 1) := by decide +kernel
theorem dX1_letterAt_20 : decode cX1_letterAt 20 = .ok (.if_icmp .ne 5, 3) := by decide +kernel
theorem dX1_letterAt_23 : decode cX1_letterAt 23 = .ok (.iload_n 2, 1) := by decide +kernel
theorem dX1_letterAt_24 : decode cX1_letterAt 24 = .ok (.ireturn, 1) := by decide +kernel
theorem dX1_letterAt_25 : decode cX1_letterAt 25 = .ok (.iinc 2 1, 3) := by decide +kernel
theorem dX1_letterAt_28 : decode cX1_letterAt 28 = .ok (.goto (-26), 3) := by decide +kernel
theorem dX1_letterAt_31 : decode cX1_letterAt 31 = .ok (.iconst (-1), 1) := by decide +kernel
theorem dX1_letterAt_32 : decode cX1_letterAt 32 = .ok (.ireturn, 1) := by decide +kernel
set_option maxRecDepth 20000 in
theorem ggX1_digitAt_X1_code : GoodIn wsX1_digitAt wsX1_code := goodIn_r _ [5, 6, 7, 8, 9, 10, 11, 12, 13, 14, 15, 16, 17, 18, 19, 23, 24, 25, 26, 27, 28, 29, 30, 31, 32, 33] (by decide +kernel) (by decide +kernel)
set_option maxRecDepth 20000 in
theorem gX1_digitAt_X1_code : GoodIn wsX1_digitAt (wsV RX1 59 RX1 yX1_code wsX1_code) := goodIn_app (goodIn_of _ (by decide +kernel)) ggX1_digitAt_X1_code
set_option maxRecDepth 20000 in
theorem ggX1_digitAt_X5_within : GoodIn wsX1_digitAt wsX5_within := goodIn_r _ [22] (by decide +kernel) (by decide +kernel)
set_option maxRecDepth 20000 in
theorem gX1_digitAt_X5_within_n83 : GoodIn wsX1_digitAt (wsX5_within) := ggX1_digitAt_X5_within
theorem dX1_digitAt_0 : decode cX1_digitAt 0 = .ok (.aload_n 0, 1) := by decide +kernel
theorem dX1_digitAt_1 : decode cX1_digitAt 1 = .ok (.iload_n 1, 1) := by decide +kernel
theorem dX1_digitAt_2 : decode cX1_digitAt 2 = .ok (.invokevirtual 59, 3) := by decide +kernel
theorem dX1_digitAt_5 : decode cX1_digitAt 5 = .ok (.istore_n 2, 1) := by decide +kernel
theorem dX1_digitAt_6 : decode cX1_digitAt 6 = .ok (.iload_n 2, 1) := by decide +kernel
theorem dX1_digitAt_7 : decode cX1_digitAt 7 = .ok (.bipush 48, 2) := by decide +kernel
theorem dX1_digitAt_9 : decode cX1_digitAt 9 = .ok (.bipush 57, 2) := by decide +kernel
theorem dX1_digitAt_11 : decode cX1_digitAt 11 = .ok (.invokestatic 83, 3) := by decide +kernel
theorem dX1_digitAt_14 : decode cX1_digitAt 14 = .ok (.ifCond .eq 10, 3) := by decide +kernel
theorem dX1_digitAt_17 : decode cX1_digitAt 17 = .ok (.iload_n 2, 1) := by decide +kernel
theorem dX1_digitAt_18 : decode cX1_digitAt 18 = .ok (.bipush 48, 2) := by decide +kernel
theorem dX1_digitAt_20 : decode cX1_digitAt 20 = .ok (.isub, 1) := by decide +kernel
theorem dX1_digitAt_21 : decode cX1_digitAt 21 = .ok (.goto 4, 3) := by decide +kernel
theorem dX1_digitAt_24 : decode cX1_digitAt 24 = .ok (.iconst (-1), 1) := by decide +kernel
theorem dX1_digitAt_25 : decode cX1_digitAt 25 = .ok (.ireturn, 1) := by decide +kernel
set_option maxRecDepth 20000 in
theorem ggX1_code_X2_number : GoodIn wsX1_code wsX2_number := goodIn_r _ [8, 9, 10, 11, 12, 7, 13, 14, 22, 23, 24, 25] (by decide +kernel) (by decide +kernel)
set_option maxRecDepth 20000 in
theorem gX1_code_X2_number : GoodIn wsX1_code (wsV RX1 90 RX2 yX2_number wsX2_number) := goodIn_app (goodIn_of _ (by decide +kernel)) ggX1_code_X2_number
theorem dX1_code_0 : decode cX1_code 0 = .ok (.aload_n 0, 1) := by decide +kernel
theorem dX1_code_1 : decode cX1_code 1 = .ok (.getfield 26, 3) := by decide +kernel
theorem dX1_code_4 : decode cX1_code 4 = .ok (.ifnull 15, 3) := by decide +kernel
theorem dX1_code_7 : decode cX1_code 7 = .ok (.iload_n 1, 1) := by decide +kernel
theorem dX1_code_8 : decode cX1_code 8 = .ok (.ifCond .lt 11, 3) := by decide +kernel
theorem dX1_code_11 : decode cX1_code 11 = .ok (.iload_n 1, 1) := by decide +kernel
theorem dX1_code_12 : decode cX1_code 12 = .ok (.aload_n 0, 1) := by decide +kernel
theorem dX1_code_13 : decode cX1_code 13 = .ok (.getfield 34, 3) := by decide +kernel
theorem dX1_code_16 : decode cX1_code 16 = .ok (.if_icmp .lt 7, 3) := by decide +kernel
theorem dX1_code_19 : decode cX1_code 19 = .ok (.iconst (-1), 1) := by decide +kernel
theorem dX1_code_20 : decode cX1_code 20 = .ok (.goto 16, 3) := by decide +kernel
theorem dX1_code_23 : decode cX1_code 23 = .ok (.aload_n 0, 1) := by decide +kernel
theorem dX1_code_24 : decode cX1_code 24 = .ok (.getfield 26, 3) := by decide +kernel
theorem dX1_code_27 : decode cX1_code 27 = .ok (.aload_n 0, 1) := by decide +kernel
theorem dX1_code_28 : decode cX1_code 28 = .ok (.getfield 30, 3) := by decide +kernel
theorem dX1_code_31 : decode cX1_code 31 = .ok (.iload_n 1, 1) := by decide +kernel
theorem dX1_code_32 : decode cX1_code 32 = .ok (.iadd, 1) := by decide +kernel
theorem dX1_code_33 : decode cX1_code 33 = .ok (.invokevirtual 90, 3) := by decide +kernel
theorem dX1_code_36 : decode cX1_code 36 = .ok (.ireturn, 1) := by decide +kernel
theorem dX2_init_0 : decode cX2_init 0 = .ok (.aload_n 0, 1) := by decide +kernel
theorem dX2_init_1 : decode cX2_init 1 = .ok (.invokespecial 3, 3) := by decide +kernel
theorem dX2_init_4 : decode cX2_init 4 = .ok (.aload_n 0, 1) := by decide +kernel
theorem dX2_init_5 : decode cX2_init 5 = .ok (.bipush 60, 2) := by decide +kernel
theorem dX2_init_7 : decode cX2_init 7 = .ok (.newarray .int, 2) := by decide +kernel
theorem dX2_init_9 : decode cX2_init 9 = .ok (.putfield 9, 3) := by decide +kernel
theorem dX2_init_12 : decode cX2_init 12 = .ok (.aload_n 0, 1) := by decide +kernel
theorem dX2_init_13 : decode cX2_init 13 = .ok (.iconst 0, 1) := by decide +kernel
theorem dX2_init_14 : decode cX2_init 14 = .ok (.putfield 15, 3) := by decide +kernel
theorem dX2_init_17 : decode cX2_init 17 = .ok (.aload_n 0, 1) := by decide +kernel
theorem dX2_init_18 : decode cX2_init 18 = .ok (.iconst 0, 1) := by decide +kernel
theorem dX2_init_19 : decode cX2_init 19 = .ok (.putfield 19, 3) := by decide +kernel
theorem dX2_init_22 : decode cX2_init 22 = .ok (.aload_n 0, 1) := by decide +kernel
theorem dX2_init_23 : decode cX2_init 23 = .ok (.iconst 0, 1) := by decide +kernel
theorem dX2_init_24 : decode cX2_init 24 = .ok (.putfield 23, 3) := by decide +kernel
theorem dX2_init_27 : decode cX2_init 27 = .ok (.return_, 1) := by decide +kernel
set_option maxRecDepth 20000 in
theorem ggX2_renew_J7_fill_53178 : GoodIn wsX2_renew wsJ7_fill_53178 := goodIn_r _ [8] (by decide +kernel) (by decide +kernel)
set_option maxRecDepth 20000 in
theorem gX2_renew_J7_fill_53178 : GoodIn wsX2_renew (va_wsS RX2 26 yJ7_fill_53178 wsJ7_fill_53178) := goodIn_app (goodIn_of _ (by decide +kernel)) ggX2_renew_J7_fill_53178
theorem dX2_renew_0 : decode cX2_renew 0 = .ok (.aload_n 0, 1) := by decide +kernel
theorem dX2_renew_1 : decode cX2_renew 1 = .ok (.getfield 9, 3) := by decide +kernel
theorem dX2_renew_4 : decode cX2_renew 4 = .ok (.iconst 0, 1) := by decide +kernel
theorem dX2_renew_5 : decode cX2_renew 5 = .ok (.invokestatic 26, 3) := by decide +kernel
theorem dX2_renew_8 : decode cX2_renew 8 = .ok (.aload_n 0, 1) := by decide +kernel
theorem dX2_renew_9 : decode cX2_renew 9 = .ok (.iload_n 1, 1) := by decide +kernel
theorem dX2_renew_10 : decode cX2_renew 10 = .ok (.putfield 19, 3) := by decide +kernel
theorem dX2_renew_13 : decode cX2_renew 13 = .ok (.aload_n 0, 1) := by decide +kernel
theorem dX2_renew_14 : decode cX2_renew 14 = .ok (.iload_n 2, 1) := by decide +kernel
theorem dX2_renew_15 : decode cX2_renew 15 = .ok (.putfield 23, 3) := by decide +kernel
theorem dX2_renew_18 : decode cX2_renew 18 = .ok (.aload_n 0, 1) := by decide +kernel
theorem dX2_renew_19 : decode cX2_renew 19 = .ok (.iconst 1, 1) := by decide +kernel
theorem dX2_renew_20 : decode cX2_renew 20 = .ok (.putfield 15, 3) := by decide +kernel
theorem dX2_renew_23 : decode cX2_renew 23 = .ok (.return_, 1) := by decide +kernel
theorem dX2_has_0 : decode cX2_has 0 = .ok (.iload_n 1, 1) := by decide +kernel
theorem dX2_has_1 : decode cX2_has 1 = .ok (.ifCond .lt 24, 3) := by decide +kernel
theorem dX2_has_4 : decode cX2_has 4 = .ok (.iload_n 1, 1) := by decide +kernel
theorem dX2_has_5 : decode cX2_has 5 = .ok (.aload_n 0, 1) := by decide +kernel
theorem dX2_has_6 : decode cX2_has 6 = .ok (.getfield 23, 3) := by decide +kernel
theorem dX2_has_9 : decode cX2_has 9 = .ok (.if_icmp .ge 16, 3) := by decide +kernel
theorem dX2_has_12 : decode cX2_has 12 = .ok (.iload_n 1, 1) := by decide +kernel
theorem dX2_has_13 : decode cX2_has 13 = .ok (.aload_n 0, 1) := by decide +kernel
theorem dX2_has_14 : decode cX2_has 14 = .ok (.getfield 9, 3) := by decide +kernel
theorem dX2_has_17 : decode cX2_has 17 = .ok (.arraylength, 1) := by decide +kernel
theorem dX2_has_18 : decode cX2_has 18 = .ok (.if_icmp .ge 7, 3) := by decide +kernel
theorem dX2_has_21 : decode cX2_has 21 = .ok (.iconst 1, 1) := by decide +kernel
theorem dX2_has_22 : decode cX2_has 22 = .ok (.goto 4, 3) := by decide +kernel
theorem dX2_has_25 : decode cX2_has 25 = .ok (.iconst 0, 1) := by decide +kernel
theorem dX2_has_26 : decode cX2_has 26 = .ok (.ireturn, 1) := by decide +kernel
theorem dX2_hasFrom_0 : decode cX2_hasFrom 0 = .ok (.iload_n 1, 1) := by decide +kernel
theorem dX2_hasFrom_1 : decode cX2_hasFrom 1 = .ok (.ifCond .lt 29, 3) := by decide +kernel
theorem dX2_hasFrom_4 : decode cX2_hasFrom 4 = .ok (.iload_n 1, 1) := by decide +kernel
theorem dX2_hasFrom_5 : decode cX2_hasFrom 5 = .ok (.aload_n 0, 1) := by decide +kernel
theorem dX2_hasFrom_6 : decode cX2_hasFrom 6 = .ok (.getfield 23, 3) := by decide +kernel
theorem dX2_hasFrom_9 : decode cX2_hasFrom 9 = .ok (.if_icmp .gt 21, 3) := by decide +kernel
theorem dX2_hasFrom_12 : decode cX2_hasFrom 12 = .ok (.iload_n 2, 1) := by decide +kernel
theorem dX2_hasFrom_13 : decode cX2_hasFrom 13 = .ok (.ifCond .lt 17, 3) := by decide +kernel
theorem dX2_hasFrom_16 : decode cX2_hasFrom 16 = .ok (.iload_n 2, 1) := by decide +kernel
theorem dX2_hasFrom_17 : decode cX2_hasFrom 17 = .ok (.aload_n 0, 1) := by decide +kernel
theorem dX2_hasFrom_18 : decode cX2_hasFrom 18 = .ok (.getfield 23, 3) := by decide +kernel
theorem dX2_hasFrom_21 : decode cX2_hasFrom 21 = .ok (.iload_n 1, 1) := by decide +kernel
theorem dX2_hasFrom_22 : decode cX2_hasFrom 22 = .ok (.isub, 1) := by decide +kernel
theorem dX2_hasFrom_23 : decode cX2_hasFrom 23 = .ok (.if_icmp .gt 7, 3) := by decide +kernel
theorem dX2_hasFrom_26 : decode cX2_hasFrom 26 = .ok (.iconst 1, 1) := by decide +kernel
theorem dX2_hasFrom_27 : decode cX2_hasFrom 27 = .ok (.goto 4, 3) := by decide +kernel
theorem dX2_hasFrom_30 : decode cX2_hasFrom 30 = .ok (.iconst 0, 1) := by decide +kernel
theorem dX2_hasFrom_31 : decode cX2_hasFrom 31 = .ok (.ireturn, 1) := by decide +kernel
theorem dX2_faultAs_0 : decode cX2_faultAs 0 = .ok (.aload_n 0, 1) := by decide +kernel
theorem dX2_faultAs_1 : decode cX2_faultAs 1 = .ok (.getfield 15, 3) := by decide +kernel
theorem dX2_faultAs_4 : decode cX2_faultAs 4 = .ok (.ifCond .ne 5, 3) := by decide +kernel
theorem dX2_faultAs_7 : decode cX2_faultAs 7 = .ok (.iconst 1, 1) := by decide +kernel
theorem dX2_faultAs_8 : decode cX2_faultAs 8 = .ok (.ireturn, 1) := by decide +kernel
theorem dX2_faultAs_9 : decode cX2_faultAs 9 = .ok (.aload_n 0, 1) := by decide +kernel
theorem dX2_faultAs_10 : decode cX2_faultAs 10 = .ok (.getfield 19, 3) := by decide +kernel
theorem dX2_faultAs_13 : decode cX2_faultAs 13 = .ok (.iload_n 1, 1) := by decide +kernel
theorem dX2_faultAs_14 : decode cX2_faultAs 14 = .ok (.if_icmp .ne 7, 3) := by decide +kernel
theorem dX2_faultAs_17 : decode cX2_faultAs 17 = .ok (.iconst 0, 1) := by decide +kernel
theorem dX2_faultAs_18 : decode cX2_faultAs 18 = .ok (.goto 4, 3) := by decide +kernel
theorem dX2_faultAs_21 : decode cX2_faultAs 21 = .ok (.iconst 2, 1) := by decide +kernel
theorem dX2_faultAs_22 : decode cX2_faultAs 22 = .ok (.ireturn, 1) := by decide +kernel
set_option maxRecDepth 20000 in
theorem ggX2_number_X2_has : GoodIn wsX2_number wsX2_has := goodIn_r _ [6, 7, 1, 8, 9, 10, 11] (by decide +kernel) (by decide +kernel)
set_option maxRecDepth 20000 in
theorem gX2_number_X2_has : GoodIn wsX2_number (wsV RX2 32 RX2 yX2_has wsX2_has) := goodIn_app (goodIn_of _ (by decide +kernel)) ggX2_number_X2_has
theorem dX2_number_0 : decode cX2_number 0 = .ok (.aload_n 0, 1) := by decide +kernel
theorem dX2_number_1 : decode cX2_number 1 = .ok (.iload_n 1, 1) := by decide +kernel
theorem dX2_number_2 : decode cX2_number 2 = .ok (.invokevirtual 32, 3) := by decide +kernel
theorem dX2_number_5 : decode cX2_number 5 = .ok (.ifCond .eq 12, 3) := by decide +kernel
theorem dX2_number_8 : decode cX2_number 8 = .ok (.aload_n 0, 1) := by decide +kernel
theorem dX2_number_9 : decode cX2_number 9 = .ok (.getfield 9, 3) := by decide +kernel
theorem dX2_number_12 : decode cX2_number 12 = .ok (.iload_n 1, 1) := by decide +kernel
theorem dX2_number_13 : decode cX2_number 13 = .ok (.iaload, 1) := by decide +kernel
theorem dX2_number_14 : decode cX2_number 14 = .ok (.goto 4, 3) := by decide +kernel
theorem dX2_number_17 : decode cX2_number 17 = .ok (.iconst 0, 1) := by decide +kernel
theorem dX2_number_18 : decode cX2_number 18 = .ok (.ireturn, 1) := by decide +kernel
set_option maxRecDepth 20000 in
theorem ggX2_write_X2_has : GoodIn wsX2_write wsX2_has := goodIn_r _ [7, 8, 1, 9, 10, 11, 12] (by decide +kernel) (by decide +kernel)
set_option maxRecDepth 20000 in
theorem gX2_write_X2_has : GoodIn wsX2_write (wsV RX2 32 RX2 yX2_has wsX2_has) := goodIn_app (goodIn_of _ (by decide +kernel)) ggX2_write_X2_has
theorem dX2_write_0 : decode cX2_write 0 = .ok (.aload_n 0, 1) := by decide +kernel
theorem dX2_write_1 : decode cX2_write 1 = .ok (.iload_n 1, 1) := by decide +kernel
theorem dX2_write_2 : decode cX2_write 2 = .ok (.invokevirtual 32, 3) := by decide +kernel
theorem dX2_write_5 : decode cX2_write 5 = .ok (.ifCond .eq 35, 3) := by decide +kernel
theorem dX2_write_8 : decode cX2_write 8 = .ok (.aload_n 0, 1) := by decide +kernel
theorem dX2_write_9 : decode cX2_write 9 = .ok (.getfield 9, 3) := by decide +kernel
theorem dX2_write_12 : decode cX2_write 12 = .ok (.iload_n 1, 1) := by decide +kernel
theorem dX2_write_13 : decode cX2_write 13 = .ok (.aload_n 0, 1) := by decide +kernel
theorem dX2_write_14 : decode cX2_write 14 = .ok (.getfield 19, 3) := by decide +kernel
theorem dX2_write_17 : decode cX2_write 17 = .ok (.ifCond .ne 8, 3) := by decide +kernel
theorem dX2_write_20 : decode cX2_write 20 = .ok (.iload_n 2, 1) := by decide +kernel
theorem dX2_write_21 : decode cX2_write 21 = .ok (.i2b, 1) := by decide +kernel
theorem dX2_write_22 : decode cX2_write 22 = .ok (.goto 17, 3) := by decide +kernel
theorem dX2_write_25 : decode cX2_write 25 = .ok (.aload_n 0, 1) := by decide +kernel
theorem dX2_write_26 : decode cX2_write 26 = .ok (.getfield 19, 3) := by decide +kernel
theorem dX2_write_29 : decode cX2_write 29 = .ok (.iconst 1, 1) := by decide +kernel
theorem dX2_write_30 : decode cX2_write 30 = .ok (.if_icmp .ne 8, 3) := by decide +kernel
theorem dX2_write_33 : decode cX2_write 33 = .ok (.iload_n 2, 1) := by decide +kernel
theorem dX2_write_34 : decode cX2_write 34 = .ok (.i2s, 1) := by decide +kernel
theorem dX2_write_35 : decode cX2_write 35 = .ok (.goto 4, 3) := by decide +kernel
theorem dX2_write_38 : decode cX2_write 38 = .ok (.iload_n 2, 1) := by decide +kernel
theorem dX2_write_39 : decode cX2_write 39 = .ok (.iastore, 1) := by decide +kernel
theorem dX2_write_40 : decode cX2_write 40 = .ok (.return_, 1) := by decide +kernel
theorem dX3_init_0 : decode cX3_init 0 = .ok (.aload_n 0, 1) := by decide +kernel
theorem dX3_init_1 : decode cX3_init 1 = .ok (.invokespecial 1, 3) := by decide +kernel
theorem dX3_init_4 : decode cX3_init 4 = .ok (.aload_n 0, 1) := by decide +kernel
theorem dX3_init_5 : decode cX3_init 5 = .ok (.iconst 0, 1) := by decide +kernel
theorem dX3_init_6 : decode cX3_init 6 = .ok (.putfield 7, 3) := by decide +kernel
theorem dX3_init_9 : decode cX3_init 9 = .ok (.aload_n 0, 1) := by decide +kernel
theorem dX3_init_10 : decode cX3_init 10 = .ok (.iconst 0, 1) := by decide +kernel
theorem dX3_init_11 : decode cX3_init 11 = .ok (.putfield 13, 3) := by decide +kernel
theorem dX3_init_14 : decode cX3_init 14 = .ok (.aload_n 0, 1) := by decide +kernel
theorem dX3_init_15 : decode cX3_init 15 = .ok (.iload_n 1, 1) := by decide +kernel
theorem dX3_init_16 : decode cX3_init 16 = .ok (.putfield 16, 3) := by decide +kernel
theorem dX3_init_19 : decode cX3_init 19 = .ok (.aload_n 0, 1) := by decide +kernel
theorem dX3_init_20 : decode cX3_init 20 = .ok (.iload_n 2, 1) := by decide +kernel
theorem dX3_init_21 : decode cX3_init 21 = .ok (.putfield 19, 3) := by decide +kernel
theorem dX3_init_24 : decode cX3_init 24 = .ok (.aload_n 0, 1) := by decide +kernel
theorem dX3_init_25 : decode cX3_init 25 = .ok (.iload_n 3, 1) := by decide +kernel
theorem dX3_init_26 : decode cX3_init 26 = .ok (.putfield 22, 3) := by decide +kernel
theorem dX3_init_29 : decode cX3_init 29 = .ok (.return_, 1) := by decide +kernel
theorem dX4_init_0 : decode cX4_init 0 = .ok (.aload_n 0, 1) := by decide +kernel
theorem dX4_init_1 : decode cX4_init 1 = .ok (.invokespecial 3, 3) := by decide +kernel
theorem dX4_init_4 : decode cX4_init 4 = .ok (.aload_n 0, 1) := by decide +kernel
theorem dX4_init_5 : decode cX4_init 5 = .ok (.iconst 0, 1) := by decide +kernel
theorem dX4_init_6 : decode cX4_init 6 = .ok (.putfield 9, 3) := by decide +kernel
theorem dX4_init_9 : decode cX4_init 9 = .ok (.aload_n 0, 1) := by decide +kernel
theorem dX4_init_10 : decode cX4_init 10 = .ok (.iconst 0, 1) := by decide +kernel
theorem dX4_init_11 : decode cX4_init 11 = .ok (.putfield 15, 3) := by decide +kernel
theorem dX4_init_14 : decode cX4_init 14 = .ok (.aload_n 0, 1) := by decide +kernel
theorem dX4_init_15 : decode cX4_init 15 = .ok (.iconst 0, 1) := by decide +kernel
theorem dX4_init_16 : decode cX4_init 16 = .ok (.putfield 18, 3) := by decide +kernel
theorem dX4_init_19 : decode cX4_init 19 = .ok (.aload_n 0, 1) := by decide +kernel
theorem dX4_init_20 : decode cX4_init 20 = .ok (.iconst 0, 1) := by decide +kernel
theorem dX4_init_21 : decode cX4_init 21 = .ok (.putfield 21, 3) := by decide +kernel
theorem dX4_init_24 : decode cX4_init 24 = .ok (.aload_n 0, 1) := by decide +kernel
theorem dX4_init_25 : decode cX4_init 25 = .ok (.iconst 0, 1) := by decide +kernel
theorem dX4_init_26 : decode cX4_init 26 = .ok (.putfield 24, 3) := by decide +kernel
theorem dX4_init_29 : decode cX4_init 29 = .ok (.aload_n 0, 1) := by decide +kernel
theorem dX4_init_30 : decode cX4_init 30 = .ok (.iconst 0, 1) := by decide +kernel
theorem dX4_init_31 : decode cX4_init 31 = .ok (.putfield 27, 3) := by decide +kernel
theorem dX4_init_34 : decode cX4_init 34 = .ok (.aload_n 0, 1) := by decide +kernel
theorem dX4_init_35 : decode cX4_init 35 = .ok (.bipush 20, 2) := by decide +kernel
theorem dX4_init_37 : decode cX4_init 37 = .ok (.newarray .int, 2) := by decide +kernel
theorem dX4_init_39 : decode cX4_init 39 = .ok (.putfield 30, 3) := by decide +kernel
theorem dX4_init_42 : decode cX4_init 42 = .ok (.aload_n 0, 1) := by decide +kernel
theorem dX4_init_43 : decode cX4_init 43 = .ok (.iconst 1, 1) := by decide +kernel
theorem dX4_init_44 : decode cX4_init 44 = .ok (.putfield 34, 3) := by decide +kernel
theorem dX4_init_47 : decode cX4_init 47 = .ok (.aload_n 0, 1) := by decide +kernel
theorem dX4_init_48 : decode cX4_init 48 = .ok (.iconst 0, 1) := by decide +kernel
theorem dX4_init_49 : decode cX4_init 49 = .ok (.putfield 37, 3) := by decide +kernel
theorem dX4_init_52 : decode cX4_init 52 = .ok (.return_, 1) := by decide +kernel
set_option maxRecDepth 20000 in
theorem ggX4_takeLaw_X1_number : GoodIn wsX4_takeLaw wsX1_number := goodIn_r _ [11, 12, 22, 23, 24, 25, 26, 27, 28] (by decide +kernel) (by decide +kernel)
set_option maxRecDepth 20000 in
theorem gX4_takeLaw_X1_number : GoodIn wsX4_takeLaw (wsV RX4 40 RX1 yX1_number wsX1_number) := goodIn_app (goodIn_of _ (by decide +kernel)) ggX4_takeLaw_X1_number
theorem dX4_takeLaw_0 : decode cX4_takeLaw 0 = .ok (.aload_n 0, 1) := by decide +kernel
theorem dX4_takeLaw_1 : decode cX4_takeLaw 1 = .ok (.aload_n 1, 1) := by decide +kernel
theorem dX4_takeLaw_2 : decode cX4_takeLaw 2 = .ok (.iconst 0, 1) := by decide +kernel
theorem dX4_takeLaw_3 : decode cX4_takeLaw 3 = .ok (.invokevirtual 40, 3) := by decide +kernel
theorem dX4_takeLaw_6 : decode cX4_takeLaw 6 = .ok (.putfield 9, 3) := by decide +kernel
theorem dX4_takeLaw_9 : decode cX4_takeLaw 9 = .ok (.aload_n 0, 1) := by decide +kernel
theorem dX4_takeLaw_10 : decode cX4_takeLaw 10 = .ok (.aload_n 1, 1) := by decide +kernel
theorem dX4_takeLaw_11 : decode cX4_takeLaw 11 = .ok (.iconst 1, 1) := by decide +kernel
theorem dX4_takeLaw_12 : decode cX4_takeLaw 12 = .ok (.invokevirtual 40, 3) := by decide +kernel
theorem dX4_takeLaw_15 : decode cX4_takeLaw 15 = .ok (.putfield 15, 3) := by decide +kernel
theorem dX4_takeLaw_18 : decode cX4_takeLaw 18 = .ok (.aload_n 0, 1) := by decide +kernel
theorem dX4_takeLaw_19 : decode cX4_takeLaw 19 = .ok (.aload_n 1, 1) := by decide +kernel
theorem dX4_takeLaw_20 : decode cX4_takeLaw 20 = .ok (.iconst 2, 1) := by decide +kernel
theorem dX4_takeLaw_21 : decode cX4_takeLaw 21 = .ok (.invokevirtual 40, 3) := by decide +kernel
theorem dX4_takeLaw_24 : decode cX4_takeLaw 24 = .ok (.putfield 18, 3) := by decide +kernel
theorem dX4_takeLaw_27 : decode cX4_takeLaw 27 = .ok (.aload_n 0, 1) := by decide +kernel
theorem dX4_takeLaw_28 : decode cX4_takeLaw 28 = .ok (.aload_n 1, 1) := by decide +kernel
theorem dX4_takeLaw_29 : decode cX4_takeLaw 29 = .ok (.iconst 3, 1) := by decide +kernel
theorem dX4_takeLaw_30 : decode cX4_takeLaw 30 = .ok (.invokevirtual 40, 3) := by decide +kernel
theorem dX4_takeLaw_33 : decode cX4_takeLaw 33 = .ok (.putfield 21, 3) := by decide +kernel
theorem dX4_takeLaw_36 : decode cX4_takeLaw 36 = .ok (.aload_n 0, 1) := by decide +kernel
theorem dX4_takeLaw_37 : decode cX4_takeLaw 37 = .ok (.aload_n 1, 1) := by decide +kernel
theorem dX4_takeLaw_38 : decode cX4_takeLaw 38 = .ok (.iconst 4, 1) := by decide +kernel
theorem dX4_takeLaw_39 : decode cX4_takeLaw 39 = .ok (.invokevirtual 40, 3) := by decide +kernel
theorem dX4_takeLaw_42 : decode cX4_takeLaw 42 = .ok (.putfield 24, 3) := by decide +kernel
theorem dX4_takeLaw_45 : decode cX4_takeLaw 45 = .ok (.aload_n 0, 1) := by decide +kernel
theorem dX4_takeLaw_46 : decode cX4_takeLaw 46 = .ok (.aload_n 1, 1) := by decide +kernel
theorem dX4_takeLaw_47 : decode cX4_takeLaw 47 = .ok (.iconst 5, 1) := by decide +kernel
theorem dX4_takeLaw_48 : decode cX4_takeLaw 48 = .ok (.invokevirtual 40, 3) := by decide +kernel
theorem dX4_takeLaw_51 : decode cX4_takeLaw 51 = .ok (.putfield 27, 3) := by decide +kernel
theorem dX4_takeLaw_54 : decode cX4_takeLaw 54 = .ok (.return_, 1) := by decide +kernel
theorem dX4_waveAt_0 : decode cX4_waveAt 0 = .ok (.aload_n 0, 1) := by decide +kernel
theorem dX4_waveAt_1 : decode cX4_waveAt 1 = .ok (.getfield 34, 3) := by decide +kernel
theorem dX4_waveAt_4 : decode cX4_waveAt 4 = .ok (.iconst 1, 1) := by decide +kernel
theorem dX4_waveAt_5 : decode cX4_waveAt 5 = .ok (.if_icmp .ge 5, 3) := by decide +kernel
theorem dX4_waveAt_8 : decode cX4_waveAt 8 = .ok (.iconst 0, 1) := by decide +kernel
theorem dX4_waveAt_9 : decode cX4_waveAt 9 = .ok (.ireturn, 1) := by decide +kernel
theorem dX4_waveAt_10 : decode cX4_waveAt 10 = .ok (.iload_n 1, 1) := by decide +kernel
theorem dX4_waveAt_11 : decode cX4_waveAt 11 = .ok (.iload_n 2, 1) := by decide +kernel
theorem dX4_waveAt_12 : decode cX4_waveAt 12 = .ok (.iadd, 1) := by decide +kernel
theorem dX4_waveAt_13 : decode cX4_waveAt 13 = .ok (.aload_n 0, 1) := by decide +kernel
theorem dX4_waveAt_14 : decode cX4_waveAt 14 = .ok (.getfield 34, 3) := by decide +kernel
theorem dX4_waveAt_17 : decode cX4_waveAt 17 = .ok (.irem, 1) := by decide +kernel
theorem dX4_waveAt_18 : decode cX4_waveAt 18 = .ok (.istore_n 3, 1) := by decide +kernel
theorem dX4_waveAt_19 : decode cX4_waveAt 19 = .ok (.iload_n 3, 1) := by decide +kernel
theorem dX4_waveAt_20 : decode cX4_waveAt 20 = .ok (.ifCond .lt 12, 3) := by decide +kernel
theorem dX4_waveAt_23 : decode cX4_waveAt 23 = .ok (.iload_n 3, 1) := by decide +kernel
theorem dX4_waveAt_24 : decode cX4_waveAt 24 = .ok (.aload_n 0, 1) := by decide +kernel
theorem dX4_waveAt_25 : decode cX4_waveAt 25 = .ok (.getfield 30, 3) := by decide +kernel
theorem dX4_waveAt_28 : decode cX4_waveAt 28 = .ok (.arraylength, 1) := by decide +kernel
theorem dX4_waveAt_29 : decode cX4_waveAt 29 = .ok (.if_icmp .lt 7, 3) := by decide +kernel
theorem dX4_waveAt_32 : decode cX4_waveAt 32 = .ok (.iconst 0, 1) := by decide +kernel
theorem dX4_waveAt_33 : decode cX4_waveAt 33 = .ok (.goto 9, 3) := by decide +kernel
theorem dX4_waveAt_36 : decode cX4_waveAt 36 = .ok (.aload_n 0, 1) := by decide +kernel
theorem dX4_waveAt_37 : decode cX4_waveAt 37 = .ok (.getfield 30, 3) := by decide +kernel
theorem dX4_waveAt_40 : decode cX4_waveAt 40 = .ok (.iload_n 3, 1) := by decide +kernel
theorem dX4_waveAt_41 : decode cX4_waveAt 41 = .ok (.iaload, 1) := by decide +kernel
theorem dX4_waveAt_42 : decode cX4_waveAt 42 = .ok (.ireturn, 1) := by decide +kernel
theorem dJ9_max_7cf53_0 : decode cJ9_max_7cf53 0 = .ok (.iload_n 0, 1) := by decide +kernel
theorem dJ9_max_7cf53_1 : decode cJ9_max_7cf53 1 = .ok (.iload_n 1, 1) := by decide +kernel
theorem dJ9_max_7cf53_2 : decode cJ9_max_7cf53 2 = .ok (.if_icmp .lt 7, 3) := by decide +kernel
theorem dJ9_max_7cf53_5 : decode cJ9_max_7cf53 5 = .ok (.iload_n 0, 1) := by decide +kernel
theorem dJ9_max_7cf53_6 : decode cJ9_max_7cf53 6 = .ok (.goto 4, 3) := by decide +kernel
theorem dJ9_max_7cf53_9 : decode cJ9_max_7cf53 9 = .ok (.iload_n 1, 1) := by decide +kernel
theorem dJ9_max_7cf53_10 : decode cJ9_max_7cf53 10 = .ok (.ireturn, 1) := by decide +kernel
theorem dJ7_fill_53178_0 : decode cJ7_fill_53178 0 = .ok (.iconst 0, 1) := by decide +kernel
theorem dJ7_fill_53178_1 : decode cJ7_fill_53178 1 = .ok (.istore_n 2, 1) := by decide +kernel
theorem dJ7_fill_53178_2 : decode cJ7_fill_53178 2 = .ok (.aload_n 0, 1) := by decide +kernel
theorem dJ7_fill_53178_3 : decode cJ7_fill_53178 3 = .ok (.arraylength, 1) := by decide +kernel
theorem dJ7_fill_53178_4 : decode cJ7_fill_53178 4 = .ok (.istore_n 3, 1) := by decide +kernel
theorem dJ7_fill_53178_5 : decode cJ7_fill_53178 5 = .ok (.iload_n 2, 1) := by decide +kernel
theorem dJ7_fill_53178_6 : decode cJ7_fill_53178 6 = .ok (.iload_n 3, 1) := by decide +kernel
theorem dJ7_fill_53178_7 : decode cJ7_fill_53178 7 = .ok (.if_icmp .ge 13, 3) := by decide +kernel
theorem dJ7_fill_53178_10 : decode cJ7_fill_53178 10 = .ok (.aload_n 0, 1) := by decide +kernel
theorem dJ7_fill_53178_11 : decode cJ7_fill_53178 11 = .ok (.iload_n 2, 1) := by decide +kernel
theorem dJ7_fill_53178_12 : decode cJ7_fill_53178 12 = .ok (.iload_n 1, 1) := by decide +kernel
theorem dJ7_fill_53178_13 : decode cJ7_fill_53178 13 = .ok (.iastore, 1) := by decide +kernel
theorem dJ7_fill_53178_14 : decode cJ7_fill_53178 14 = .ok (.iinc 2 1, 3) := by decide +kernel
theorem dJ7_fill_53178_17 : decode cJ7_fill_53178 17 = .ok (.goto (-12), 3) := by decide +kernel
theorem dJ7_fill_53178_20 : decode cJ7_fill_53178 20 = .ok (.return_, 1) := by decide +kernel
