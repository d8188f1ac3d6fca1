section M1b
set_option maxRecDepth 20000 in
theorem kw_X5_sinks_0 : Cond.fieldLink RX5 116 "SkipStones$Water" "lift" "I" ∈ wsX5_sinks := List.mem_of_getElem? (i := 1) rfl
set_option maxRecDepth 20000 in
theorem kw_X5_sinks_1 : Cond.fieldLink RX5 89 "SkipStones$Stone" "wide" "I" ∈ wsX5_sinks := List.mem_of_getElem? (i := 2) rfl
set_option maxRecDepth 20000 in
theorem kw_X5_sinks_2 : Cond.fieldLink RX5 86 "SkipStones$Stone" "weight" "I" ∈ wsX5_sinks := List.mem_of_getElem? (i := 3) rfl
set_option maxRecDepth 20000 in
theorem hi_X5_sinks_4 : ∀ w ∈ wsX40, w ∈ wsX5_sinks := fun _ h => List.mem_cons_of_mem _ (List.mem_append_left _ (List.mem_append_right _ h))
set_option maxRecDepth 20000 in
theorem hi_X5_sinks_3 : ∀ w ∈ wsX30, w ∈ wsX5_sinks := fun _ h => List.mem_cons_of_mem _ (List.mem_append_right _ h)
set_option maxHeartbeats 4000000 in
set_option maxRecDepth 100000 in
/-- sinks -/
theorem c_X5_sinks (l : Launch) (X : gX) (s0 : Nat) (wt : Int) (wd : Int) (rg : Int) (ly : Int) (wo : Int) (a0 : Nat) (a1 : Nat) (l1 : Int) (l2 : Int) (l3 : Int) (l4 : Int) (l5 : Int) (l6 : Int) (wc : Int) (sh : Int) (Fw : Nat → Int) (sp : Int) (fa : Int) (ti : Int) (hs1 : 1 ≤ wt ∧ wt ≤ 99) (hs2 : 1 ≤ wd ∧ wd ≤ 99) (hs3 : 0 ≤ rg ∧ rg ≤ 9) (hl1 : 1 ≤ l1 ∧ l1 ≤ 99) (hp : 1 ≤ sp ∧ sp ≤ 300) (hf : 1 ≤ fa ∧ fa ≤ 99) (ht : inB ti) : gM l yX5_sinks wsX5_sinks (gr 0 0 0) X [(s0, .inr (3, [.int (iI wt), .int (iI wd), .int (iI rg), .int (iI ly), .int (iI wo)])), (a0, .inr (4, [.int (iI l1), .int (iI l2), .int (iI l3), .int (iI l4), .int (iI l5), .int (iI l6), .ref a1, .int (iI wc), .int (iI sh)])), (a1, .inl (X.2.1.1, 20, .inl (iF Fw)))] [.ref s0, .ref a0, .int (iI sp), .int (iI fa), .int (iI ti)] (gQi X (Y := Unit) (fun _ => True) (fun _ => (if (ti < 1 ∨ 45 < ti ∨ sp * wd * ti / (10 * l1) < wt * (fa + 10)) then 1 else 0)) (fun _ => [(s0, .inr (3, [.int (iI wt), .int (iI wd), .int (iI rg), .int (iI ly), .int (iI wo)])), (a0, .inr (4, [.int (iI l1), .int (iI l2), .int (iI l3), .int (iI l4), .int (iI l5), .int (iI l6), .ref a1, .int (iI wc), .int (iI sh)])), (a1, .inl (X.2.1.1, 20, .inl (iF Fw)))])) 0 0 := by
  refine g_start2 (lo := [(0, .ref s0), (1, .ref a0), (2, .int (iI sp)), (3, .int (iI fa)), (4, .int (iI ti))]) (by decide +kernel) rfl rfl (Nat.le_of_ble_eq_true rfl) (fun p e s m args below meth c A C => ?_)
  refine r_aload_n C dX5_sinks_0 1 rfl ?_
  refine gf_4_0 C hi_X5_sinks_4 kw_X5_sinks_0 dX5_sinks_1 1 rfl rfl ?_
  refine r_istore (lo2 := [(5, .int (iI l1)), (0, .ref s0), (1, .ref a0), (2, .int (iI sp)), (3, .int (iI fa)), (4, .int (iI ti))]) C dX5_sinks_4 (by decide) rfl ?_
  refine r_iload C dX5_sinks_6 5 rfl ?_
  refine r_iconst C dX5_sinks_8 ?_
  refine r_icmp_lt (tgt := 25) C dX5_sinks_9 (by decide) (by omega) (by decide) (fun h_1 => ?_) (fun h_1 => ?_)
  · skip
    refine r_iconst C dX5_sinks_25 ?_
    exact g_ret_z C rfl (by decide) dX5_sinks_26 () trivial (by first | rfl | omega | ((repeat' split) <;> first | rfl | omega)) [0, 1, 2] rfl rfl
  · skip
    refine r_iload C dX5_sinks_12 5 rfl ?_
    refine r_bipush C dX5_sinks_14 (by decide) ?_
    refine r_icmp_gt (tgt := 25) C dX5_sinks_16 (by decide) (by omega) (by decide) (fun h_2 => ?_) (fun h_2 => ?_)
    · skip
      refine r_iconst C dX5_sinks_25 ?_
      exact g_ret_z C rfl (by decide) dX5_sinks_26 () trivial (by first | rfl | omega | ((repeat' split) <;> first | rfl | omega)) [0, 1, 2] rfl rfl
    · skip
      refine r_iload C dX5_sinks_19 0 rfl ?_
      refine r_iconst C dX5_sinks_21 ?_
      refine r_icmp_ge (tgt := 27) C dX5_sinks_22 (by decide) (by omega) (by decide) (fun h_3 => ?_) (fun h_3 => absurd h_3 (by omega))
      have q1 := mulB (a := sp) (b := wd) (A := 300) (B := 99) (by omega) (by omega)
      have q2 := mulB (a := sp * wd) (b := ti) (A := 29700) (B := 45) (by omega) (by omega)
      have q3 := divB (a := sp * wd * ti) (b := 10 * l1) (A := 1336500) (by omega) (by omega)
      have q4 := mulB (a := wt) (b := fa + 10) (A := 99) (B := 109) (by omega) (by omega)
      refine r_iload_n C dX5_sinks_27 3 rfl ?_
      refine r_aload_n C dX5_sinks_28 1 rfl ?_
      refine gf_3_1 C hi_X5_sinks_3 kw_X5_sinks_1 dX5_sinks_29 0 rfl rfl ?_
      refine r_imul C dX5_sinks_32 ?_
      refine r_iload C dX5_sinks_33 5 rfl ?_
      refine r_imul C dX5_sinks_35 ?_
      refine r_bipush C dX5_sinks_36 (by decide) ?_
      refine r_iload C dX5_sinks_38 0 rfl ?_
      refine r_imul C dX5_sinks_40 ?_
      refine r_idiv C dX5_sinks_41 (by omega) (by omega) ?_
      refine r_aload_n C dX5_sinks_42 1 rfl ?_
      refine gf_3_0 C hi_X5_sinks_3 kw_X5_sinks_2 dX5_sinks_43 0 rfl rfl ?_
      refine r_iload_n C dX5_sinks_46 4 rfl ?_
      refine r_bipush C dX5_sinks_47 (by decide) ?_
      refine r_iadd C dX5_sinks_49 ?_
      refine r_imul C dX5_sinks_50 ?_
      refine r_icmp_ge (tgt := 58) C dX5_sinks_51 (by decide) (by omega) (by omega) (fun h_4 => ?_) (fun h_4 => ?_)
      · skip
        refine r_iconst C dX5_sinks_58 ?_
        exact g_ret_z C rfl (by decide) dX5_sinks_59 () trivial (by first | rfl | omega | ((repeat' split) <;> first | rfl | omega)) [0, 1, 2] rfl rfl
      · skip
        refine r_iconst C dX5_sinks_54 ?_
        refine r_goto (tgt := 59) C dX5_sinks_55 (by decide) ?_
        exact g_ret_z C rfl (by decide) dX5_sinks_59 () trivial (by first | rfl | omega | ((repeat' split) <;> first | rfl | omega)) [0, 1, 2] rfl rfl

set_option maxRecDepth 20000 in
theorem kw_X0_keep_0 : Cond.fieldLink RX0 15 "SkipStones$Flight" "count" "I" ∈ wsX0_keep := List.mem_of_getElem? (i := 1) rfl
set_option maxRecDepth 20000 in
theorem kw_X0_keep_1 : Cond.fieldLink RX0 11 "SkipStones$Flight" "values" "[I" ∈ wsX0_keep := List.mem_of_getElem? (i := 2) rfl
set_option maxRecDepth 20000 in
theorem kw_X0_keep_2 : Cond.fieldLink RX0 19 "SkipStones$Flight" "x" "I" ∈ wsX0_keep := List.mem_of_getElem? (i := 3) rfl
set_option maxRecDepth 20000 in
theorem kw_X0_keep_3 : Cond.fieldLink RX0 22 "SkipStones$Flight" "speed" "I" ∈ wsX0_keep := List.mem_of_getElem? (i := 4) rfl
set_option maxRecDepth 20000 in
theorem kw_X0_keep_4 : Cond.fieldLink RX0 25 "SkipStones$Flight" "fall" "I" ∈ wsX0_keep := List.mem_of_getElem? (i := 5) rfl
set_option maxRecDepth 20000 in
theorem kw_X0_keep_5 : Cond.fieldLink RX0 28 "SkipStones$Flight" "slant" "I" ∈ wsX0_keep := List.mem_of_getElem? (i := 6) rfl
set_option maxRecDepth 20000 in
theorem kw_X0_keep_6 : Cond.fieldLink RX0 31 "SkipStones$Flight" "spin" "I" ∈ wsX0_keep := List.mem_of_getElem? (i := 7) rfl
set_option maxRecDepth 20000 in
theorem kw_X0_keep_7 : Cond.fieldLink RX0 34 "SkipStones$Flight" "beat" "I" ∈ wsX0_keep := List.mem_of_getElem? (i := 8) rfl
set_option maxRecDepth 20000 in
theorem hi_X0_keep_0 : ∀ w ∈ wsX00, w ∈ wsX0_keep := fun _ h => List.mem_cons_of_mem _ (List.mem_append_right _ h)
set_option maxHeartbeats 4000000 in
set_option maxRecDepth 100000 in
/-- keep -/
theorem c_X0_keep (l : Launch) (X : gX) (h0 : Nat) (h1 : Nat) (cnt : Int) (xx : Int) (sp : Int) (fa : Int) (sl : Int) (sn : Int) (bt : Int) (F : Nat → Int) (kd : Int) (ti : Int) (tk : Int) (hc : 0 ≤ cnt ∧ cnt < 90) : gM l yX0_keep wsX0_keep (gr 0 0 0) X [(h0, .inr (0, [.ref h1, .int (iI cnt), .int (iI xx), .int (iI sp), .int (iI fa), .int (iI sl), .int (iI sn), .int (iI bt)])), (h1, .inl (X.2.1.1, 810, .inl (iF F)))] [.ref h0, .int (iI kd), .int (iI ti), .int (iI tk)] (gQv X (Y := Unit) (fun _ => True) (fun _ => [(h0, .inr (0, [.ref h1, .int (iI (cnt + 1)), .int (iI xx), .int (iI sp), .int (iI fa), .int (iI sl), .int (iI sn), .int (iI bt)])), (h1, .inl (X.2.1.1, 810, .inl (iF (kpF F cnt kd xx sp fa sl sn ti tk bt))))])) 0 0 := by
  refine g_start2 (lo := [(0, .ref h0), (1, .int (iI kd)), (2, .int (iI ti)), (3, .int (iI tk))]) (by decide +kernel) rfl rfl (Nat.le_of_ble_eq_true rfl) (fun p e s m args below meth c A C => ?_)
  refine r_aload_n C dX0_keep_0 0 rfl ?_
  refine gf_0_1 C hi_X0_keep_0 kw_X0_keep_0 dX0_keep_1 0 rfl rfl ?_
  refine r_bipush C dX0_keep_4 (by decide) ?_
  refine r_imul C dX0_keep_6 ?_
  refine r_istore (lo2 := [(4, .int (iI (cnt * 9))), (0, .ref h0), (1, .int (iI kd)), (2, .int (iI ti)), (3, .int (iI tk))]) C dX0_keep_7 (by decide) rfl ?_
  refine r_aload_n C dX0_keep_9 1 rfl ?_
  refine gf_0_1 C hi_X0_keep_0 kw_X0_keep_0 dX0_keep_10 0 rfl rfl ?_
  refine r_if_lt (tgt := 43) C dX0_keep_13 (by decide) (by omega) (fun h_1 => absurd h_1 (by omega)) (fun h_1 => ?_)
  refine r_aload_n C dX0_keep_16 1 rfl ?_
  refine gf_0_1 C hi_X0_keep_0 kw_X0_keep_0 dX0_keep_17 0 rfl rfl ?_
  refine r_bipush C dX0_keep_20 (by decide) ?_
  refine r_icmp_ge (tgt := 43) C dX0_keep_22 (by decide) (by omega) (by decide) (fun h_2 => absurd h_2 (by omega)) (fun h_2 => ?_)
  refine r_iload C dX0_keep_25 0 rfl ?_
  refine r_if_lt (tgt := 43) C dX0_keep_27 (by decide) (by omega) (fun h_3 => absurd h_3 (by omega)) (fun h_3 => ?_)
  refine r_iload C dX0_keep_30 0 rfl ?_
  refine r_bipush C dX0_keep_32 (by decide) ?_
  refine r_iadd C dX0_keep_34 ?_
  refine r_aload_n C dX0_keep_35 1 rfl ?_
  refine gf_0_0 C hi_X0_keep_0 kw_X0_keep_1 dX0_keep_36 0 rfl rfl ?_
  refine r_alen (z := 810) C dX0_keep_39 1 0 rfl rfl rfl ?_
  refine r_icmp_lt (tgt := 44) C dX0_keep_40 (by decide) (by omega) (by decide) (fun h_4 => ?_) (fun h_4 => absurd h_4 (by omega))
  refine r_aload_n C dX0_keep_44 1 rfl ?_
  refine gf_0_0 C hi_X0_keep_0 kw_X0_keep_1 dX0_keep_45 0 rfl rfl ?_
  refine r_iload C dX0_keep_48 0 rfl ?_
  refine r_iconst C dX0_keep_50 ?_
  refine r_iadd C dX0_keep_51 ?_
  refine r_iload_n C dX0_keep_52 2 rfl ?_
  refine r_iast (ws2 := [(h0, .inr (0, [.ref h1, .int (iI cnt), .int (iI xx), .int (iI sp), .int (iI fa), .int (iI sl), .int (iI sn), .int (iI bt)])), (h1, .inl (X.2.1.1, 810, .inl (iF (updI F (Int.toNat ((cnt * 9) + 0)) kd))))]) C dX0_keep_53 1 rfl (by omega) (by decide) rfl ?_
  refine r_aload_n C dX0_keep_54 1 rfl ?_
  refine gf_0_0 C hi_X0_keep_0 kw_X0_keep_1 dX0_keep_55 0 rfl rfl ?_
  refine r_iload C dX0_keep_58 0 rfl ?_
  refine r_iconst C dX0_keep_60 ?_
  refine r_iadd C dX0_keep_61 ?_
  refine r_aload_n C dX0_keep_62 1 rfl ?_
  refine gf_0_2 C hi_X0_keep_0 kw_X0_keep_2 dX0_keep_63 0 rfl rfl ?_
  refine r_iast (ws2 := [(h0, .inr (0, [.ref h1, .int (iI cnt), .int (iI xx), .int (iI sp), .int (iI fa), .int (iI sl), .int (iI sn), .int (iI bt)])), (h1, .inl (X.2.1.1, 810, .inl (iF (updI (updI F (Int.toNat ((cnt * 9) + 0)) kd) (Int.toNat ((cnt * 9) + 1)) xx))))]) C dX0_keep_66 1 rfl (by omega) (by decide) rfl ?_
  refine r_aload_n C dX0_keep_67 1 rfl ?_
  refine gf_0_0 C hi_X0_keep_0 kw_X0_keep_1 dX0_keep_68 0 rfl rfl ?_
  refine r_iload C dX0_keep_71 0 rfl ?_
  refine r_iconst C dX0_keep_73 ?_
  refine r_iadd C dX0_keep_74 ?_
  refine r_aload_n C dX0_keep_75 1 rfl ?_
  refine gf_0_3 C hi_X0_keep_0 kw_X0_keep_3 dX0_keep_76 0 rfl rfl ?_
  refine r_iast (ws2 := [(h0, .inr (0, [.ref h1, .int (iI cnt), .int (iI xx), .int (iI sp), .int (iI fa), .int (iI sl), .int (iI sn), .int (iI bt)])), (h1, .inl (X.2.1.1, 810, .inl (iF (updI (updI (updI F (Int.toNat ((cnt * 9) + 0)) kd) (Int.toNat ((cnt * 9) + 1)) xx) (Int.toNat ((cnt * 9) + 2)) sp))))]) C dX0_keep_79 1 rfl (by omega) (by decide) rfl ?_
  refine r_aload_n C dX0_keep_80 1 rfl ?_
  refine gf_0_0 C hi_X0_keep_0 kw_X0_keep_1 dX0_keep_81 0 rfl rfl ?_
  refine r_iload C dX0_keep_84 0 rfl ?_
  refine r_iconst C dX0_keep_86 ?_
  refine r_iadd C dX0_keep_87 ?_
  refine r_aload_n C dX0_keep_88 1 rfl ?_
  refine gf_0_4 C hi_X0_keep_0 kw_X0_keep_4 dX0_keep_89 0 rfl rfl ?_
  refine r_iast (ws2 := [(h0, .inr (0, [.ref h1, .int (iI cnt), .int (iI xx), .int (iI sp), .int (iI fa), .int (iI sl), .int (iI sn), .int (iI bt)])), (h1, .inl (X.2.1.1, 810, .inl (iF (updI (updI (updI (updI F (Int.toNat ((cnt * 9) + 0)) kd) (Int.toNat ((cnt * 9) + 1)) xx) (Int.toNat ((cnt * 9) + 2)) sp) (Int.toNat ((cnt * 9) + 3)) fa))))]) C dX0_keep_92 1 rfl (by omega) (by decide) rfl ?_
  refine r_aload_n C dX0_keep_93 1 rfl ?_
  refine gf_0_0 C hi_X0_keep_0 kw_X0_keep_1 dX0_keep_94 0 rfl rfl ?_
  refine r_iload C dX0_keep_97 0 rfl ?_
  refine r_iconst C dX0_keep_99 ?_
  refine r_iadd C dX0_keep_100 ?_
  refine r_aload_n C dX0_keep_101 1 rfl ?_
  refine gf_0_5 C hi_X0_keep_0 kw_X0_keep_5 dX0_keep_102 0 rfl rfl ?_
  refine r_iast (ws2 := [(h0, .inr (0, [.ref h1, .int (iI cnt), .int (iI xx), .int (iI sp), .int (iI fa), .int (iI sl), .int (iI sn), .int (iI bt)])), (h1, .inl (X.2.1.1, 810, .inl (iF (updI (updI (updI (updI (updI F (Int.toNat ((cnt * 9) + 0)) kd) (Int.toNat ((cnt * 9) + 1)) xx) (Int.toNat ((cnt * 9) + 2)) sp) (Int.toNat ((cnt * 9) + 3)) fa) (Int.toNat ((cnt * 9) + 4)) sl))))]) C dX0_keep_105 1 rfl (by omega) (by decide) rfl ?_
  refine r_aload_n C dX0_keep_106 1 rfl ?_
  refine gf_0_0 C hi_X0_keep_0 kw_X0_keep_1 dX0_keep_107 0 rfl rfl ?_
  refine r_iload C dX0_keep_110 0 rfl ?_
  refine r_iconst C dX0_keep_112 ?_
  refine r_iadd C dX0_keep_113 ?_
  refine r_aload_n C dX0_keep_114 1 rfl ?_
  refine gf_0_6 C hi_X0_keep_0 kw_X0_keep_6 dX0_keep_115 0 rfl rfl ?_
  refine r_iast (ws2 := [(h0, .inr (0, [.ref h1, .int (iI cnt), .int (iI xx), .int (iI sp), .int (iI fa), .int (iI sl), .int (iI sn), .int (iI bt)])), (h1, .inl (X.2.1.1, 810, .inl (iF (updI (updI (updI (updI (updI (updI F (Int.toNat ((cnt * 9) + 0)) kd) (Int.toNat ((cnt * 9) + 1)) xx) (Int.toNat ((cnt * 9) + 2)) sp) (Int.toNat ((cnt * 9) + 3)) fa) (Int.toNat ((cnt * 9) + 4)) sl) (Int.toNat ((cnt * 9) + 5)) sn))))]) C dX0_keep_118 1 rfl (by omega) (by decide) rfl ?_
  refine r_aload_n C dX0_keep_119 1 rfl ?_
  refine gf_0_0 C hi_X0_keep_0 kw_X0_keep_1 dX0_keep_120 0 rfl rfl ?_
  refine r_iload C dX0_keep_123 0 rfl ?_
  refine r_bipush C dX0_keep_125 (by decide) ?_
  refine r_iadd C dX0_keep_127 ?_
  refine r_iload_n C dX0_keep_128 3 rfl ?_
  refine r_iast (ws2 := [(h0, .inr (0, [.ref h1, .int (iI cnt), .int (iI xx), .int (iI sp), .int (iI fa), .int (iI sl), .int (iI sn), .int (iI bt)])), (h1, .inl (X.2.1.1, 810, .inl (iF (updI (updI (updI (updI (updI (updI (updI F (Int.toNat ((cnt * 9) + 0)) kd) (Int.toNat ((cnt * 9) + 1)) xx) (Int.toNat ((cnt * 9) + 2)) sp) (Int.toNat ((cnt * 9) + 3)) fa) (Int.toNat ((cnt * 9) + 4)) sl) (Int.toNat ((cnt * 9) + 5)) sn) (Int.toNat ((cnt * 9) + 6)) ti))))]) C dX0_keep_129 1 rfl (by omega) (by decide) rfl ?_
  refine r_aload_n C dX0_keep_130 1 rfl ?_
  refine gf_0_0 C hi_X0_keep_0 kw_X0_keep_1 dX0_keep_131 0 rfl rfl ?_
  refine r_iload C dX0_keep_134 0 rfl ?_
  refine r_bipush C dX0_keep_136 (by decide) ?_
  refine r_iadd C dX0_keep_138 ?_
  refine r_iload_n C dX0_keep_139 4 rfl ?_
  refine r_iast (ws2 := [(h0, .inr (0, [.ref h1, .int (iI cnt), .int (iI xx), .int (iI sp), .int (iI fa), .int (iI sl), .int (iI sn), .int (iI bt)])), (h1, .inl (X.2.1.1, 810, .inl (iF (updI (updI (updI (updI (updI (updI (updI (updI F (Int.toNat ((cnt * 9) + 0)) kd) (Int.toNat ((cnt * 9) + 1)) xx) (Int.toNat ((cnt * 9) + 2)) sp) (Int.toNat ((cnt * 9) + 3)) fa) (Int.toNat ((cnt * 9) + 4)) sl) (Int.toNat ((cnt * 9) + 5)) sn) (Int.toNat ((cnt * 9) + 6)) ti) (Int.toNat ((cnt * 9) + 7)) tk))))]) C dX0_keep_140 1 rfl (by omega) (by decide) rfl ?_
  refine r_aload_n C dX0_keep_141 1 rfl ?_
  refine gf_0_0 C hi_X0_keep_0 kw_X0_keep_1 dX0_keep_142 0 rfl rfl ?_
  refine r_iload C dX0_keep_145 0 rfl ?_
  refine r_bipush C dX0_keep_147 (by decide) ?_
  refine r_iadd C dX0_keep_149 ?_
  refine r_aload_n C dX0_keep_150 1 rfl ?_
  refine gf_0_7 C hi_X0_keep_0 kw_X0_keep_7 dX0_keep_151 0 rfl rfl ?_
  refine r_iast (ws2 := [(h0, .inr (0, [.ref h1, .int (iI cnt), .int (iI xx), .int (iI sp), .int (iI fa), .int (iI sl), .int (iI sn), .int (iI bt)])), (h1, .inl (X.2.1.1, 810, .inl (iF (updI (updI (updI (updI (updI (updI (updI (updI (updI F (Int.toNat ((cnt * 9) + 0)) kd) (Int.toNat ((cnt * 9) + 1)) xx) (Int.toNat ((cnt * 9) + 2)) sp) (Int.toNat ((cnt * 9) + 3)) fa) (Int.toNat ((cnt * 9) + 4)) sl) (Int.toNat ((cnt * 9) + 5)) sn) (Int.toNat ((cnt * 9) + 6)) ti) (Int.toNat ((cnt * 9) + 7)) tk) (Int.toNat ((cnt * 9) + 8)) bt))))]) C dX0_keep_154 1 rfl (by omega) (by decide) rfl ?_
  refine r_aload_n C dX0_keep_155 1 rfl ?_
  refine r_dup C dX0_keep_156 rfl ?_
  refine gf_0_1 C hi_X0_keep_0 kw_X0_keep_0 dX0_keep_157 0 rfl rfl ?_
  refine r_iconst C dX0_keep_160 ?_
  refine r_iadd C dX0_keep_161 ?_
  refine pf_0_1 (ws2 := [(h0, .inr (0, [.ref h1, .int (iI (cnt + 1)), .int (iI xx), .int (iI sp), .int (iI fa), .int (iI sl), .int (iI sn), .int (iI bt)])), (h1, .inl (X.2.1.1, 810, .inl (iF (updI (updI (updI (updI (updI (updI (updI (updI (updI F (Int.toNat ((cnt * 9) + 0)) kd) (Int.toNat ((cnt * 9) + 1)) xx) (Int.toNat ((cnt * 9) + 2)) sp) (Int.toNat ((cnt * 9) + 3)) fa) (Int.toNat ((cnt * 9) + 4)) sl) (Int.toNat ((cnt * 9) + 5)) sn) (Int.toNat ((cnt * 9) + 6)) ti) (Int.toNat ((cnt * 9) + 7)) tk) (Int.toNat ((cnt * 9) + 8)) bt))))]) C hi_X0_keep_0 kw_X0_keep_0 dX0_keep_162 0 rfl rfl rfl (Nat.le_of_ble_eq_true rfl) rfl ?_
  exact g_ret_v C rfl dX0_keep_165 () trivial [0, 1] rfl rfl

set_option maxRecDepth 20000 in
theorem kw_X0_wobble_0 : Cond.fieldLink RX0 31 "SkipStones$Flight" "spin" "I" ∈ wsX0_wobble := List.mem_of_getElem? (i := 1) rfl
set_option maxRecDepth 20000 in
theorem kw_X0_wobble_1 : Cond.methodLink RX0 69 Lib.Math.max.name ∈ wsX0_wobble := List.mem_of_getElem? (i := 2) rfl
set_option maxRecDepth 20000 in
theorem kw_X0_wobble_2 : Cond.static Lib.Math.max.name ∈ wsX0_wobble := List.mem_of_getElem? (i := 3) rfl
set_option maxRecDepth 20000 in
theorem kw_X0_wobble_3 : Cond.initialized "java/lang/Math" ∈ wsX0_wobble := List.mem_of_getElem? (i := 4) rfl
set_option maxRecDepth 20000 in
theorem kw_X0_wobble_4 : Cond.code Lib.Math.max.name Lib.Math.max.code 2 (some .int) ∈ wsX0_wobble := List.mem_of_getElem? (i := 5) rfl
set_option maxRecDepth 20000 in
theorem kw_X0_wobble_5 : Cond.fieldLink RX0 28 "SkipStones$Flight" "slant" "I" ∈ wsX0_wobble := List.mem_of_getElem? (i := 6) rfl
set_option maxRecDepth 20000 in
theorem hi_X0_wobble_0 : ∀ w ∈ wsX00, w ∈ wsX0_wobble := fun _ h => List.mem_cons_of_mem _ (List.mem_append_right _ h)
set_option maxHeartbeats 4000000 in
set_option maxRecDepth 100000 in
/-- wobble -/
theorem c_X0_wobble (l : Launch) (X : gX) (h0 : Nat) (h1 : Nat) (cnt : Int) (xx : Int) (sp : Int) (fa : Int) (sl : Int) (sn : Int) (bt : Int) (F : Nat → Int) (nd : Int) (hn : 0 ≤ nd ∧ nd ≤ 99) (hs : 0 ≤ sn ∧ sn ≤ 99) (hl : 0 ≤ sl ∧ sl ≤ 10000) : gM l yX0_wobble wsX0_wobble (gr 1 0 0) X [(h0, .inr (0, [.ref h1, .int (iI cnt), .int (iI xx), .int (iI sp), .int (iI fa), .int (iI sl), .int (iI sn), .int (iI bt)])), (h1, .inl (X.2.1.1, 810, .inl (iF F)))] [.ref h0, .int (iI nd)] (gQv X (Y := Unit) (fun _ => True) (fun _ => [(h0, .inr (0, [.ref h1, .int (iI cnt), .int (iI xx), .int (iI sp), .int (iI fa), .int (iI (fSl nd sl (fSn sn))), .int (iI (fSn sn)), .int (iI bt)])), (h1, .inl (X.2.1.1, 810, .inl (iF F)))])) 0 0 := by
  refine g_start2 (lo := [(0, .ref h0), (1, .int (iI nd))]) (by decide +kernel) rfl rfl (Nat.le_of_ble_eq_true rfl) (fun p e s m args below meth c A C => ?_)
  refine r_aload_n C dX0_wobble_0 0 rfl ?_
  refine r_iconst C dX0_wobble_1 ?_
  refine r_aload_n C dX0_wobble_2 0 rfl ?_
  refine gf_0_6 C hi_X0_wobble_0 kw_X0_wobble_0 dX0_wobble_3 0 rfl rfl ?_
  refine r_aload_n C dX0_wobble_6 0 rfl ?_
  refine gf_0_6 C hi_X0_wobble_0 kw_X0_wobble_0 dX0_wobble_7 0 rfl rfl ?_
  refine r_bipush C dX0_wobble_10 (by decide) ?_
  refine r_idiv C dX0_wobble_12 (by omega) (by omega) ?_
  refine r_iconst C dX0_wobble_13 ?_
  refine r_iadd C dX0_wobble_14 ?_
  refine r_isub C dX0_wobble_15 ?_
  refine r_max C kw_X0_wobble_1 kw_X0_wobble_2 kw_X0_wobble_3 kw_X0_wobble_4 dX0_wobble_16 (by decide) (by omega) (Nat.le_of_ble_eq_true rfl) (Nat.le_of_ble_eq_true rfl) (by decide) (by decide) ?_
  refine pf_0_6 (ws2 := [(h0, .inr (0, [.ref h1, .int (iI cnt), .int (iI xx), .int (iI sp), .int (iI fa), .int (iI sl), .int (iI (max 0 (sn - ((sn / 10) + 1)))), .int (iI bt)])), (h1, .inl (X.2.1.1, 810, .inl (iF F)))]) C hi_X0_wobble_0 kw_X0_wobble_0 dX0_wobble_19 0 rfl rfl rfl (Nat.le_of_ble_eq_true rfl) rfl ?_
  refine r_aload_n C dX0_wobble_22 0 rfl ?_
  refine gf_0_6 C hi_X0_wobble_0 kw_X0_wobble_0 dX0_wobble_23 0 rfl rfl ?_
  refine r_iload_n C dX0_wobble_26 1 rfl ?_
  refine r_icmp_ge (tgt := 47) C dX0_wobble_27 (by decide) (by omega) (by omega) (fun h_1 => ?_) (fun h_1 => ?_)
  · skip
    exact g_ret_v C rfl dX0_wobble_47 () trivial [0, 1] rfl (by first | (simp only [fSl]; rw [if_pos (by simp only [fSn]; omega)]; rfl) | (simp only [fSl]; rw [if_neg (by simp only [fSn]; omega)]; rfl))
  · skip
    refine r_aload_n C dX0_wobble_30 0 rfl ?_
    refine r_dup C dX0_wobble_31 rfl ?_
    refine gf_0_5 C hi_X0_wobble_0 kw_X0_wobble_5 dX0_wobble_32 0 rfl rfl ?_
    refine r_iload_n C dX0_wobble_35 1 rfl ?_
    refine r_aload_n C dX0_wobble_36 0 rfl ?_
    refine gf_0_6 C hi_X0_wobble_0 kw_X0_wobble_0 dX0_wobble_37 0 rfl rfl ?_
    refine r_isub C dX0_wobble_40 ?_
    refine r_iconst C dX0_wobble_41 ?_
    refine r_idiv C dX0_wobble_42 (by omega) (by omega) ?_
    refine r_iadd C dX0_wobble_43 ?_
    refine pf_0_5 (ws2 := [(h0, .inr (0, [.ref h1, .int (iI cnt), .int (iI xx), .int (iI sp), .int (iI fa), .int (iI (sl + ((nd - (max 0 (sn - ((sn / 10) + 1)))) / 5))), .int (iI (max 0 (sn - ((sn / 10) + 1)))), .int (iI bt)])), (h1, .inl (X.2.1.1, 810, .inl (iF F)))]) C hi_X0_wobble_0 kw_X0_wobble_5 dX0_wobble_44 0 rfl rfl rfl (Nat.le_of_ble_eq_true rfl) rfl ?_
    exact g_ret_v C rfl dX0_wobble_47 () trivial [0, 1] rfl (by first | (simp only [fSl]; rw [if_pos (by simp only [fSn]; omega)]; rfl) | (simp only [fSl]; rw [if_neg (by simp only [fSn]; omega)]; rfl))

set_option maxRecDepth 20000 in
theorem kw_X0_goesOffAgain_0 : Cond.fieldLink RX0 22 "SkipStones$Flight" "speed" "I" ∈ wsX0_goesOffAgain := List.mem_of_getElem? (i := 1) rfl
set_option maxRecDepth 20000 in
theorem kw_X0_goesOffAgain_1 : Cond.fieldLink RX0 25 "SkipStones$Flight" "fall" "I" ∈ wsX0_goesOffAgain := List.mem_of_getElem? (i := 2) rfl
set_option maxRecDepth 20000 in
theorem kw_X0_goesOffAgain_15 : Cond.initialized RX5 ∈ wsX0_goesOffAgain := List.mem_of_getElem? (i := 16) rfl
set_option maxRecDepth 20000 in
theorem kw_X0_goesOffAgain_14 : Cond.static yX5_sinks ∈ wsX0_goesOffAgain := List.mem_of_getElem? (i := 15) rfl
set_option maxRecDepth 20000 in
theorem hd_SN_X5_sinks_X0_goesOffAgain : yX5_sinks.cls ≠ "java/lang/invoke/MethodHandle" ∧ yX5_sinks.cls ≠ "java/lang/invoke/VarHandle" ∧ (parseMethodDescriptor yX5_sinks.desc).map (fun d => d.parameters.length) = some 5 := by decide +kernel
set_option maxRecDepth 20000 in
theorem hd_V_X0_keep_X0_goesOffAgain : yX0_keep.cls = yX0_keep.cls ∧ yX0_keep.cls ≠ "java/lang/invoke/MethodHandle" ∧ yX0_keep.cls ≠ "java/lang/invoke/VarHandle" ∧ (parseMethodDescriptor yX0_keep.desc).map (fun d => d.parameters.length) = some 3 := by decide +kernel
set_option maxRecDepth 20000 in
theorem hi_X0_goesOffAgain_0 : ∀ w ∈ wsX00, w ∈ wsX0_goesOffAgain := fun _ h => List.mem_cons_of_mem _ (List.mem_append_left _ (List.mem_append_left _ (List.mem_append_right _ h)))
set_option maxHeartbeats 4000000 in
set_option maxRecDepth 100000 in
/-- goesOffAgain, sunk -/
theorem c_X0_goesOffAgain_s (l : Launch) (X : gX) (h0 : Nat) (h1 : Nat) (cnt : Int) (xx : Int) (sp : Int) (fa : Int) (sl : Int) (sn : Int) (bt : Int) (F : Nat → Int) (s0 : Nat) (wt : Int) (wd : Int) (rg : Int) (ly : Int) (wo : Int) (a0 : Nat) (a1 : Nat) (l1 : Int) (l2 : Int) (l3 : Int) (l4 : Int) (l5 : Int) (l6 : Int) (wc : Int) (sh : Int) (Fw : Nat → Int) (ti : Int) (hs1 : 1 ≤ wt ∧ wt ≤ 99) (hs2 : 1 ≤ wd ∧ wd ≤ 99) (hs3 : 0 ≤ rg ∧ rg ≤ 9) (hl1 : 1 ≤ l1 ∧ l1 ≤ 99) (hl2 : 0 ≤ l2 ∧ l2 ≤ 50) (hl3 : 1 ≤ l3 ∧ l3 ≤ 99) (hl4 : 0 ≤ l4 ∧ l4 ≤ 99) (hl5 : 0 ≤ l5 ∧ l5 ≤ 50) (hl6 : 1 ≤ l6 ∧ l6 ≤ 45) (hc : 0 ≤ cnt ∧ cnt < 90) (hp : 1 ≤ sp ∧ sp ≤ 300) (hf : 1 ≤ fa ∧ fa ≤ 99) (hsl : 0 ≤ sl ∧ sl ≤ 10000) (hsn : 0 ≤ sn ∧ sn ≤ 99) (hx : 0 ≤ xx ∧ xx ≤ 200000) (hb : 0 ≤ bt ∧ bt ≤ 10000) (ht : inB ti) (hk : (ti < 1 ∨ 45 < ti ∨ sp * wd * ti / (10 * l1) < wt * (fa + 10))) : gM l yX0_goesOffAgain wsX0_goesOffAgain (gr 2 0 0) X [(h0, .inr (0, [.ref h1, .int (iI cnt), .int (iI xx), .int (iI sp), .int (iI fa), .int (iI sl), .int (iI sn), .int (iI bt)])), (h1, .inl (X.2.1.1, 810, .inl (iF F))), (s0, .inr (3, [.int (iI wt), .int (iI wd), .int (iI rg), .int (iI ly), .int (iI wo)])), (a0, .inr (4, [.int (iI l1), .int (iI l2), .int (iI l3), .int (iI l4), .int (iI l5), .int (iI l6), .ref a1, .int (iI wc), .int (iI sh)])), (a1, .inl (X.2.1.1, 20, .inl (iF Fw)))] [.ref h0, .ref s0, .ref a0, .int (iI ti)] (gQi X (Y := Unit) (fun _ => True) (fun _ => 0) (fun _ => [(h0, .inr (0, [.ref h1, .int (iI (cnt + 1)), .int (iI xx), .int (iI sp), .int (iI fa), .int (iI sl), .int (iI sn), .int (iI bt)])), (h1, .inl (X.2.1.1, 810, .inl (iF (kpF F cnt 0 xx sp fa sl sn ti 0 bt)))), (s0, .inr (3, [.int (iI wt), .int (iI wd), .int (iI rg), .int (iI ly), .int (iI wo)])), (a0, .inr (4, [.int (iI l1), .int (iI l2), .int (iI l3), .int (iI l4), .int (iI l5), .int (iI l6), .ref a1, .int (iI wc), .int (iI sh)])), (a1, .inl (X.2.1.1, 20, .inl (iF Fw)))])) 0 0 := by
  refine g_start2 (lo := [(0, .ref h0), (1, .ref s0), (2, .ref a0), (3, .int (iI ti))]) (by decide +kernel) rfl rfl (Nat.le_of_ble_eq_true rfl) (fun p e s m args below meth c A C => ?_)
  refine r_aload_n C dX0_goesOffAgain_0 1 rfl ?_
  refine r_aload_n C dX0_goesOffAgain_1 2 rfl ?_
  refine r_aload_n C dX0_goesOffAgain_2 0 rfl ?_
  refine gf_0_3 C hi_X0_goesOffAgain_0 kw_X0_goesOffAgain_0 dX0_goesOffAgain_3 0 rfl rfl ?_
  refine r_aload_n C dX0_goesOffAgain_6 0 rfl ?_
  refine gf_0_4 C hi_X0_goesOffAgain_0 kw_X0_goesOffAgain_1 dX0_goesOffAgain_7 0 rfl rfl ?_
  refine r_iload_n C dX0_goesOffAgain_10 3 rfl ?_
  refine g_SN_i (ws2 := (fun _ => [(h0, .inr (0, [.ref h1, .int (iI cnt), .int (iI xx), .int (iI sp), .int (iI fa), .int (iI sl), .int (iI sn), .int (iI bt)])), (h1, .inl (X.2.1.1, 810, .inl (iF F))), (s0, .inr (3, [.int (iI wt), .int (iI wd), .int (iI rg), .int (iI ly), .int (iI wo)])), (a0, .inr (4, [.int (iI l1), .int (iI l2), .int (iI l3), .int (iI l4), .int (iI l5), .int (iI l6), .ref a1, .int (iI wc), .int (iI sh)])), (a1, .inl (X.2.1.1, 20, .inl (iF Fw)))])) (As := [.ref s0, .ref a0, .int (iI sp), .int (iI fa), .int (iI ti)]) C (c_X5_sinks l X s0 wt wd rg ly wo a0 a1 l1 l2 l3 l4 l5 l6 wc sh Fw sp fa ti (by first | assumption | omega) (by first | assumption | omega) (by first | assumption | omega) (by first | assumption | omega) (by first | assumption | omega) (by first | assumption | omega) (by first | assumption | omega)) gX0_goesOffAgain_X5_sinks_n47 rfl rfl rfl (host := "SkipStones") (List.mem_of_getElem? (i := 5) rfl) kw_X0_goesOffAgain_15 kw_X0_goesOffAgain_14 hd_SN_X5_sinks_X0_goesOffAgain (by decide) dX0_goesOffAgain_11 [2, 3, 4] [0, 1] [0, 1, 2, 3, 4] rfl rfl rfl rfl (by decide) rfl rfl rfl (Nat.le_of_ble_eq_true rfl) (by decide) (fun _ => rfl) (fun _ hy_ => ?_)
  clear hy_
  refine r_ite (fun h_1 => ?_) (fun h_1 => absurd h_1 (by omega))
  refine r_if_eq (tgt := 26) C dX0_goesOffAgain_14 (by decide) (by decide) (fun h_2 => absurd h_2 (by decide)) (fun h_2 => ?_)
  refine r_aload_n C dX0_goesOffAgain_17 0 rfl ?_
  refine r_iconst C dX0_goesOffAgain_18 ?_
  refine r_iload_n C dX0_goesOffAgain_19 3 rfl ?_
  refine r_iconst C dX0_goesOffAgain_20 ?_
  refine g_V_v (ws2 := (fun _ => [(h0, .inr (0, [.ref h1, .int (iI (cnt + 1)), .int (iI xx), .int (iI sp), .int (iI fa), .int (iI sl), .int (iI sn), .int (iI bt)])), (h1, .inl (X.2.1.1, 810, .inl (iF (kpF F cnt 0 xx sp fa sl sn ti 0 bt)))), (s0, .inr (3, [.int (iI wt), .int (iI wd), .int (iI rg), .int (iI ly), .int (iI wo)])), (a0, .inr (4, [.int (iI l1), .int (iI l2), .int (iI l3), .int (iI l4), .int (iI l5), .int (iI l6), .ref a1, .int (iI wc), .int (iI sh)])), (a1, .inl (X.2.1.1, 20, .inl (iF Fw)))])) (As := [.int (iI 0), .int (iI ti), .int (iI 0)]) C (c_X0_keep l X h0 h1 cnt xx sp fa sl sn bt F 0 ti 0 (by first | assumption | omega)) gX0_goesOffAgain_X0_keep rfl rfl rfl hd_V_X0_keep_X0_goesOffAgain (by decide) dX0_goesOffAgain_21 [0, 1] [2, 3, 4] [3, 4, 0, 1, 2] rfl rfl rfl rfl (by decide) rfl 0 0 rfl rfl rfl rfl (Nat.le_of_ble_eq_true rfl) (by decide) (fun _ => rfl) (fun _ hy_ => ?_)
  clear hy_
  refine r_iconst C dX0_goesOffAgain_24 ?_
  exact g_ret_z C rfl (by decide) dX0_goesOffAgain_25 () trivial (by first | rfl | omega | ((repeat' split) <;> first | rfl | omega)) [0, 1, 2, 3, 4] rfl rfl

set_option maxRecDepth 20000 in
theorem kw_X0_goesOffAgain_2 : Cond.fieldLink RX0 55 "SkipStones$Water" "hard" "I" ∈ wsX0_goesOffAgain := List.mem_of_getElem? (i := 3) rfl
set_option maxRecDepth 20000 in
theorem kw_X0_goesOffAgain_3 : Cond.fieldLink RX0 58 "SkipStones$Water" "rub" "I" ∈ wsX0_goesOffAgain := List.mem_of_getElem? (i := 4) rfl
set_option maxRecDepth 20000 in
theorem kw_X0_goesOffAgain_4 : Cond.fieldLink RX0 61 "SkipStones$Stone" "rough" "I" ∈ wsX0_goesOffAgain := List.mem_of_getElem? (i := 5) rfl
set_option maxRecDepth 20000 in
theorem kw_X0_goesOffAgain_5 : Cond.fieldLink RX0 66 "SkipStones$Water" "up" "I" ∈ wsX0_goesOffAgain := List.mem_of_getElem? (i := 6) rfl
set_option maxRecDepth 20000 in
theorem kw_X0_goesOffAgain_6 : Cond.methodLink RX0 69 Lib.Math.max.name ∈ wsX0_goesOffAgain := List.mem_of_getElem? (i := 7) rfl
set_option maxRecDepth 20000 in
theorem kw_X0_goesOffAgain_7 : Cond.static Lib.Math.max.name ∈ wsX0_goesOffAgain := List.mem_of_getElem? (i := 8) rfl
set_option maxRecDepth 20000 in
theorem kw_X0_goesOffAgain_8 : Cond.initialized "java/lang/Math" ∈ wsX0_goesOffAgain := List.mem_of_getElem? (i := 9) rfl
set_option maxRecDepth 20000 in
theorem kw_X0_goesOffAgain_9 : Cond.code Lib.Math.max.name Lib.Math.max.code 2 (some .int) ∈ wsX0_goesOffAgain := List.mem_of_getElem? (i := 10) rfl
set_option maxRecDepth 20000 in
theorem kw_X0_goesOffAgain_10 : Cond.fieldLink RX0 74 "SkipStones$Water" "near" "I" ∈ wsX0_goesOffAgain := List.mem_of_getElem? (i := 11) rfl
set_option maxRecDepth 20000 in
theorem kw_X0_goesOffAgain_11 : Cond.fieldLink RX0 77 "SkipStones$Water" "needed" "I" ∈ wsX0_goesOffAgain := List.mem_of_getElem? (i := 12) rfl
set_option maxRecDepth 20000 in
theorem hd_V_X0_wobble_X0_goesOffAgain : yX0_wobble.cls = yX0_wobble.cls ∧ yX0_wobble.cls ≠ "java/lang/invoke/MethodHandle" ∧ yX0_wobble.cls ≠ "java/lang/invoke/VarHandle" ∧ (parseMethodDescriptor yX0_wobble.desc).map (fun d => d.parameters.length) = some 1 := by decide +kernel
set_option maxRecDepth 20000 in
theorem hi_X0_goesOffAgain_4 : ∀ w ∈ wsX40, w ∈ wsX0_goesOffAgain := fun _ h => List.mem_cons_of_mem _ (List.mem_append_left _ (List.mem_append_right _ h))
set_option maxRecDepth 20000 in
theorem hi_X0_goesOffAgain_3 : ∀ w ∈ wsX30, w ∈ wsX0_goesOffAgain := fun _ h => List.mem_cons_of_mem _ (List.mem_append_right _ h)
set_option maxHeartbeats 4000000 in
set_option maxRecDepth 100000 in
/-- goesOffAgain, z -/
theorem c_X0_goesOffAgain_z (l : Launch) (X : gX) (h0 : Nat) (h1 : Nat) (cnt : Int) (xx : Int) (sp : Int) (fa : Int) (sl : Int) (sn : Int) (bt : Int) (F : Nat → Int) (s0 : Nat) (wt : Int) (wd : Int) (rg : Int) (ly : Int) (wo : Int) (a0 : Nat) (a1 : Nat) (l1 : Int) (l2 : Int) (l3 : Int) (l4 : Int) (l5 : Int) (l6 : Int) (wc : Int) (sh : Int) (Fw : Nat → Int) (ti : Int) (hs1 : 1 ≤ wt ∧ wt ≤ 99) (hs2 : 1 ≤ wd ∧ wd ≤ 99) (hs3 : 0 ≤ rg ∧ rg ≤ 9) (hl1 : 1 ≤ l1 ∧ l1 ≤ 99) (hl2 : 0 ≤ l2 ∧ l2 ≤ 50) (hl3 : 1 ≤ l3 ∧ l3 ≤ 99) (hl4 : 0 ≤ l4 ∧ l4 ≤ 99) (hl5 : 0 ≤ l5 ∧ l5 ≤ 50) (hl6 : 1 ≤ l6 ∧ l6 ≤ 45) (hc : 0 ≤ cnt ∧ cnt < 90) (hp : 1 ≤ sp ∧ sp ≤ 300) (hf : 1 ≤ fa ∧ fa ≤ 99) (hsl : 0 ≤ sl ∧ sl ≤ 10000) (hsn : 0 ≤ sn ∧ sn ≤ 99) (hx : 0 ≤ xx ∧ xx ≤ 200000) (hb : 0 ≤ bt ∧ bt ≤ 10000) (ht : inB ti) (hk : ¬ (ti < 1 ∨ 45 < ti ∨ sp * wd * ti / (10 * l1) < wt * (fa + 10))) (hz : (max 0 (sp - (fTk l2 l6 rg sp ti))) = 0) : gM l yX0_goesOffAgain wsX0_goesOffAgain (gr 2 0 0) X [(h0, .inr (0, [.ref h1, .int (iI cnt), .int (iI xx), .int (iI sp), .int (iI fa), .int (iI sl), .int (iI sn), .int (iI bt)])), (h1, .inl (X.2.1.1, 810, .inl (iF F))), (s0, .inr (3, [.int (iI wt), .int (iI wd), .int (iI rg), .int (iI ly), .int (iI wo)])), (a0, .inr (4, [.int (iI l1), .int (iI l2), .int (iI l3), .int (iI l4), .int (iI l5), .int (iI l6), .ref a1, .int (iI wc), .int (iI sh)])), (a1, .inl (X.2.1.1, 20, .inl (iF Fw)))] [.ref h0, .ref s0, .ref a0, .int (iI ti)] (gQi X (Y := Unit) (fun _ => True) (fun _ => 0) (fun _ => [(h0, .inr (0, [.ref h1, .int (iI (cnt + 1)), .int (iI xx), .int (iI (max 0 (sp - (fTk l2 l6 rg sp ti)))), .int (iI (fFl l3 l6 fa ti)), .int (iI (fSl l4 sl (fSn sn))), .int (iI (fSn sn)), .int (iI bt)])), (h1, .inl (X.2.1.1, 810, .inl (iF (kpF F cnt (fKd l5 l6 ti (fFl l3 l6 fa ti)) xx sp fa sl sn ti (fTk l2 l6 rg sp ti) bt)))), (s0, .inr (3, [.int (iI wt), .int (iI wd), .int (iI rg), .int (iI ly), .int (iI wo)])), (a0, .inr (4, [.int (iI l1), .int (iI l2), .int (iI l3), .int (iI l4), .int (iI l5), .int (iI l6), .ref a1, .int (iI wc), .int (iI sh)])), (a1, .inl (X.2.1.1, 20, .inl (iF Fw)))])) 0 0 := by
  refine g_start2 (lo := [(0, .ref h0), (1, .ref s0), (2, .ref a0), (3, .int (iI ti))]) (by decide +kernel) rfl rfl (Nat.le_of_ble_eq_true rfl) (fun p e s m args below meth c A C => ?_)
  refine r_aload_n C dX0_goesOffAgain_0 1 rfl ?_
  refine r_aload_n C dX0_goesOffAgain_1 2 rfl ?_
  refine r_aload_n C dX0_goesOffAgain_2 0 rfl ?_
  refine gf_0_3 C hi_X0_goesOffAgain_0 kw_X0_goesOffAgain_0 dX0_goesOffAgain_3 0 rfl rfl ?_
  refine r_aload_n C dX0_goesOffAgain_6 0 rfl ?_
  refine gf_0_4 C hi_X0_goesOffAgain_0 kw_X0_goesOffAgain_1 dX0_goesOffAgain_7 0 rfl rfl ?_
  refine r_iload_n C dX0_goesOffAgain_10 3 rfl ?_
  refine g_SN_i (ws2 := (fun _ => [(h0, .inr (0, [.ref h1, .int (iI cnt), .int (iI xx), .int (iI sp), .int (iI fa), .int (iI sl), .int (iI sn), .int (iI bt)])), (h1, .inl (X.2.1.1, 810, .inl (iF F))), (s0, .inr (3, [.int (iI wt), .int (iI wd), .int (iI rg), .int (iI ly), .int (iI wo)])), (a0, .inr (4, [.int (iI l1), .int (iI l2), .int (iI l3), .int (iI l4), .int (iI l5), .int (iI l6), .ref a1, .int (iI wc), .int (iI sh)])), (a1, .inl (X.2.1.1, 20, .inl (iF Fw)))])) (As := [.ref s0, .ref a0, .int (iI sp), .int (iI fa), .int (iI ti)]) C (c_X5_sinks l X s0 wt wd rg ly wo a0 a1 l1 l2 l3 l4 l5 l6 wc sh Fw sp fa ti (by first | assumption | omega) (by first | assumption | omega) (by first | assumption | omega) (by first | assumption | omega) (by first | assumption | omega) (by first | assumption | omega) (by first | assumption | omega)) gX0_goesOffAgain_X5_sinks_n47 rfl rfl rfl (host := "SkipStones") (List.mem_of_getElem? (i := 5) rfl) kw_X0_goesOffAgain_15 kw_X0_goesOffAgain_14 hd_SN_X5_sinks_X0_goesOffAgain (by decide) dX0_goesOffAgain_11 [2, 3, 4] [0, 1] [0, 1, 2, 3, 4] rfl rfl rfl rfl (by decide) rfl rfl rfl (Nat.le_of_ble_eq_true rfl) (by decide) (fun _ => rfl) (fun _ hy_ => ?_)
  clear hy_
  refine r_ite (fun h_1 => absurd h_1 (by omega)) (fun h_1 => ?_)
  refine r_if_eq (tgt := 26) C dX0_goesOffAgain_14 (by decide) (by decide) (fun h_2 => ?_) (fun h_2 => absurd h_2 (by decide))
  refine r_iload_n C dX0_goesOffAgain_26 3 rfl ?_
  refine r_aload_n C dX0_goesOffAgain_27 2 rfl ?_
  refine gf_4_5 C hi_X0_goesOffAgain_4 kw_X0_goesOffAgain_2 dX0_goesOffAgain_28 3 rfl rfl ?_
  refine r_icmp_le (tgt := 38) C dX0_goesOffAgain_31 (by decide) (by omega) (by omega) (fun h_3 => ?_) (fun h_3 => ?_)
  · skip
    refine r_iconst C dX0_goesOffAgain_38 ?_
    refine r_istore (lo2 := [(4, .int (iI 0)), (0, .ref h0), (1, .ref s0), (2, .ref a0), (3, .int (iI ti))]) C dX0_goesOffAgain_39 (by decide) rfl ?_
    refine r_aload_n C dX0_goesOffAgain_41 1 rfl ?_
    refine gf_0_3 C hi_X0_goesOffAgain_0 kw_X0_goesOffAgain_0 dX0_goesOffAgain_42 0 rfl rfl ?_
    refine r_aload_n C dX0_goesOffAgain_45 3 rfl ?_
    refine gf_4_1 C hi_X0_goesOffAgain_4 kw_X0_goesOffAgain_3 dX0_goesOffAgain_46 3 rfl rfl ?_
    refine r_iload_n C dX0_goesOffAgain_49 4 rfl ?_
    refine r_iadd C dX0_goesOffAgain_50 ?_
    refine r_aload_n C dX0_goesOffAgain_51 2 rfl ?_
    refine gf_3_2 C hi_X0_goesOffAgain_3 kw_X0_goesOffAgain_4 dX0_goesOffAgain_52 2 rfl rfl ?_
    refine r_iadd C dX0_goesOffAgain_55 ?_
    refine r_imul C dX0_goesOffAgain_56 ?_
    refine r_istore (lo2 := [(5, .int (iI (sp * ((l2 + ti) + rg)))), (4, .int (iI 0)), (0, .ref h0), (1, .ref s0), (2, .ref a0), (3, .int (iI ti))]) C dX0_goesOffAgain_57 (by decide) rfl ?_
    have q5 := mulB (a := sp) (b := l2 + ti + rg) (A := 300) (B := 104) (by omega) (by omega)
    refine r_iload C dX0_goesOffAgain_59 1 rfl ?_
    refine r_if_eq (tgt := 72) C dX0_goesOffAgain_61 (by decide) (by decide) (fun h_4 => ?_) (fun h_4 => absurd h_4 (by decide))
    refine r_iload C dX0_goesOffAgain_72 0 rfl ?_
    refine r_bipush C dX0_goesOffAgain_74 (by decide) ?_
    refine r_idiv C dX0_goesOffAgain_76 (by omega) (by omega) ?_
    refine r_iconst C dX0_goesOffAgain_77 ?_
    refine r_iadd C dX0_goesOffAgain_78 ?_
    refine r_topi (z := (fTk l2 l6 rg sp ti)) (by simp only [fTk]; first | (rw [if_pos (by omega)]; done) | (rw [if_neg (by omega)]; done)) ?_
    refine r_istore (lo2 := [(6, .int (iI (fTk l2 l6 rg sp ti))), (5, .int (iI (sp * ((l2 + ti) + rg)))), (4, .int (iI 0)), (0, .ref h0), (1, .ref s0), (2, .ref a0), (3, .int (iI ti))]) C dX0_goesOffAgain_79 (by decide) rfl ?_
    have q7 := fTk_B (l2 := l2) (l6 := l6) (rg := rg) (sp := sp) (ti := ti) (by omega) (by omega)
    refine r_iload C dX0_goesOffAgain_81 2 rfl ?_
    refine r_if_eq (tgt := 93) C dX0_goesOffAgain_83 (by decide) (by decide) (fun h_5 => ?_) (fun h_5 => absurd h_5 (by decide))
    refine r_iconst C dX0_goesOffAgain_93 ?_
    refine r_aload_n C dX0_goesOffAgain_94 3 rfl ?_
    refine gf_0_4 C hi_X0_goesOffAgain_0 kw_X0_goesOffAgain_1 dX0_goesOffAgain_95 0 rfl rfl ?_
    refine r_aload_n C dX0_goesOffAgain_98 5 rfl ?_
    refine gf_4_2 C hi_X0_goesOffAgain_4 kw_X0_goesOffAgain_5 dX0_goesOffAgain_99 3 rfl rfl ?_
    have q6 := mulB (a := fa) (b := l3) (A := 99) (B := 99) (by omega) (by omega)
    refine r_imul C dX0_goesOffAgain_102 ?_
    refine r_bipush C dX0_goesOffAgain_103 (by decide) ?_
    refine r_idiv C dX0_goesOffAgain_105 (by omega) (by omega) ?_
    refine r_max C kw_X0_goesOffAgain_6 kw_X0_goesOffAgain_7 kw_X0_goesOffAgain_8 kw_X0_goesOffAgain_9 dX0_goesOffAgain_106 (by decide) (by omega) (Nat.le_of_ble_eq_true rfl) (Nat.le_of_ble_eq_true rfl) (by decide) (by decide) ?_
    refine r_topi (z := (fFl l3 l6 fa ti)) (by simp only [fFl]; first | (rw [if_pos (by omega)]; done) | (rw [if_neg (by omega)]; done)) ?_
    refine r_istore (lo2 := [(7, .int (iI (fFl l3 l6 fa ti))), (6, .int (iI (fTk l2 l6 rg sp ti))), (5, .int (iI (sp * ((l2 + ti) + rg)))), (4, .int (iI 0)), (0, .ref h0), (1, .ref s0), (2, .ref a0), (3, .int (iI ti))]) C dX0_goesOffAgain_109 (by decide) rfl ?_
    have q8 := fFl_B (l3 := l3) (l6 := l6) (fa := fa) (ti := ti) (by omega) (by omega)
    refine r_aload_n C dX0_goesOffAgain_111 4 rfl ?_
    refine r_iload C dX0_goesOffAgain_112 3 rfl ?_
    refine r_if_eq (tgt := 121) C dX0_goesOffAgain_114 (by decide) (by decide) (fun h_6 => ?_) (fun h_6 => absurd h_6 (by decide))
    refine r_iload C dX0_goesOffAgain_121 0 rfl ?_
    refine r_aload_n C dX0_goesOffAgain_123 6 rfl ?_
    refine gf_4_4 C hi_X0_goesOffAgain_4 kw_X0_goesOffAgain_10 dX0_goesOffAgain_124 3 rfl rfl ?_
    refine r_icmp_gt (tgt := 134) C dX0_goesOffAgain_127 (by decide) (by omega) (by omega) (fun h_7 => ?_) (fun h_7 => ?_)
    · skip
      refine r_iconst C dX0_goesOffAgain_134 ?_
      refine r_topi (z := (fKd l5 l6 ti (fFl l3 l6 fa ti))) (by simp only [fKd]; first | (rw [if_pos (by omega)]; done) | (rw [if_neg (by omega), if_pos (by omega)]; done) | (rw [if_neg (by omega), if_neg (by omega)]; done)) ?_
      refine r_iload_n C dX0_goesOffAgain_135 7 rfl ?_
      refine r_iload C dX0_goesOffAgain_136 1 rfl ?_
      refine g_V_v (ws2 := (fun _ => [(h0, .inr (0, [.ref h1, .int (iI (cnt + 1)), .int (iI xx), .int (iI sp), .int (iI fa), .int (iI sl), .int (iI sn), .int (iI bt)])), (h1, .inl (X.2.1.1, 810, .inl (iF (kpF F cnt (fKd l5 l6 ti (fFl l3 l6 fa ti)) xx sp fa sl sn ti (fTk l2 l6 rg sp ti) bt)))), (s0, .inr (3, [.int (iI wt), .int (iI wd), .int (iI rg), .int (iI ly), .int (iI wo)])), (a0, .inr (4, [.int (iI l1), .int (iI l2), .int (iI l3), .int (iI l4), .int (iI l5), .int (iI l6), .ref a1, .int (iI wc), .int (iI sh)])), (a1, .inl (X.2.1.1, 20, .inl (iF Fw)))])) (As := [.int (iI (fKd l5 l6 ti (fFl l3 l6 fa ti))), .int (iI ti), .int (iI (fTk l2 l6 rg sp ti))]) C (c_X0_keep l X h0 h1 cnt xx sp fa sl sn bt F (fKd l5 l6 ti (fFl l3 l6 fa ti)) ti (fTk l2 l6 rg sp ti) (by first | assumption | omega)) gX0_goesOffAgain_X0_keep rfl rfl rfl hd_V_X0_keep_X0_goesOffAgain (by decide) dX0_goesOffAgain_138 [0, 1] [2, 3, 4] [3, 4, 0, 1, 2] rfl rfl rfl rfl (by decide) rfl 0 0 rfl rfl rfl rfl (Nat.le_of_ble_eq_true rfl) (by decide) (fun _ => rfl) (fun _ hy_ => ?_)
      clear hy_
      refine r_aload_n C dX0_goesOffAgain_141 4 rfl ?_
      refine r_iconst C dX0_goesOffAgain_142 ?_
      refine r_aload_n C dX0_goesOffAgain_143 4 rfl ?_
      refine gf_0_3 C hi_X0_goesOffAgain_0 kw_X0_goesOffAgain_0 dX0_goesOffAgain_144 0 rfl rfl ?_
      refine r_iload C dX0_goesOffAgain_147 1 rfl ?_
      refine r_isub C dX0_goesOffAgain_149 ?_
      refine r_max C kw_X0_goesOffAgain_6 kw_X0_goesOffAgain_7 kw_X0_goesOffAgain_8 kw_X0_goesOffAgain_9 dX0_goesOffAgain_150 (by decide) (by omega) (Nat.le_of_ble_eq_true rfl) (Nat.le_of_ble_eq_true rfl) (by decide) (by decide) ?_
      refine pf_0_3 (ws2 := [(h0, .inr (0, [.ref h1, .int (iI (cnt + 1)), .int (iI xx), .int (iI (max 0 (sp - (fTk l2 l6 rg sp ti)))), .int (iI fa), .int (iI sl), .int (iI sn), .int (iI bt)])), (h1, .inl (X.2.1.1, 810, .inl (iF (kpF F cnt (fKd l5 l6 ti (fFl l3 l6 fa ti)) xx sp fa sl sn ti (fTk l2 l6 rg sp ti) bt)))), (s0, .inr (3, [.int (iI wt), .int (iI wd), .int (iI rg), .int (iI ly), .int (iI wo)])), (a0, .inr (4, [.int (iI l1), .int (iI l2), .int (iI l3), .int (iI l4), .int (iI l5), .int (iI l6), .ref a1, .int (iI wc), .int (iI sh)])), (a1, .inl (X.2.1.1, 20, .inl (iF Fw)))]) C hi_X0_goesOffAgain_0 kw_X0_goesOffAgain_0 dX0_goesOffAgain_153 0 rfl rfl rfl (Nat.le_of_ble_eq_true rfl) rfl ?_
      refine r_aload_n C dX0_goesOffAgain_156 4 rfl ?_
      refine r_iload C dX0_goesOffAgain_157 0 rfl ?_
      refine pf_0_4 (ws2 := [(h0, .inr (0, [.ref h1, .int (iI (cnt + 1)), .int (iI xx), .int (iI (max 0 (sp - (fTk l2 l6 rg sp ti)))), .int (iI (fFl l3 l6 fa ti)), .int (iI sl), .int (iI sn), .int (iI bt)])), (h1, .inl (X.2.1.1, 810, .inl (iF (kpF F cnt (fKd l5 l6 ti (fFl l3 l6 fa ti)) xx sp fa sl sn ti (fTk l2 l6 rg sp ti) bt)))), (s0, .inr (3, [.int (iI wt), .int (iI wd), .int (iI rg), .int (iI ly), .int (iI wo)])), (a0, .inr (4, [.int (iI l1), .int (iI l2), .int (iI l3), .int (iI l4), .int (iI l5), .int (iI l6), .ref a1, .int (iI wc), .int (iI sh)])), (a1, .inl (X.2.1.1, 20, .inl (iF Fw)))]) C hi_X0_goesOffAgain_0 kw_X0_goesOffAgain_1 dX0_goesOffAgain_159 0 rfl rfl rfl (Nat.le_of_ble_eq_true rfl) rfl ?_
      refine r_aload_n C dX0_goesOffAgain_162 4 rfl ?_
      refine r_aload_n C dX0_goesOffAgain_163 6 rfl ?_
      refine gf_4_3 C hi_X0_goesOffAgain_4 kw_X0_goesOffAgain_11 dX0_goesOffAgain_164 3 rfl rfl ?_
      refine g_V_v (ws2 := (fun _ => [(h0, .inr (0, [.ref h1, .int (iI (cnt + 1)), .int (iI xx), .int (iI (max 0 (sp - (fTk l2 l6 rg sp ti)))), .int (iI (fFl l3 l6 fa ti)), .int (iI (fSl l4 sl (fSn sn))), .int (iI (fSn sn)), .int (iI bt)])), (h1, .inl (X.2.1.1, 810, .inl (iF (kpF F cnt (fKd l5 l6 ti (fFl l3 l6 fa ti)) xx sp fa sl sn ti (fTk l2 l6 rg sp ti) bt)))), (s0, .inr (3, [.int (iI wt), .int (iI wd), .int (iI rg), .int (iI ly), .int (iI wo)])), (a0, .inr (4, [.int (iI l1), .int (iI l2), .int (iI l3), .int (iI l4), .int (iI l5), .int (iI l6), .ref a1, .int (iI wc), .int (iI sh)])), (a1, .inl (X.2.1.1, 20, .inl (iF Fw)))])) (As := [.int (iI l4)]) C (c_X0_wobble l X h0 h1 (cnt + 1) xx (max 0 (sp - (fTk l2 l6 rg sp ti))) (fFl l3 l6 fa ti) sl sn bt (kpF F cnt (fKd l5 l6 ti (fFl l3 l6 fa ti)) xx sp fa sl sn ti (fTk l2 l6 rg sp ti) bt) l4 (by first | assumption | omega) (by first | assumption | omega) (by first | assumption | omega)) gX0_goesOffAgain_X0_wobble rfl rfl rfl hd_V_X0_wobble_X0_goesOffAgain (by decide) dX0_goesOffAgain_167 [0, 1] [2, 3, 4] [3, 4, 0, 1, 2] rfl rfl rfl rfl (by decide) rfl 0 0 rfl rfl rfl rfl (Nat.le_of_ble_eq_true rfl) (by decide) (fun _ => rfl) (fun _ hy_ => ?_)
      clear hy_
      refine r_aload_n C dX0_goesOffAgain_170 4 rfl ?_
      refine gf_0_3 C hi_X0_goesOffAgain_0 kw_X0_goesOffAgain_0 dX0_goesOffAgain_171 0 rfl rfl ?_
      refine r_if_ne (tgt := 179) C dX0_goesOffAgain_174 (by decide) (by omega) (fun h_8 => absurd h_8 (by omega)) (fun h_8 => ?_)
      refine r_iconst C dX0_goesOffAgain_177 ?_
      exact g_ret_z C rfl (by decide) dX0_goesOffAgain_178 () trivial (by first | rfl | omega | ((repeat' split) <;> first | rfl | omega)) [0, 1, 2, 3, 4] rfl rfl
    · skip
      refine r_iconst C dX0_goesOffAgain_130 ?_
      refine r_goto (tgt := 135) C dX0_goesOffAgain_131 (by decide) ?_
      refine r_topi (z := (fKd l5 l6 ti (fFl l3 l6 fa ti))) (by simp only [fKd]; first | (rw [if_pos (by omega)]; done) | (rw [if_neg (by omega), if_pos (by omega)]; done) | (rw [if_neg (by omega), if_neg (by omega)]; done)) ?_
      refine r_iload_n C dX0_goesOffAgain_135 7 rfl ?_
      refine r_iload C dX0_goesOffAgain_136 1 rfl ?_
      refine g_V_v (ws2 := (fun _ => [(h0, .inr (0, [.ref h1, .int (iI (cnt + 1)), .int (iI xx), .int (iI sp), .int (iI fa), .int (iI sl), .int (iI sn), .int (iI bt)])), (h1, .inl (X.2.1.1, 810, .inl (iF (kpF F cnt (fKd l5 l6 ti (fFl l3 l6 fa ti)) xx sp fa sl sn ti (fTk l2 l6 rg sp ti) bt)))), (s0, .inr (3, [.int (iI wt), .int (iI wd), .int (iI rg), .int (iI ly), .int (iI wo)])), (a0, .inr (4, [.int (iI l1), .int (iI l2), .int (iI l3), .int (iI l4), .int (iI l5), .int (iI l6), .ref a1, .int (iI wc), .int (iI sh)])), (a1, .inl (X.2.1.1, 20, .inl (iF Fw)))])) (As := [.int (iI (fKd l5 l6 ti (fFl l3 l6 fa ti))), .int (iI ti), .int (iI (fTk l2 l6 rg sp ti))]) C (c_X0_keep l X h0 h1 cnt xx sp fa sl sn bt F (fKd l5 l6 ti (fFl l3 l6 fa ti)) ti (fTk l2 l6 rg sp ti) (by first | assumption | omega)) gX0_goesOffAgain_X0_keep rfl rfl rfl hd_V_X0_keep_X0_goesOffAgain (by decide) dX0_goesOffAgain_138 [0, 1] [2, 3, 4] [3, 4, 0, 1, 2] rfl rfl rfl rfl (by decide) rfl 0 0 rfl rfl rfl rfl (Nat.le_of_ble_eq_true rfl) (by decide) (fun _ => rfl) (fun _ hy_ => ?_)
      clear hy_
      refine r_aload_n C dX0_goesOffAgain_141 4 rfl ?_
      refine r_iconst C dX0_goesOffAgain_142 ?_
      refine r_aload_n C dX0_goesOffAgain_143 4 rfl ?_
      refine gf_0_3 C hi_X0_goesOffAgain_0 kw_X0_goesOffAgain_0 dX0_goesOffAgain_144 0 rfl rfl ?_
      refine r_iload C dX0_goesOffAgain_147 1 rfl ?_
      refine r_isub C dX0_goesOffAgain_149 ?_
      refine r_max C kw_X0_goesOffAgain_6 kw_X0_goesOffAgain_7 kw_X0_goesOffAgain_8 kw_X0_goesOffAgain_9 dX0_goesOffAgain_150 (by decide) (by omega) (Nat.le_of_ble_eq_true rfl) (Nat.le_of_ble_eq_true rfl) (by decide) (by decide) ?_
      refine pf_0_3 (ws2 := [(h0, .inr (0, [.ref h1, .int (iI (cnt + 1)), .int (iI xx), .int (iI (max 0 (sp - (fTk l2 l6 rg sp ti)))), .int (iI fa), .int (iI sl), .int (iI sn), .int (iI bt)])), (h1, .inl (X.2.1.1, 810, .inl (iF (kpF F cnt (fKd l5 l6 ti (fFl l3 l6 fa ti)) xx sp fa sl sn ti (fTk l2 l6 rg sp ti) bt)))), (s0, .inr (3, [.int (iI wt), .int (iI wd), .int (iI rg), .int (iI ly), .int (iI wo)])), (a0, .inr (4, [.int (iI l1), .int (iI l2), .int (iI l3), .int (iI l4), .int (iI l5), .int (iI l6), .ref a1, .int (iI wc), .int (iI sh)])), (a1, .inl (X.2.1.1, 20, .inl (iF Fw)))]) C hi_X0_goesOffAgain_0 kw_X0_goesOffAgain_0 dX0_goesOffAgain_153 0 rfl rfl rfl (Nat.le_of_ble_eq_true rfl) rfl ?_
      refine r_aload_n C dX0_goesOffAgain_156 4 rfl ?_
      refine r_iload C dX0_goesOffAgain_157 0 rfl ?_
      refine pf_0_4 (ws2 := [(h0, .inr (0, [.ref h1, .int (iI (cnt + 1)), .int (iI xx), .int (iI (max 0 (sp - (fTk l2 l6 rg sp ti)))), .int (iI (fFl l3 l6 fa ti)), .int (iI sl), .int (iI sn), .int (iI bt)])), (h1, .inl (X.2.1.1, 810, .inl (iF (kpF F cnt (fKd l5 l6 ti (fFl l3 l6 fa ti)) xx sp fa sl sn ti (fTk l2 l6 rg sp ti) bt)))), (s0, .inr (3, [.int (iI wt), .int (iI wd), .int (iI rg), .int (iI ly), .int (iI wo)])), (a0, .inr (4, [.int (iI l1), .int (iI l2), .int (iI l3), .int (iI l4), .int (iI l5), .int (iI l6), .ref a1, .int (iI wc), .int (iI sh)])), (a1, .inl (X.2.1.1, 20, .inl (iF Fw)))]) C hi_X0_goesOffAgain_0 kw_X0_goesOffAgain_1 dX0_goesOffAgain_159 0 rfl rfl rfl (Nat.le_of_ble_eq_true rfl) rfl ?_
      refine r_aload_n C dX0_goesOffAgain_162 4 rfl ?_
      refine r_aload_n C dX0_goesOffAgain_163 6 rfl ?_
      refine gf_4_3 C hi_X0_goesOffAgain_4 kw_X0_goesOffAgain_11 dX0_goesOffAgain_164 3 rfl rfl ?_
      refine g_V_v (ws2 := (fun _ => [(h0, .inr (0, [.ref h1, .int (iI (cnt + 1)), .int (iI xx), .int (iI (max 0 (sp - (fTk l2 l6 rg sp ti)))), .int (iI (fFl l3 l6 fa ti)), .int (iI (fSl l4 sl (fSn sn))), .int (iI (fSn sn)), .int (iI bt)])), (h1, .inl (X.2.1.1, 810, .inl (iF (kpF F cnt (fKd l5 l6 ti (fFl l3 l6 fa ti)) xx sp fa sl sn ti (fTk l2 l6 rg sp ti) bt)))), (s0, .inr (3, [.int (iI wt), .int (iI wd), .int (iI rg), .int (iI ly), .int (iI wo)])), (a0, .inr (4, [.int (iI l1), .int (iI l2), .int (iI l3), .int (iI l4), .int (iI l5), .int (iI l6), .ref a1, .int (iI wc), .int (iI sh)])), (a1, .inl (X.2.1.1, 20, .inl (iF Fw)))])) (As := [.int (iI l4)]) C (c_X0_wobble l X h0 h1 (cnt + 1) xx (max 0 (sp - (fTk l2 l6 rg sp ti))) (fFl l3 l6 fa ti) sl sn bt (kpF F cnt (fKd l5 l6 ti (fFl l3 l6 fa ti)) xx sp fa sl sn ti (fTk l2 l6 rg sp ti) bt) l4 (by first | assumption | omega) (by first | assumption | omega) (by first | assumption | omega)) gX0_goesOffAgain_X0_wobble rfl rfl rfl hd_V_X0_wobble_X0_goesOffAgain (by decide) dX0_goesOffAgain_167 [0, 1] [2, 3, 4] [3, 4, 0, 1, 2] rfl rfl rfl rfl (by decide) rfl 0 0 rfl rfl rfl rfl (Nat.le_of_ble_eq_true rfl) (by decide) (fun _ => rfl) (fun _ hy_ => ?_)
      clear hy_
      refine r_aload_n C dX0_goesOffAgain_170 4 rfl ?_
      refine gf_0_3 C hi_X0_goesOffAgain_0 kw_X0_goesOffAgain_0 dX0_goesOffAgain_171 0 rfl rfl ?_
      refine r_if_ne (tgt := 179) C dX0_goesOffAgain_174 (by decide) (by omega) (fun h_9 => absurd h_9 (by omega)) (fun h_9 => ?_)
      refine r_iconst C dX0_goesOffAgain_177 ?_
      exact g_ret_z C rfl (by decide) dX0_goesOffAgain_178 () trivial (by first | rfl | omega | ((repeat' split) <;> first | rfl | omega)) [0, 1, 2, 3, 4] rfl rfl
  · skip
    refine r_iconst C dX0_goesOffAgain_34 ?_
    refine r_goto (tgt := 39) C dX0_goesOffAgain_35 (by decide) ?_
    refine r_istore (lo2 := [(4, .int (iI 1)), (0, .ref h0), (1, .ref s0), (2, .ref a0), (3, .int (iI ti))]) C dX0_goesOffAgain_39 (by decide) rfl ?_
    refine r_aload_n C dX0_goesOffAgain_41 1 rfl ?_
    refine gf_0_3 C hi_X0_goesOffAgain_0 kw_X0_goesOffAgain_0 dX0_goesOffAgain_42 0 rfl rfl ?_
    refine r_aload_n C dX0_goesOffAgain_45 3 rfl ?_
    refine gf_4_1 C hi_X0_goesOffAgain_4 kw_X0_goesOffAgain_3 dX0_goesOffAgain_46 3 rfl rfl ?_
    refine r_iload_n C dX0_goesOffAgain_49 4 rfl ?_
    refine r_iadd C dX0_goesOffAgain_50 ?_
    refine r_aload_n C dX0_goesOffAgain_51 2 rfl ?_
    refine gf_3_2 C hi_X0_goesOffAgain_3 kw_X0_goesOffAgain_4 dX0_goesOffAgain_52 2 rfl rfl ?_
    refine r_iadd C dX0_goesOffAgain_55 ?_
    refine r_imul C dX0_goesOffAgain_56 ?_
    refine r_istore (lo2 := [(5, .int (iI (sp * ((l2 + ti) + rg)))), (4, .int (iI 1)), (0, .ref h0), (1, .ref s0), (2, .ref a0), (3, .int (iI ti))]) C dX0_goesOffAgain_57 (by decide) rfl ?_
    have q5 := mulB (a := sp) (b := l2 + ti + rg) (A := 300) (B := 104) (by omega) (by omega)
    refine r_iload C dX0_goesOffAgain_59 1 rfl ?_
    refine r_if_eq (tgt := 72) C dX0_goesOffAgain_61 (by decide) (by decide) (fun h_10 => absurd h_10 (by decide)) (fun h_10 => ?_)
    refine r_iload C dX0_goesOffAgain_64 0 rfl ?_
    refine r_bipush C dX0_goesOffAgain_66 (by decide) ?_
    refine r_idiv C dX0_goesOffAgain_68 (by omega) (by omega) ?_
    refine r_goto (tgt := 77) C dX0_goesOffAgain_69 (by decide) ?_
    refine r_iconst C dX0_goesOffAgain_77 ?_
    refine r_iadd C dX0_goesOffAgain_78 ?_
    refine r_topi (z := (fTk l2 l6 rg sp ti)) (by simp only [fTk]; first | (rw [if_pos (by omega)]; done) | (rw [if_neg (by omega)]; done)) ?_
    refine r_istore (lo2 := [(6, .int (iI (fTk l2 l6 rg sp ti))), (5, .int (iI (sp * ((l2 + ti) + rg)))), (4, .int (iI 1)), (0, .ref h0), (1, .ref s0), (2, .ref a0), (3, .int (iI ti))]) C dX0_goesOffAgain_79 (by decide) rfl ?_
    have q7 := fTk_B (l2 := l2) (l6 := l6) (rg := rg) (sp := sp) (ti := ti) (by omega) (by omega)
    refine r_iload C dX0_goesOffAgain_81 2 rfl ?_
    refine r_if_eq (tgt := 93) C dX0_goesOffAgain_83 (by decide) (by decide) (fun h_11 => absurd h_11 (by decide)) (fun h_11 => ?_)
    refine r_aload_n C dX0_goesOffAgain_86 3 rfl ?_
    refine gf_0_4 C hi_X0_goesOffAgain_0 kw_X0_goesOffAgain_1 dX0_goesOffAgain_87 0 rfl rfl ?_
    refine r_goto (tgt := 109) C dX0_goesOffAgain_90 (by decide) ?_
    refine r_topi (z := (fFl l3 l6 fa ti)) (by simp only [fFl]; first | (rw [if_pos (by omega)]; done) | (rw [if_neg (by omega)]; done)) ?_
    refine r_istore (lo2 := [(7, .int (iI (fFl l3 l6 fa ti))), (6, .int (iI (fTk l2 l6 rg sp ti))), (5, .int (iI (sp * ((l2 + ti) + rg)))), (4, .int (iI 1)), (0, .ref h0), (1, .ref s0), (2, .ref a0), (3, .int (iI ti))]) C dX0_goesOffAgain_109 (by decide) rfl ?_
    have q8 := fFl_B (l3 := l3) (l6 := l6) (fa := fa) (ti := ti) (by omega) (by omega)
    refine r_aload_n C dX0_goesOffAgain_111 4 rfl ?_
    refine r_iload C dX0_goesOffAgain_112 3 rfl ?_
    refine r_if_eq (tgt := 121) C dX0_goesOffAgain_114 (by decide) (by decide) (fun h_12 => absurd h_12 (by decide)) (fun h_12 => ?_)
    refine r_iconst C dX0_goesOffAgain_117 ?_
    refine r_goto (tgt := 135) C dX0_goesOffAgain_118 (by decide) ?_
    refine r_topi (z := (fKd l5 l6 ti (fFl l3 l6 fa ti))) (by simp only [fKd]; first | (rw [if_pos (by omega)]; done) | (rw [if_neg (by omega), if_pos (by omega)]; done) | (rw [if_neg (by omega), if_neg (by omega)]; done)) ?_
    refine r_iload_n C dX0_goesOffAgain_135 7 rfl ?_
    refine r_iload C dX0_goesOffAgain_136 1 rfl ?_
    refine g_V_v (ws2 := (fun _ => [(h0, .inr (0, [.ref h1, .int (iI (cnt + 1)), .int (iI xx), .int (iI sp), .int (iI fa), .int (iI sl), .int (iI sn), .int (iI bt)])), (h1, .inl (X.2.1.1, 810, .inl (iF (kpF F cnt (fKd l5 l6 ti (fFl l3 l6 fa ti)) xx sp fa sl sn ti (fTk l2 l6 rg sp ti) bt)))), (s0, .inr (3, [.int (iI wt), .int (iI wd), .int (iI rg), .int (iI ly), .int (iI wo)])), (a0, .inr (4, [.int (iI l1), .int (iI l2), .int (iI l3), .int (iI l4), .int (iI l5), .int (iI l6), .ref a1, .int (iI wc), .int (iI sh)])), (a1, .inl (X.2.1.1, 20, .inl (iF Fw)))])) (As := [.int (iI (fKd l5 l6 ti (fFl l3 l6 fa ti))), .int (iI ti), .int (iI (fTk l2 l6 rg sp ti))]) C (c_X0_keep l X h0 h1 cnt xx sp fa sl sn bt F (fKd l5 l6 ti (fFl l3 l6 fa ti)) ti (fTk l2 l6 rg sp ti) (by first | assumption | omega)) gX0_goesOffAgain_X0_keep rfl rfl rfl hd_V_X0_keep_X0_goesOffAgain (by decide) dX0_goesOffAgain_138 [0, 1] [2, 3, 4] [3, 4, 0, 1, 2] rfl rfl rfl rfl (by decide) rfl 0 0 rfl rfl rfl rfl (Nat.le_of_ble_eq_true rfl) (by decide) (fun _ => rfl) (fun _ hy_ => ?_)
    clear hy_
    refine r_aload_n C dX0_goesOffAgain_141 4 rfl ?_
    refine r_iconst C dX0_goesOffAgain_142 ?_
    refine r_aload_n C dX0_goesOffAgain_143 4 rfl ?_
    refine gf_0_3 C hi_X0_goesOffAgain_0 kw_X0_goesOffAgain_0 dX0_goesOffAgain_144 0 rfl rfl ?_
    refine r_iload C dX0_goesOffAgain_147 1 rfl ?_
    refine r_isub C dX0_goesOffAgain_149 ?_
    refine r_max C kw_X0_goesOffAgain_6 kw_X0_goesOffAgain_7 kw_X0_goesOffAgain_8 kw_X0_goesOffAgain_9 dX0_goesOffAgain_150 (by decide) (by omega) (Nat.le_of_ble_eq_true rfl) (Nat.le_of_ble_eq_true rfl) (by decide) (by decide) ?_
    refine pf_0_3 (ws2 := [(h0, .inr (0, [.ref h1, .int (iI (cnt + 1)), .int (iI xx), .int (iI (max 0 (sp - (fTk l2 l6 rg sp ti)))), .int (iI fa), .int (iI sl), .int (iI sn), .int (iI bt)])), (h1, .inl (X.2.1.1, 810, .inl (iF (kpF F cnt (fKd l5 l6 ti (fFl l3 l6 fa ti)) xx sp fa sl sn ti (fTk l2 l6 rg sp ti) bt)))), (s0, .inr (3, [.int (iI wt), .int (iI wd), .int (iI rg), .int (iI ly), .int (iI wo)])), (a0, .inr (4, [.int (iI l1), .int (iI l2), .int (iI l3), .int (iI l4), .int (iI l5), .int (iI l6), .ref a1, .int (iI wc), .int (iI sh)])), (a1, .inl (X.2.1.1, 20, .inl (iF Fw)))]) C hi_X0_goesOffAgain_0 kw_X0_goesOffAgain_0 dX0_goesOffAgain_153 0 rfl rfl rfl (Nat.le_of_ble_eq_true rfl) rfl ?_
    refine r_aload_n C dX0_goesOffAgain_156 4 rfl ?_
    refine r_iload C dX0_goesOffAgain_157 0 rfl ?_
    refine pf_0_4 (ws2 := [(h0, .inr (0, [.ref h1, .int (iI (cnt + 1)), .int (iI xx), .int (iI (max 0 (sp - (fTk l2 l6 rg sp ti)))), .int (iI (fFl l3 l6 fa ti)), .int (iI sl), .int (iI sn), .int (iI bt)])), (h1, .inl (X.2.1.1, 810, .inl (iF (kpF F cnt (fKd l5 l6 ti (fFl l3 l6 fa ti)) xx sp fa sl sn ti (fTk l2 l6 rg sp ti) bt)))), (s0, .inr (3, [.int (iI wt), .int (iI wd), .int (iI rg), .int (iI ly), .int (iI wo)])), (a0, .inr (4, [.int (iI l1), .int (iI l2), .int (iI l3), .int (iI l4), .int (iI l5), .int (iI l6), .ref a1, .int (iI wc), .int (iI sh)])), (a1, .inl (X.2.1.1, 20, .inl (iF Fw)))]) C hi_X0_goesOffAgain_0 kw_X0_goesOffAgain_1 dX0_goesOffAgain_159 0 rfl rfl rfl (Nat.le_of_ble_eq_true rfl) rfl ?_
    refine r_aload_n C dX0_goesOffAgain_162 4 rfl ?_
    refine r_aload_n C dX0_goesOffAgain_163 6 rfl ?_
    refine gf_4_3 C hi_X0_goesOffAgain_4 kw_X0_goesOffAgain_11 dX0_goesOffAgain_164 3 rfl rfl ?_
    refine g_V_v (ws2 := (fun _ => [(h0, .inr (0, [.ref h1, .int (iI (cnt + 1)), .int (iI xx), .int (iI (max 0 (sp - (fTk l2 l6 rg sp ti)))), .int (iI (fFl l3 l6 fa ti)), .int (iI (fSl l4 sl (fSn sn))), .int (iI (fSn sn)), .int (iI bt)])), (h1, .inl (X.2.1.1, 810, .inl (iF (kpF F cnt (fKd l5 l6 ti (fFl l3 l6 fa ti)) xx sp fa sl sn ti (fTk l2 l6 rg sp ti) bt)))), (s0, .inr (3, [.int (iI wt), .int (iI wd), .int (iI rg), .int (iI ly), .int (iI wo)])), (a0, .inr (4, [.int (iI l1), .int (iI l2), .int (iI l3), .int (iI l4), .int (iI l5), .int (iI l6), .ref a1, .int (iI wc), .int (iI sh)])), (a1, .inl (X.2.1.1, 20, .inl (iF Fw)))])) (As := [.int (iI l4)]) C (c_X0_wobble l X h0 h1 (cnt + 1) xx (max 0 (sp - (fTk l2 l6 rg sp ti))) (fFl l3 l6 fa ti) sl sn bt (kpF F cnt (fKd l5 l6 ti (fFl l3 l6 fa ti)) xx sp fa sl sn ti (fTk l2 l6 rg sp ti) bt) l4 (by first | assumption | omega) (by first | assumption | omega) (by first | assumption | omega)) gX0_goesOffAgain_X0_wobble rfl rfl rfl hd_V_X0_wobble_X0_goesOffAgain (by decide) dX0_goesOffAgain_167 [0, 1] [2, 3, 4] [3, 4, 0, 1, 2] rfl rfl rfl rfl (by decide) rfl 0 0 rfl rfl rfl rfl (Nat.le_of_ble_eq_true rfl) (by decide) (fun _ => rfl) (fun _ hy_ => ?_)
    clear hy_
    refine r_aload_n C dX0_goesOffAgain_170 4 rfl ?_
    refine gf_0_3 C hi_X0_goesOffAgain_0 kw_X0_goesOffAgain_0 dX0_goesOffAgain_171 0 rfl rfl ?_
    refine r_if_ne (tgt := 179) C dX0_goesOffAgain_174 (by decide) (by omega) (fun h_13 => absurd h_13 (by omega)) (fun h_13 => ?_)
    refine r_iconst C dX0_goesOffAgain_177 ?_
    exact g_ret_z C rfl (by decide) dX0_goesOffAgain_178 () trivial (by first | rfl | omega | ((repeat' split) <;> first | rfl | omega)) [0, 1, 2, 3, 4] rfl rfl

set_option maxRecDepth 20000 in
theorem kw_X0_goesOffAgain_12 : Cond.fieldLink RX0 19 "SkipStones$Flight" "x" "I" ∈ wsX0_goesOffAgain := List.mem_of_getElem? (i := 13) rfl
set_option maxRecDepth 20000 in
theorem kw_X0_goesOffAgain_13 : Cond.fieldLink RX0 34 "SkipStones$Flight" "beat" "I" ∈ wsX0_goesOffAgain := List.mem_of_getElem? (i := 14) rfl
set_option maxHeartbeats 4000000 in
set_option maxRecDepth 100000 in
/-- goesOffAgain, f -/
theorem c_X0_goesOffAgain_f (l : Launch) (X : gX) (h0 : Nat) (h1 : Nat) (cnt : Int) (xx : Int) (sp : Int) (fa : Int) (sl : Int) (sn : Int) (bt : Int) (F : Nat → Int) (s0 : Nat) (wt : Int) (wd : Int) (rg : Int) (ly : Int) (wo : Int) (a0 : Nat) (a1 : Nat) (l1 : Int) (l2 : Int) (l3 : Int) (l4 : Int) (l5 : Int) (l6 : Int) (wc : Int) (sh : Int) (Fw : Nat → Int) (ti : Int) (hs1 : 1 ≤ wt ∧ wt ≤ 99) (hs2 : 1 ≤ wd ∧ wd ≤ 99) (hs3 : 0 ≤ rg ∧ rg ≤ 9) (hl1 : 1 ≤ l1 ∧ l1 ≤ 99) (hl2 : 0 ≤ l2 ∧ l2 ≤ 50) (hl3 : 1 ≤ l3 ∧ l3 ≤ 99) (hl4 : 0 ≤ l4 ∧ l4 ≤ 99) (hl5 : 0 ≤ l5 ∧ l5 ≤ 50) (hl6 : 1 ≤ l6 ∧ l6 ≤ 45) (hc : 0 ≤ cnt ∧ cnt < 90) (hp : 1 ≤ sp ∧ sp ≤ 300) (hf : 1 ≤ fa ∧ fa ≤ 99) (hsl : 0 ≤ sl ∧ sl ≤ 10000) (hsn : 0 ≤ sn ∧ sn ≤ 99) (hx : 0 ≤ xx ∧ xx ≤ 200000) (hb : 0 ≤ bt ∧ bt ≤ 10000) (ht : inB ti) (hk : ¬ (ti < 1 ∨ 45 < ti ∨ sp * wd * ti / (10 * l1) < wt * (fa + 10))) (hz : ¬ (max 0 (sp - (fTk l2 l6 rg sp ti))) = 0) : gM l yX0_goesOffAgain wsX0_goesOffAgain (gr 2 0 0) X [(h0, .inr (0, [.ref h1, .int (iI cnt), .int (iI xx), .int (iI sp), .int (iI fa), .int (iI sl), .int (iI sn), .int (iI bt)])), (h1, .inl (X.2.1.1, 810, .inl (iF F))), (s0, .inr (3, [.int (iI wt), .int (iI wd), .int (iI rg), .int (iI ly), .int (iI wo)])), (a0, .inr (4, [.int (iI l1), .int (iI l2), .int (iI l3), .int (iI l4), .int (iI l5), .int (iI l6), .ref a1, .int (iI wc), .int (iI sh)])), (a1, .inl (X.2.1.1, 20, .inl (iF Fw)))] [.ref h0, .ref s0, .ref a0, .int (iI ti)] (gQi X (Y := Unit) (fun _ => True) (fun _ => 1) (fun _ => [(h0, .inr (0, [.ref h1, .int (iI (cnt + 1)), .int (iI (xx + (((max 0 (sp - (fTk l2 l6 rg sp ti))) * (fFl l3 l6 fa ti)) / 20))), .int (iI (max 0 (sp - (fTk l2 l6 rg sp ti)))), .int (iI (fFl l3 l6 fa ti)), .int (iI (fSl l4 sl (fSn sn))), .int (iI (fSn sn)), .int (iI (bt + ((fFl l3 l6 fa ti) / 5)))])), (h1, .inl (X.2.1.1, 810, .inl (iF (kpF F cnt (fKd l5 l6 ti (fFl l3 l6 fa ti)) xx sp fa sl sn ti (fTk l2 l6 rg sp ti) bt)))), (s0, .inr (3, [.int (iI wt), .int (iI wd), .int (iI rg), .int (iI ly), .int (iI wo)])), (a0, .inr (4, [.int (iI l1), .int (iI l2), .int (iI l3), .int (iI l4), .int (iI l5), .int (iI l6), .ref a1, .int (iI wc), .int (iI sh)])), (a1, .inl (X.2.1.1, 20, .inl (iF Fw)))])) 0 0 := by
  refine g_start2 (lo := [(0, .ref h0), (1, .ref s0), (2, .ref a0), (3, .int (iI ti))]) (by decide +kernel) rfl rfl (Nat.le_of_ble_eq_true rfl) (fun p e s m args below meth c A C => ?_)
  refine r_aload_n C dX0_goesOffAgain_0 1 rfl ?_
  refine r_aload_n C dX0_goesOffAgain_1 2 rfl ?_
  refine r_aload_n C dX0_goesOffAgain_2 0 rfl ?_
  refine gf_0_3 C hi_X0_goesOffAgain_0 kw_X0_goesOffAgain_0 dX0_goesOffAgain_3 0 rfl rfl ?_
  refine r_aload_n C dX0_goesOffAgain_6 0 rfl ?_
  refine gf_0_4 C hi_X0_goesOffAgain_0 kw_X0_goesOffAgain_1 dX0_goesOffAgain_7 0 rfl rfl ?_
  refine r_iload_n C dX0_goesOffAgain_10 3 rfl ?_
  refine g_SN_i (ws2 := (fun _ => [(h0, .inr (0, [.ref h1, .int (iI cnt), .int (iI xx), .int (iI sp), .int (iI fa), .int (iI sl), .int (iI sn), .int (iI bt)])), (h1, .inl (X.2.1.1, 810, .inl (iF F))), (s0, .inr (3, [.int (iI wt), .int (iI wd), .int (iI rg), .int (iI ly), .int (iI wo)])), (a0, .inr (4, [.int (iI l1), .int (iI l2), .int (iI l3), .int (iI l4), .int (iI l5), .int (iI l6), .ref a1, .int (iI wc), .int (iI sh)])), (a1, .inl (X.2.1.1, 20, .inl (iF Fw)))])) (As := [.ref s0, .ref a0, .int (iI sp), .int (iI fa), .int (iI ti)]) C (c_X5_sinks l X s0 wt wd rg ly wo a0 a1 l1 l2 l3 l4 l5 l6 wc sh Fw sp fa ti (by first | assumption | omega) (by first | assumption | omega) (by first | assumption | omega) (by first | assumption | omega) (by first | assumption | omega) (by first | assumption | omega) (by first | assumption | omega)) gX0_goesOffAgain_X5_sinks_n47 rfl rfl rfl (host := "SkipStones") (List.mem_of_getElem? (i := 5) rfl) kw_X0_goesOffAgain_15 kw_X0_goesOffAgain_14 hd_SN_X5_sinks_X0_goesOffAgain (by decide) dX0_goesOffAgain_11 [2, 3, 4] [0, 1] [0, 1, 2, 3, 4] rfl rfl rfl rfl (by decide) rfl rfl rfl (Nat.le_of_ble_eq_true rfl) (by decide) (fun _ => rfl) (fun _ hy_ => ?_)
  clear hy_
  refine r_ite (fun h_1 => absurd h_1 (by omega)) (fun h_1 => ?_)
  refine r_if_eq (tgt := 26) C dX0_goesOffAgain_14 (by decide) (by decide) (fun h_2 => ?_) (fun h_2 => absurd h_2 (by decide))
  refine r_iload_n C dX0_goesOffAgain_26 3 rfl ?_
  refine r_aload_n C dX0_goesOffAgain_27 2 rfl ?_
  refine gf_4_5 C hi_X0_goesOffAgain_4 kw_X0_goesOffAgain_2 dX0_goesOffAgain_28 3 rfl rfl ?_
  refine r_icmp_le (tgt := 38) C dX0_goesOffAgain_31 (by decide) (by omega) (by omega) (fun h_3 => ?_) (fun h_3 => ?_)
  · skip
    refine r_iconst C dX0_goesOffAgain_38 ?_
    refine r_istore (lo2 := [(4, .int (iI 0)), (0, .ref h0), (1, .ref s0), (2, .ref a0), (3, .int (iI ti))]) C dX0_goesOffAgain_39 (by decide) rfl ?_
    refine r_aload_n C dX0_goesOffAgain_41 1 rfl ?_
    refine gf_0_3 C hi_X0_goesOffAgain_0 kw_X0_goesOffAgain_0 dX0_goesOffAgain_42 0 rfl rfl ?_
    refine r_aload_n C dX0_goesOffAgain_45 3 rfl ?_
    refine gf_4_1 C hi_X0_goesOffAgain_4 kw_X0_goesOffAgain_3 dX0_goesOffAgain_46 3 rfl rfl ?_
    refine r_iload_n C dX0_goesOffAgain_49 4 rfl ?_
    refine r_iadd C dX0_goesOffAgain_50 ?_
    refine r_aload_n C dX0_goesOffAgain_51 2 rfl ?_
    refine gf_3_2 C hi_X0_goesOffAgain_3 kw_X0_goesOffAgain_4 dX0_goesOffAgain_52 2 rfl rfl ?_
    refine r_iadd C dX0_goesOffAgain_55 ?_
    refine r_imul C dX0_goesOffAgain_56 ?_
    refine r_istore (lo2 := [(5, .int (iI (sp * ((l2 + ti) + rg)))), (4, .int (iI 0)), (0, .ref h0), (1, .ref s0), (2, .ref a0), (3, .int (iI ti))]) C dX0_goesOffAgain_57 (by decide) rfl ?_
    have q5 := mulB (a := sp) (b := l2 + ti + rg) (A := 300) (B := 104) (by omega) (by omega)
    refine r_iload C dX0_goesOffAgain_59 1 rfl ?_
    refine r_if_eq (tgt := 72) C dX0_goesOffAgain_61 (by decide) (by decide) (fun h_4 => ?_) (fun h_4 => absurd h_4 (by decide))
    refine r_iload C dX0_goesOffAgain_72 0 rfl ?_
    refine r_bipush C dX0_goesOffAgain_74 (by decide) ?_
    refine r_idiv C dX0_goesOffAgain_76 (by omega) (by omega) ?_
    refine r_iconst C dX0_goesOffAgain_77 ?_
    refine r_iadd C dX0_goesOffAgain_78 ?_
    refine r_topi (z := (fTk l2 l6 rg sp ti)) (by simp only [fTk]; first | (rw [if_pos (by omega)]; done) | (rw [if_neg (by omega)]; done)) ?_
    refine r_istore (lo2 := [(6, .int (iI (fTk l2 l6 rg sp ti))), (5, .int (iI (sp * ((l2 + ti) + rg)))), (4, .int (iI 0)), (0, .ref h0), (1, .ref s0), (2, .ref a0), (3, .int (iI ti))]) C dX0_goesOffAgain_79 (by decide) rfl ?_
    have q7 := fTk_B (l2 := l2) (l6 := l6) (rg := rg) (sp := sp) (ti := ti) (by omega) (by omega)
    refine r_iload C dX0_goesOffAgain_81 2 rfl ?_
    refine r_if_eq (tgt := 93) C dX0_goesOffAgain_83 (by decide) (by decide) (fun h_5 => ?_) (fun h_5 => absurd h_5 (by decide))
    refine r_iconst C dX0_goesOffAgain_93 ?_
    refine r_aload_n C dX0_goesOffAgain_94 3 rfl ?_
    refine gf_0_4 C hi_X0_goesOffAgain_0 kw_X0_goesOffAgain_1 dX0_goesOffAgain_95 0 rfl rfl ?_
    refine r_aload_n C dX0_goesOffAgain_98 5 rfl ?_
    refine gf_4_2 C hi_X0_goesOffAgain_4 kw_X0_goesOffAgain_5 dX0_goesOffAgain_99 3 rfl rfl ?_
    have q6 := mulB (a := fa) (b := l3) (A := 99) (B := 99) (by omega) (by omega)
    refine r_imul C dX0_goesOffAgain_102 ?_
    refine r_bipush C dX0_goesOffAgain_103 (by decide) ?_
    refine r_idiv C dX0_goesOffAgain_105 (by omega) (by omega) ?_
    refine r_max C kw_X0_goesOffAgain_6 kw_X0_goesOffAgain_7 kw_X0_goesOffAgain_8 kw_X0_goesOffAgain_9 dX0_goesOffAgain_106 (by decide) (by omega) (Nat.le_of_ble_eq_true rfl) (Nat.le_of_ble_eq_true rfl) (by decide) (by decide) ?_
    refine r_topi (z := (fFl l3 l6 fa ti)) (by simp only [fFl]; first | (rw [if_pos (by omega)]; done) | (rw [if_neg (by omega)]; done)) ?_
    refine r_istore (lo2 := [(7, .int (iI (fFl l3 l6 fa ti))), (6, .int (iI (fTk l2 l6 rg sp ti))), (5, .int (iI (sp * ((l2 + ti) + rg)))), (4, .int (iI 0)), (0, .ref h0), (1, .ref s0), (2, .ref a0), (3, .int (iI ti))]) C dX0_goesOffAgain_109 (by decide) rfl ?_
    have q8 := fFl_B (l3 := l3) (l6 := l6) (fa := fa) (ti := ti) (by omega) (by omega)
    refine r_aload_n C dX0_goesOffAgain_111 4 rfl ?_
    refine r_iload C dX0_goesOffAgain_112 3 rfl ?_
    refine r_if_eq (tgt := 121) C dX0_goesOffAgain_114 (by decide) (by decide) (fun h_6 => ?_) (fun h_6 => absurd h_6 (by decide))
    refine r_iload C dX0_goesOffAgain_121 0 rfl ?_
    refine r_aload_n C dX0_goesOffAgain_123 6 rfl ?_
    refine gf_4_4 C hi_X0_goesOffAgain_4 kw_X0_goesOffAgain_10 dX0_goesOffAgain_124 3 rfl rfl ?_
    refine r_icmp_gt (tgt := 134) C dX0_goesOffAgain_127 (by decide) (by omega) (by omega) (fun h_7 => ?_) (fun h_7 => ?_)
    · skip
      refine r_iconst C dX0_goesOffAgain_134 ?_
      refine r_topi (z := (fKd l5 l6 ti (fFl l3 l6 fa ti))) (by simp only [fKd]; first | (rw [if_pos (by omega)]; done) | (rw [if_neg (by omega), if_pos (by omega)]; done) | (rw [if_neg (by omega), if_neg (by omega)]; done)) ?_
      refine r_iload_n C dX0_goesOffAgain_135 7 rfl ?_
      refine r_iload C dX0_goesOffAgain_136 1 rfl ?_
      refine g_V_v (ws2 := (fun _ => [(h0, .inr (0, [.ref h1, .int (iI (cnt + 1)), .int (iI xx), .int (iI sp), .int (iI fa), .int (iI sl), .int (iI sn), .int (iI bt)])), (h1, .inl (X.2.1.1, 810, .inl (iF (kpF F cnt (fKd l5 l6 ti (fFl l3 l6 fa ti)) xx sp fa sl sn ti (fTk l2 l6 rg sp ti) bt)))), (s0, .inr (3, [.int (iI wt), .int (iI wd), .int (iI rg), .int (iI ly), .int (iI wo)])), (a0, .inr (4, [.int (iI l1), .int (iI l2), .int (iI l3), .int (iI l4), .int (iI l5), .int (iI l6), .ref a1, .int (iI wc), .int (iI sh)])), (a1, .inl (X.2.1.1, 20, .inl (iF Fw)))])) (As := [.int (iI (fKd l5 l6 ti (fFl l3 l6 fa ti))), .int (iI ti), .int (iI (fTk l2 l6 rg sp ti))]) C (c_X0_keep l X h0 h1 cnt xx sp fa sl sn bt F (fKd l5 l6 ti (fFl l3 l6 fa ti)) ti (fTk l2 l6 rg sp ti) (by first | assumption | omega)) gX0_goesOffAgain_X0_keep rfl rfl rfl hd_V_X0_keep_X0_goesOffAgain (by decide) dX0_goesOffAgain_138 [0, 1] [2, 3, 4] [3, 4, 0, 1, 2] rfl rfl rfl rfl (by decide) rfl 0 0 rfl rfl rfl rfl (Nat.le_of_ble_eq_true rfl) (by decide) (fun _ => rfl) (fun _ hy_ => ?_)
      clear hy_
      refine r_aload_n C dX0_goesOffAgain_141 4 rfl ?_
      refine r_iconst C dX0_goesOffAgain_142 ?_
      refine r_aload_n C dX0_goesOffAgain_143 4 rfl ?_
      refine gf_0_3 C hi_X0_goesOffAgain_0 kw_X0_goesOffAgain_0 dX0_goesOffAgain_144 0 rfl rfl ?_
      refine r_iload C dX0_goesOffAgain_147 1 rfl ?_
      refine r_isub C dX0_goesOffAgain_149 ?_
      refine r_max C kw_X0_goesOffAgain_6 kw_X0_goesOffAgain_7 kw_X0_goesOffAgain_8 kw_X0_goesOffAgain_9 dX0_goesOffAgain_150 (by decide) (by omega) (Nat.le_of_ble_eq_true rfl) (Nat.le_of_ble_eq_true rfl) (by decide) (by decide) ?_
      refine pf_0_3 (ws2 := [(h0, .inr (0, [.ref h1, .int (iI (cnt + 1)), .int (iI xx), .int (iI (max 0 (sp - (fTk l2 l6 rg sp ti)))), .int (iI fa), .int (iI sl), .int (iI sn), .int (iI bt)])), (h1, .inl (X.2.1.1, 810, .inl (iF (kpF F cnt (fKd l5 l6 ti (fFl l3 l6 fa ti)) xx sp fa sl sn ti (fTk l2 l6 rg sp ti) bt)))), (s0, .inr (3, [.int (iI wt), .int (iI wd), .int (iI rg), .int (iI ly), .int (iI wo)])), (a0, .inr (4, [.int (iI l1), .int (iI l2), .int (iI l3), .int (iI l4), .int (iI l5), .int (iI l6), .ref a1, .int (iI wc), .int (iI sh)])), (a1, .inl (X.2.1.1, 20, .inl (iF Fw)))]) C hi_X0_goesOffAgain_0 kw_X0_goesOffAgain_0 dX0_goesOffAgain_153 0 rfl rfl rfl (Nat.le_of_ble_eq_true rfl) rfl ?_
      refine r_aload_n C dX0_goesOffAgain_156 4 rfl ?_
      refine r_iload C dX0_goesOffAgain_157 0 rfl ?_
      refine pf_0_4 (ws2 := [(h0, .inr (0, [.ref h1, .int (iI (cnt + 1)), .int (iI xx), .int (iI (max 0 (sp - (fTk l2 l6 rg sp ti)))), .int (iI (fFl l3 l6 fa ti)), .int (iI sl), .int (iI sn), .int (iI bt)])), (h1, .inl (X.2.1.1, 810, .inl (iF (kpF F cnt (fKd l5 l6 ti (fFl l3 l6 fa ti)) xx sp fa sl sn ti (fTk l2 l6 rg sp ti) bt)))), (s0, .inr (3, [.int (iI wt), .int (iI wd), .int (iI rg), .int (iI ly), .int (iI wo)])), (a0, .inr (4, [.int (iI l1), .int (iI l2), .int (iI l3), .int (iI l4), .int (iI l5), .int (iI l6), .ref a1, .int (iI wc), .int (iI sh)])), (a1, .inl (X.2.1.1, 20, .inl (iF Fw)))]) C hi_X0_goesOffAgain_0 kw_X0_goesOffAgain_1 dX0_goesOffAgain_159 0 rfl rfl rfl (Nat.le_of_ble_eq_true rfl) rfl ?_
      refine r_aload_n C dX0_goesOffAgain_162 4 rfl ?_
      refine r_aload_n C dX0_goesOffAgain_163 6 rfl ?_
      refine gf_4_3 C hi_X0_goesOffAgain_4 kw_X0_goesOffAgain_11 dX0_goesOffAgain_164 3 rfl rfl ?_
      refine g_V_v (ws2 := (fun _ => [(h0, .inr (0, [.ref h1, .int (iI (cnt + 1)), .int (iI xx), .int (iI (max 0 (sp - (fTk l2 l6 rg sp ti)))), .int (iI (fFl l3 l6 fa ti)), .int (iI (fSl l4 sl (fSn sn))), .int (iI (fSn sn)), .int (iI bt)])), (h1, .inl (X.2.1.1, 810, .inl (iF (kpF F cnt (fKd l5 l6 ti (fFl l3 l6 fa ti)) xx sp fa sl sn ti (fTk l2 l6 rg sp ti) bt)))), (s0, .inr (3, [.int (iI wt), .int (iI wd), .int (iI rg), .int (iI ly), .int (iI wo)])), (a0, .inr (4, [.int (iI l1), .int (iI l2), .int (iI l3), .int (iI l4), .int (iI l5), .int (iI l6), .ref a1, .int (iI wc), .int (iI sh)])), (a1, .inl (X.2.1.1, 20, .inl (iF Fw)))])) (As := [.int (iI l4)]) C (c_X0_wobble l X h0 h1 (cnt + 1) xx (max 0 (sp - (fTk l2 l6 rg sp ti))) (fFl l3 l6 fa ti) sl sn bt (kpF F cnt (fKd l5 l6 ti (fFl l3 l6 fa ti)) xx sp fa sl sn ti (fTk l2 l6 rg sp ti) bt) l4 (by first | assumption | omega) (by first | assumption | omega) (by first | assumption | omega)) gX0_goesOffAgain_X0_wobble rfl rfl rfl hd_V_X0_wobble_X0_goesOffAgain (by decide) dX0_goesOffAgain_167 [0, 1] [2, 3, 4] [3, 4, 0, 1, 2] rfl rfl rfl rfl (by decide) rfl 0 0 rfl rfl rfl rfl (Nat.le_of_ble_eq_true rfl) (by decide) (fun _ => rfl) (fun _ hy_ => ?_)
      clear hy_
      refine r_aload_n C dX0_goesOffAgain_170 4 rfl ?_
      refine gf_0_3 C hi_X0_goesOffAgain_0 kw_X0_goesOffAgain_0 dX0_goesOffAgain_171 0 rfl rfl ?_
      refine r_if_ne (tgt := 179) C dX0_goesOffAgain_174 (by decide) (by omega) (fun h_8 => ?_) (fun h_8 => absurd h_8 (by omega))
      have q9 := mulB (a := (max 0 (sp - (fTk l2 l6 rg sp ti)))) (b := (fFl l3 l6 fa ti)) (A := 300) (B := 99) (by omega) (by omega)
      refine r_aload_n C dX0_goesOffAgain_179 4 rfl ?_
      refine r_dup C dX0_goesOffAgain_180 rfl ?_
      refine gf_0_2 C hi_X0_goesOffAgain_0 kw_X0_goesOffAgain_12 dX0_goesOffAgain_181 0 rfl rfl ?_
      refine r_aload_n C dX0_goesOffAgain_184 4 rfl ?_
      refine gf_0_3 C hi_X0_goesOffAgain_0 kw_X0_goesOffAgain_0 dX0_goesOffAgain_185 0 rfl rfl ?_
      refine r_aload_n C dX0_goesOffAgain_188 4 rfl ?_
      refine gf_0_4 C hi_X0_goesOffAgain_0 kw_X0_goesOffAgain_1 dX0_goesOffAgain_189 0 rfl rfl ?_
      refine r_imul C dX0_goesOffAgain_192 ?_
      refine r_bipush C dX0_goesOffAgain_193 (by decide) ?_
      refine r_idiv C dX0_goesOffAgain_195 (by omega) (by omega) ?_
      refine r_iadd C dX0_goesOffAgain_196 ?_
      refine pf_0_2 (ws2 := [(h0, .inr (0, [.ref h1, .int (iI (cnt + 1)), .int (iI (xx + (((max 0 (sp - (fTk l2 l6 rg sp ti))) * (fFl l3 l6 fa ti)) / 20))), .int (iI (max 0 (sp - (fTk l2 l6 rg sp ti)))), .int (iI (fFl l3 l6 fa ti)), .int (iI (fSl l4 sl (fSn sn))), .int (iI (fSn sn)), .int (iI bt)])), (h1, .inl (X.2.1.1, 810, .inl (iF (kpF F cnt (fKd l5 l6 ti (fFl l3 l6 fa ti)) xx sp fa sl sn ti (fTk l2 l6 rg sp ti) bt)))), (s0, .inr (3, [.int (iI wt), .int (iI wd), .int (iI rg), .int (iI ly), .int (iI wo)])), (a0, .inr (4, [.int (iI l1), .int (iI l2), .int (iI l3), .int (iI l4), .int (iI l5), .int (iI l6), .ref a1, .int (iI wc), .int (iI sh)])), (a1, .inl (X.2.1.1, 20, .inl (iF Fw)))]) C hi_X0_goesOffAgain_0 kw_X0_goesOffAgain_12 dX0_goesOffAgain_197 0 rfl rfl rfl (Nat.le_of_ble_eq_true rfl) rfl ?_
      refine r_aload_n C dX0_goesOffAgain_200 4 rfl ?_
      refine r_dup C dX0_goesOffAgain_201 rfl ?_
      refine gf_0_7 C hi_X0_goesOffAgain_0 kw_X0_goesOffAgain_13 dX0_goesOffAgain_202 0 rfl rfl ?_
      refine r_aload_n C dX0_goesOffAgain_205 4 rfl ?_
      refine gf_0_4 C hi_X0_goesOffAgain_0 kw_X0_goesOffAgain_1 dX0_goesOffAgain_206 0 rfl rfl ?_
      refine r_iconst C dX0_goesOffAgain_209 ?_
      refine r_idiv C dX0_goesOffAgain_210 (by omega) (by omega) ?_
      refine r_iadd C dX0_goesOffAgain_211 ?_
      refine pf_0_7 (ws2 := [(h0, .inr (0, [.ref h1, .int (iI (cnt + 1)), .int (iI (xx + (((max 0 (sp - (fTk l2 l6 rg sp ti))) * (fFl l3 l6 fa ti)) / 20))), .int (iI (max 0 (sp - (fTk l2 l6 rg sp ti)))), .int (iI (fFl l3 l6 fa ti)), .int (iI (fSl l4 sl (fSn sn))), .int (iI (fSn sn)), .int (iI (bt + ((fFl l3 l6 fa ti) / 5)))])), (h1, .inl (X.2.1.1, 810, .inl (iF (kpF F cnt (fKd l5 l6 ti (fFl l3 l6 fa ti)) xx sp fa sl sn ti (fTk l2 l6 rg sp ti) bt)))), (s0, .inr (3, [.int (iI wt), .int (iI wd), .int (iI rg), .int (iI ly), .int (iI wo)])), (a0, .inr (4, [.int (iI l1), .int (iI l2), .int (iI l3), .int (iI l4), .int (iI l5), .int (iI l6), .ref a1, .int (iI wc), .int (iI sh)])), (a1, .inl (X.2.1.1, 20, .inl (iF Fw)))]) C hi_X0_goesOffAgain_0 kw_X0_goesOffAgain_13 dX0_goesOffAgain_212 0 rfl rfl rfl (Nat.le_of_ble_eq_true rfl) rfl ?_
      refine r_iconst C dX0_goesOffAgain_215 ?_
      exact g_ret_z C rfl (by decide) dX0_goesOffAgain_216 () trivial (by first | rfl | omega | ((repeat' split) <;> first | rfl | omega)) [0, 1, 2, 3, 4] rfl rfl
    · skip
      refine r_iconst C dX0_goesOffAgain_130 ?_
      refine r_goto (tgt := 135) C dX0_goesOffAgain_131 (by decide) ?_
      refine r_topi (z := (fKd l5 l6 ti (fFl l3 l6 fa ti))) (by simp only [fKd]; first | (rw [if_pos (by omega)]; done) | (rw [if_neg (by omega), if_pos (by omega)]; done) | (rw [if_neg (by omega), if_neg (by omega)]; done)) ?_
      refine r_iload_n C dX0_goesOffAgain_135 7 rfl ?_
      refine r_iload C dX0_goesOffAgain_136 1 rfl ?_
      refine g_V_v (ws2 := (fun _ => [(h0, .inr (0, [.ref h1, .int (iI (cnt + 1)), .int (iI xx), .int (iI sp), .int (iI fa), .int (iI sl), .int (iI sn), .int (iI bt)])), (h1, .inl (X.2.1.1, 810, .inl (iF (kpF F cnt (fKd l5 l6 ti (fFl l3 l6 fa ti)) xx sp fa sl sn ti (fTk l2 l6 rg sp ti) bt)))), (s0, .inr (3, [.int (iI wt), .int (iI wd), .int (iI rg), .int (iI ly), .int (iI wo)])), (a0, .inr (4, [.int (iI l1), .int (iI l2), .int (iI l3), .int (iI l4), .int (iI l5), .int (iI l6), .ref a1, .int (iI wc), .int (iI sh)])), (a1, .inl (X.2.1.1, 20, .inl (iF Fw)))])) (As := [.int (iI (fKd l5 l6 ti (fFl l3 l6 fa ti))), .int (iI ti), .int (iI (fTk l2 l6 rg sp ti))]) C (c_X0_keep l X h0 h1 cnt xx sp fa sl sn bt F (fKd l5 l6 ti (fFl l3 l6 fa ti)) ti (fTk l2 l6 rg sp ti) (by first | assumption | omega)) gX0_goesOffAgain_X0_keep rfl rfl rfl hd_V_X0_keep_X0_goesOffAgain (by decide) dX0_goesOffAgain_138 [0, 1] [2, 3, 4] [3, 4, 0, 1, 2] rfl rfl rfl rfl (by decide) rfl 0 0 rfl rfl rfl rfl (Nat.le_of_ble_eq_true rfl) (by decide) (fun _ => rfl) (fun _ hy_ => ?_)
      clear hy_
      refine r_aload_n C dX0_goesOffAgain_141 4 rfl ?_
      refine r_iconst C dX0_goesOffAgain_142 ?_
      refine r_aload_n C dX0_goesOffAgain_143 4 rfl ?_
      refine gf_0_3 C hi_X0_goesOffAgain_0 kw_X0_goesOffAgain_0 dX0_goesOffAgain_144 0 rfl rfl ?_
      refine r_iload C dX0_goesOffAgain_147 1 rfl ?_
      refine r_isub C dX0_goesOffAgain_149 ?_
      refine r_max C kw_X0_goesOffAgain_6 kw_X0_goesOffAgain_7 kw_X0_goesOffAgain_8 kw_X0_goesOffAgain_9 dX0_goesOffAgain_150 (by decide) (by omega) (Nat.le_of_ble_eq_true rfl) (Nat.le_of_ble_eq_true rfl) (by decide) (by decide) ?_
      refine pf_0_3 (ws2 := [(h0, .inr (0, [.ref h1, .int (iI (cnt + 1)), .int (iI xx), .int (iI (max 0 (sp - (fTk l2 l6 rg sp ti)))), .int (iI fa), .int (iI sl), .int (iI sn), .int (iI bt)])), (h1, .inl (X.2.1.1, 810, .inl (iF (kpF F cnt (fKd l5 l6 ti (fFl l3 l6 fa ti)) xx sp fa sl sn ti (fTk l2 l6 rg sp ti) bt)))), (s0, .inr (3, [.int (iI wt), .int (iI wd), .int (iI rg), .int (iI ly), .int (iI wo)])), (a0, .inr (4, [.int (iI l1), .int (iI l2), .int (iI l3), .int (iI l4), .int (iI l5), .int (iI l6), .ref a1, .int (iI wc), .int (iI sh)])), (a1, .inl (X.2.1.1, 20, .inl (iF Fw)))]) C hi_X0_goesOffAgain_0 kw_X0_goesOffAgain_0 dX0_goesOffAgain_153 0 rfl rfl rfl (Nat.le_of_ble_eq_true rfl) rfl ?_
      refine r_aload_n C dX0_goesOffAgain_156 4 rfl ?_
      refine r_iload C dX0_goesOffAgain_157 0 rfl ?_
      refine pf_0_4 (ws2 := [(h0, .inr (0, [.ref h1, .int (iI (cnt + 1)), .int (iI xx), .int (iI (max 0 (sp - (fTk l2 l6 rg sp ti)))), .int (iI (fFl l3 l6 fa ti)), .int (iI sl), .int (iI sn), .int (iI bt)])), (h1, .inl (X.2.1.1, 810, .inl (iF (kpF F cnt (fKd l5 l6 ti (fFl l3 l6 fa ti)) xx sp fa sl sn ti (fTk l2 l6 rg sp ti) bt)))), (s0, .inr (3, [.int (iI wt), .int (iI wd), .int (iI rg), .int (iI ly), .int (iI wo)])), (a0, .inr (4, [.int (iI l1), .int (iI l2), .int (iI l3), .int (iI l4), .int (iI l5), .int (iI l6), .ref a1, .int (iI wc), .int (iI sh)])), (a1, .inl (X.2.1.1, 20, .inl (iF Fw)))]) C hi_X0_goesOffAgain_0 kw_X0_goesOffAgain_1 dX0_goesOffAgain_159 0 rfl rfl rfl (Nat.le_of_ble_eq_true rfl) rfl ?_
      refine r_aload_n C dX0_goesOffAgain_162 4 rfl ?_
      refine r_aload_n C dX0_goesOffAgain_163 6 rfl ?_
      refine gf_4_3 C hi_X0_goesOffAgain_4 kw_X0_goesOffAgain_11 dX0_goesOffAgain_164 3 rfl rfl ?_
      refine g_V_v (ws2 := (fun _ => [(h0, .inr (0, [.ref h1, .int (iI (cnt + 1)), .int (iI xx), .int (iI (max 0 (sp - (fTk l2 l6 rg sp ti)))), .int (iI (fFl l3 l6 fa ti)), .int (iI (fSl l4 sl (fSn sn))), .int (iI (fSn sn)), .int (iI bt)])), (h1, .inl (X.2.1.1, 810, .inl (iF (kpF F cnt (fKd l5 l6 ti (fFl l3 l6 fa ti)) xx sp fa sl sn ti (fTk l2 l6 rg sp ti) bt)))), (s0, .inr (3, [.int (iI wt), .int (iI wd), .int (iI rg), .int (iI ly), .int (iI wo)])), (a0, .inr (4, [.int (iI l1), .int (iI l2), .int (iI l3), .int (iI l4), .int (iI l5), .int (iI l6), .ref a1, .int (iI wc), .int (iI sh)])), (a1, .inl (X.2.1.1, 20, .inl (iF Fw)))])) (As := [.int (iI l4)]) C (c_X0_wobble l X h0 h1 (cnt + 1) xx (max 0 (sp - (fTk l2 l6 rg sp ti))) (fFl l3 l6 fa ti) sl sn bt (kpF F cnt (fKd l5 l6 ti (fFl l3 l6 fa ti)) xx sp fa sl sn ti (fTk l2 l6 rg sp ti) bt) l4 (by first | assumption | omega) (by first | assumption | omega) (by first | assumption | omega)) gX0_goesOffAgain_X0_wobble rfl rfl rfl hd_V_X0_wobble_X0_goesOffAgain (by decide) dX0_goesOffAgain_167 [0, 1] [2, 3, 4] [3, 4, 0, 1, 2] rfl rfl rfl rfl (by decide) rfl 0 0 rfl rfl rfl rfl (Nat.le_of_ble_eq_true rfl) (by decide) (fun _ => rfl) (fun _ hy_ => ?_)
      clear hy_
      refine r_aload_n C dX0_goesOffAgain_170 4 rfl ?_
      refine gf_0_3 C hi_X0_goesOffAgain_0 kw_X0_goesOffAgain_0 dX0_goesOffAgain_171 0 rfl rfl ?_
      refine r_if_ne (tgt := 179) C dX0_goesOffAgain_174 (by decide) (by omega) (fun h_9 => ?_) (fun h_9 => absurd h_9 (by omega))
      have q9 := mulB (a := (max 0 (sp - (fTk l2 l6 rg sp ti)))) (b := (fFl l3 l6 fa ti)) (A := 300) (B := 99) (by omega) (by omega)
      refine r_aload_n C dX0_goesOffAgain_179 4 rfl ?_
      refine r_dup C dX0_goesOffAgain_180 rfl ?_
      refine gf_0_2 C hi_X0_goesOffAgain_0 kw_X0_goesOffAgain_12 dX0_goesOffAgain_181 0 rfl rfl ?_
      refine r_aload_n C dX0_goesOffAgain_184 4 rfl ?_
      refine gf_0_3 C hi_X0_goesOffAgain_0 kw_X0_goesOffAgain_0 dX0_goesOffAgain_185 0 rfl rfl ?_
      refine r_aload_n C dX0_goesOffAgain_188 4 rfl ?_
      refine gf_0_4 C hi_X0_goesOffAgain_0 kw_X0_goesOffAgain_1 dX0_goesOffAgain_189 0 rfl rfl ?_
      refine r_imul C dX0_goesOffAgain_192 ?_
      refine r_bipush C dX0_goesOffAgain_193 (by decide) ?_
      refine r_idiv C dX0_goesOffAgain_195 (by omega) (by omega) ?_
      refine r_iadd C dX0_goesOffAgain_196 ?_
      refine pf_0_2 (ws2 := [(h0, .inr (0, [.ref h1, .int (iI (cnt + 1)), .int (iI (xx + (((max 0 (sp - (fTk l2 l6 rg sp ti))) * (fFl l3 l6 fa ti)) / 20))), .int (iI (max 0 (sp - (fTk l2 l6 rg sp ti)))), .int (iI (fFl l3 l6 fa ti)), .int (iI (fSl l4 sl (fSn sn))), .int (iI (fSn sn)), .int (iI bt)])), (h1, .inl (X.2.1.1, 810, .inl (iF (kpF F cnt (fKd l5 l6 ti (fFl l3 l6 fa ti)) xx sp fa sl sn ti (fTk l2 l6 rg sp ti) bt)))), (s0, .inr (3, [.int (iI wt), .int (iI wd), .int (iI rg), .int (iI ly), .int (iI wo)])), (a0, .inr (4, [.int (iI l1), .int (iI l2), .int (iI l3), .int (iI l4), .int (iI l5), .int (iI l6), .ref a1, .int (iI wc), .int (iI sh)])), (a1, .inl (X.2.1.1, 20, .inl (iF Fw)))]) C hi_X0_goesOffAgain_0 kw_X0_goesOffAgain_12 dX0_goesOffAgain_197 0 rfl rfl rfl (Nat.le_of_ble_eq_true rfl) rfl ?_
      refine r_aload_n C dX0_goesOffAgain_200 4 rfl ?_
      refine r_dup C dX0_goesOffAgain_201 rfl ?_
      refine gf_0_7 C hi_X0_goesOffAgain_0 kw_X0_goesOffAgain_13 dX0_goesOffAgain_202 0 rfl rfl ?_
      refine r_aload_n C dX0_goesOffAgain_205 4 rfl ?_
      refine gf_0_4 C hi_X0_goesOffAgain_0 kw_X0_goesOffAgain_1 dX0_goesOffAgain_206 0 rfl rfl ?_
      refine r_iconst C dX0_goesOffAgain_209 ?_
      refine r_idiv C dX0_goesOffAgain_210 (by omega) (by omega) ?_
      refine r_iadd C dX0_goesOffAgain_211 ?_
      refine pf_0_7 (ws2 := [(h0, .inr (0, [.ref h1, .int (iI (cnt + 1)), .int (iI (xx + (((max 0 (sp - (fTk l2 l6 rg sp ti))) * (fFl l3 l6 fa ti)) / 20))), .int (iI (max 0 (sp - (fTk l2 l6 rg sp ti)))), .int (iI (fFl l3 l6 fa ti)), .int (iI (fSl l4 sl (fSn sn))), .int (iI (fSn sn)), .int (iI (bt + ((fFl l3 l6 fa ti) / 5)))])), (h1, .inl (X.2.1.1, 810, .inl (iF (kpF F cnt (fKd l5 l6 ti (fFl l3 l6 fa ti)) xx sp fa sl sn ti (fTk l2 l6 rg sp ti) bt)))), (s0, .inr (3, [.int (iI wt), .int (iI wd), .int (iI rg), .int (iI ly), .int (iI wo)])), (a0, .inr (4, [.int (iI l1), .int (iI l2), .int (iI l3), .int (iI l4), .int (iI l5), .int (iI l6), .ref a1, .int (iI wc), .int (iI sh)])), (a1, .inl (X.2.1.1, 20, .inl (iF Fw)))]) C hi_X0_goesOffAgain_0 kw_X0_goesOffAgain_13 dX0_goesOffAgain_212 0 rfl rfl rfl (Nat.le_of_ble_eq_true rfl) rfl ?_
      refine r_iconst C dX0_goesOffAgain_215 ?_
      exact g_ret_z C rfl (by decide) dX0_goesOffAgain_216 () trivial (by first | rfl | omega | ((repeat' split) <;> first | rfl | omega)) [0, 1, 2, 3, 4] rfl rfl
  · skip
    refine r_iconst C dX0_goesOffAgain_34 ?_
    refine r_goto (tgt := 39) C dX0_goesOffAgain_35 (by decide) ?_
    refine r_istore (lo2 := [(4, .int (iI 1)), (0, .ref h0), (1, .ref s0), (2, .ref a0), (3, .int (iI ti))]) C dX0_goesOffAgain_39 (by decide) rfl ?_
    refine r_aload_n C dX0_goesOffAgain_41 1 rfl ?_
    refine gf_0_3 C hi_X0_goesOffAgain_0 kw_X0_goesOffAgain_0 dX0_goesOffAgain_42 0 rfl rfl ?_
    refine r_aload_n C dX0_goesOffAgain_45 3 rfl ?_
    refine gf_4_1 C hi_X0_goesOffAgain_4 kw_X0_goesOffAgain_3 dX0_goesOffAgain_46 3 rfl rfl ?_
    refine r_iload_n C dX0_goesOffAgain_49 4 rfl ?_
    refine r_iadd C dX0_goesOffAgain_50 ?_
    refine r_aload_n C dX0_goesOffAgain_51 2 rfl ?_
    refine gf_3_2 C hi_X0_goesOffAgain_3 kw_X0_goesOffAgain_4 dX0_goesOffAgain_52 2 rfl rfl ?_
    refine r_iadd C dX0_goesOffAgain_55 ?_
    refine r_imul C dX0_goesOffAgain_56 ?_
    refine r_istore (lo2 := [(5, .int (iI (sp * ((l2 + ti) + rg)))), (4, .int (iI 1)), (0, .ref h0), (1, .ref s0), (2, .ref a0), (3, .int (iI ti))]) C dX0_goesOffAgain_57 (by decide) rfl ?_
    have q5 := mulB (a := sp) (b := l2 + ti + rg) (A := 300) (B := 104) (by omega) (by omega)
    refine r_iload C dX0_goesOffAgain_59 1 rfl ?_
    refine r_if_eq (tgt := 72) C dX0_goesOffAgain_61 (by decide) (by decide) (fun h_10 => absurd h_10 (by decide)) (fun h_10 => ?_)
    refine r_iload C dX0_goesOffAgain_64 0 rfl ?_
    refine r_bipush C dX0_goesOffAgain_66 (by decide) ?_
    refine r_idiv C dX0_goesOffAgain_68 (by omega) (by omega) ?_
    refine r_goto (tgt := 77) C dX0_goesOffAgain_69 (by decide) ?_
    refine r_iconst C dX0_goesOffAgain_77 ?_
    refine r_iadd C dX0_goesOffAgain_78 ?_
    refine r_topi (z := (fTk l2 l6 rg sp ti)) (by simp only [fTk]; first | (rw [if_pos (by omega)]; done) | (rw [if_neg (by omega)]; done)) ?_
    refine r_istore (lo2 := [(6, .int (iI (fTk l2 l6 rg sp ti))), (5, .int (iI (sp * ((l2 + ti) + rg)))), (4, .int (iI 1)), (0, .ref h0), (1, .ref s0), (2, .ref a0), (3, .int (iI ti))]) C dX0_goesOffAgain_79 (by decide) rfl ?_
    have q7 := fTk_B (l2 := l2) (l6 := l6) (rg := rg) (sp := sp) (ti := ti) (by omega) (by omega)
    refine r_iload C dX0_goesOffAgain_81 2 rfl ?_
    refine r_if_eq (tgt := 93) C dX0_goesOffAgain_83 (by decide) (by decide) (fun h_11 => absurd h_11 (by decide)) (fun h_11 => ?_)
    refine r_aload_n C dX0_goesOffAgain_86 3 rfl ?_
    refine gf_0_4 C hi_X0_goesOffAgain_0 kw_X0_goesOffAgain_1 dX0_goesOffAgain_87 0 rfl rfl ?_
    refine r_goto (tgt := 109) C dX0_goesOffAgain_90 (by decide) ?_
    refine r_topi (z := (fFl l3 l6 fa ti)) (by simp only [fFl]; first | (rw [if_pos (by omega)]; done) | (rw [if_neg (by omega)]; done)) ?_
    refine r_istore (lo2 := [(7, .int (iI (fFl l3 l6 fa ti))), (6, .int (iI (fTk l2 l6 rg sp ti))), (5, .int (iI (sp * ((l2 + ti) + rg)))), (4, .int (iI 1)), (0, .ref h0), (1, .ref s0), (2, .ref a0), (3, .int (iI ti))]) C dX0_goesOffAgain_109 (by decide) rfl ?_
    have q8 := fFl_B (l3 := l3) (l6 := l6) (fa := fa) (ti := ti) (by omega) (by omega)
    refine r_aload_n C dX0_goesOffAgain_111 4 rfl ?_
    refine r_iload C dX0_goesOffAgain_112 3 rfl ?_
    refine r_if_eq (tgt := 121) C dX0_goesOffAgain_114 (by decide) (by decide) (fun h_12 => absurd h_12 (by decide)) (fun h_12 => ?_)
    refine r_iconst C dX0_goesOffAgain_117 ?_
    refine r_goto (tgt := 135) C dX0_goesOffAgain_118 (by decide) ?_
    refine r_topi (z := (fKd l5 l6 ti (fFl l3 l6 fa ti))) (by simp only [fKd]; first | (rw [if_pos (by omega)]; done) | (rw [if_neg (by omega), if_pos (by omega)]; done) | (rw [if_neg (by omega), if_neg (by omega)]; done)) ?_
    refine r_iload_n C dX0_goesOffAgain_135 7 rfl ?_
    refine r_iload C dX0_goesOffAgain_136 1 rfl ?_
    refine g_V_v (ws2 := (fun _ => [(h0, .inr (0, [.ref h1, .int (iI (cnt + 1)), .int (iI xx), .int (iI sp), .int (iI fa), .int (iI sl), .int (iI sn), .int (iI bt)])), (h1, .inl (X.2.1.1, 810, .inl (iF (kpF F cnt (fKd l5 l6 ti (fFl l3 l6 fa ti)) xx sp fa sl sn ti (fTk l2 l6 rg sp ti) bt)))), (s0, .inr (3, [.int (iI wt), .int (iI wd), .int (iI rg), .int (iI ly), .int (iI wo)])), (a0, .inr (4, [.int (iI l1), .int (iI l2), .int (iI l3), .int (iI l4), .int (iI l5), .int (iI l6), .ref a1, .int (iI wc), .int (iI sh)])), (a1, .inl (X.2.1.1, 20, .inl (iF Fw)))])) (As := [.int (iI (fKd l5 l6 ti (fFl l3 l6 fa ti))), .int (iI ti), .int (iI (fTk l2 l6 rg sp ti))]) C (c_X0_keep l X h0 h1 cnt xx sp fa sl sn bt F (fKd l5 l6 ti (fFl l3 l6 fa ti)) ti (fTk l2 l6 rg sp ti) (by first | assumption | omega)) gX0_goesOffAgain_X0_keep rfl rfl rfl hd_V_X0_keep_X0_goesOffAgain (by decide) dX0_goesOffAgain_138 [0, 1] [2, 3, 4] [3, 4, 0, 1, 2] rfl rfl rfl rfl (by decide) rfl 0 0 rfl rfl rfl rfl (Nat.le_of_ble_eq_true rfl) (by decide) (fun _ => rfl) (fun _ hy_ => ?_)
    clear hy_
    refine r_aload_n C dX0_goesOffAgain_141 4 rfl ?_
    refine r_iconst C dX0_goesOffAgain_142 ?_
    refine r_aload_n C dX0_goesOffAgain_143 4 rfl ?_
    refine gf_0_3 C hi_X0_goesOffAgain_0 kw_X0_goesOffAgain_0 dX0_goesOffAgain_144 0 rfl rfl ?_
    refine r_iload C dX0_goesOffAgain_147 1 rfl ?_
    refine r_isub C dX0_goesOffAgain_149 ?_
    refine r_max C kw_X0_goesOffAgain_6 kw_X0_goesOffAgain_7 kw_X0_goesOffAgain_8 kw_X0_goesOffAgain_9 dX0_goesOffAgain_150 (by decide) (by omega) (Nat.le_of_ble_eq_true rfl) (Nat.le_of_ble_eq_true rfl) (by decide) (by decide) ?_
    refine pf_0_3 (ws2 := [(h0, .inr (0, [.ref h1, .int (iI (cnt + 1)), .int (iI xx), .int (iI (max 0 (sp - (fTk l2 l6 rg sp ti)))), .int (iI fa), .int (iI sl), .int (iI sn), .int (iI bt)])), (h1, .inl (X.2.1.1, 810, .inl (iF (kpF F cnt (fKd l5 l6 ti (fFl l3 l6 fa ti)) xx sp fa sl sn ti (fTk l2 l6 rg sp ti) bt)))), (s0, .inr (3, [.int (iI wt), .int (iI wd), .int (iI rg), .int (iI ly), .int (iI wo)])), (a0, .inr (4, [.int (iI l1), .int (iI l2), .int (iI l3), .int (iI l4), .int (iI l5), .int (iI l6), .ref a1, .int (iI wc), .int (iI sh)])), (a1, .inl (X.2.1.1, 20, .inl (iF Fw)))]) C hi_X0_goesOffAgain_0 kw_X0_goesOffAgain_0 dX0_goesOffAgain_153 0 rfl rfl rfl (Nat.le_of_ble_eq_true rfl) rfl ?_
    refine r_aload_n C dX0_goesOffAgain_156 4 rfl ?_
    refine r_iload C dX0_goesOffAgain_157 0 rfl ?_
    refine pf_0_4 (ws2 := [(h0, .inr (0, [.ref h1, .int (iI (cnt + 1)), .int (iI xx), .int (iI (max 0 (sp - (fTk l2 l6 rg sp ti)))), .int (iI (fFl l3 l6 fa ti)), .int (iI sl), .int (iI sn), .int (iI bt)])), (h1, .inl (X.2.1.1, 810, .inl (iF (kpF F cnt (fKd l5 l6 ti (fFl l3 l6 fa ti)) xx sp fa sl sn ti (fTk l2 l6 rg sp ti) bt)))), (s0, .inr (3, [.int (iI wt), .int (iI wd), .int (iI rg), .int (iI ly), .int (iI wo)])), (a0, .inr (4, [.int (iI l1), .int (iI l2), .int (iI l3), .int (iI l4), .int (iI l5), .int (iI l6), .ref a1, .int (iI wc), .int (iI sh)])), (a1, .inl (X.2.1.1, 20, .inl (iF Fw)))]) C hi_X0_goesOffAgain_0 kw_X0_goesOffAgain_1 dX0_goesOffAgain_159 0 rfl rfl rfl (Nat.le_of_ble_eq_true rfl) rfl ?_
    refine r_aload_n C dX0_goesOffAgain_162 4 rfl ?_
    refine r_aload_n C dX0_goesOffAgain_163 6 rfl ?_
    refine gf_4_3 C hi_X0_goesOffAgain_4 kw_X0_goesOffAgain_11 dX0_goesOffAgain_164 3 rfl rfl ?_
    refine g_V_v (ws2 := (fun _ => [(h0, .inr (0, [.ref h1, .int (iI (cnt + 1)), .int (iI xx), .int (iI (max 0 (sp - (fTk l2 l6 rg sp ti)))), .int (iI (fFl l3 l6 fa ti)), .int (iI (fSl l4 sl (fSn sn))), .int (iI (fSn sn)), .int (iI bt)])), (h1, .inl (X.2.1.1, 810, .inl (iF (kpF F cnt (fKd l5 l6 ti (fFl l3 l6 fa ti)) xx sp fa sl sn ti (fTk l2 l6 rg sp ti) bt)))), (s0, .inr (3, [.int (iI wt), .int (iI wd), .int (iI rg), .int (iI ly), .int (iI wo)])), (a0, .inr (4, [.int (iI l1), .int (iI l2), .int (iI l3), .int (iI l4), .int (iI l5), .int (iI l6), .ref a1, .int (iI wc), .int (iI sh)])), (a1, .inl (X.2.1.1, 20, .inl (iF Fw)))])) (As := [.int (iI l4)]) C (c_X0_wobble l X h0 h1 (cnt + 1) xx (max 0 (sp - (fTk l2 l6 rg sp ti))) (fFl l3 l6 fa ti) sl sn bt (kpF F cnt (fKd l5 l6 ti (fFl l3 l6 fa ti)) xx sp fa sl sn ti (fTk l2 l6 rg sp ti) bt) l4 (by first | assumption | omega) (by first | assumption | omega) (by first | assumption | omega)) gX0_goesOffAgain_X0_wobble rfl rfl rfl hd_V_X0_wobble_X0_goesOffAgain (by decide) dX0_goesOffAgain_167 [0, 1] [2, 3, 4] [3, 4, 0, 1, 2] rfl rfl rfl rfl (by decide) rfl 0 0 rfl rfl rfl rfl (Nat.le_of_ble_eq_true rfl) (by decide) (fun _ => rfl) (fun _ hy_ => ?_)
    clear hy_
    refine r_aload_n C dX0_goesOffAgain_170 4 rfl ?_
    refine gf_0_3 C hi_X0_goesOffAgain_0 kw_X0_goesOffAgain_0 dX0_goesOffAgain_171 0 rfl rfl ?_
    refine r_if_ne (tgt := 179) C dX0_goesOffAgain_174 (by decide) (by omega) (fun h_13 => ?_) (fun h_13 => absurd h_13 (by omega))
    have q9 := mulB (a := (max 0 (sp - (fTk l2 l6 rg sp ti)))) (b := (fFl l3 l6 fa ti)) (A := 300) (B := 99) (by omega) (by omega)
    refine r_aload_n C dX0_goesOffAgain_179 4 rfl ?_
    refine r_dup C dX0_goesOffAgain_180 rfl ?_
    refine gf_0_2 C hi_X0_goesOffAgain_0 kw_X0_goesOffAgain_12 dX0_goesOffAgain_181 0 rfl rfl ?_
    refine r_aload_n C dX0_goesOffAgain_184 4 rfl ?_
    refine gf_0_3 C hi_X0_goesOffAgain_0 kw_X0_goesOffAgain_0 dX0_goesOffAgain_185 0 rfl rfl ?_
    refine r_aload_n C dX0_goesOffAgain_188 4 rfl ?_
    refine gf_0_4 C hi_X0_goesOffAgain_0 kw_X0_goesOffAgain_1 dX0_goesOffAgain_189 0 rfl rfl ?_
    refine r_imul C dX0_goesOffAgain_192 ?_
    refine r_bipush C dX0_goesOffAgain_193 (by decide) ?_
    refine r_idiv C dX0_goesOffAgain_195 (by omega) (by omega) ?_
    refine r_iadd C dX0_goesOffAgain_196 ?_
    refine pf_0_2 (ws2 := [(h0, .inr (0, [.ref h1, .int (iI (cnt + 1)), .int (iI (xx + (((max 0 (sp - (fTk l2 l6 rg sp ti))) * (fFl l3 l6 fa ti)) / 20))), .int (iI (max 0 (sp - (fTk l2 l6 rg sp ti)))), .int (iI (fFl l3 l6 fa ti)), .int (iI (fSl l4 sl (fSn sn))), .int (iI (fSn sn)), .int (iI bt)])), (h1, .inl (X.2.1.1, 810, .inl (iF (kpF F cnt (fKd l5 l6 ti (fFl l3 l6 fa ti)) xx sp fa sl sn ti (fTk l2 l6 rg sp ti) bt)))), (s0, .inr (3, [.int (iI wt), .int (iI wd), .int (iI rg), .int (iI ly), .int (iI wo)])), (a0, .inr (4, [.int (iI l1), .int (iI l2), .int (iI l3), .int (iI l4), .int (iI l5), .int (iI l6), .ref a1, .int (iI wc), .int (iI sh)])), (a1, .inl (X.2.1.1, 20, .inl (iF Fw)))]) C hi_X0_goesOffAgain_0 kw_X0_goesOffAgain_12 dX0_goesOffAgain_197 0 rfl rfl rfl (Nat.le_of_ble_eq_true rfl) rfl ?_
    refine r_aload_n C dX0_goesOffAgain_200 4 rfl ?_
    refine r_dup C dX0_goesOffAgain_201 rfl ?_
    refine gf_0_7 C hi_X0_goesOffAgain_0 kw_X0_goesOffAgain_13 dX0_goesOffAgain_202 0 rfl rfl ?_
    refine r_aload_n C dX0_goesOffAgain_205 4 rfl ?_
    refine gf_0_4 C hi_X0_goesOffAgain_0 kw_X0_goesOffAgain_1 dX0_goesOffAgain_206 0 rfl rfl ?_
    refine r_iconst C dX0_goesOffAgain_209 ?_
    refine r_idiv C dX0_goesOffAgain_210 (by omega) (by omega) ?_
    refine r_iadd C dX0_goesOffAgain_211 ?_
    refine pf_0_7 (ws2 := [(h0, .inr (0, [.ref h1, .int (iI (cnt + 1)), .int (iI (xx + (((max 0 (sp - (fTk l2 l6 rg sp ti))) * (fFl l3 l6 fa ti)) / 20))), .int (iI (max 0 (sp - (fTk l2 l6 rg sp ti)))), .int (iI (fFl l3 l6 fa ti)), .int (iI (fSl l4 sl (fSn sn))), .int (iI (fSn sn)), .int (iI (bt + ((fFl l3 l6 fa ti) / 5)))])), (h1, .inl (X.2.1.1, 810, .inl (iF (kpF F cnt (fKd l5 l6 ti (fFl l3 l6 fa ti)) xx sp fa sl sn ti (fTk l2 l6 rg sp ti) bt)))), (s0, .inr (3, [.int (iI wt), .int (iI wd), .int (iI rg), .int (iI ly), .int (iI wo)])), (a0, .inr (4, [.int (iI l1), .int (iI l2), .int (iI l3), .int (iI l4), .int (iI l5), .int (iI l6), .ref a1, .int (iI wc), .int (iI sh)])), (a1, .inl (X.2.1.1, 20, .inl (iF Fw)))]) C hi_X0_goesOffAgain_0 kw_X0_goesOffAgain_13 dX0_goesOffAgain_212 0 rfl rfl rfl (Nat.le_of_ble_eq_true rfl) rfl ?_
    refine r_iconst C dX0_goesOffAgain_215 ?_
    exact g_ret_z C rfl (by decide) dX0_goesOffAgain_216 () trivial (by first | rfl | omega | ((repeat' split) <;> first | rfl | omega)) [0, 1, 2, 3, 4] rfl rfl
end M1b
