section M13
set_option maxRecDepth 20000 in
theorem kw_X6_isSunk_0 : Cond.constantLong RX6 148 (45) ∈ wsX6_isSunk := List.mem_of_getElem? (i := 1) rfl
set_option maxRecDepth 20000 in
theorem hd_S_X6_in_X6_isSunk : yX6_in.cls ≠ "java/lang/invoke/MethodHandle" ∧ yX6_in.cls ≠ "java/lang/invoke/VarHandle" ∧ (parseMethodDescriptor yX6_in.desc).map (fun d => d.parameters.length) = some 3 := by decide +kernel
set_option maxRecDepth 20000 in
theorem kw_X6_isSunk_1 : Cond.fieldLink RX6 13 "SkipStonesModel" "wideOf" "[I" ∈ wsX6_isSunk := List.mem_of_getElem? (i := 2) rfl
set_option maxRecDepth 20000 in
theorem kw_X6_isSunk_2 : Cond.fieldLink RX6 25 "SkipStonesModel" "rules" "[I" ∈ wsX6_isSunk := List.mem_of_getElem? (i := 3) rfl
set_option maxRecDepth 20000 in
theorem kw_X6_isSunk_3 : Cond.fieldLink RX6 7 "SkipStonesModel" "weightOf" "[I" ∈ wsX6_isSunk := List.mem_of_getElem? (i := 4) rfl
set_option maxRecDepth 20000 in
theorem hi_X6_isSunk_6 : ∀ w ∈ wsX60, w ∈ wsX6_isSunk := fun _ h => List.mem_cons_of_mem _ (List.mem_append_right _ h)
set_option maxHeartbeats 4000000 in
set_option maxRecDepth 100000 in
theorem c_X6_isSunk (l : Launch) (X : gX) (h0 : Nat) (u2 : Nat) (u3 : Nat) (u4 : Nat) (u5 : Nat) (u6 : Nat) (u7 : Nat) (u8 : Nat) (u11 : Nat) (u14 : Nat) (u16 : Nat) (u20 : Nat) (u21 : Nat) (u22 : Nat) (u23 : Nat) (u24 : Nat) (ft : Int) (sc : Int) (rm : Int) (wc : Int) (sh : Int) (tq : Int) (cnt : Int) (gf : Int) (gs : Int) (rc : Int) (tc : Int) (Wt : Nat → Int) (Wd : Nat → Int) (Ru : Nat → Int) (x : Int) (sp : Int) (fa : Int) (ti : Int) (hx : 0 ≤ x ∧ x < 8) (hs1 : 1 ≤ (Wt (Int.toNat x)) ∧ (Wt (Int.toNat x)) ≤ 99) (hs2 : 1 ≤ (Wd (Int.toNat x)) ∧ (Wd (Int.toNat x)) ≤ 99) (hl1 : 1 ≤ (Ru (Int.toNat 0)) ∧ (Ru (Int.toNat 0)) ≤ 99) (hp : 1 ≤ sp ∧ sp ≤ 300) (hf : 1 ≤ fa ∧ fa ≤ 99) (ht : inB ti) : gM l yX6_isSunk wsX6_isSunk (gr 1 0 0) X [(h0, .inr (6, [.int (iI ft), .int (iI sc), .ref u2, .ref u3, .ref u4, .ref u5, .ref u6, .ref u7, .ref u8, .int (iI rm), .int (iI wc), .ref u11, .int (iI sh), .int (iI tq), .ref u14, .int (iI cnt), .ref u16, .int (iI gf), .int (iI gs), .int (iI rc), .ref u20, .ref u21, .ref u22, .ref u23, .ref u24, .int (iI tc)])), (u2, .inl (X.2.1.1, 8, .inl (iF Wt))), (u3, .inl (X.2.1.1, 8, .inl (iF Wd))), (u7, .inl (X.2.1.1, 6, .inl (iF Ru)))] [.ref h0, .int (iI x), .int (iI sp), .int (iI fa), .int (iI ti)] (gQi X (Y := Unit) (fun _ => True) (fun _ => (if (ti < 1 ∨ 45 < ti ∨ sp * (Wd (Int.toNat x)) * ti / (10 * (Ru (Int.toNat 0))) < (Wt (Int.toNat x)) * (fa + 10)) then 1 else 0)) (fun _ => [(h0, .inr (6, [.int (iI ft), .int (iI sc), .ref u2, .ref u3, .ref u4, .ref u5, .ref u6, .ref u7, .ref u8, .int (iI rm), .int (iI wc), .ref u11, .int (iI sh), .int (iI tq), .ref u14, .int (iI cnt), .ref u16, .int (iI gf), .int (iI gs), .int (iI rc), .ref u20, .ref u21, .ref u22, .ref u23, .ref u24, .int (iI tc)])), (u2, .inl (X.2.1.1, 8, .inl (iF Wt))), (u3, .inl (X.2.1.1, 8, .inl (iF Wd))), (u7, .inl (X.2.1.1, 6, .inl (iF Ru)))])) 0 0 := by
  refine g_start2 (lo := [(0, .ref h0), (1, .int (iI x)), (2, .int (iI sp)), (3, .int (iI fa)), (4, .int (iI ti))]) (by decide +kernel) rfl rfl (Nat.le_of_ble_eq_true rfl) (fun p e s m args below meth c A C => ?_)
  refine r_iload C dX6_isSunk_0 4 rfl ?_
  refine r_i2l C dX6_isSunk_2 (by omega) ?_
  refine r_lconst (z := 1) C dX6_isSunk_3 rfl ?_
  refine r_ldc2 (z := 45) C dX6_isSunk_4 kw_X6_isSunk_0 rfl ?_
  refine g_S_i (ws2 := (fun _ => [(h0, .inr (6, [.int (iI ft), .int (iI sc), .ref u2, .ref u3, .ref u4, .ref u5, .ref u6, .ref u7, .ref u8, .int (iI rm), .int (iI wc), .ref u11, .int (iI sh), .int (iI tq), .ref u14, .int (iI cnt), .ref u16, .int (iI gf), .int (iI gs), .int (iI rc), .ref u20, .ref u21, .ref u22, .ref u23, .ref u24, .int (iI tc)])), (u2, .inl (X.2.1.1, 8, .inl (iF Wt))), (u3, .inl (X.2.1.1, 8, .inl (iF Wd))), (u7, .inl (X.2.1.1, 6, .inl (iF Ru)))])) (As := [.long (lI ti), .long (lI 1), .long (lI 45)]) C (c_X6_in l X ti 1 45 (by first | assumption | omega) (by first | assumption | omega) (by first | assumption | omega)) gX6_isSunk_X6_in rfl rfl rfl hd_S_X6_in_X6_isSunk (by decide) dX6_isSunk_7 [] [0, 1, 2, 3] [0, 1, 2, 3] rfl rfl rfl rfl (by decide) rfl rfl rfl (Nat.le_of_ble_eq_true rfl) (by decide) (fun _ => rfl) (fun _ hy_ => ?_)
  clear hy_
  refine r_ite (fun h_1 => ?_) (fun h_1 => ?_)
  · skip
    refine r_if_eq (tgt := 48) C dX6_isSunk_10 (by decide) (by decide) (fun h_2 => absurd h_2 (by decide)) (fun h_2 => ?_)
    have q1 := mulB (a := sp) (b := (Wd (Int.toNat x))) (A := 300) (B := 99) (by omega) (by omega)
    have q2 := mulB (a := sp * (Wd (Int.toNat x))) (b := ti) (A := 29700) (B := 45) (by omega) (by omega)
    have q3 := divB (a := sp * (Wd (Int.toNat x)) * ti) (b := 10 * (Ru (Int.toNat 0))) (A := 1336500) (by omega) (by omega)
    have q4 := mulB (a := (Wt (Int.toNat x))) (b := fa + 10) (A := 99) (B := 109) (by omega) (by omega)
    refine r_iload_n C dX6_isSunk_13 2 rfl ?_
    refine r_aload_n C dX6_isSunk_14 0 rfl ?_
    refine gf_6_3 C hi_X6_isSunk_6 kw_X6_isSunk_1 dX6_isSunk_15 0 rfl rfl ?_
    refine r_iload_n C dX6_isSunk_18 1 rfl ?_
    refine r_iald C dX6_isSunk_19 2 rfl (by omega) (by decide) ?_
    refine r_imul C dX6_isSunk_20 ?_
    refine r_iload C dX6_isSunk_21 4 rfl ?_
    refine r_imul C dX6_isSunk_23 ?_
    refine r_bipush C dX6_isSunk_24 (by decide) ?_
    refine r_aload_n C dX6_isSunk_26 0 rfl ?_
    refine gf_6_7 C hi_X6_isSunk_6 kw_X6_isSunk_2 dX6_isSunk_27 0 rfl rfl ?_
    refine r_iconst C dX6_isSunk_30 ?_
    refine r_iald C dX6_isSunk_31 3 rfl (by omega) (by decide) ?_
    refine r_imul C dX6_isSunk_32 ?_
    refine r_idiv C dX6_isSunk_33 (by omega) (by omega) ?_
    refine r_aload_n C dX6_isSunk_34 0 rfl ?_
    refine gf_6_2 C hi_X6_isSunk_6 kw_X6_isSunk_3 dX6_isSunk_35 0 rfl rfl ?_
    refine r_iload_n C dX6_isSunk_38 1 rfl ?_
    refine r_iald C dX6_isSunk_39 1 rfl (by omega) (by decide) ?_
    refine r_iload_n C dX6_isSunk_40 3 rfl ?_
    refine r_bipush C dX6_isSunk_41 (by decide) ?_
    refine r_iadd C dX6_isSunk_43 ?_
    refine r_imul C dX6_isSunk_44 ?_
    refine r_icmp_ge (tgt := 52) C dX6_isSunk_45 (by decide) (by omega) (by omega) (fun h_3 => ?_) (fun h_3 => ?_)
    · skip
      refine r_iconst C dX6_isSunk_52 ?_
      exact g_ret_z C rfl (by decide) dX6_isSunk_53 () trivial (by (repeat' split) <;> first | rfl | omega) [0, 1, 2, 3] rfl (by (repeat' split) <;> first | rfl | omega)
    · skip
      refine r_iconst C dX6_isSunk_48 ?_
      refine r_goto (tgt := 53) C dX6_isSunk_49 (by decide) ?_
      exact g_ret_z C rfl (by decide) dX6_isSunk_53 () trivial (by (repeat' split) <;> first | rfl | omega) [0, 1, 2, 3] rfl (by (repeat' split) <;> first | rfl | omega)
  · skip
    refine r_if_eq (tgt := 48) C dX6_isSunk_10 (by decide) (by decide) (fun h_4 => ?_) (fun h_4 => absurd h_4 (by decide))
    refine r_iconst C dX6_isSunk_48 ?_
    refine r_goto (tgt := 53) C dX6_isSunk_49 (by decide) ?_
    exact g_ret_z C rfl (by decide) dX6_isSunk_53 () trivial (by (repeat' split) <;> first | rfl | omega) [0, 1, 2, 3] rfl (by (repeat' split) <;> first | rfl | omega)

set_option maxRecDepth 20000 in
theorem kw_X6_fly_0 : Cond.fieldLink RX6 150 "SkipStonesModel" "touches" "I" ∈ wsX6_fly := List.mem_of_getElem? (i := 1) rfl
set_option maxRecDepth 20000 in
theorem hd_V_X6_waveAt_X6_fly : yX6_waveAt.cls = yX6_waveAt.cls ∧ yX6_waveAt.cls ≠ "java/lang/invoke/MethodHandle" ∧ yX6_waveAt.cls ≠ "java/lang/invoke/VarHandle" ∧ (parseMethodDescriptor yX6_waveAt.desc).map (fun d => d.parameters.length) = some 1 := by decide +kernel
set_option maxRecDepth 20000 in
theorem hd_V_X6_isSunk_X6_fly : yX6_isSunk.cls = yX6_isSunk.cls ∧ yX6_isSunk.cls ≠ "java/lang/invoke/MethodHandle" ∧ yX6_isSunk.cls ≠ "java/lang/invoke/VarHandle" ∧ (parseMethodDescriptor yX6_isSunk.desc).map (fun d => d.parameters.length) = some 4 := by decide +kernel
set_option maxRecDepth 20000 in
theorem kw_X6_fly_1 : Cond.fieldLink RX6 25 "SkipStonesModel" "rules" "[I" ∈ wsX6_fly := List.mem_of_getElem? (i := 2) rfl
set_option maxRecDepth 20000 in
theorem kw_X6_fly_2 : Cond.fieldLink RX6 34 "SkipStonesModel" "touch" "[I" ∈ wsX6_fly := List.mem_of_getElem? (i := 3) rfl
set_option maxRecDepth 20000 in
theorem kw_X6_fly_3 : Cond.fieldLink RX6 16 "SkipStonesModel" "roughOf" "[I" ∈ wsX6_fly := List.mem_of_getElem? (i := 4) rfl
set_option maxRecDepth 20000 in
theorem hd_S_X6_greater_X6_fly : yX6_greater.cls ≠ "java/lang/invoke/MethodHandle" ∧ yX6_greater.cls ≠ "java/lang/invoke/VarHandle" ∧ (parseMethodDescriptor yX6_greater.desc).map (fun d => d.parameters.length) = some 2 := by decide +kernel
set_option maxRecDepth 20000 in
theorem hi_X6_fly_6 : ∀ w ∈ wsX60, w ∈ wsX6_fly := fun _ h => List.mem_cons_of_mem _ (List.mem_append_right _ h)
set_option maxHeartbeats 4000000 in
set_option maxRecDepth 100000 in
theorem c_X6_fly (l : Launch) (X : gX) (h0 : Nat) (u2 : Nat) (u3 : Nat) (u4 : Nat) (u5 : Nat) (u6 : Nat) (u7 : Nat) (u8 : Nat) (u11 : Nat) (u14 : Nat) (u16 : Nat) (u20 : Nat) (u21 : Nat) (u22 : Nat) (u23 : Nat) (u24 : Nat) (ft : Int) (sc : Int) (rm : Int) (wc : Int) (sh : Int) (tq : Int) (cnt : Int) (gf : Int) (gs : Int) (rc : Int) (tc : Int) (Wt : Nat → Int) (Wd : Nat → Int) (Rg : Nat → Int) (Ru : Nat → Int) (Fw : Nat → Int) (Ft : Nat → Int) (x : Int) (v : Int) (f1 : Int) (n : Int) (g1 : Int) (hx : 0 ≤ x ∧ x < 8) (hs1 : 1 ≤ (Wt (Int.toNat x)) ∧ (Wt (Int.toNat x)) ≤ 99) (hs2 : 1 ≤ (Wd (Int.toNat x)) ∧ (Wd (Int.toNat x)) ≤ 99) (hs3 : 0 ≤ (Rg (Int.toNat x)) ∧ (Rg (Int.toNat x)) ≤ 9) (hl1 : 1 ≤ (Ru (Int.toNat 0)) ∧ (Ru (Int.toNat 0)) ≤ 99) (hl2 : 0 ≤ (Ru (Int.toNat 1)) ∧ (Ru (Int.toNat 1)) ≤ 50) (hl3 : 1 ≤ (Ru (Int.toNat 2)) ∧ (Ru (Int.toNat 2)) ≤ 99) (hl4 : 0 ≤ (Ru (Int.toNat 3)) ∧ (Ru (Int.toNat 3)) ≤ 99) (hl5 : 0 ≤ (Ru (Int.toNat 4)) ∧ (Ru (Int.toNat 4)) ≤ 50) (hl6 : 1 ≤ (Ru (Int.toNat 5)) ∧ (Ru (Int.toNat 5)) ≤ 45) (hwc : 1 ≤ wc ∧ wc ≤ 20) (hsh : 0 ≤ sh ∧ sh < 20) (hFw : ∀ j, -9 ≤ Fw j ∧ Fw j ≤ 9) (hv : 1 ≤ v ∧ v ≤ 300) (hf : 1 ≤ f1 ∧ f1 ≤ 99) (hn : 0 ≤ n ∧ n ≤ 45) (hg : 0 ≤ g1 ∧ g1 ≤ 99) : gM l yX6_fly wsX6_fly (gr 2 0 0) X [(h0, .inr (6, [.int (iI ft), .int (iI sc), .ref u2, .ref u3, .ref u4, .ref u5, .ref u6, .ref u7, .ref u8, .int (iI rm), .int (iI wc), .ref u11, .int (iI sh), .int (iI tq), .ref u14, .int (iI cnt), .ref u16, .int (iI gf), .int (iI gs), .int (iI rc), .ref u20, .ref u21, .ref u22, .ref u23, .ref u24, .int (iI tc)])), (u2, .inl (X.2.1.1, 8, .inl (iF Wt))), (u3, .inl (X.2.1.1, 8, .inl (iF Wd))), (u4, .inl (X.2.1.1, 8, .inl (iF Rg))), (u7, .inl (X.2.1.1, 6, .inl (iF Ru))), (u11, .inl (X.2.1.1, 20, .inl (iF Fw))), (u14, .inl (X.2.1.1, 810, .inl (iF Ft)))] [.ref h0, .int (iI x), .int (iI v), .int (iI f1), .int (iI n), .int (iI g1)] (gQv X (Y := Unit) (fun _ => True) (fun _ => [(h0, .inr (6, [.int (iI ft), .int (iI sc), .ref u2, .ref u3, .ref u4, .ref u5, .ref u6, .ref u7, .ref u8, .int (iI rm), .int (iI wc), .ref u11, .int (iI sh), .int (iI (fNum ((((Ru (Int.toNat 0)), (Ru (Int.toNat 1)), (Ru (Int.toNat 2)), (Ru (Int.toNat 3)), (Ru (Int.toNat 4)), (Ru (Int.toNat 5))), ((Wt (Int.toNat x)), (Wd (Int.toNat x)), (Rg (Int.toNat x))), (sh, wc, Fw)) : fEn) 90 0 ((0, v, f1, n, g1, 0) : fS))), .ref u14, .int (iI cnt), .ref u16, .int (iI gf), .int (iI gs), .int (iI rc), .ref u20, .ref u21, .ref u22, .ref u23, .ref u24, .int (iI tc)])), (u2, .inl (X.2.1.1, 8, .inl (iF Wt))), (u3, .inl (X.2.1.1, 8, .inl (iF Wd))), (u4, .inl (X.2.1.1, 8, .inl (iF Rg))), (u7, .inl (X.2.1.1, 6, .inl (iF Ru))), (u11, .inl (X.2.1.1, 20, .inl (iF Fw))), (u14, .inl (X.2.1.1, 810, .inl (iF (fRes ((((Ru (Int.toNat 0)), (Ru (Int.toNat 1)), (Ru (Int.toNat 2)), (Ru (Int.toNat 3)), (Ru (Int.toNat 4)), (Ru (Int.toNat 5))), ((Wt (Int.toNat x)), (Wd (Int.toNat x)), (Rg (Int.toNat x))), (sh, wc, Fw)) : fEn) 90 Ft 0 ((0, v, f1, n, g1, 0) : fS)))))])) 0 0 := by
  refine g_start2 (lo := [(0, .ref h0), (1, .int (iI x)), (2, .int (iI v)), (3, .int (iI f1)), (4, .int (iI n)), (5, .int (iI g1))]) (by decide +kernel) rfl rfl (Nat.le_of_ble_eq_true rfl) (fun p e s m args below meth c A C => ?_)
  refine r_iconst C dX6_fly_0 ?_
  refine r_istore (lo2 := [(6, .int (iI 0)), (0, .ref h0), (1, .int (iI x)), (2, .int (iI v)), (3, .int (iI f1)), (4, .int (iI n)), (5, .int (iI g1))]) C dX6_fly_1 (by decide) rfl ?_
  refine r_iload_n C dX6_fly_3 3 rfl ?_
  refine r_istore (lo2 := [(7, .int (iI v)), (6, .int (iI 0)), (0, .ref h0), (1, .int (iI x)), (2, .int (iI v)), (3, .int (iI f1)), (4, .int (iI n)), (5, .int (iI g1))]) C dX6_fly_4 (by decide) rfl ?_
  refine r_iload_n C dX6_fly_6 5 rfl ?_
  refine r_istore (lo2 := [(8, .int (iI f1)), (7, .int (iI v)), (6, .int (iI 0)), (0, .ref h0), (1, .int (iI x)), (2, .int (iI v)), (3, .int (iI f1)), (4, .int (iI n)), (5, .int (iI g1))]) C dX6_fly_7 (by decide) rfl ?_
  refine r_iload C dX6_fly_9 7 rfl ?_
  refine r_istore (lo2 := [(9, .int (iI n)), (8, .int (iI f1)), (7, .int (iI v)), (6, .int (iI 0)), (0, .ref h0), (1, .int (iI x)), (2, .int (iI v)), (3, .int (iI f1)), (4, .int (iI n)), (5, .int (iI g1))]) C dX6_fly_11 (by decide) rfl ?_
  refine r_iload C dX6_fly_13 9 rfl ?_
  refine r_istore (lo2 := [(10, .int (iI g1)), (9, .int (iI n)), (8, .int (iI f1)), (7, .int (iI v)), (6, .int (iI 0)), (0, .ref h0), (1, .int (iI x)), (2, .int (iI v)), (3, .int (iI f1)), (4, .int (iI n)), (5, .int (iI g1))]) C dX6_fly_15 (by decide) rfl ?_
  refine r_iconst C dX6_fly_17 ?_
  refine r_istore (lo2 := [(11, .int (iI 0)), (10, .int (iI g1)), (9, .int (iI n)), (8, .int (iI f1)), (7, .int (iI v)), (6, .int (iI 0)), (0, .ref h0), (1, .int (iI x)), (2, .int (iI v)), (3, .int (iI f1)), (4, .int (iI n)), (5, .int (iI g1))]) C dX6_fly_18 (by decide) rfl ?_
  refine r_aload_n C dX6_fly_20 6 rfl ?_
  refine r_iconst C dX6_fly_21 ?_
  refine pf_6_13 (ws2 := [(h0, .inr (6, [.int (iI ft), .int (iI sc), .ref u2, .ref u3, .ref u4, .ref u5, .ref u6, .ref u7, .ref u8, .int (iI rm), .int (iI wc), .ref u11, .int (iI sh), .int (iI 0), .ref u14, .int (iI cnt), .ref u16, .int (iI gf), .int (iI gs), .int (iI rc), .ref u20, .ref u21, .ref u22, .ref u23, .ref u24, .int (iI tc)])), (u2, .inl (X.2.1.1, 8, .inl (iF Wt))), (u3, .inl (X.2.1.1, 8, .inl (iF Wd))), (u4, .inl (X.2.1.1, 8, .inl (iF Rg))), (u7, .inl (X.2.1.1, 6, .inl (iF Ru))), (u11, .inl (X.2.1.1, 20, .inl (iF Fw))), (u14, .inl (X.2.1.1, 810, .inl (iF Ft)))]) C hi_X6_fly_6 kw_X6_fly_0 dX6_fly_22 0 rfl rfl rfl (Nat.le_of_ble_eq_true rfl) rfl ?_
  refine r_iconst C dX6_fly_25 ?_
  refine r_istore (lo2 := [(12, .int (iI 1)), (11, .int (iI 0)), (10, .int (iI g1)), (9, .int (iI n)), (8, .int (iI f1)), (7, .int (iI v)), (6, .int (iI 0)), (0, .ref h0), (1, .int (iI x)), (2, .int (iI v)), (3, .int (iI f1)), (4, .int (iI n)), (5, .int (iI g1))]) C dX6_fly_26 (by decide) rfl ?_
  have L28 : ∀ (fu28 : Nat) (xq : Int) (sq : Int) (fq : Int) (lq : Int) (nq : Int) (bq : Int) (k : Int) (G : Nat → Int), (0 ≤ k ∧ k < 90) → (0 ≤ xq ∧ xq ≤ 1485 * k) → (1 ≤ sq ∧ sq ≤ 300) → (1 ≤ fq ∧ fq ≤ 99) → (0 ≤ lq ∧ lq ≤ 45 + 20 * k) → (0 ≤ nq ∧ nq ≤ 99) → (0 ≤ bq ∧ bq ≤ 20 * k) → (fNum ((((Ru (Int.toNat 0)), (Ru (Int.toNat 1)), (Ru (Int.toNat 2)), (Ru (Int.toNat 3)), (Ru (Int.toNat 4)), (Ru (Int.toNat 5))), ((Wt (Int.toNat x)), (Wd (Int.toNat x)), (Rg (Int.toNat x))), (sh, wc, Fw)) : fEn) 90 0 ((0, v, f1, n, g1, 0) : fS) = fNum ((((Ru (Int.toNat 0)), (Ru (Int.toNat 1)), (Ru (Int.toNat 2)), (Ru (Int.toNat 3)), (Ru (Int.toNat 4)), (Ru (Int.toNat 5))), ((Wt (Int.toNat x)), (Wd (Int.toNat x)), (Rg (Int.toNat x))), (sh, wc, Fw)) : fEn) (90 - k).toNat k ((xq, sq, fq, lq, nq, bq) : fS)) → (fRes ((((Ru (Int.toNat 0)), (Ru (Int.toNat 1)), (Ru (Int.toNat 2)), (Ru (Int.toNat 3)), (Ru (Int.toNat 4)), (Ru (Int.toNat 5))), ((Wt (Int.toNat x)), (Wd (Int.toNat x)), (Rg (Int.toNat x))), (sh, wc, Fw)) : fEn) 90 Ft 0 ((0, v, f1, n, g1, 0) : fS) = fRes ((((Ru (Int.toNat 0)), (Ru (Int.toNat 1)), (Ru (Int.toNat 2)), (Ru (Int.toNat 3)), (Ru (Int.toNat 4)), (Ru (Int.toNat 5))), ((Wt (Int.toNat x)), (Wd (Int.toNat x)), (Rg (Int.toNat x))), (sh, wc, Fw)) : fEn) (90 - k).toNat G k ((xq, sq, fq, lq, nq, bq) : fS)) → (90 - k).toNat < fu28 → gW p l e (gr 2 0 0) s m args below meth c X A 19 (MQ below ((gQv X (Y := Unit) (fun _ => True) (fun _ => [(h0, .inr (6, [.int (iI ft), .int (iI sc), .ref u2, .ref u3, .ref u4, .ref u5, .ref u6, .ref u7, .ref u8, .int (iI rm), .int (iI wc), .ref u11, .int (iI sh), .int (iI (fNum ((((Ru (Int.toNat 0)), (Ru (Int.toNat 1)), (Ru (Int.toNat 2)), (Ru (Int.toNat 3)), (Ru (Int.toNat 4)), (Ru (Int.toNat 5))), ((Wt (Int.toNat x)), (Wd (Int.toNat x)), (Rg (Int.toNat x))), (sh, wc, Fw)) : fEn) 90 0 ((0, v, f1, n, g1, 0) : fS))), .ref u14, .int (iI cnt), .ref u16, .int (iI gf), .int (iI gs), .int (iI rc), .ref u20, .ref u21, .ref u22, .ref u23, .ref u24, .int (iI tc)])), (u2, .inl (X.2.1.1, 8, .inl (iF Wt))), (u3, .inl (X.2.1.1, 8, .inl (iF Wd))), (u4, .inl (X.2.1.1, 8, .inl (iF Rg))), (u7, .inl (X.2.1.1, 6, .inl (iF Ru))), (u11, .inl (X.2.1.1, 20, .inl (iF Fw))), (u14, .inl (X.2.1.1, 810, .inl (iF (fRes ((((Ru (Int.toNat 0)), (Ru (Int.toNat 1)), (Ru (Int.toNat 2)), (Ru (Int.toNat 3)), (Ru (Int.toNat 4)), (Ru (Int.toNat 5))), ((Wt (Int.toNat x)), (Wd (Int.toNat x)), (Rg (Int.toNat x))), (sh, wc, Fw)) : fEn) 90 Ft 0 ((0, v, f1, n, g1, 0) : fS)))))])) A) args s 0 0 A) 0 0 [(h0, .inr (6, [.int (iI ft), .int (iI sc), .ref u2, .ref u3, .ref u4, .ref u5, .ref u6, .ref u7, .ref u8, .int (iI rm), .int (iI wc), .ref u11, .int (iI sh), .int (iI k), .ref u14, .int (iI cnt), .ref u16, .int (iI gf), .int (iI gs), .int (iI rc), .ref u20, .ref u21, .ref u22, .ref u23, .ref u24, .int (iI tc)])), (u2, .inl (X.2.1.1, 8, .inl (iF Wt))), (u3, .inl (X.2.1.1, 8, .inl (iF Wd))), (u4, .inl (X.2.1.1, 8, .inl (iF Rg))), (u7, .inl (X.2.1.1, 6, .inl (iF Ru))), (u11, .inl (X.2.1.1, 20, .inl (iF Fw))), (u14, .inl (X.2.1.1, 810, .inl (iF G)))] 28 [(12, .int (iI 1)), (0, .ref h0), (1, .int (iI x)), (6, .int (iI xq)), (7, .int (iI sq)), (8, .int (iI fq)), (9, .int (iI lq)), (10, .int (iI nq)), (11, .int (iI bq))] [] := by
    intro fu28
    induction fu28 with
    | zero => intro xq sq fq lq nq bq k G ik ix isp ifa isl isn ibt iN iR hm28; exact absurd hm28 (Nat.not_lt_zero _)
    | succ fu28 ih28 =>
      intro xq sq fq lq nq bq k G ik ix isp ifa isl isn ibt iN iR hm28
      refine r_iload C dX6_fly_28 0 rfl ?_
      refine r_if_eq (tgt := 414) C dX6_fly_30 (by decide) (by decide) (fun h_1 => absurd h_1 (by decide)) (fun h_1 => ?_)
      refine r_bipush C dX6_fly_33 (by decide) ?_
      refine r_aload_n C dX6_fly_35 1 rfl ?_
      refine gf_6_13 C hi_X6_fly_6 kw_X6_fly_0 dX6_fly_36 0 rfl rfl ?_
      refine r_imul C dX6_fly_39 ?_
      refine r_istore (lo2 := [(13, .int (iI (9 * k))), (12, .int (iI 1)), (0, .ref h0), (1, .int (iI x)), (6, .int (iI xq)), (7, .int (iI sq)), (8, .int (iI fq)), (9, .int (iI lq)), (10, .int (iI nq)), (11, .int (iI bq))]) C dX6_fly_40 (by decide) rfl ?_
      refine r_iload C dX6_fly_42 7 rfl ?_
      refine r_aload_n C dX6_fly_44 2 rfl ?_
      refine r_iload C dX6_fly_45 4 rfl ?_
      refine g_V_i (ws2 := (fun _ => [(h0, .inr (6, [.int (iI ft), .int (iI sc), .ref u2, .ref u3, .ref u4, .ref u5, .ref u6, .ref u7, .ref u8, .int (iI rm), .int (iI wc), .ref u11, .int (iI sh), .int (iI k), .ref u14, .int (iI cnt), .ref u16, .int (iI gf), .int (iI gs), .int (iI rc), .ref u20, .ref u21, .ref u22, .ref u23, .ref u24, .int (iI tc)])), (u2, .inl (X.2.1.1, 8, .inl (iF Wt))), (u3, .inl (X.2.1.1, 8, .inl (iF Wd))), (u4, .inl (X.2.1.1, 8, .inl (iF Rg))), (u7, .inl (X.2.1.1, 6, .inl (iF Ru))), (u11, .inl (X.2.1.1, 20, .inl (iF Fw))), (u14, .inl (X.2.1.1, 810, .inl (iF G)))])) (As := [.int (iI xq)]) C (c_X6_waveAt l X h0 u2 u3 u4 u5 u6 u7 u8 u11 u14 u16 u20 u21 u22 u23 u24 ft sc rm wc sh k cnt gf gs rc tc Fw xq (by first | assumption | omega) (by first | assumption | omega) (by first | assumption | omega)) gX6_fly_X6_waveAt rfl rfl rfl hd_V_X6_waveAt_X6_fly (by decide) dX6_fly_47 [0, 5] [1, 2, 3, 4, 6] [5, 0, 1, 2, 3, 6, 4] rfl rfl rfl rfl (by decide) rfl 0 6 rfl rfl rfl rfl (Nat.le_of_ble_eq_true rfl) (by decide) (fun _ => rfl) (fun _ hy_ => ?_)
      clear hy_
      refine r_iadd C dX6_fly_50 ?_
      refine r_istore (lo2 := [(14, .int (iI (lq + (Fw (Int.toNat ((xq + sh) % wc)))))), (13, .int (iI (9 * k))), (12, .int (iI 1)), (0, .ref h0), (1, .int (iI x)), (6, .int (iI xq)), (7, .int (iI sq)), (8, .int (iI fq)), (9, .int (iI lq)), (10, .int (iI nq)), (11, .int (iI bq))]) C dX6_fly_51 (by decide) rfl ?_
      refine r_aload_n C dX6_fly_53 3 rfl ?_
      refine r_iload_n C dX6_fly_54 4 rfl ?_
      refine r_iload C dX6_fly_55 6 rfl ?_
      refine r_iload C dX6_fly_57 7 rfl ?_
      refine r_iload C dX6_fly_59 0 rfl ?_
      refine g_V_i (ws2 := (fun _ => [(h0, .inr (6, [.int (iI ft), .int (iI sc), .ref u2, .ref u3, .ref u4, .ref u5, .ref u6, .ref u7, .ref u8, .int (iI rm), .int (iI wc), .ref u11, .int (iI sh), .int (iI k), .ref u14, .int (iI cnt), .ref u16, .int (iI gf), .int (iI gs), .int (iI rc), .ref u20, .ref u21, .ref u22, .ref u23, .ref u24, .int (iI tc)])), (u2, .inl (X.2.1.1, 8, .inl (iF Wt))), (u3, .inl (X.2.1.1, 8, .inl (iF Wd))), (u4, .inl (X.2.1.1, 8, .inl (iF Rg))), (u7, .inl (X.2.1.1, 6, .inl (iF Ru))), (u11, .inl (X.2.1.1, 20, .inl (iF Fw))), (u14, .inl (X.2.1.1, 810, .inl (iF G)))])) (As := [.int (iI x), .int (iI sq), .int (iI fq), .int (iI (lq + (Fw (Int.toNat ((xq + sh) % wc)))))]) C (c_X6_isSunk l X h0 u2 u3 u4 u5 u6 u7 u8 u11 u14 u16 u20 u21 u22 u23 u24 ft sc rm wc sh k cnt gf gs rc tc Wt Wd Ru x sq fq (lq + (Fw (Int.toNat ((xq + sh) % wc)))) (by first | assumption | omega) (by first | assumption | omega) (by first | assumption | omega) (by first | assumption | omega) (by first | assumption | omega) (by first | assumption | omega) (by first | assumption | have := hFw (Int.toNat ((xq + sh) % wc)); omega)) gX6_fly_X6_isSunk rfl rfl rfl hd_V_X6_isSunk_X6_fly (by decide) dX6_fly_61 [0, 1, 2, 4] [3, 5, 6] [3, 4, 5, 0, 6, 1, 2] rfl rfl rfl rfl (by decide) rfl 0 6 rfl rfl rfl rfl (Nat.le_of_ble_eq_true rfl) (by decide) (fun _ => rfl) (fun _ hy_ => ?_)
      clear hy_
      refine r_ite (fun KSK => ?_) (fun KSK => ?_)
      · skip
        refine r_istore (lo2 := [(15, .int (iI 1)), (14, .int (iI (lq + (Fw (Int.toNat ((xq + sh) % wc)))))), (13, .int (iI (9 * k))), (12, .int (iI 1)), (0, .ref h0), (1, .int (iI x)), (6, .int (iI xq)), (7, .int (iI sq)), (8, .int (iI fq)), (9, .int (iI lq)), (10, .int (iI nq)), (11, .int (iI bq))]) C dX6_fly_64 (by decide) rfl ?_
        refine r_iload C dX6_fly_66 1 rfl ?_
        refine r_aload_n C dX6_fly_68 4 rfl ?_
        refine gf_6_7 C hi_X6_fly_6 kw_X6_fly_1 dX6_fly_69 0 rfl rfl ?_
        refine r_iconst C dX6_fly_72 ?_
        refine r_iald C dX6_fly_73 4 rfl (by omega) (by decide) ?_
        refine r_icmp_le (tgt := 81) C dX6_fly_74 (by decide) (by have := hFw (Int.toNat ((xq + sh) % wc)); omega) (by omega) (fun h_2 => ?_) (fun h_2 => ?_)
        · skip
          refine r_iconst C dX6_fly_81 ?_
          refine r_istore (lo2 := [(16, .int (iI 0)), (15, .int (iI 1)), (14, .int (iI (lq + (Fw (Int.toNat ((xq + sh) % wc)))))), (13, .int (iI (9 * k))), (12, .int (iI 1)), (0, .ref h0), (1, .int (iI x)), (6, .int (iI xq)), (7, .int (iI sq)), (8, .int (iI fq)), (9, .int (iI lq)), (10, .int (iI nq)), (11, .int (iI bq))]) C dX6_fly_82 (by decide) rfl ?_
          refine r_aload_n C dX6_fly_84 5 rfl ?_
          refine gf_6_14 C hi_X6_fly_6 kw_X6_fly_2 dX6_fly_85 0 rfl rfl ?_
          refine r_iload C dX6_fly_88 3 rfl ?_
          refine r_iconst C dX6_fly_90 ?_
          refine r_iadd C dX6_fly_91 ?_
          refine r_iload C dX6_fly_92 7 rfl ?_
          refine r_iast (ws2 := [(h0, .inr (6, [.int (iI ft), .int (iI sc), .ref u2, .ref u3, .ref u4, .ref u5, .ref u6, .ref u7, .ref u8, .int (iI rm), .int (iI wc), .ref u11, .int (iI sh), .int (iI k), .ref u14, .int (iI cnt), .ref u16, .int (iI gf), .int (iI gs), .int (iI rc), .ref u20, .ref u21, .ref u22, .ref u23, .ref u24, .int (iI tc)])), (u2, .inl (X.2.1.1, 8, .inl (iF Wt))), (u3, .inl (X.2.1.1, 8, .inl (iF Wd))), (u4, .inl (X.2.1.1, 8, .inl (iF Rg))), (u7, .inl (X.2.1.1, 6, .inl (iF Ru))), (u11, .inl (X.2.1.1, 20, .inl (iF Fw))), (u14, .inl (X.2.1.1, 810, .inl (iF (updI G (Int.toNat ((9 * k) + 1)) xq))))]) C dX6_fly_94 6 rfl (by omega) (by decide) rfl ?_
          refine r_aload_n C dX6_fly_95 5 rfl ?_
          refine gf_6_14 C hi_X6_fly_6 kw_X6_fly_2 dX6_fly_96 0 rfl rfl ?_
          refine r_iload C dX6_fly_99 3 rfl ?_
          refine r_iconst C dX6_fly_101 ?_
          refine r_iadd C dX6_fly_102 ?_
          refine r_iload C dX6_fly_103 8 rfl ?_
          refine r_iast (ws2 := [(h0, .inr (6, [.int (iI ft), .int (iI sc), .ref u2, .ref u3, .ref u4, .ref u5, .ref u6, .ref u7, .ref u8, .int (iI rm), .int (iI wc), .ref u11, .int (iI sh), .int (iI k), .ref u14, .int (iI cnt), .ref u16, .int (iI gf), .int (iI gs), .int (iI rc), .ref u20, .ref u21, .ref u22, .ref u23, .ref u24, .int (iI tc)])), (u2, .inl (X.2.1.1, 8, .inl (iF Wt))), (u3, .inl (X.2.1.1, 8, .inl (iF Wd))), (u4, .inl (X.2.1.1, 8, .inl (iF Rg))), (u7, .inl (X.2.1.1, 6, .inl (iF Ru))), (u11, .inl (X.2.1.1, 20, .inl (iF Fw))), (u14, .inl (X.2.1.1, 810, .inl (iF (updI (updI G (Int.toNat ((9 * k) + 1)) xq) (Int.toNat ((9 * k) + 2)) sq))))]) C dX6_fly_105 6 rfl (by omega) (by decide) rfl ?_
          refine r_aload_n C dX6_fly_106 5 rfl ?_
          refine gf_6_14 C hi_X6_fly_6 kw_X6_fly_2 dX6_fly_107 0 rfl rfl ?_
          refine r_iload C dX6_fly_110 3 rfl ?_
          refine r_iconst C dX6_fly_112 ?_
          refine r_iadd C dX6_fly_113 ?_
          refine r_iload C dX6_fly_114 9 rfl ?_
          refine r_iast (ws2 := [(h0, .inr (6, [.int (iI ft), .int (iI sc), .ref u2, .ref u3, .ref u4, .ref u5, .ref u6, .ref u7, .ref u8, .int (iI rm), .int (iI wc), .ref u11, .int (iI sh), .int (iI k), .ref u14, .int (iI cnt), .ref u16, .int (iI gf), .int (iI gs), .int (iI rc), .ref u20, .ref u21, .ref u22, .ref u23, .ref u24, .int (iI tc)])), (u2, .inl (X.2.1.1, 8, .inl (iF Wt))), (u3, .inl (X.2.1.1, 8, .inl (iF Wd))), (u4, .inl (X.2.1.1, 8, .inl (iF Rg))), (u7, .inl (X.2.1.1, 6, .inl (iF Ru))), (u11, .inl (X.2.1.1, 20, .inl (iF Fw))), (u14, .inl (X.2.1.1, 810, .inl (iF (updI (updI (updI G (Int.toNat ((9 * k) + 1)) xq) (Int.toNat ((9 * k) + 2)) sq) (Int.toNat ((9 * k) + 3)) fq))))]) C dX6_fly_116 6 rfl (by omega) (by decide) rfl ?_
          refine r_aload_n C dX6_fly_117 5 rfl ?_
          refine gf_6_14 C hi_X6_fly_6 kw_X6_fly_2 dX6_fly_118 0 rfl rfl ?_
          refine r_iload C dX6_fly_121 3 rfl ?_
          refine r_iconst C dX6_fly_123 ?_
          refine r_iadd C dX6_fly_124 ?_
          refine r_iload C dX6_fly_125 10 rfl ?_
          refine r_iast (ws2 := [(h0, .inr (6, [.int (iI ft), .int (iI sc), .ref u2, .ref u3, .ref u4, .ref u5, .ref u6, .ref u7, .ref u8, .int (iI rm), .int (iI wc), .ref u11, .int (iI sh), .int (iI k), .ref u14, .int (iI cnt), .ref u16, .int (iI gf), .int (iI gs), .int (iI rc), .ref u20, .ref u21, .ref u22, .ref u23, .ref u24, .int (iI tc)])), (u2, .inl (X.2.1.1, 8, .inl (iF Wt))), (u3, .inl (X.2.1.1, 8, .inl (iF Wd))), (u4, .inl (X.2.1.1, 8, .inl (iF Rg))), (u7, .inl (X.2.1.1, 6, .inl (iF Ru))), (u11, .inl (X.2.1.1, 20, .inl (iF Fw))), (u14, .inl (X.2.1.1, 810, .inl (iF (updI (updI (updI (updI G (Int.toNat ((9 * k) + 1)) xq) (Int.toNat ((9 * k) + 2)) sq) (Int.toNat ((9 * k) + 3)) fq) (Int.toNat ((9 * k) + 4)) lq))))]) C dX6_fly_127 6 rfl (by omega) (by decide) rfl ?_
          refine r_aload_n C dX6_fly_128 5 rfl ?_
          refine gf_6_14 C hi_X6_fly_6 kw_X6_fly_2 dX6_fly_129 0 rfl rfl ?_
          refine r_iload C dX6_fly_132 3 rfl ?_
          refine r_iconst C dX6_fly_134 ?_
          refine r_iadd C dX6_fly_135 ?_
          refine r_iload C dX6_fly_136 11 rfl ?_
          refine r_iast (ws2 := [(h0, .inr (6, [.int (iI ft), .int (iI sc), .ref u2, .ref u3, .ref u4, .ref u5, .ref u6, .ref u7, .ref u8, .int (iI rm), .int (iI wc), .ref u11, .int (iI sh), .int (iI k), .ref u14, .int (iI cnt), .ref u16, .int (iI gf), .int (iI gs), .int (iI rc), .ref u20, .ref u21, .ref u22, .ref u23, .ref u24, .int (iI tc)])), (u2, .inl (X.2.1.1, 8, .inl (iF Wt))), (u3, .inl (X.2.1.1, 8, .inl (iF Wd))), (u4, .inl (X.2.1.1, 8, .inl (iF Rg))), (u7, .inl (X.2.1.1, 6, .inl (iF Ru))), (u11, .inl (X.2.1.1, 20, .inl (iF Fw))), (u14, .inl (X.2.1.1, 810, .inl (iF (updI (updI (updI (updI (updI G (Int.toNat ((9 * k) + 1)) xq) (Int.toNat ((9 * k) + 2)) sq) (Int.toNat ((9 * k) + 3)) fq) (Int.toNat ((9 * k) + 4)) lq) (Int.toNat ((9 * k) + 5)) nq))))]) C dX6_fly_138 6 rfl (by omega) (by decide) rfl ?_
          refine r_aload_n C dX6_fly_139 5 rfl ?_
          refine gf_6_14 C hi_X6_fly_6 kw_X6_fly_2 dX6_fly_140 0 rfl rfl ?_
          refine r_iload C dX6_fly_143 3 rfl ?_
          refine r_bipush C dX6_fly_145 (by decide) ?_
          refine r_iadd C dX6_fly_147 ?_
          refine r_iload C dX6_fly_148 2 rfl ?_
          refine r_iast (ws2 := [(h0, .inr (6, [.int (iI ft), .int (iI sc), .ref u2, .ref u3, .ref u4, .ref u5, .ref u6, .ref u7, .ref u8, .int (iI rm), .int (iI wc), .ref u11, .int (iI sh), .int (iI k), .ref u14, .int (iI cnt), .ref u16, .int (iI gf), .int (iI gs), .int (iI rc), .ref u20, .ref u21, .ref u22, .ref u23, .ref u24, .int (iI tc)])), (u2, .inl (X.2.1.1, 8, .inl (iF Wt))), (u3, .inl (X.2.1.1, 8, .inl (iF Wd))), (u4, .inl (X.2.1.1, 8, .inl (iF Rg))), (u7, .inl (X.2.1.1, 6, .inl (iF Ru))), (u11, .inl (X.2.1.1, 20, .inl (iF Fw))), (u14, .inl (X.2.1.1, 810, .inl (iF (updI (updI (updI (updI (updI (updI G (Int.toNat ((9 * k) + 1)) xq) (Int.toNat ((9 * k) + 2)) sq) (Int.toNat ((9 * k) + 3)) fq) (Int.toNat ((9 * k) + 4)) lq) (Int.toNat ((9 * k) + 5)) nq) (Int.toNat ((9 * k) + 6)) (lq + (Fw (Int.toNat ((xq + sh) % wc))))))))]) C dX6_fly_150 6 rfl (by omega) (by decide) rfl ?_
          refine r_aload_n C dX6_fly_151 5 rfl ?_
          refine gf_6_14 C hi_X6_fly_6 kw_X6_fly_2 dX6_fly_152 0 rfl rfl ?_
          refine r_iload C dX6_fly_155 3 rfl ?_
          refine r_bipush C dX6_fly_157 (by decide) ?_
          refine r_iadd C dX6_fly_159 ?_
          refine r_iload C dX6_fly_160 12 rfl ?_
          refine r_iast (ws2 := [(h0, .inr (6, [.int (iI ft), .int (iI sc), .ref u2, .ref u3, .ref u4, .ref u5, .ref u6, .ref u7, .ref u8, .int (iI rm), .int (iI wc), .ref u11, .int (iI sh), .int (iI k), .ref u14, .int (iI cnt), .ref u16, .int (iI gf), .int (iI gs), .int (iI rc), .ref u20, .ref u21, .ref u22, .ref u23, .ref u24, .int (iI tc)])), (u2, .inl (X.2.1.1, 8, .inl (iF Wt))), (u3, .inl (X.2.1.1, 8, .inl (iF Wd))), (u4, .inl (X.2.1.1, 8, .inl (iF Rg))), (u7, .inl (X.2.1.1, 6, .inl (iF Ru))), (u11, .inl (X.2.1.1, 20, .inl (iF Fw))), (u14, .inl (X.2.1.1, 810, .inl (iF (updI (updI (updI (updI (updI (updI (updI G (Int.toNat ((9 * k) + 1)) xq) (Int.toNat ((9 * k) + 2)) sq) (Int.toNat ((9 * k) + 3)) fq) (Int.toNat ((9 * k) + 4)) lq) (Int.toNat ((9 * k) + 5)) nq) (Int.toNat ((9 * k) + 6)) (lq + (Fw (Int.toNat ((xq + sh) % wc))))) (Int.toNat ((9 * k) + 8)) bq))))]) C dX6_fly_162 6 rfl (by omega) (by decide) rfl ?_
          refine r_aload_n C dX6_fly_163 5 rfl ?_
          refine r_dup C dX6_fly_164 rfl ?_
          refine gf_6_13 C hi_X6_fly_6 kw_X6_fly_0 dX6_fly_165 0 rfl rfl ?_
          refine r_iconst C dX6_fly_168 ?_
          refine r_iadd C dX6_fly_169 ?_
          refine pf_6_13 (ws2 := [(h0, .inr (6, [.int (iI ft), .int (iI sc), .ref u2, .ref u3, .ref u4, .ref u5, .ref u6, .ref u7, .ref u8, .int (iI rm), .int (iI wc), .ref u11, .int (iI sh), .int (iI (k + 1)), .ref u14, .int (iI cnt), .ref u16, .int (iI gf), .int (iI gs), .int (iI rc), .ref u20, .ref u21, .ref u22, .ref u23, .ref u24, .int (iI tc)])), (u2, .inl (X.2.1.1, 8, .inl (iF Wt))), (u3, .inl (X.2.1.1, 8, .inl (iF Wd))), (u4, .inl (X.2.1.1, 8, .inl (iF Rg))), (u7, .inl (X.2.1.1, 6, .inl (iF Ru))), (u11, .inl (X.2.1.1, 20, .inl (iF Fw))), (u14, .inl (X.2.1.1, 810, .inl (iF (updI (updI (updI (updI (updI (updI (updI G (Int.toNat ((9 * k) + 1)) xq) (Int.toNat ((9 * k) + 2)) sq) (Int.toNat ((9 * k) + 3)) fq) (Int.toNat ((9 * k) + 4)) lq) (Int.toNat ((9 * k) + 5)) nq) (Int.toNat ((9 * k) + 6)) (lq + (Fw (Int.toNat ((xq + sh) % wc))))) (Int.toNat ((9 * k) + 8)) bq))))]) C hi_X6_fly_6 kw_X6_fly_0 dX6_fly_170 0 rfl rfl rfl (Nat.le_of_ble_eq_true rfl) rfl ?_
          refine r_iload C dX6_fly_173 1 rfl ?_
          refine r_if_eq (tgt := 198) C dX6_fly_175 (by decide) (by decide) (fun h_3 => absurd h_3 (by decide)) (fun h_3 => ?_)
          refine r_aload_n C dX6_fly_178 5 rfl ?_
          refine gf_6_14 C hi_X6_fly_6 kw_X6_fly_2 dX6_fly_179 0 rfl rfl ?_
          refine r_iload C dX6_fly_182 3 rfl ?_
          refine r_iconst C dX6_fly_184 ?_
          refine r_iast (ws2 := [(h0, .inr (6, [.int (iI ft), .int (iI sc), .ref u2, .ref u3, .ref u4, .ref u5, .ref u6, .ref u7, .ref u8, .int (iI rm), .int (iI wc), .ref u11, .int (iI sh), .int (iI (k + 1)), .ref u14, .int (iI cnt), .ref u16, .int (iI gf), .int (iI gs), .int (iI rc), .ref u20, .ref u21, .ref u22, .ref u23, .ref u24, .int (iI tc)])), (u2, .inl (X.2.1.1, 8, .inl (iF Wt))), (u3, .inl (X.2.1.1, 8, .inl (iF Wd))), (u4, .inl (X.2.1.1, 8, .inl (iF Rg))), (u7, .inl (X.2.1.1, 6, .inl (iF Ru))), (u11, .inl (X.2.1.1, 20, .inl (iF Fw))), (u14, .inl (X.2.1.1, 810, .inl (iF (updI (updI (updI (updI (updI (updI (updI (updI G (Int.toNat ((9 * k) + 1)) xq) (Int.toNat ((9 * k) + 2)) sq) (Int.toNat ((9 * k) + 3)) fq) (Int.toNat ((9 * k) + 4)) lq) (Int.toNat ((9 * k) + 5)) nq) (Int.toNat ((9 * k) + 6)) (lq + (Fw (Int.toNat ((xq + sh) % wc))))) (Int.toNat ((9 * k) + 8)) bq) (Int.toNat (9 * k)) 0))))]) C dX6_fly_185 6 rfl (by omega) (by decide) rfl ?_
          refine r_aload_n C dX6_fly_186 5 rfl ?_
          refine gf_6_14 C hi_X6_fly_6 kw_X6_fly_2 dX6_fly_187 0 rfl rfl ?_
          refine r_iload C dX6_fly_190 3 rfl ?_
          refine r_bipush C dX6_fly_192 (by decide) ?_
          refine r_iadd C dX6_fly_194 ?_
          refine r_iconst C dX6_fly_195 ?_
          refine r_iast (ws2 := [(h0, .inr (6, [.int (iI ft), .int (iI sc), .ref u2, .ref u3, .ref u4, .ref u5, .ref u6, .ref u7, .ref u8, .int (iI rm), .int (iI wc), .ref u11, .int (iI sh), .int (iI (k + 1)), .ref u14, .int (iI cnt), .ref u16, .int (iI gf), .int (iI gs), .int (iI rc), .ref u20, .ref u21, .ref u22, .ref u23, .ref u24, .int (iI tc)])), (u2, .inl (X.2.1.1, 8, .inl (iF Wt))), (u3, .inl (X.2.1.1, 8, .inl (iF Wd))), (u4, .inl (X.2.1.1, 8, .inl (iF Rg))), (u7, .inl (X.2.1.1, 6, .inl (iF Ru))), (u11, .inl (X.2.1.1, 20, .inl (iF Fw))), (u14, .inl (X.2.1.1, 810, .inl (iF (updI (updI (updI (updI (updI (updI (updI (updI (updI G (Int.toNat ((9 * k) + 1)) xq) (Int.toNat ((9 * k) + 2)) sq) (Int.toNat ((9 * k) + 3)) fq) (Int.toNat ((9 * k) + 4)) lq) (Int.toNat ((9 * k) + 5)) nq) (Int.toNat ((9 * k) + 6)) (lq + (Fw (Int.toNat ((xq + sh) % wc))))) (Int.toNat ((9 * k) + 8)) bq) (Int.toNat (9 * k)) 0) (Int.toNat ((9 * k) + 7)) 0))))]) C dX6_fly_196 6 rfl (by omega) (by decide) rfl ?_
          exact g_ret_v C rfl dX6_fly_197 () trivial [0, 1, 2, 3, 4, 5, 6] rfl (by first | (rw [iN, iR, fNum_stop (E := ((((Ru (Int.toNat 0)), (Ru (Int.toNat 1)), (Ru (Int.toNat 2)), (Ru (Int.toNat 3)), (Ru (Int.toNat 4)), (Ru (Int.toNat 5))), ((Wt (Int.toNat x)), (Wd (Int.toNat x)), (Rg (Int.toNat x))), (sh, wc, Fw)) : fEn)) (t := ((xq, sq, fq, lq, nq, bq) : fS)) (by omega) (Or.inl KSK), fRes_sunk (E := ((((Ru (Int.toNat 0)), (Ru (Int.toNat 1)), (Ru (Int.toNat 2)), (Ru (Int.toNat 3)), (Ru (Int.toNat 4)), (Ru (Int.toNat 5))), ((Wt (Int.toNat x)), (Wd (Int.toNat x)), (Rg (Int.toNat x))), (sh, wc, Fw)) : fEn)) (t := ((xq, sq, fq, lq, nq, bq) : fS)) (by omega) KSK, ← kpF_ref (by omega)] <;> rfl) | (rw [iN, iR, fNum_stop (E := ((((Ru (Int.toNat 0)), (Ru (Int.toNat 1)), (Ru (Int.toNat 2)), (Ru (Int.toNat 3)), (Ru (Int.toNat 4)), (Ru (Int.toNat 5))), ((Wt (Int.toNat x)), (Wd (Int.toNat x)), (Rg (Int.toNat x))), (sh, wc, Fw)) : fEn)) (t := ((xq, sq, fq, lq, nq, bq) : fS)) (by omega) (Or.inr (show (max 0 (sq - (fTk (Ru (Int.toNat 1)) (Ru (Int.toNat 5)) (Rg (Int.toNat x)) sq (lq + (Fw (Int.toNat ((xq + sh) % wc))))))) = 0 by omega)), fRes_zero (E := ((((Ru (Int.toNat 0)), (Ru (Int.toNat 1)), (Ru (Int.toNat 2)), (Ru (Int.toNat 3)), (Ru (Int.toNat 4)), (Ru (Int.toNat 5))), ((Wt (Int.toNat x)), (Wd (Int.toNat x)), (Rg (Int.toNat x))), (sh, wc, Fw)) : fEn)) (t := ((xq, sq, fq, lq, nq, bq) : fS)) (by omega) KSK (show (max 0 (sq - (fTk (Ru (Int.toNat 1)) (Ru (Int.toNat 5)) (Rg (Int.toNat x)) sq (lq + (Fw (Int.toNat ((xq + sh) % wc))))))) = 0 by omega), ← kpF_ref (by omega)] <;> rfl) | (rw [iN, iR, fNum_go (E := ((((Ru (Int.toNat 0)), (Ru (Int.toNat 1)), (Ru (Int.toNat 2)), (Ru (Int.toNat 3)), (Ru (Int.toNat 4)), (Ru (Int.toNat 5))), ((Wt (Int.toNat x)), (Wd (Int.toNat x)), (Rg (Int.toNat x))), (sh, wc, Fw)) : fEn)) (t := ((xq, sq, fq, lq, nq, bq) : fS)) (by omega) (fun q => q.elim KSK (by intro z; change (max 0 (sq - (fTk (Ru (Int.toNat 1)) (Ru (Int.toNat 5)) (Rg (Int.toNat x)) sq (lq + (Fw (Int.toNat ((xq + sh) % wc))))))) = 0 at z; omega)), fRes_go (E := ((((Ru (Int.toNat 0)), (Ru (Int.toNat 1)), (Ru (Int.toNat 2)), (Ru (Int.toNat 3)), (Ru (Int.toNat 4)), (Ru (Int.toNat 5))), ((Wt (Int.toNat x)), (Wd (Int.toNat x)), (Rg (Int.toNat x))), (sh, wc, Fw)) : fEn)) (t := ((xq, sq, fq, lq, nq, bq) : fS)) (by omega) KSK (by intro z; change (max 0 (sq - (fTk (Ru (Int.toNat 1)) (Ru (Int.toNat 5)) (Rg (Int.toNat x)) sq (lq + (Fw (Int.toNat ((xq + sh) % wc))))))) = 0 at z; omega), show (90 - (k + 1)).toNat = 0 by omega, ← kpF_ref (by omega)] <;> rfl))
        · skip
          refine r_iconst C dX6_fly_77 ?_
          refine r_goto (tgt := 82) C dX6_fly_78 (by decide) ?_
          refine r_istore (lo2 := [(16, .int (iI 1)), (15, .int (iI 1)), (14, .int (iI (lq + (Fw (Int.toNat ((xq + sh) % wc)))))), (13, .int (iI (9 * k))), (12, .int (iI 1)), (0, .ref h0), (1, .int (iI x)), (6, .int (iI xq)), (7, .int (iI sq)), (8, .int (iI fq)), (9, .int (iI lq)), (10, .int (iI nq)), (11, .int (iI bq))]) C dX6_fly_82 (by decide) rfl ?_
          refine r_aload_n C dX6_fly_84 5 rfl ?_
          refine gf_6_14 C hi_X6_fly_6 kw_X6_fly_2 dX6_fly_85 0 rfl rfl ?_
          refine r_iload C dX6_fly_88 3 rfl ?_
          refine r_iconst C dX6_fly_90 ?_
          refine r_iadd C dX6_fly_91 ?_
          refine r_iload C dX6_fly_92 7 rfl ?_
          refine r_iast (ws2 := [(h0, .inr (6, [.int (iI ft), .int (iI sc), .ref u2, .ref u3, .ref u4, .ref u5, .ref u6, .ref u7, .ref u8, .int (iI rm), .int (iI wc), .ref u11, .int (iI sh), .int (iI k), .ref u14, .int (iI cnt), .ref u16, .int (iI gf), .int (iI gs), .int (iI rc), .ref u20, .ref u21, .ref u22, .ref u23, .ref u24, .int (iI tc)])), (u2, .inl (X.2.1.1, 8, .inl (iF Wt))), (u3, .inl (X.2.1.1, 8, .inl (iF Wd))), (u4, .inl (X.2.1.1, 8, .inl (iF Rg))), (u7, .inl (X.2.1.1, 6, .inl (iF Ru))), (u11, .inl (X.2.1.1, 20, .inl (iF Fw))), (u14, .inl (X.2.1.1, 810, .inl (iF (updI G (Int.toNat ((9 * k) + 1)) xq))))]) C dX6_fly_94 6 rfl (by omega) (by decide) rfl ?_
          refine r_aload_n C dX6_fly_95 5 rfl ?_
          refine gf_6_14 C hi_X6_fly_6 kw_X6_fly_2 dX6_fly_96 0 rfl rfl ?_
          refine r_iload C dX6_fly_99 3 rfl ?_
          refine r_iconst C dX6_fly_101 ?_
          refine r_iadd C dX6_fly_102 ?_
          refine r_iload C dX6_fly_103 8 rfl ?_
          refine r_iast (ws2 := [(h0, .inr (6, [.int (iI ft), .int (iI sc), .ref u2, .ref u3, .ref u4, .ref u5, .ref u6, .ref u7, .ref u8, .int (iI rm), .int (iI wc), .ref u11, .int (iI sh), .int (iI k), .ref u14, .int (iI cnt), .ref u16, .int (iI gf), .int (iI gs), .int (iI rc), .ref u20, .ref u21, .ref u22, .ref u23, .ref u24, .int (iI tc)])), (u2, .inl (X.2.1.1, 8, .inl (iF Wt))), (u3, .inl (X.2.1.1, 8, .inl (iF Wd))), (u4, .inl (X.2.1.1, 8, .inl (iF Rg))), (u7, .inl (X.2.1.1, 6, .inl (iF Ru))), (u11, .inl (X.2.1.1, 20, .inl (iF Fw))), (u14, .inl (X.2.1.1, 810, .inl (iF (updI (updI G (Int.toNat ((9 * k) + 1)) xq) (Int.toNat ((9 * k) + 2)) sq))))]) C dX6_fly_105 6 rfl (by omega) (by decide) rfl ?_
          refine r_aload_n C dX6_fly_106 5 rfl ?_
          refine gf_6_14 C hi_X6_fly_6 kw_X6_fly_2 dX6_fly_107 0 rfl rfl ?_
          refine r_iload C dX6_fly_110 3 rfl ?_
          refine r_iconst C dX6_fly_112 ?_
          refine r_iadd C dX6_fly_113 ?_
          refine r_iload C dX6_fly_114 9 rfl ?_
          refine r_iast (ws2 := [(h0, .inr (6, [.int (iI ft), .int (iI sc), .ref u2, .ref u3, .ref u4, .ref u5, .ref u6, .ref u7, .ref u8, .int (iI rm), .int (iI wc), .ref u11, .int (iI sh), .int (iI k), .ref u14, .int (iI cnt), .ref u16, .int (iI gf), .int (iI gs), .int (iI rc), .ref u20, .ref u21, .ref u22, .ref u23, .ref u24, .int (iI tc)])), (u2, .inl (X.2.1.1, 8, .inl (iF Wt))), (u3, .inl (X.2.1.1, 8, .inl (iF Wd))), (u4, .inl (X.2.1.1, 8, .inl (iF Rg))), (u7, .inl (X.2.1.1, 6, .inl (iF Ru))), (u11, .inl (X.2.1.1, 20, .inl (iF Fw))), (u14, .inl (X.2.1.1, 810, .inl (iF (updI (updI (updI G (Int.toNat ((9 * k) + 1)) xq) (Int.toNat ((9 * k) + 2)) sq) (Int.toNat ((9 * k) + 3)) fq))))]) C dX6_fly_116 6 rfl (by omega) (by decide) rfl ?_
          refine r_aload_n C dX6_fly_117 5 rfl ?_
          refine gf_6_14 C hi_X6_fly_6 kw_X6_fly_2 dX6_fly_118 0 rfl rfl ?_
          refine r_iload C dX6_fly_121 3 rfl ?_
          refine r_iconst C dX6_fly_123 ?_
          refine r_iadd C dX6_fly_124 ?_
          refine r_iload C dX6_fly_125 10 rfl ?_
          refine r_iast (ws2 := [(h0, .inr (6, [.int (iI ft), .int (iI sc), .ref u2, .ref u3, .ref u4, .ref u5, .ref u6, .ref u7, .ref u8, .int (iI rm), .int (iI wc), .ref u11, .int (iI sh), .int (iI k), .ref u14, .int (iI cnt), .ref u16, .int (iI gf), .int (iI gs), .int (iI rc), .ref u20, .ref u21, .ref u22, .ref u23, .ref u24, .int (iI tc)])), (u2, .inl (X.2.1.1, 8, .inl (iF Wt))), (u3, .inl (X.2.1.1, 8, .inl (iF Wd))), (u4, .inl (X.2.1.1, 8, .inl (iF Rg))), (u7, .inl (X.2.1.1, 6, .inl (iF Ru))), (u11, .inl (X.2.1.1, 20, .inl (iF Fw))), (u14, .inl (X.2.1.1, 810, .inl (iF (updI (updI (updI (updI G (Int.toNat ((9 * k) + 1)) xq) (Int.toNat ((9 * k) + 2)) sq) (Int.toNat ((9 * k) + 3)) fq) (Int.toNat ((9 * k) + 4)) lq))))]) C dX6_fly_127 6 rfl (by omega) (by decide) rfl ?_
          refine r_aload_n C dX6_fly_128 5 rfl ?_
          refine gf_6_14 C hi_X6_fly_6 kw_X6_fly_2 dX6_fly_129 0 rfl rfl ?_
          refine r_iload C dX6_fly_132 3 rfl ?_
          refine r_iconst C dX6_fly_134 ?_
          refine r_iadd C dX6_fly_135 ?_
          refine r_iload C dX6_fly_136 11 rfl ?_
          refine r_iast (ws2 := [(h0, .inr (6, [.int (iI ft), .int (iI sc), .ref u2, .ref u3, .ref u4, .ref u5, .ref u6, .ref u7, .ref u8, .int (iI rm), .int (iI wc), .ref u11, .int (iI sh), .int (iI k), .ref u14, .int (iI cnt), .ref u16, .int (iI gf), .int (iI gs), .int (iI rc), .ref u20, .ref u21, .ref u22, .ref u23, .ref u24, .int (iI tc)])), (u2, .inl (X.2.1.1, 8, .inl (iF Wt))), (u3, .inl (X.2.1.1, 8, .inl (iF Wd))), (u4, .inl (X.2.1.1, 8, .inl (iF Rg))), (u7, .inl (X.2.1.1, 6, .inl (iF Ru))), (u11, .inl (X.2.1.1, 20, .inl (iF Fw))), (u14, .inl (X.2.1.1, 810, .inl (iF (updI (updI (updI (updI (updI G (Int.toNat ((9 * k) + 1)) xq) (Int.toNat ((9 * k) + 2)) sq) (Int.toNat ((9 * k) + 3)) fq) (Int.toNat ((9 * k) + 4)) lq) (Int.toNat ((9 * k) + 5)) nq))))]) C dX6_fly_138 6 rfl (by omega) (by decide) rfl ?_
          refine r_aload_n C dX6_fly_139 5 rfl ?_
          refine gf_6_14 C hi_X6_fly_6 kw_X6_fly_2 dX6_fly_140 0 rfl rfl ?_
          refine r_iload C dX6_fly_143 3 rfl ?_
          refine r_bipush C dX6_fly_145 (by decide) ?_
          refine r_iadd C dX6_fly_147 ?_
          refine r_iload C dX6_fly_148 2 rfl ?_
          refine r_iast (ws2 := [(h0, .inr (6, [.int (iI ft), .int (iI sc), .ref u2, .ref u3, .ref u4, .ref u5, .ref u6, .ref u7, .ref u8, .int (iI rm), .int (iI wc), .ref u11, .int (iI sh), .int (iI k), .ref u14, .int (iI cnt), .ref u16, .int (iI gf), .int (iI gs), .int (iI rc), .ref u20, .ref u21, .ref u22, .ref u23, .ref u24, .int (iI tc)])), (u2, .inl (X.2.1.1, 8, .inl (iF Wt))), (u3, .inl (X.2.1.1, 8, .inl (iF Wd))), (u4, .inl (X.2.1.1, 8, .inl (iF Rg))), (u7, .inl (X.2.1.1, 6, .inl (iF Ru))), (u11, .inl (X.2.1.1, 20, .inl (iF Fw))), (u14, .inl (X.2.1.1, 810, .inl (iF (updI (updI (updI (updI (updI (updI G (Int.toNat ((9 * k) + 1)) xq) (Int.toNat ((9 * k) + 2)) sq) (Int.toNat ((9 * k) + 3)) fq) (Int.toNat ((9 * k) + 4)) lq) (Int.toNat ((9 * k) + 5)) nq) (Int.toNat ((9 * k) + 6)) (lq + (Fw (Int.toNat ((xq + sh) % wc))))))))]) C dX6_fly_150 6 rfl (by omega) (by decide) rfl ?_
          refine r_aload_n C dX6_fly_151 5 rfl ?_
          refine gf_6_14 C hi_X6_fly_6 kw_X6_fly_2 dX6_fly_152 0 rfl rfl ?_
          refine r_iload C dX6_fly_155 3 rfl ?_
          refine r_bipush C dX6_fly_157 (by decide) ?_
          refine r_iadd C dX6_fly_159 ?_
          refine r_iload C dX6_fly_160 12 rfl ?_
          refine r_iast (ws2 := [(h0, .inr (6, [.int (iI ft), .int (iI sc), .ref u2, .ref u3, .ref u4, .ref u5, .ref u6, .ref u7, .ref u8, .int (iI rm), .int (iI wc), .ref u11, .int (iI sh), .int (iI k), .ref u14, .int (iI cnt), .ref u16, .int (iI gf), .int (iI gs), .int (iI rc), .ref u20, .ref u21, .ref u22, .ref u23, .ref u24, .int (iI tc)])), (u2, .inl (X.2.1.1, 8, .inl (iF Wt))), (u3, .inl (X.2.1.1, 8, .inl (iF Wd))), (u4, .inl (X.2.1.1, 8, .inl (iF Rg))), (u7, .inl (X.2.1.1, 6, .inl (iF Ru))), (u11, .inl (X.2.1.1, 20, .inl (iF Fw))), (u14, .inl (X.2.1.1, 810, .inl (iF (updI (updI (updI (updI (updI (updI (updI G (Int.toNat ((9 * k) + 1)) xq) (Int.toNat ((9 * k) + 2)) sq) (Int.toNat ((9 * k) + 3)) fq) (Int.toNat ((9 * k) + 4)) lq) (Int.toNat ((9 * k) + 5)) nq) (Int.toNat ((9 * k) + 6)) (lq + (Fw (Int.toNat ((xq + sh) % wc))))) (Int.toNat ((9 * k) + 8)) bq))))]) C dX6_fly_162 6 rfl (by omega) (by decide) rfl ?_
          refine r_aload_n C dX6_fly_163 5 rfl ?_
          refine r_dup C dX6_fly_164 rfl ?_
          refine gf_6_13 C hi_X6_fly_6 kw_X6_fly_0 dX6_fly_165 0 rfl rfl ?_
          refine r_iconst C dX6_fly_168 ?_
          refine r_iadd C dX6_fly_169 ?_
          refine pf_6_13 (ws2 := [(h0, .inr (6, [.int (iI ft), .int (iI sc), .ref u2, .ref u3, .ref u4, .ref u5, .ref u6, .ref u7, .ref u8, .int (iI rm), .int (iI wc), .ref u11, .int (iI sh), .int (iI (k + 1)), .ref u14, .int (iI cnt), .ref u16, .int (iI gf), .int (iI gs), .int (iI rc), .ref u20, .ref u21, .ref u22, .ref u23, .ref u24, .int (iI tc)])), (u2, .inl (X.2.1.1, 8, .inl (iF Wt))), (u3, .inl (X.2.1.1, 8, .inl (iF Wd))), (u4, .inl (X.2.1.1, 8, .inl (iF Rg))), (u7, .inl (X.2.1.1, 6, .inl (iF Ru))), (u11, .inl (X.2.1.1, 20, .inl (iF Fw))), (u14, .inl (X.2.1.1, 810, .inl (iF (updI (updI (updI (updI (updI (updI (updI G (Int.toNat ((9 * k) + 1)) xq) (Int.toNat ((9 * k) + 2)) sq) (Int.toNat ((9 * k) + 3)) fq) (Int.toNat ((9 * k) + 4)) lq) (Int.toNat ((9 * k) + 5)) nq) (Int.toNat ((9 * k) + 6)) (lq + (Fw (Int.toNat ((xq + sh) % wc))))) (Int.toNat ((9 * k) + 8)) bq))))]) C hi_X6_fly_6 kw_X6_fly_0 dX6_fly_170 0 rfl rfl rfl (Nat.le_of_ble_eq_true rfl) rfl ?_
          refine r_iload C dX6_fly_173 1 rfl ?_
          refine r_if_eq (tgt := 198) C dX6_fly_175 (by decide) (by decide) (fun h_4 => absurd h_4 (by decide)) (fun h_4 => ?_)
          refine r_aload_n C dX6_fly_178 5 rfl ?_
          refine gf_6_14 C hi_X6_fly_6 kw_X6_fly_2 dX6_fly_179 0 rfl rfl ?_
          refine r_iload C dX6_fly_182 3 rfl ?_
          refine r_iconst C dX6_fly_184 ?_
          refine r_iast (ws2 := [(h0, .inr (6, [.int (iI ft), .int (iI sc), .ref u2, .ref u3, .ref u4, .ref u5, .ref u6, .ref u7, .ref u8, .int (iI rm), .int (iI wc), .ref u11, .int (iI sh), .int (iI (k + 1)), .ref u14, .int (iI cnt), .ref u16, .int (iI gf), .int (iI gs), .int (iI rc), .ref u20, .ref u21, .ref u22, .ref u23, .ref u24, .int (iI tc)])), (u2, .inl (X.2.1.1, 8, .inl (iF Wt))), (u3, .inl (X.2.1.1, 8, .inl (iF Wd))), (u4, .inl (X.2.1.1, 8, .inl (iF Rg))), (u7, .inl (X.2.1.1, 6, .inl (iF Ru))), (u11, .inl (X.2.1.1, 20, .inl (iF Fw))), (u14, .inl (X.2.1.1, 810, .inl (iF (updI (updI (updI (updI (updI (updI (updI (updI G (Int.toNat ((9 * k) + 1)) xq) (Int.toNat ((9 * k) + 2)) sq) (Int.toNat ((9 * k) + 3)) fq) (Int.toNat ((9 * k) + 4)) lq) (Int.toNat ((9 * k) + 5)) nq) (Int.toNat ((9 * k) + 6)) (lq + (Fw (Int.toNat ((xq + sh) % wc))))) (Int.toNat ((9 * k) + 8)) bq) (Int.toNat (9 * k)) 0))))]) C dX6_fly_185 6 rfl (by omega) (by decide) rfl ?_
          refine r_aload_n C dX6_fly_186 5 rfl ?_
          refine gf_6_14 C hi_X6_fly_6 kw_X6_fly_2 dX6_fly_187 0 rfl rfl ?_
          refine r_iload C dX6_fly_190 3 rfl ?_
          refine r_bipush C dX6_fly_192 (by decide) ?_
          refine r_iadd C dX6_fly_194 ?_
          refine r_iconst C dX6_fly_195 ?_
          refine r_iast (ws2 := [(h0, .inr (6, [.int (iI ft), .int (iI sc), .ref u2, .ref u3, .ref u4, .ref u5, .ref u6, .ref u7, .ref u8, .int (iI rm), .int (iI wc), .ref u11, .int (iI sh), .int (iI (k + 1)), .ref u14, .int (iI cnt), .ref u16, .int (iI gf), .int (iI gs), .int (iI rc), .ref u20, .ref u21, .ref u22, .ref u23, .ref u24, .int (iI tc)])), (u2, .inl (X.2.1.1, 8, .inl (iF Wt))), (u3, .inl (X.2.1.1, 8, .inl (iF Wd))), (u4, .inl (X.2.1.1, 8, .inl (iF Rg))), (u7, .inl (X.2.1.1, 6, .inl (iF Ru))), (u11, .inl (X.2.1.1, 20, .inl (iF Fw))), (u14, .inl (X.2.1.1, 810, .inl (iF (updI (updI (updI (updI (updI (updI (updI (updI (updI G (Int.toNat ((9 * k) + 1)) xq) (Int.toNat ((9 * k) + 2)) sq) (Int.toNat ((9 * k) + 3)) fq) (Int.toNat ((9 * k) + 4)) lq) (Int.toNat ((9 * k) + 5)) nq) (Int.toNat ((9 * k) + 6)) (lq + (Fw (Int.toNat ((xq + sh) % wc))))) (Int.toNat ((9 * k) + 8)) bq) (Int.toNat (9 * k)) 0) (Int.toNat ((9 * k) + 7)) 0))))]) C dX6_fly_196 6 rfl (by omega) (by decide) rfl ?_
          exact g_ret_v C rfl dX6_fly_197 () trivial [0, 1, 2, 3, 4, 5, 6] rfl (by first | (rw [iN, iR, fNum_stop (E := ((((Ru (Int.toNat 0)), (Ru (Int.toNat 1)), (Ru (Int.toNat 2)), (Ru (Int.toNat 3)), (Ru (Int.toNat 4)), (Ru (Int.toNat 5))), ((Wt (Int.toNat x)), (Wd (Int.toNat x)), (Rg (Int.toNat x))), (sh, wc, Fw)) : fEn)) (t := ((xq, sq, fq, lq, nq, bq) : fS)) (by omega) (Or.inl KSK), fRes_sunk (E := ((((Ru (Int.toNat 0)), (Ru (Int.toNat 1)), (Ru (Int.toNat 2)), (Ru (Int.toNat 3)), (Ru (Int.toNat 4)), (Ru (Int.toNat 5))), ((Wt (Int.toNat x)), (Wd (Int.toNat x)), (Rg (Int.toNat x))), (sh, wc, Fw)) : fEn)) (t := ((xq, sq, fq, lq, nq, bq) : fS)) (by omega) KSK, ← kpF_ref (by omega)] <;> rfl) | (rw [iN, iR, fNum_stop (E := ((((Ru (Int.toNat 0)), (Ru (Int.toNat 1)), (Ru (Int.toNat 2)), (Ru (Int.toNat 3)), (Ru (Int.toNat 4)), (Ru (Int.toNat 5))), ((Wt (Int.toNat x)), (Wd (Int.toNat x)), (Rg (Int.toNat x))), (sh, wc, Fw)) : fEn)) (t := ((xq, sq, fq, lq, nq, bq) : fS)) (by omega) (Or.inr (show (max 0 (sq - (fTk (Ru (Int.toNat 1)) (Ru (Int.toNat 5)) (Rg (Int.toNat x)) sq (lq + (Fw (Int.toNat ((xq + sh) % wc))))))) = 0 by omega)), fRes_zero (E := ((((Ru (Int.toNat 0)), (Ru (Int.toNat 1)), (Ru (Int.toNat 2)), (Ru (Int.toNat 3)), (Ru (Int.toNat 4)), (Ru (Int.toNat 5))), ((Wt (Int.toNat x)), (Wd (Int.toNat x)), (Rg (Int.toNat x))), (sh, wc, Fw)) : fEn)) (t := ((xq, sq, fq, lq, nq, bq) : fS)) (by omega) KSK (show (max 0 (sq - (fTk (Ru (Int.toNat 1)) (Ru (Int.toNat 5)) (Rg (Int.toNat x)) sq (lq + (Fw (Int.toNat ((xq + sh) % wc))))))) = 0 by omega), ← kpF_ref (by omega)] <;> rfl) | (rw [iN, iR, fNum_go (E := ((((Ru (Int.toNat 0)), (Ru (Int.toNat 1)), (Ru (Int.toNat 2)), (Ru (Int.toNat 3)), (Ru (Int.toNat 4)), (Ru (Int.toNat 5))), ((Wt (Int.toNat x)), (Wd (Int.toNat x)), (Rg (Int.toNat x))), (sh, wc, Fw)) : fEn)) (t := ((xq, sq, fq, lq, nq, bq) : fS)) (by omega) (fun q => q.elim KSK (by intro z; change (max 0 (sq - (fTk (Ru (Int.toNat 1)) (Ru (Int.toNat 5)) (Rg (Int.toNat x)) sq (lq + (Fw (Int.toNat ((xq + sh) % wc))))))) = 0 at z; omega)), fRes_go (E := ((((Ru (Int.toNat 0)), (Ru (Int.toNat 1)), (Ru (Int.toNat 2)), (Ru (Int.toNat 3)), (Ru (Int.toNat 4)), (Ru (Int.toNat 5))), ((Wt (Int.toNat x)), (Wd (Int.toNat x)), (Rg (Int.toNat x))), (sh, wc, Fw)) : fEn)) (t := ((xq, sq, fq, lq, nq, bq) : fS)) (by omega) KSK (by intro z; change (max 0 (sq - (fTk (Ru (Int.toNat 1)) (Ru (Int.toNat 5)) (Rg (Int.toNat x)) sq (lq + (Fw (Int.toNat ((xq + sh) % wc))))))) = 0 at z; omega), show (90 - (k + 1)).toNat = 0 by omega, ← kpF_ref (by omega)] <;> rfl))
      · skip
        refine r_istore (lo2 := [(15, .int (iI 0)), (14, .int (iI (lq + (Fw (Int.toNat ((xq + sh) % wc)))))), (13, .int (iI (9 * k))), (12, .int (iI 1)), (0, .ref h0), (1, .int (iI x)), (6, .int (iI xq)), (7, .int (iI sq)), (8, .int (iI fq)), (9, .int (iI lq)), (10, .int (iI nq)), (11, .int (iI bq))]) C dX6_fly_64 (by decide) rfl ?_
        refine r_iload C dX6_fly_66 1 rfl ?_
        refine r_aload_n C dX6_fly_68 4 rfl ?_
        refine gf_6_7 C hi_X6_fly_6 kw_X6_fly_1 dX6_fly_69 0 rfl rfl ?_
        refine r_iconst C dX6_fly_72 ?_
        refine r_iald C dX6_fly_73 4 rfl (by omega) (by decide) ?_
        refine r_icmp_le (tgt := 81) C dX6_fly_74 (by decide) (by have := hFw (Int.toNat ((xq + sh) % wc)); omega) (by omega) (fun h_5 => ?_) (fun h_5 => ?_)
        · skip
          refine r_iconst C dX6_fly_81 ?_
          refine r_istore (lo2 := [(16, .int (iI 0)), (15, .int (iI 0)), (14, .int (iI (lq + (Fw (Int.toNat ((xq + sh) % wc)))))), (13, .int (iI (9 * k))), (12, .int (iI 1)), (0, .ref h0), (1, .int (iI x)), (6, .int (iI xq)), (7, .int (iI sq)), (8, .int (iI fq)), (9, .int (iI lq)), (10, .int (iI nq)), (11, .int (iI bq))]) C dX6_fly_82 (by decide) rfl ?_
          refine r_aload_n C dX6_fly_84 5 rfl ?_
          refine gf_6_14 C hi_X6_fly_6 kw_X6_fly_2 dX6_fly_85 0 rfl rfl ?_
          refine r_iload C dX6_fly_88 3 rfl ?_
          refine r_iconst C dX6_fly_90 ?_
          refine r_iadd C dX6_fly_91 ?_
          refine r_iload C dX6_fly_92 7 rfl ?_
          refine r_iast (ws2 := [(h0, .inr (6, [.int (iI ft), .int (iI sc), .ref u2, .ref u3, .ref u4, .ref u5, .ref u6, .ref u7, .ref u8, .int (iI rm), .int (iI wc), .ref u11, .int (iI sh), .int (iI k), .ref u14, .int (iI cnt), .ref u16, .int (iI gf), .int (iI gs), .int (iI rc), .ref u20, .ref u21, .ref u22, .ref u23, .ref u24, .int (iI tc)])), (u2, .inl (X.2.1.1, 8, .inl (iF Wt))), (u3, .inl (X.2.1.1, 8, .inl (iF Wd))), (u4, .inl (X.2.1.1, 8, .inl (iF Rg))), (u7, .inl (X.2.1.1, 6, .inl (iF Ru))), (u11, .inl (X.2.1.1, 20, .inl (iF Fw))), (u14, .inl (X.2.1.1, 810, .inl (iF (updI G (Int.toNat ((9 * k) + 1)) xq))))]) C dX6_fly_94 6 rfl (by omega) (by decide) rfl ?_
          refine r_aload_n C dX6_fly_95 5 rfl ?_
          refine gf_6_14 C hi_X6_fly_6 kw_X6_fly_2 dX6_fly_96 0 rfl rfl ?_
          refine r_iload C dX6_fly_99 3 rfl ?_
          refine r_iconst C dX6_fly_101 ?_
          refine r_iadd C dX6_fly_102 ?_
          refine r_iload C dX6_fly_103 8 rfl ?_
          refine r_iast (ws2 := [(h0, .inr (6, [.int (iI ft), .int (iI sc), .ref u2, .ref u3, .ref u4, .ref u5, .ref u6, .ref u7, .ref u8, .int (iI rm), .int (iI wc), .ref u11, .int (iI sh), .int (iI k), .ref u14, .int (iI cnt), .ref u16, .int (iI gf), .int (iI gs), .int (iI rc), .ref u20, .ref u21, .ref u22, .ref u23, .ref u24, .int (iI tc)])), (u2, .inl (X.2.1.1, 8, .inl (iF Wt))), (u3, .inl (X.2.1.1, 8, .inl (iF Wd))), (u4, .inl (X.2.1.1, 8, .inl (iF Rg))), (u7, .inl (X.2.1.1, 6, .inl (iF Ru))), (u11, .inl (X.2.1.1, 20, .inl (iF Fw))), (u14, .inl (X.2.1.1, 810, .inl (iF (updI (updI G (Int.toNat ((9 * k) + 1)) xq) (Int.toNat ((9 * k) + 2)) sq))))]) C dX6_fly_105 6 rfl (by omega) (by decide) rfl ?_
          refine r_aload_n C dX6_fly_106 5 rfl ?_
          refine gf_6_14 C hi_X6_fly_6 kw_X6_fly_2 dX6_fly_107 0 rfl rfl ?_
          refine r_iload C dX6_fly_110 3 rfl ?_
          refine r_iconst C dX6_fly_112 ?_
          refine r_iadd C dX6_fly_113 ?_
          refine r_iload C dX6_fly_114 9 rfl ?_
          refine r_iast (ws2 := [(h0, .inr (6, [.int (iI ft), .int (iI sc), .ref u2, .ref u3, .ref u4, .ref u5, .ref u6, .ref u7, .ref u8, .int (iI rm), .int (iI wc), .ref u11, .int (iI sh), .int (iI k), .ref u14, .int (iI cnt), .ref u16, .int (iI gf), .int (iI gs), .int (iI rc), .ref u20, .ref u21, .ref u22, .ref u23, .ref u24, .int (iI tc)])), (u2, .inl (X.2.1.1, 8, .inl (iF Wt))), (u3, .inl (X.2.1.1, 8, .inl (iF Wd))), (u4, .inl (X.2.1.1, 8, .inl (iF Rg))), (u7, .inl (X.2.1.1, 6, .inl (iF Ru))), (u11, .inl (X.2.1.1, 20, .inl (iF Fw))), (u14, .inl (X.2.1.1, 810, .inl (iF (updI (updI (updI G (Int.toNat ((9 * k) + 1)) xq) (Int.toNat ((9 * k) + 2)) sq) (Int.toNat ((9 * k) + 3)) fq))))]) C dX6_fly_116 6 rfl (by omega) (by decide) rfl ?_
          refine r_aload_n C dX6_fly_117 5 rfl ?_
          refine gf_6_14 C hi_X6_fly_6 kw_X6_fly_2 dX6_fly_118 0 rfl rfl ?_
          refine r_iload C dX6_fly_121 3 rfl ?_
          refine r_iconst C dX6_fly_123 ?_
          refine r_iadd C dX6_fly_124 ?_
          refine r_iload C dX6_fly_125 10 rfl ?_
          refine r_iast (ws2 := [(h0, .inr (6, [.int (iI ft), .int (iI sc), .ref u2, .ref u3, .ref u4, .ref u5, .ref u6, .ref u7, .ref u8, .int (iI rm), .int (iI wc), .ref u11, .int (iI sh), .int (iI k), .ref u14, .int (iI cnt), .ref u16, .int (iI gf), .int (iI gs), .int (iI rc), .ref u20, .ref u21, .ref u22, .ref u23, .ref u24, .int (iI tc)])), (u2, .inl (X.2.1.1, 8, .inl (iF Wt))), (u3, .inl (X.2.1.1, 8, .inl (iF Wd))), (u4, .inl (X.2.1.1, 8, .inl (iF Rg))), (u7, .inl (X.2.1.1, 6, .inl (iF Ru))), (u11, .inl (X.2.1.1, 20, .inl (iF Fw))), (u14, .inl (X.2.1.1, 810, .inl (iF (updI (updI (updI (updI G (Int.toNat ((9 * k) + 1)) xq) (Int.toNat ((9 * k) + 2)) sq) (Int.toNat ((9 * k) + 3)) fq) (Int.toNat ((9 * k) + 4)) lq))))]) C dX6_fly_127 6 rfl (by omega) (by decide) rfl ?_
          refine r_aload_n C dX6_fly_128 5 rfl ?_
          refine gf_6_14 C hi_X6_fly_6 kw_X6_fly_2 dX6_fly_129 0 rfl rfl ?_
          refine r_iload C dX6_fly_132 3 rfl ?_
          refine r_iconst C dX6_fly_134 ?_
          refine r_iadd C dX6_fly_135 ?_
          refine r_iload C dX6_fly_136 11 rfl ?_
          refine r_iast (ws2 := [(h0, .inr (6, [.int (iI ft), .int (iI sc), .ref u2, .ref u3, .ref u4, .ref u5, .ref u6, .ref u7, .ref u8, .int (iI rm), .int (iI wc), .ref u11, .int (iI sh), .int (iI k), .ref u14, .int (iI cnt), .ref u16, .int (iI gf), .int (iI gs), .int (iI rc), .ref u20, .ref u21, .ref u22, .ref u23, .ref u24, .int (iI tc)])), (u2, .inl (X.2.1.1, 8, .inl (iF Wt))), (u3, .inl (X.2.1.1, 8, .inl (iF Wd))), (u4, .inl (X.2.1.1, 8, .inl (iF Rg))), (u7, .inl (X.2.1.1, 6, .inl (iF Ru))), (u11, .inl (X.2.1.1, 20, .inl (iF Fw))), (u14, .inl (X.2.1.1, 810, .inl (iF (updI (updI (updI (updI (updI G (Int.toNat ((9 * k) + 1)) xq) (Int.toNat ((9 * k) + 2)) sq) (Int.toNat ((9 * k) + 3)) fq) (Int.toNat ((9 * k) + 4)) lq) (Int.toNat ((9 * k) + 5)) nq))))]) C dX6_fly_138 6 rfl (by omega) (by decide) rfl ?_
          refine r_aload_n C dX6_fly_139 5 rfl ?_
          refine gf_6_14 C hi_X6_fly_6 kw_X6_fly_2 dX6_fly_140 0 rfl rfl ?_
          refine r_iload C dX6_fly_143 3 rfl ?_
          refine r_bipush C dX6_fly_145 (by decide) ?_
          refine r_iadd C dX6_fly_147 ?_
          refine r_iload C dX6_fly_148 2 rfl ?_
          refine r_iast (ws2 := [(h0, .inr (6, [.int (iI ft), .int (iI sc), .ref u2, .ref u3, .ref u4, .ref u5, .ref u6, .ref u7, .ref u8, .int (iI rm), .int (iI wc), .ref u11, .int (iI sh), .int (iI k), .ref u14, .int (iI cnt), .ref u16, .int (iI gf), .int (iI gs), .int (iI rc), .ref u20, .ref u21, .ref u22, .ref u23, .ref u24, .int (iI tc)])), (u2, .inl (X.2.1.1, 8, .inl (iF Wt))), (u3, .inl (X.2.1.1, 8, .inl (iF Wd))), (u4, .inl (X.2.1.1, 8, .inl (iF Rg))), (u7, .inl (X.2.1.1, 6, .inl (iF Ru))), (u11, .inl (X.2.1.1, 20, .inl (iF Fw))), (u14, .inl (X.2.1.1, 810, .inl (iF (updI (updI (updI (updI (updI (updI G (Int.toNat ((9 * k) + 1)) xq) (Int.toNat ((9 * k) + 2)) sq) (Int.toNat ((9 * k) + 3)) fq) (Int.toNat ((9 * k) + 4)) lq) (Int.toNat ((9 * k) + 5)) nq) (Int.toNat ((9 * k) + 6)) (lq + (Fw (Int.toNat ((xq + sh) % wc))))))))]) C dX6_fly_150 6 rfl (by omega) (by decide) rfl ?_
          refine r_aload_n C dX6_fly_151 5 rfl ?_
          refine gf_6_14 C hi_X6_fly_6 kw_X6_fly_2 dX6_fly_152 0 rfl rfl ?_
          refine r_iload C dX6_fly_155 3 rfl ?_
          refine r_bipush C dX6_fly_157 (by decide) ?_
          refine r_iadd C dX6_fly_159 ?_
          refine r_iload C dX6_fly_160 12 rfl ?_
          refine r_iast (ws2 := [(h0, .inr (6, [.int (iI ft), .int (iI sc), .ref u2, .ref u3, .ref u4, .ref u5, .ref u6, .ref u7, .ref u8, .int (iI rm), .int (iI wc), .ref u11, .int (iI sh), .int (iI k), .ref u14, .int (iI cnt), .ref u16, .int (iI gf), .int (iI gs), .int (iI rc), .ref u20, .ref u21, .ref u22, .ref u23, .ref u24, .int (iI tc)])), (u2, .inl (X.2.1.1, 8, .inl (iF Wt))), (u3, .inl (X.2.1.1, 8, .inl (iF Wd))), (u4, .inl (X.2.1.1, 8, .inl (iF Rg))), (u7, .inl (X.2.1.1, 6, .inl (iF Ru))), (u11, .inl (X.2.1.1, 20, .inl (iF Fw))), (u14, .inl (X.2.1.1, 810, .inl (iF (updI (updI (updI (updI (updI (updI (updI G (Int.toNat ((9 * k) + 1)) xq) (Int.toNat ((9 * k) + 2)) sq) (Int.toNat ((9 * k) + 3)) fq) (Int.toNat ((9 * k) + 4)) lq) (Int.toNat ((9 * k) + 5)) nq) (Int.toNat ((9 * k) + 6)) (lq + (Fw (Int.toNat ((xq + sh) % wc))))) (Int.toNat ((9 * k) + 8)) bq))))]) C dX6_fly_162 6 rfl (by omega) (by decide) rfl ?_
          refine r_aload_n C dX6_fly_163 5 rfl ?_
          refine r_dup C dX6_fly_164 rfl ?_
          refine gf_6_13 C hi_X6_fly_6 kw_X6_fly_0 dX6_fly_165 0 rfl rfl ?_
          refine r_iconst C dX6_fly_168 ?_
          refine r_iadd C dX6_fly_169 ?_
          refine pf_6_13 (ws2 := [(h0, .inr (6, [.int (iI ft), .int (iI sc), .ref u2, .ref u3, .ref u4, .ref u5, .ref u6, .ref u7, .ref u8, .int (iI rm), .int (iI wc), .ref u11, .int (iI sh), .int (iI (k + 1)), .ref u14, .int (iI cnt), .ref u16, .int (iI gf), .int (iI gs), .int (iI rc), .ref u20, .ref u21, .ref u22, .ref u23, .ref u24, .int (iI tc)])), (u2, .inl (X.2.1.1, 8, .inl (iF Wt))), (u3, .inl (X.2.1.1, 8, .inl (iF Wd))), (u4, .inl (X.2.1.1, 8, .inl (iF Rg))), (u7, .inl (X.2.1.1, 6, .inl (iF Ru))), (u11, .inl (X.2.1.1, 20, .inl (iF Fw))), (u14, .inl (X.2.1.1, 810, .inl (iF (updI (updI (updI (updI (updI (updI (updI G (Int.toNat ((9 * k) + 1)) xq) (Int.toNat ((9 * k) + 2)) sq) (Int.toNat ((9 * k) + 3)) fq) (Int.toNat ((9 * k) + 4)) lq) (Int.toNat ((9 * k) + 5)) nq) (Int.toNat ((9 * k) + 6)) (lq + (Fw (Int.toNat ((xq + sh) % wc))))) (Int.toNat ((9 * k) + 8)) bq))))]) C hi_X6_fly_6 kw_X6_fly_0 dX6_fly_170 0 rfl rfl rfl (Nat.le_of_ble_eq_true rfl) rfl ?_
          refine r_iload C dX6_fly_173 1 rfl ?_
          refine r_if_eq (tgt := 198) C dX6_fly_175 (by decide) (by decide) (fun h_6 => ?_) (fun h_6 => absurd h_6 (by decide))
          have q5 := mulB (a := sq) (b := (Ru (Int.toNat 1)) + (lq + (Fw (Int.toNat ((xq + sh) % wc)))) + (Rg (Int.toNat x))) (A := 300) (B := 104) (by omega) (by omega)
          refine r_iload C dX6_fly_198 8 rfl ?_
          refine r_aload_n C dX6_fly_200 5 rfl ?_
          refine gf_6_7 C hi_X6_fly_6 kw_X6_fly_1 dX6_fly_201 0 rfl rfl ?_
          refine r_iconst C dX6_fly_204 ?_
          refine r_iald C dX6_fly_205 4 rfl (by omega) (by decide) ?_
          refine r_iload C dX6_fly_206 2 rfl ?_
          refine r_iadd C dX6_fly_208 ?_
          refine r_aload_n C dX6_fly_209 5 rfl ?_
          refine gf_6_4 C hi_X6_fly_6 kw_X6_fly_3 dX6_fly_210 0 rfl rfl ?_
          refine r_iload_n C dX6_fly_213 6 rfl ?_
          refine r_iald C dX6_fly_214 3 rfl (by omega) (by decide) ?_
          refine r_iadd C dX6_fly_215 ?_
          refine r_imul C dX6_fly_216 ?_
          refine r_iload C dX6_fly_217 0 rfl ?_
          refine r_if_eq (tgt := 227) C dX6_fly_219 (by decide) (by decide) (fun h_7 => ?_) (fun h_7 => absurd h_7 (by decide))
          refine r_bipush C dX6_fly_227 (by decide) ?_
          refine r_idiv C dX6_fly_229 (by have := hFw (Int.toNat ((xq + sh) % wc)); omega) (by omega) ?_
          refine r_iconst C dX6_fly_230 ?_
          refine r_iadd C dX6_fly_231 ?_
          refine r_topi (z := (fTk (Ru (Int.toNat 1)) (Ru (Int.toNat 5)) (Rg (Int.toNat x)) sq (lq + (Fw (Int.toNat ((xq + sh) % wc)))))) (by simp only [fTk]; first | (rw [if_pos (by omega)]; done) | (rw [if_neg (by omega)]; done)) ?_
          refine r_istore (lo2 := [(17, .int (iI (fTk (Ru (Int.toNat 1)) (Ru (Int.toNat 5)) (Rg (Int.toNat x)) sq (lq + (Fw (Int.toNat ((xq + sh) % wc))))))), (16, .int (iI 0)), (15, .int (iI 0)), (14, .int (iI (lq + (Fw (Int.toNat ((xq + sh) % wc)))))), (13, .int (iI (9 * k))), (12, .int (iI 1)), (0, .ref h0), (1, .int (iI x)), (6, .int (iI xq)), (7, .int (iI sq)), (8, .int (iI fq)), (9, .int (iI lq)), (10, .int (iI nq)), (11, .int (iI bq))]) C dX6_fly_232 (by decide) rfl ?_
          have q6 := mulB (a := fq) (b := (Ru (Int.toNat 2))) (A := 99) (B := 99) (by omega) (by omega)
          refine r_iload C dX6_fly_234 1 rfl ?_
          refine r_if_eq (tgt := 244) C dX6_fly_236 (by decide) (by decide) (fun h_8 => ?_) (fun h_8 => absurd h_8 (by decide))
          refine r_iconst C dX6_fly_244 ?_
          refine r_iload C dX6_fly_245 10 rfl ?_
          refine r_aload_n C dX6_fly_247 6 rfl ?_
          refine gf_6_7 C hi_X6_fly_6 kw_X6_fly_1 dX6_fly_248 0 rfl rfl ?_
          refine r_iconst C dX6_fly_251 ?_
          refine r_iald C dX6_fly_252 4 rfl (by omega) (by decide) ?_
          refine r_imul C dX6_fly_253 ?_
          refine r_bipush C dX6_fly_254 (by decide) ?_
          refine r_idiv C dX6_fly_256 (by omega) (by omega) ?_
          refine g_S_i (ws2 := (fun _ => [(h0, .inr (6, [.int (iI ft), .int (iI sc), .ref u2, .ref u3, .ref u4, .ref u5, .ref u6, .ref u7, .ref u8, .int (iI rm), .int (iI wc), .ref u11, .int (iI sh), .int (iI (k + 1)), .ref u14, .int (iI cnt), .ref u16, .int (iI gf), .int (iI gs), .int (iI rc), .ref u20, .ref u21, .ref u22, .ref u23, .ref u24, .int (iI tc)])), (u2, .inl (X.2.1.1, 8, .inl (iF Wt))), (u3, .inl (X.2.1.1, 8, .inl (iF Wd))), (u4, .inl (X.2.1.1, 8, .inl (iF Rg))), (u7, .inl (X.2.1.1, 6, .inl (iF Ru))), (u11, .inl (X.2.1.1, 20, .inl (iF Fw))), (u14, .inl (X.2.1.1, 810, .inl (iF (updI (updI (updI (updI (updI (updI (updI G (Int.toNat ((9 * k) + 1)) xq) (Int.toNat ((9 * k) + 2)) sq) (Int.toNat ((9 * k) + 3)) fq) (Int.toNat ((9 * k) + 4)) lq) (Int.toNat ((9 * k) + 5)) nq) (Int.toNat ((9 * k) + 6)) (lq + (Fw (Int.toNat ((xq + sh) % wc))))) (Int.toNat ((9 * k) + 8)) bq))))])) (As := [.int (iI 1), .int (iI ((fq * (Ru (Int.toNat 2))) / 100))]) C (c_X6_greater l X 1 ((fq * (Ru (Int.toNat 2))) / 100) (by first | assumption | omega) (by first | assumption | omega)) gX6_fly_X6_greater rfl rfl rfl hd_S_X6_greater_X6_fly (by decide) dX6_fly_257 [] [0, 1, 2, 3, 4, 5, 6] [0, 1, 2, 3, 4, 5, 6] rfl rfl rfl rfl (by decide) rfl rfl rfl (Nat.le_of_ble_eq_true rfl) (by decide) (fun _ => rfl) (fun _ hy_ => ?_)
          clear hy_
          refine r_topi (z := (fFl (Ru (Int.toNat 2)) (Ru (Int.toNat 5)) fq (lq + (Fw (Int.toNat ((xq + sh) % wc)))))) (by simp only [fFl]; first | (rw [if_pos (by omega)]; done) | (rw [if_neg (by omega)]; done)) ?_
          refine r_istore (lo2 := [(8, .int (iI (fFl (Ru (Int.toNat 2)) (Ru (Int.toNat 5)) fq (lq + (Fw (Int.toNat ((xq + sh) % wc))))))), (17, .int (iI (fTk (Ru (Int.toNat 1)) (Ru (Int.toNat 5)) (Rg (Int.toNat x)) sq (lq + (Fw (Int.toNat ((xq + sh) % wc))))))), (16, .int (iI 0)), (15, .int (iI 0)), (14, .int (iI (lq + (Fw (Int.toNat ((xq + sh) % wc)))))), (13, .int (iI (9 * k))), (12, .int (iI 1)), (0, .ref h0), (1, .int (iI x)), (6, .int (iI xq)), (7, .int (iI sq)), (9, .int (iI lq)), (10, .int (iI nq)), (11, .int (iI bq))]) C dX6_fly_260 (by decide) rfl ?_
          have q7 := fTk_B (l2 := (Ru (Int.toNat 1))) (l6 := (Ru (Int.toNat 5))) (rg := (Rg (Int.toNat x))) (sp := sq) (ti := (lq + (Fw (Int.toNat ((xq + sh) % wc))))) (by omega) (by omega)
          have q8 := fFl_B (l3 := (Ru (Int.toNat 2))) (l6 := (Ru (Int.toNat 5))) (fa := fq) (ti := (lq + (Fw (Int.toNat ((xq + sh) % wc))))) (by omega) (by omega)
          have q10 := fSn_B (sn := nq) (by omega)
          have q11 := fSl_B (nd := (Ru (Int.toNat 3))) (sl := lq) (sn := fSn nq) (by omega) (by omega) (by omega)
          have q9 := mulB (a := (max 0 (sq - (fTk (Ru (Int.toNat 1)) (Ru (Int.toNat 5)) (Rg (Int.toNat x)) sq (lq + (Fw (Int.toNat ((xq + sh) % wc)))))))) (b := (fFl (Ru (Int.toNat 2)) (Ru (Int.toNat 5)) fq (lq + (Fw (Int.toNat ((xq + sh) % wc)))))) (A := 300) (B := 99) (by omega) (by omega)
          refine r_aload_n C dX6_fly_262 7 rfl ?_
          refine gf_6_14 C hi_X6_fly_6 kw_X6_fly_2 dX6_fly_263 0 rfl rfl ?_
          refine r_iload C dX6_fly_266 5 rfl ?_
          refine r_iload C dX6_fly_268 2 rfl ?_
          refine r_if_eq (tgt := 277) C dX6_fly_270 (by decide) (by decide) (fun h_9 => ?_) (fun h_9 => absurd h_9 (by decide))
          refine r_iload C dX6_fly_277 0 rfl ?_
          refine r_aload_n C dX6_fly_279 7 rfl ?_
          refine gf_6_7 C hi_X6_fly_6 kw_X6_fly_1 dX6_fly_280 0 rfl rfl ?_
          refine r_iconst C dX6_fly_283 ?_
          refine r_iald C dX6_fly_284 4 rfl (by omega) (by decide) ?_
          refine r_icmp_gt (tgt := 292) C dX6_fly_285 (by decide) (by have := hFw (Int.toNat ((xq + sh) % wc)); omega) (by omega) (fun h_10 => ?_) (fun h_10 => ?_)
          · skip
            refine r_iconst C dX6_fly_292 ?_
            refine r_topi (z := (fKd (Ru (Int.toNat 4)) (Ru (Int.toNat 5)) (lq + (Fw (Int.toNat ((xq + sh) % wc)))) (fFl (Ru (Int.toNat 2)) (Ru (Int.toNat 5)) fq (lq + (Fw (Int.toNat ((xq + sh) % wc))))))) (by simp only [fKd]; first | (rw [if_pos (by omega)]; done) | (rw [if_neg (by omega), if_pos (by omega)]; done) | (rw [if_neg (by omega), if_neg (by omega)]; done)) ?_
            refine r_iast (ws2 := [(h0, .inr (6, [.int (iI ft), .int (iI sc), .ref u2, .ref u3, .ref u4, .ref u5, .ref u6, .ref u7, .ref u8, .int (iI rm), .int (iI wc), .ref u11, .int (iI sh), .int (iI (k + 1)), .ref u14, .int (iI cnt), .ref u16, .int (iI gf), .int (iI gs), .int (iI rc), .ref u20, .ref u21, .ref u22, .ref u23, .ref u24, .int (iI tc)])), (u2, .inl (X.2.1.1, 8, .inl (iF Wt))), (u3, .inl (X.2.1.1, 8, .inl (iF Wd))), (u4, .inl (X.2.1.1, 8, .inl (iF Rg))), (u7, .inl (X.2.1.1, 6, .inl (iF Ru))), (u11, .inl (X.2.1.1, 20, .inl (iF Fw))), (u14, .inl (X.2.1.1, 810, .inl (iF (updI (updI (updI (updI (updI (updI (updI (updI G (Int.toNat ((9 * k) + 1)) xq) (Int.toNat ((9 * k) + 2)) sq) (Int.toNat ((9 * k) + 3)) fq) (Int.toNat ((9 * k) + 4)) lq) (Int.toNat ((9 * k) + 5)) nq) (Int.toNat ((9 * k) + 6)) (lq + (Fw (Int.toNat ((xq + sh) % wc))))) (Int.toNat ((9 * k) + 8)) bq) (Int.toNat (9 * k)) (fKd (Ru (Int.toNat 4)) (Ru (Int.toNat 5)) (lq + (Fw (Int.toNat ((xq + sh) % wc)))) (fFl (Ru (Int.toNat 2)) (Ru (Int.toNat 5)) fq (lq + (Fw (Int.toNat ((xq + sh) % wc))))))))))]) C dX6_fly_293 6 rfl (by omega) (by decide) rfl ?_
            refine r_iconst C dX6_fly_294 ?_
            refine r_iload C dX6_fly_295 10 rfl ?_
            refine r_iload C dX6_fly_297 1 rfl ?_
            refine r_isub C dX6_fly_299 ?_
            refine g_S_i (ws2 := (fun _ => [(h0, .inr (6, [.int (iI ft), .int (iI sc), .ref u2, .ref u3, .ref u4, .ref u5, .ref u6, .ref u7, .ref u8, .int (iI rm), .int (iI wc), .ref u11, .int (iI sh), .int (iI (k + 1)), .ref u14, .int (iI cnt), .ref u16, .int (iI gf), .int (iI gs), .int (iI rc), .ref u20, .ref u21, .ref u22, .ref u23, .ref u24, .int (iI tc)])), (u2, .inl (X.2.1.1, 8, .inl (iF Wt))), (u3, .inl (X.2.1.1, 8, .inl (iF Wd))), (u4, .inl (X.2.1.1, 8, .inl (iF Rg))), (u7, .inl (X.2.1.1, 6, .inl (iF Ru))), (u11, .inl (X.2.1.1, 20, .inl (iF Fw))), (u14, .inl (X.2.1.1, 810, .inl (iF (updI (updI (updI (updI (updI (updI (updI (updI G (Int.toNat ((9 * k) + 1)) xq) (Int.toNat ((9 * k) + 2)) sq) (Int.toNat ((9 * k) + 3)) fq) (Int.toNat ((9 * k) + 4)) lq) (Int.toNat ((9 * k) + 5)) nq) (Int.toNat ((9 * k) + 6)) (lq + (Fw (Int.toNat ((xq + sh) % wc))))) (Int.toNat ((9 * k) + 8)) bq) (Int.toNat (9 * k)) (fKd (Ru (Int.toNat 4)) (Ru (Int.toNat 5)) (lq + (Fw (Int.toNat ((xq + sh) % wc)))) (fFl (Ru (Int.toNat 2)) (Ru (Int.toNat 5)) fq (lq + (Fw (Int.toNat ((xq + sh) % wc))))))))))])) (As := [.int (iI 0), .int (iI (sq - (fTk (Ru (Int.toNat 1)) (Ru (Int.toNat 5)) (Rg (Int.toNat x)) sq (lq + (Fw (Int.toNat ((xq + sh) % wc)))))))]) C (c_X6_greater l X 0 (sq - (fTk (Ru (Int.toNat 1)) (Ru (Int.toNat 5)) (Rg (Int.toNat x)) sq (lq + (Fw (Int.toNat ((xq + sh) % wc)))))) (by first | assumption | omega) (by first | assumption | have := hFw (Int.toNat ((xq + sh) % wc)); omega)) gX6_fly_X6_greater rfl rfl rfl hd_S_X6_greater_X6_fly (by decide) dX6_fly_300 [] [0, 1, 2, 3, 4, 5, 6] [0, 1, 2, 3, 4, 5, 6] rfl rfl rfl rfl (by decide) rfl rfl rfl (Nat.le_of_ble_eq_true rfl) (by decide) (fun _ => rfl) (fun _ hy_ => ?_)
            clear hy_
            refine r_istore (lo2 := [(18, .int (iI (max 0 (sq - (fTk (Ru (Int.toNat 1)) (Ru (Int.toNat 5)) (Rg (Int.toNat x)) sq (lq + (Fw (Int.toNat ((xq + sh) % wc))))))))), (8, .int (iI (fFl (Ru (Int.toNat 2)) (Ru (Int.toNat 5)) fq (lq + (Fw (Int.toNat ((xq + sh) % wc))))))), (17, .int (iI (fTk (Ru (Int.toNat 1)) (Ru (Int.toNat 5)) (Rg (Int.toNat x)) sq (lq + (Fw (Int.toNat ((xq + sh) % wc))))))), (16, .int (iI 0)), (15, .int (iI 0)), (14, .int (iI (lq + (Fw (Int.toNat ((xq + sh) % wc)))))), (13, .int (iI (9 * k))), (12, .int (iI 1)), (0, .ref h0), (1, .int (iI x)), (6, .int (iI xq)), (7, .int (iI sq)), (9, .int (iI lq)), (10, .int (iI nq)), (11, .int (iI bq))]) C dX6_fly_303 (by decide) rfl ?_
            refine r_aload_n C dX6_fly_305 8 rfl ?_
            refine gf_6_14 C hi_X6_fly_6 kw_X6_fly_2 dX6_fly_306 0 rfl rfl ?_
            refine r_iload C dX6_fly_309 6 rfl ?_
            refine r_bipush C dX6_fly_311 (by decide) ?_
            refine r_iadd C dX6_fly_313 ?_
            refine r_iload C dX6_fly_314 2 rfl ?_
            refine r_iast (ws2 := [(h0, .inr (6, [.int (iI ft), .int (iI sc), .ref u2, .ref u3, .ref u4, .ref u5, .ref u6, .ref u7, .ref u8, .int (iI rm), .int (iI wc), .ref u11, .int (iI sh), .int (iI (k + 1)), .ref u14, .int (iI cnt), .ref u16, .int (iI gf), .int (iI gs), .int (iI rc), .ref u20, .ref u21, .ref u22, .ref u23, .ref u24, .int (iI tc)])), (u2, .inl (X.2.1.1, 8, .inl (iF Wt))), (u3, .inl (X.2.1.1, 8, .inl (iF Wd))), (u4, .inl (X.2.1.1, 8, .inl (iF Rg))), (u7, .inl (X.2.1.1, 6, .inl (iF Ru))), (u11, .inl (X.2.1.1, 20, .inl (iF Fw))), (u14, .inl (X.2.1.1, 810, .inl (iF (updI (updI (updI (updI (updI (updI (updI (updI (updI G (Int.toNat ((9 * k) + 1)) xq) (Int.toNat ((9 * k) + 2)) sq) (Int.toNat ((9 * k) + 3)) fq) (Int.toNat ((9 * k) + 4)) lq) (Int.toNat ((9 * k) + 5)) nq) (Int.toNat ((9 * k) + 6)) (lq + (Fw (Int.toNat ((xq + sh) % wc))))) (Int.toNat ((9 * k) + 8)) bq) (Int.toNat (9 * k)) (fKd (Ru (Int.toNat 4)) (Ru (Int.toNat 5)) (lq + (Fw (Int.toNat ((xq + sh) % wc)))) (fFl (Ru (Int.toNat 2)) (Ru (Int.toNat 5)) fq (lq + (Fw (Int.toNat ((xq + sh) % wc))))))) (Int.toNat ((9 * k) + 7)) (fTk (Ru (Int.toNat 1)) (Ru (Int.toNat 5)) (Rg (Int.toNat x)) sq (lq + (Fw (Int.toNat ((xq + sh) % wc)))))))))]) C dX6_fly_316 6 rfl (by omega) (by decide) rfl ?_
            refine r_iload C dX6_fly_317 0 rfl ?_
            refine r_istore (lo2 := [(7, .int (iI (max 0 (sq - (fTk (Ru (Int.toNat 1)) (Ru (Int.toNat 5)) (Rg (Int.toNat x)) sq (lq + (Fw (Int.toNat ((xq + sh) % wc))))))))), (18, .int (iI (max 0 (sq - (fTk (Ru (Int.toNat 1)) (Ru (Int.toNat 5)) (Rg (Int.toNat x)) sq (lq + (Fw (Int.toNat ((xq + sh) % wc))))))))), (8, .int (iI (fFl (Ru (Int.toNat 2)) (Ru (Int.toNat 5)) fq (lq + (Fw (Int.toNat ((xq + sh) % wc))))))), (17, .int (iI (fTk (Ru (Int.toNat 1)) (Ru (Int.toNat 5)) (Rg (Int.toNat x)) sq (lq + (Fw (Int.toNat ((xq + sh) % wc))))))), (16, .int (iI 0)), (15, .int (iI 0)), (14, .int (iI (lq + (Fw (Int.toNat ((xq + sh) % wc)))))), (13, .int (iI (9 * k))), (12, .int (iI 1)), (0, .ref h0), (1, .int (iI x)), (6, .int (iI xq)), (9, .int (iI lq)), (10, .int (iI nq)), (11, .int (iI bq))]) C dX6_fly_319 (by decide) rfl ?_
            refine r_iconst C dX6_fly_321 ?_
            refine r_iload C dX6_fly_322 13 rfl ?_
            refine r_iload C dX6_fly_324 13 rfl ?_
            refine r_bipush C dX6_fly_326 (by decide) ?_
            refine r_idiv C dX6_fly_328 (by omega) (by omega) ?_
            refine r_isub C dX6_fly_329 ?_
            refine r_iconst C dX6_fly_330 ?_
            refine r_isub C dX6_fly_331 ?_
            refine g_S_i (ws2 := (fun _ => [(h0, .inr (6, [.int (iI ft), .int (iI sc), .ref u2, .ref u3, .ref u4, .ref u5, .ref u6, .ref u7, .ref u8, .int (iI rm), .int (iI wc), .ref u11, .int (iI sh), .int (iI (k + 1)), .ref u14, .int (iI cnt), .ref u16, .int (iI gf), .int (iI gs), .int (iI rc), .ref u20, .ref u21, .ref u22, .ref u23, .ref u24, .int (iI tc)])), (u2, .inl (X.2.1.1, 8, .inl (iF Wt))), (u3, .inl (X.2.1.1, 8, .inl (iF Wd))), (u4, .inl (X.2.1.1, 8, .inl (iF Rg))), (u7, .inl (X.2.1.1, 6, .inl (iF Ru))), (u11, .inl (X.2.1.1, 20, .inl (iF Fw))), (u14, .inl (X.2.1.1, 810, .inl (iF (updI (updI (updI (updI (updI (updI (updI (updI (updI G (Int.toNat ((9 * k) + 1)) xq) (Int.toNat ((9 * k) + 2)) sq) (Int.toNat ((9 * k) + 3)) fq) (Int.toNat ((9 * k) + 4)) lq) (Int.toNat ((9 * k) + 5)) nq) (Int.toNat ((9 * k) + 6)) (lq + (Fw (Int.toNat ((xq + sh) % wc))))) (Int.toNat ((9 * k) + 8)) bq) (Int.toNat (9 * k)) (fKd (Ru (Int.toNat 4)) (Ru (Int.toNat 5)) (lq + (Fw (Int.toNat ((xq + sh) % wc)))) (fFl (Ru (Int.toNat 2)) (Ru (Int.toNat 5)) fq (lq + (Fw (Int.toNat ((xq + sh) % wc))))))) (Int.toNat ((9 * k) + 7)) (fTk (Ru (Int.toNat 1)) (Ru (Int.toNat 5)) (Rg (Int.toNat x)) sq (lq + (Fw (Int.toNat ((xq + sh) % wc)))))))))])) (As := [.int (iI 0), .int (iI ((nq - (nq / 10)) - 1))]) C (c_X6_greater l X 0 ((nq - (nq / 10)) - 1) (by first | assumption | omega) (by first | assumption | omega)) gX6_fly_X6_greater rfl rfl rfl hd_S_X6_greater_X6_fly (by decide) dX6_fly_332 [] [0, 1, 2, 3, 4, 5, 6] [0, 1, 2, 3, 4, 5, 6] rfl rfl rfl rfl (by decide) rfl rfl rfl (Nat.le_of_ble_eq_true rfl) (by decide) (fun _ => rfl) (fun _ hy_ => ?_)
            clear hy_
            refine r_topi (z := (fSn nq)) (by unfold fSn; omega) ?_
            refine r_istore (lo2 := [(10, .int (iI (fSn nq))), (7, .int (iI (max 0 (sq - (fTk (Ru (Int.toNat 1)) (Ru (Int.toNat 5)) (Rg (Int.toNat x)) sq (lq + (Fw (Int.toNat ((xq + sh) % wc))))))))), (18, .int (iI (max 0 (sq - (fTk (Ru (Int.toNat 1)) (Ru (Int.toNat 5)) (Rg (Int.toNat x)) sq (lq + (Fw (Int.toNat ((xq + sh) % wc))))))))), (8, .int (iI (fFl (Ru (Int.toNat 2)) (Ru (Int.toNat 5)) fq (lq + (Fw (Int.toNat ((xq + sh) % wc))))))), (17, .int (iI (fTk (Ru (Int.toNat 1)) (Ru (Int.toNat 5)) (Rg (Int.toNat x)) sq (lq + (Fw (Int.toNat ((xq + sh) % wc))))))), (16, .int (iI 0)), (15, .int (iI 0)), (14, .int (iI (lq + (Fw (Int.toNat ((xq + sh) % wc)))))), (13, .int (iI (9 * k))), (12, .int (iI 1)), (0, .ref h0), (1, .int (iI x)), (6, .int (iI xq)), (9, .int (iI lq)), (11, .int (iI bq))]) C dX6_fly_335 (by decide) rfl ?_
            refine r_iload C dX6_fly_337 13 rfl ?_
            refine r_iload C dX6_fly_339 0 rfl ?_
            refine r_aload_n C dX6_fly_341 10 rfl ?_
            refine gf_6_7 C hi_X6_fly_6 kw_X6_fly_1 dX6_fly_342 0 rfl rfl ?_
            refine r_iconst C dX6_fly_345 ?_
            refine r_iald C dX6_fly_346 4 rfl (by omega) (by decide) ?_
            refine r_icmp_ge (tgt := 364) C dX6_fly_347 (by decide) (by omega) (by omega) (fun h_11 => ?_) (fun h_11 => ?_)
            · skip
              refine r_iconst C dX6_fly_364 ?_
              refine r_iadd C dX6_fly_365 ?_
              refine r_topi (z := (fSl (Ru (Int.toNat 3)) lq (fSn nq))) (by unfold fSl; first | (rw [if_pos (by omega)]; done) | (rw [if_neg (by omega)]; omega)) ?_
              refine r_istore (lo2 := [(9, .int (iI (fSl (Ru (Int.toNat 3)) lq (fSn nq)))), (10, .int (iI (fSn nq))), (7, .int (iI (max 0 (sq - (fTk (Ru (Int.toNat 1)) (Ru (Int.toNat 5)) (Rg (Int.toNat x)) sq (lq + (Fw (Int.toNat ((xq + sh) % wc))))))))), (18, .int (iI (max 0 (sq - (fTk (Ru (Int.toNat 1)) (Ru (Int.toNat 5)) (Rg (Int.toNat x)) sq (lq + (Fw (Int.toNat ((xq + sh) % wc))))))))), (8, .int (iI (fFl (Ru (Int.toNat 2)) (Ru (Int.toNat 5)) fq (lq + (Fw (Int.toNat ((xq + sh) % wc))))))), (17, .int (iI (fTk (Ru (Int.toNat 1)) (Ru (Int.toNat 5)) (Rg (Int.toNat x)) sq (lq + (Fw (Int.toNat ((xq + sh) % wc))))))), (16, .int (iI 0)), (15, .int (iI 0)), (14, .int (iI (lq + (Fw (Int.toNat ((xq + sh) % wc)))))), (13, .int (iI (9 * k))), (12, .int (iI 1)), (0, .ref h0), (1, .int (iI x)), (6, .int (iI xq)), (11, .int (iI bq))]) C dX6_fly_366 (by decide) rfl ?_
              refine r_iload C dX6_fly_368 2 rfl ?_
              refine r_if_le (tgt := 386) C dX6_fly_370 (by decide) (by have := hFw (Int.toNat ((xq + sh) % wc)); omega) (fun h_12 => ?_) (fun h_12 => ?_)
              · skip
                refine r_iconst C dX6_fly_386 ?_
                refine r_istore (lo2 := [(12, .int (iI 0)), (9, .int (iI (fSl (Ru (Int.toNat 3)) lq (fSn nq)))), (10, .int (iI (fSn nq))), (7, .int (iI (max 0 (sq - (fTk (Ru (Int.toNat 1)) (Ru (Int.toNat 5)) (Rg (Int.toNat x)) sq (lq + (Fw (Int.toNat ((xq + sh) % wc))))))))), (18, .int (iI (max 0 (sq - (fTk (Ru (Int.toNat 1)) (Ru (Int.toNat 5)) (Rg (Int.toNat x)) sq (lq + (Fw (Int.toNat ((xq + sh) % wc))))))))), (8, .int (iI (fFl (Ru (Int.toNat 2)) (Ru (Int.toNat 5)) fq (lq + (Fw (Int.toNat ((xq + sh) % wc))))))), (17, .int (iI (fTk (Ru (Int.toNat 1)) (Ru (Int.toNat 5)) (Rg (Int.toNat x)) sq (lq + (Fw (Int.toNat ((xq + sh) % wc))))))), (16, .int (iI 0)), (15, .int (iI 0)), (14, .int (iI (lq + (Fw (Int.toNat ((xq + sh) % wc)))))), (13, .int (iI (9 * k))), (0, .ref h0), (1, .int (iI x)), (6, .int (iI xq)), (11, .int (iI bq))]) C dX6_fly_387 (by decide) rfl ?_
                refine r_iload C dX6_fly_389 13 rfl ?_
                refine r_iload C dX6_fly_391 3 rfl ?_
                refine r_iload C dX6_fly_393 5 rfl ?_
                refine r_imul C dX6_fly_395 ?_
                refine r_bipush C dX6_fly_396 (by decide) ?_
                refine r_idiv C dX6_fly_398 (by have := hFw (Int.toNat ((xq + sh) % wc)); omega) (by omega) ?_
                refine r_iadd C dX6_fly_399 ?_
                refine r_istore (lo2 := [(6, .int (iI (xq + (((max 0 (sq - (fTk (Ru (Int.toNat 1)) (Ru (Int.toNat 5)) (Rg (Int.toNat x)) sq (lq + (Fw (Int.toNat ((xq + sh) % wc))))))) * (fFl (Ru (Int.toNat 2)) (Ru (Int.toNat 5)) fq (lq + (Fw (Int.toNat ((xq + sh) % wc)))))) / 20)))), (12, .int (iI 0)), (9, .int (iI (fSl (Ru (Int.toNat 3)) lq (fSn nq)))), (10, .int (iI (fSn nq))), (7, .int (iI (max 0 (sq - (fTk (Ru (Int.toNat 1)) (Ru (Int.toNat 5)) (Rg (Int.toNat x)) sq (lq + (Fw (Int.toNat ((xq + sh) % wc))))))))), (18, .int (iI (max 0 (sq - (fTk (Ru (Int.toNat 1)) (Ru (Int.toNat 5)) (Rg (Int.toNat x)) sq (lq + (Fw (Int.toNat ((xq + sh) % wc))))))))), (8, .int (iI (fFl (Ru (Int.toNat 2)) (Ru (Int.toNat 5)) fq (lq + (Fw (Int.toNat ((xq + sh) % wc))))))), (17, .int (iI (fTk (Ru (Int.toNat 1)) (Ru (Int.toNat 5)) (Rg (Int.toNat x)) sq (lq + (Fw (Int.toNat ((xq + sh) % wc))))))), (16, .int (iI 0)), (15, .int (iI 0)), (14, .int (iI (lq + (Fw (Int.toNat ((xq + sh) % wc)))))), (13, .int (iI (9 * k))), (0, .ref h0), (1, .int (iI x)), (11, .int (iI bq))]) C dX6_fly_400 (by decide) rfl ?_
                refine r_iload C dX6_fly_402 14 rfl ?_
                refine r_iload C dX6_fly_404 6 rfl ?_
                refine r_iconst C dX6_fly_406 ?_
                refine r_idiv C dX6_fly_407 (by have := hFw (Int.toNat ((xq + sh) % wc)); omega) (by omega) ?_
                refine r_iadd C dX6_fly_408 ?_
                refine r_istore (lo2 := [(11, .int (iI (bq + ((fFl (Ru (Int.toNat 2)) (Ru (Int.toNat 5)) fq (lq + (Fw (Int.toNat ((xq + sh) % wc))))) / 5)))), (6, .int (iI (xq + (((max 0 (sq - (fTk (Ru (Int.toNat 1)) (Ru (Int.toNat 5)) (Rg (Int.toNat x)) sq (lq + (Fw (Int.toNat ((xq + sh) % wc))))))) * (fFl (Ru (Int.toNat 2)) (Ru (Int.toNat 5)) fq (lq + (Fw (Int.toNat ((xq + sh) % wc)))))) / 20)))), (12, .int (iI 0)), (9, .int (iI (fSl (Ru (Int.toNat 3)) lq (fSn nq)))), (10, .int (iI (fSn nq))), (7, .int (iI (max 0 (sq - (fTk (Ru (Int.toNat 1)) (Ru (Int.toNat 5)) (Rg (Int.toNat x)) sq (lq + (Fw (Int.toNat ((xq + sh) % wc))))))))), (18, .int (iI (max 0 (sq - (fTk (Ru (Int.toNat 1)) (Ru (Int.toNat 5)) (Rg (Int.toNat x)) sq (lq + (Fw (Int.toNat ((xq + sh) % wc))))))))), (8, .int (iI (fFl (Ru (Int.toNat 2)) (Ru (Int.toNat 5)) fq (lq + (Fw (Int.toNat ((xq + sh) % wc))))))), (17, .int (iI (fTk (Ru (Int.toNat 1)) (Ru (Int.toNat 5)) (Rg (Int.toNat x)) sq (lq + (Fw (Int.toNat ((xq + sh) % wc))))))), (16, .int (iI 0)), (15, .int (iI 0)), (14, .int (iI (lq + (Fw (Int.toNat ((xq + sh) % wc)))))), (13, .int (iI (9 * k))), (0, .ref h0), (1, .int (iI x))]) C dX6_fly_409 (by decide) rfl ?_
                refine r_goto (tgt := 28) C dX6_fly_411 (by decide) ?_
                refine r_iload C dX6_fly_28 2 rfl ?_
                refine r_if_eq (tgt := 414) C dX6_fly_30 (by decide) (by decide) (fun h_13 => ?_) (fun h_13 => absurd h_13 (by decide))
                exact g_ret_v C rfl dX6_fly_414 () trivial [0, 1, 2, 3, 4, 5, 6] rfl (by first | (rw [iN, iR, fNum_stop (E := ((((Ru (Int.toNat 0)), (Ru (Int.toNat 1)), (Ru (Int.toNat 2)), (Ru (Int.toNat 3)), (Ru (Int.toNat 4)), (Ru (Int.toNat 5))), ((Wt (Int.toNat x)), (Wd (Int.toNat x)), (Rg (Int.toNat x))), (sh, wc, Fw)) : fEn)) (t := ((xq, sq, fq, lq, nq, bq) : fS)) (by omega) (Or.inl KSK), fRes_sunk (E := ((((Ru (Int.toNat 0)), (Ru (Int.toNat 1)), (Ru (Int.toNat 2)), (Ru (Int.toNat 3)), (Ru (Int.toNat 4)), (Ru (Int.toNat 5))), ((Wt (Int.toNat x)), (Wd (Int.toNat x)), (Rg (Int.toNat x))), (sh, wc, Fw)) : fEn)) (t := ((xq, sq, fq, lq, nq, bq) : fS)) (by omega) KSK, ← kpF_ref (by omega)] <;> rfl) | (rw [iN, iR, fNum_stop (E := ((((Ru (Int.toNat 0)), (Ru (Int.toNat 1)), (Ru (Int.toNat 2)), (Ru (Int.toNat 3)), (Ru (Int.toNat 4)), (Ru (Int.toNat 5))), ((Wt (Int.toNat x)), (Wd (Int.toNat x)), (Rg (Int.toNat x))), (sh, wc, Fw)) : fEn)) (t := ((xq, sq, fq, lq, nq, bq) : fS)) (by omega) (Or.inr (show (max 0 (sq - (fTk (Ru (Int.toNat 1)) (Ru (Int.toNat 5)) (Rg (Int.toNat x)) sq (lq + (Fw (Int.toNat ((xq + sh) % wc))))))) = 0 by omega)), fRes_zero (E := ((((Ru (Int.toNat 0)), (Ru (Int.toNat 1)), (Ru (Int.toNat 2)), (Ru (Int.toNat 3)), (Ru (Int.toNat 4)), (Ru (Int.toNat 5))), ((Wt (Int.toNat x)), (Wd (Int.toNat x)), (Rg (Int.toNat x))), (sh, wc, Fw)) : fEn)) (t := ((xq, sq, fq, lq, nq, bq) : fS)) (by omega) KSK (show (max 0 (sq - (fTk (Ru (Int.toNat 1)) (Ru (Int.toNat 5)) (Rg (Int.toNat x)) sq (lq + (Fw (Int.toNat ((xq + sh) % wc))))))) = 0 by omega), ← kpF_ref (by omega)] <;> rfl) | (rw [iN, iR, fNum_go (E := ((((Ru (Int.toNat 0)), (Ru (Int.toNat 1)), (Ru (Int.toNat 2)), (Ru (Int.toNat 3)), (Ru (Int.toNat 4)), (Ru (Int.toNat 5))), ((Wt (Int.toNat x)), (Wd (Int.toNat x)), (Rg (Int.toNat x))), (sh, wc, Fw)) : fEn)) (t := ((xq, sq, fq, lq, nq, bq) : fS)) (by omega) (fun q => q.elim KSK (by intro z; change (max 0 (sq - (fTk (Ru (Int.toNat 1)) (Ru (Int.toNat 5)) (Rg (Int.toNat x)) sq (lq + (Fw (Int.toNat ((xq + sh) % wc))))))) = 0 at z; omega)), fRes_go (E := ((((Ru (Int.toNat 0)), (Ru (Int.toNat 1)), (Ru (Int.toNat 2)), (Ru (Int.toNat 3)), (Ru (Int.toNat 4)), (Ru (Int.toNat 5))), ((Wt (Int.toNat x)), (Wd (Int.toNat x)), (Rg (Int.toNat x))), (sh, wc, Fw)) : fEn)) (t := ((xq, sq, fq, lq, nq, bq) : fS)) (by omega) KSK (by intro z; change (max 0 (sq - (fTk (Ru (Int.toNat 1)) (Ru (Int.toNat 5)) (Rg (Int.toNat x)) sq (lq + (Fw (Int.toNat ((xq + sh) % wc))))))) = 0 at z; omega), show (90 - (k + 1)).toNat = 0 by omega, ← kpF_ref (by omega)] <;> rfl))
              · skip
                refine r_aload_n C dX6_fly_373 11 rfl ?_
                refine gf_6_13 C hi_X6_fly_6 kw_X6_fly_0 dX6_fly_374 0 rfl rfl ?_
                refine r_bipush C dX6_fly_377 (by decide) ?_
                refine r_icmp_ge (tgt := 386) C dX6_fly_379 (by decide) (by omega) (by decide) (fun h_14 => ?_) (fun h_14 => ?_)
                · skip
                  refine r_iconst C dX6_fly_386 ?_
                  refine r_istore (lo2 := [(12, .int (iI 0)), (9, .int (iI (fSl (Ru (Int.toNat 3)) lq (fSn nq)))), (10, .int (iI (fSn nq))), (7, .int (iI (max 0 (sq - (fTk (Ru (Int.toNat 1)) (Ru (Int.toNat 5)) (Rg (Int.toNat x)) sq (lq + (Fw (Int.toNat ((xq + sh) % wc))))))))), (18, .int (iI (max 0 (sq - (fTk (Ru (Int.toNat 1)) (Ru (Int.toNat 5)) (Rg (Int.toNat x)) sq (lq + (Fw (Int.toNat ((xq + sh) % wc))))))))), (8, .int (iI (fFl (Ru (Int.toNat 2)) (Ru (Int.toNat 5)) fq (lq + (Fw (Int.toNat ((xq + sh) % wc))))))), (17, .int (iI (fTk (Ru (Int.toNat 1)) (Ru (Int.toNat 5)) (Rg (Int.toNat x)) sq (lq + (Fw (Int.toNat ((xq + sh) % wc))))))), (16, .int (iI 0)), (15, .int (iI 0)), (14, .int (iI (lq + (Fw (Int.toNat ((xq + sh) % wc)))))), (13, .int (iI (9 * k))), (0, .ref h0), (1, .int (iI x)), (6, .int (iI xq)), (11, .int (iI bq))]) C dX6_fly_387 (by decide) rfl ?_
                  refine r_iload C dX6_fly_389 13 rfl ?_
                  refine r_iload C dX6_fly_391 3 rfl ?_
                  refine r_iload C dX6_fly_393 5 rfl ?_
                  refine r_imul C dX6_fly_395 ?_
                  refine r_bipush C dX6_fly_396 (by decide) ?_
                  refine r_idiv C dX6_fly_398 (by have := hFw (Int.toNat ((xq + sh) % wc)); omega) (by omega) ?_
                  refine r_iadd C dX6_fly_399 ?_
                  refine r_istore (lo2 := [(6, .int (iI (xq + (((max 0 (sq - (fTk (Ru (Int.toNat 1)) (Ru (Int.toNat 5)) (Rg (Int.toNat x)) sq (lq + (Fw (Int.toNat ((xq + sh) % wc))))))) * (fFl (Ru (Int.toNat 2)) (Ru (Int.toNat 5)) fq (lq + (Fw (Int.toNat ((xq + sh) % wc)))))) / 20)))), (12, .int (iI 0)), (9, .int (iI (fSl (Ru (Int.toNat 3)) lq (fSn nq)))), (10, .int (iI (fSn nq))), (7, .int (iI (max 0 (sq - (fTk (Ru (Int.toNat 1)) (Ru (Int.toNat 5)) (Rg (Int.toNat x)) sq (lq + (Fw (Int.toNat ((xq + sh) % wc))))))))), (18, .int (iI (max 0 (sq - (fTk (Ru (Int.toNat 1)) (Ru (Int.toNat 5)) (Rg (Int.toNat x)) sq (lq + (Fw (Int.toNat ((xq + sh) % wc))))))))), (8, .int (iI (fFl (Ru (Int.toNat 2)) (Ru (Int.toNat 5)) fq (lq + (Fw (Int.toNat ((xq + sh) % wc))))))), (17, .int (iI (fTk (Ru (Int.toNat 1)) (Ru (Int.toNat 5)) (Rg (Int.toNat x)) sq (lq + (Fw (Int.toNat ((xq + sh) % wc))))))), (16, .int (iI 0)), (15, .int (iI 0)), (14, .int (iI (lq + (Fw (Int.toNat ((xq + sh) % wc)))))), (13, .int (iI (9 * k))), (0, .ref h0), (1, .int (iI x)), (11, .int (iI bq))]) C dX6_fly_400 (by decide) rfl ?_
                  refine r_iload C dX6_fly_402 14 rfl ?_
                  refine r_iload C dX6_fly_404 6 rfl ?_
                  refine r_iconst C dX6_fly_406 ?_
                  refine r_idiv C dX6_fly_407 (by have := hFw (Int.toNat ((xq + sh) % wc)); omega) (by omega) ?_
                  refine r_iadd C dX6_fly_408 ?_
                  refine r_istore (lo2 := [(11, .int (iI (bq + ((fFl (Ru (Int.toNat 2)) (Ru (Int.toNat 5)) fq (lq + (Fw (Int.toNat ((xq + sh) % wc))))) / 5)))), (6, .int (iI (xq + (((max 0 (sq - (fTk (Ru (Int.toNat 1)) (Ru (Int.toNat 5)) (Rg (Int.toNat x)) sq (lq + (Fw (Int.toNat ((xq + sh) % wc))))))) * (fFl (Ru (Int.toNat 2)) (Ru (Int.toNat 5)) fq (lq + (Fw (Int.toNat ((xq + sh) % wc)))))) / 20)))), (12, .int (iI 0)), (9, .int (iI (fSl (Ru (Int.toNat 3)) lq (fSn nq)))), (10, .int (iI (fSn nq))), (7, .int (iI (max 0 (sq - (fTk (Ru (Int.toNat 1)) (Ru (Int.toNat 5)) (Rg (Int.toNat x)) sq (lq + (Fw (Int.toNat ((xq + sh) % wc))))))))), (18, .int (iI (max 0 (sq - (fTk (Ru (Int.toNat 1)) (Ru (Int.toNat 5)) (Rg (Int.toNat x)) sq (lq + (Fw (Int.toNat ((xq + sh) % wc))))))))), (8, .int (iI (fFl (Ru (Int.toNat 2)) (Ru (Int.toNat 5)) fq (lq + (Fw (Int.toNat ((xq + sh) % wc))))))), (17, .int (iI (fTk (Ru (Int.toNat 1)) (Ru (Int.toNat 5)) (Rg (Int.toNat x)) sq (lq + (Fw (Int.toNat ((xq + sh) % wc))))))), (16, .int (iI 0)), (15, .int (iI 0)), (14, .int (iI (lq + (Fw (Int.toNat ((xq + sh) % wc)))))), (13, .int (iI (9 * k))), (0, .ref h0), (1, .int (iI x))]) C dX6_fly_409 (by decide) rfl ?_
                  refine r_goto (tgt := 28) C dX6_fly_411 (by decide) ?_
                  refine r_iload C dX6_fly_28 2 rfl ?_
                  refine r_if_eq (tgt := 414) C dX6_fly_30 (by decide) (by decide) (fun h_15 => ?_) (fun h_15 => absurd h_15 (by decide))
                  exact g_ret_v C rfl dX6_fly_414 () trivial [0, 1, 2, 3, 4, 5, 6] rfl (by first | (rw [iN, iR, fNum_stop (E := ((((Ru (Int.toNat 0)), (Ru (Int.toNat 1)), (Ru (Int.toNat 2)), (Ru (Int.toNat 3)), (Ru (Int.toNat 4)), (Ru (Int.toNat 5))), ((Wt (Int.toNat x)), (Wd (Int.toNat x)), (Rg (Int.toNat x))), (sh, wc, Fw)) : fEn)) (t := ((xq, sq, fq, lq, nq, bq) : fS)) (by omega) (Or.inl KSK), fRes_sunk (E := ((((Ru (Int.toNat 0)), (Ru (Int.toNat 1)), (Ru (Int.toNat 2)), (Ru (Int.toNat 3)), (Ru (Int.toNat 4)), (Ru (Int.toNat 5))), ((Wt (Int.toNat x)), (Wd (Int.toNat x)), (Rg (Int.toNat x))), (sh, wc, Fw)) : fEn)) (t := ((xq, sq, fq, lq, nq, bq) : fS)) (by omega) KSK, ← kpF_ref (by omega)] <;> rfl) | (rw [iN, iR, fNum_stop (E := ((((Ru (Int.toNat 0)), (Ru (Int.toNat 1)), (Ru (Int.toNat 2)), (Ru (Int.toNat 3)), (Ru (Int.toNat 4)), (Ru (Int.toNat 5))), ((Wt (Int.toNat x)), (Wd (Int.toNat x)), (Rg (Int.toNat x))), (sh, wc, Fw)) : fEn)) (t := ((xq, sq, fq, lq, nq, bq) : fS)) (by omega) (Or.inr (show (max 0 (sq - (fTk (Ru (Int.toNat 1)) (Ru (Int.toNat 5)) (Rg (Int.toNat x)) sq (lq + (Fw (Int.toNat ((xq + sh) % wc))))))) = 0 by omega)), fRes_zero (E := ((((Ru (Int.toNat 0)), (Ru (Int.toNat 1)), (Ru (Int.toNat 2)), (Ru (Int.toNat 3)), (Ru (Int.toNat 4)), (Ru (Int.toNat 5))), ((Wt (Int.toNat x)), (Wd (Int.toNat x)), (Rg (Int.toNat x))), (sh, wc, Fw)) : fEn)) (t := ((xq, sq, fq, lq, nq, bq) : fS)) (by omega) KSK (show (max 0 (sq - (fTk (Ru (Int.toNat 1)) (Ru (Int.toNat 5)) (Rg (Int.toNat x)) sq (lq + (Fw (Int.toNat ((xq + sh) % wc))))))) = 0 by omega), ← kpF_ref (by omega)] <;> rfl) | (rw [iN, iR, fNum_go (E := ((((Ru (Int.toNat 0)), (Ru (Int.toNat 1)), (Ru (Int.toNat 2)), (Ru (Int.toNat 3)), (Ru (Int.toNat 4)), (Ru (Int.toNat 5))), ((Wt (Int.toNat x)), (Wd (Int.toNat x)), (Rg (Int.toNat x))), (sh, wc, Fw)) : fEn)) (t := ((xq, sq, fq, lq, nq, bq) : fS)) (by omega) (fun q => q.elim KSK (by intro z; change (max 0 (sq - (fTk (Ru (Int.toNat 1)) (Ru (Int.toNat 5)) (Rg (Int.toNat x)) sq (lq + (Fw (Int.toNat ((xq + sh) % wc))))))) = 0 at z; omega)), fRes_go (E := ((((Ru (Int.toNat 0)), (Ru (Int.toNat 1)), (Ru (Int.toNat 2)), (Ru (Int.toNat 3)), (Ru (Int.toNat 4)), (Ru (Int.toNat 5))), ((Wt (Int.toNat x)), (Wd (Int.toNat x)), (Rg (Int.toNat x))), (sh, wc, Fw)) : fEn)) (t := ((xq, sq, fq, lq, nq, bq) : fS)) (by omega) KSK (by intro z; change (max 0 (sq - (fTk (Ru (Int.toNat 1)) (Ru (Int.toNat 5)) (Rg (Int.toNat x)) sq (lq + (Fw (Int.toNat ((xq + sh) % wc))))))) = 0 at z; omega), show (90 - (k + 1)).toNat = 0 by omega, ← kpF_ref (by omega)] <;> rfl))
                · skip
                  refine r_iconst C dX6_fly_382 ?_
                  refine r_goto (tgt := 387) C dX6_fly_383 (by decide) ?_
                  refine r_istore (lo2 := [(12, .int (iI 1)), (9, .int (iI (fSl (Ru (Int.toNat 3)) lq (fSn nq)))), (10, .int (iI (fSn nq))), (7, .int (iI (max 0 (sq - (fTk (Ru (Int.toNat 1)) (Ru (Int.toNat 5)) (Rg (Int.toNat x)) sq (lq + (Fw (Int.toNat ((xq + sh) % wc))))))))), (18, .int (iI (max 0 (sq - (fTk (Ru (Int.toNat 1)) (Ru (Int.toNat 5)) (Rg (Int.toNat x)) sq (lq + (Fw (Int.toNat ((xq + sh) % wc))))))))), (8, .int (iI (fFl (Ru (Int.toNat 2)) (Ru (Int.toNat 5)) fq (lq + (Fw (Int.toNat ((xq + sh) % wc))))))), (17, .int (iI (fTk (Ru (Int.toNat 1)) (Ru (Int.toNat 5)) (Rg (Int.toNat x)) sq (lq + (Fw (Int.toNat ((xq + sh) % wc))))))), (16, .int (iI 0)), (15, .int (iI 0)), (14, .int (iI (lq + (Fw (Int.toNat ((xq + sh) % wc)))))), (13, .int (iI (9 * k))), (0, .ref h0), (1, .int (iI x)), (6, .int (iI xq)), (11, .int (iI bq))]) C dX6_fly_387 (by decide) rfl ?_
                  refine r_iload C dX6_fly_389 13 rfl ?_
                  refine r_iload C dX6_fly_391 3 rfl ?_
                  refine r_iload C dX6_fly_393 5 rfl ?_
                  refine r_imul C dX6_fly_395 ?_
                  refine r_bipush C dX6_fly_396 (by decide) ?_
                  refine r_idiv C dX6_fly_398 (by have := hFw (Int.toNat ((xq + sh) % wc)); omega) (by omega) ?_
                  refine r_iadd C dX6_fly_399 ?_
                  refine r_istore (lo2 := [(6, .int (iI (xq + (((max 0 (sq - (fTk (Ru (Int.toNat 1)) (Ru (Int.toNat 5)) (Rg (Int.toNat x)) sq (lq + (Fw (Int.toNat ((xq + sh) % wc))))))) * (fFl (Ru (Int.toNat 2)) (Ru (Int.toNat 5)) fq (lq + (Fw (Int.toNat ((xq + sh) % wc)))))) / 20)))), (12, .int (iI 1)), (9, .int (iI (fSl (Ru (Int.toNat 3)) lq (fSn nq)))), (10, .int (iI (fSn nq))), (7, .int (iI (max 0 (sq - (fTk (Ru (Int.toNat 1)) (Ru (Int.toNat 5)) (Rg (Int.toNat x)) sq (lq + (Fw (Int.toNat ((xq + sh) % wc))))))))), (18, .int (iI (max 0 (sq - (fTk (Ru (Int.toNat 1)) (Ru (Int.toNat 5)) (Rg (Int.toNat x)) sq (lq + (Fw (Int.toNat ((xq + sh) % wc))))))))), (8, .int (iI (fFl (Ru (Int.toNat 2)) (Ru (Int.toNat 5)) fq (lq + (Fw (Int.toNat ((xq + sh) % wc))))))), (17, .int (iI (fTk (Ru (Int.toNat 1)) (Ru (Int.toNat 5)) (Rg (Int.toNat x)) sq (lq + (Fw (Int.toNat ((xq + sh) % wc))))))), (16, .int (iI 0)), (15, .int (iI 0)), (14, .int (iI (lq + (Fw (Int.toNat ((xq + sh) % wc)))))), (13, .int (iI (9 * k))), (0, .ref h0), (1, .int (iI x)), (11, .int (iI bq))]) C dX6_fly_400 (by decide) rfl ?_
                  refine r_iload C dX6_fly_402 14 rfl ?_
                  refine r_iload C dX6_fly_404 6 rfl ?_
                  refine r_iconst C dX6_fly_406 ?_
                  refine r_idiv C dX6_fly_407 (by have := hFw (Int.toNat ((xq + sh) % wc)); omega) (by omega) ?_
                  refine r_iadd C dX6_fly_408 ?_
                  refine r_istore (lo2 := [(11, .int (iI (bq + ((fFl (Ru (Int.toNat 2)) (Ru (Int.toNat 5)) fq (lq + (Fw (Int.toNat ((xq + sh) % wc))))) / 5)))), (6, .int (iI (xq + (((max 0 (sq - (fTk (Ru (Int.toNat 1)) (Ru (Int.toNat 5)) (Rg (Int.toNat x)) sq (lq + (Fw (Int.toNat ((xq + sh) % wc))))))) * (fFl (Ru (Int.toNat 2)) (Ru (Int.toNat 5)) fq (lq + (Fw (Int.toNat ((xq + sh) % wc)))))) / 20)))), (12, .int (iI 1)), (9, .int (iI (fSl (Ru (Int.toNat 3)) lq (fSn nq)))), (10, .int (iI (fSn nq))), (7, .int (iI (max 0 (sq - (fTk (Ru (Int.toNat 1)) (Ru (Int.toNat 5)) (Rg (Int.toNat x)) sq (lq + (Fw (Int.toNat ((xq + sh) % wc))))))))), (18, .int (iI (max 0 (sq - (fTk (Ru (Int.toNat 1)) (Ru (Int.toNat 5)) (Rg (Int.toNat x)) sq (lq + (Fw (Int.toNat ((xq + sh) % wc))))))))), (8, .int (iI (fFl (Ru (Int.toNat 2)) (Ru (Int.toNat 5)) fq (lq + (Fw (Int.toNat ((xq + sh) % wc))))))), (17, .int (iI (fTk (Ru (Int.toNat 1)) (Ru (Int.toNat 5)) (Rg (Int.toNat x)) sq (lq + (Fw (Int.toNat ((xq + sh) % wc))))))), (16, .int (iI 0)), (15, .int (iI 0)), (14, .int (iI (lq + (Fw (Int.toNat ((xq + sh) % wc)))))), (13, .int (iI (9 * k))), (0, .ref h0), (1, .int (iI x))]) C dX6_fly_409 (by decide) rfl ?_
                  refine r_goto (tgt := 28) C dX6_fly_411 (by decide) ?_
                  refine r_lo [2, 13, 14, 1, 5, 7, 3, 4, 0] (lo2 := [(12, .int (iI 1)), (0, .ref h0), (1, .int (iI x)), (6, .int (iI (xq + (((max 0 (sq - (fTk (Ru (Int.toNat 1)) (Ru (Int.toNat 5)) (Rg (Int.toNat x)) sq (lq + (Fw (Int.toNat ((xq + sh) % wc))))))) * (fFl (Ru (Int.toNat 2)) (Ru (Int.toNat 5)) fq (lq + (Fw (Int.toNat ((xq + sh) % wc)))))) / 20)))), (7, .int (iI (max 0 (sq - (fTk (Ru (Int.toNat 1)) (Ru (Int.toNat 5)) (Rg (Int.toNat x)) sq (lq + (Fw (Int.toNat ((xq + sh) % wc))))))))), (8, .int (iI (fFl (Ru (Int.toNat 2)) (Ru (Int.toNat 5)) fq (lq + (Fw (Int.toNat ((xq + sh) % wc))))))), (9, .int (iI (fSl (Ru (Int.toNat 3)) lq (fSn nq)))), (10, .int (iI (fSn nq))), (11, .int (iI (bq + ((fFl (Ru (Int.toNat 2)) (Ru (Int.toNat 5)) fq (lq + (Fw (Int.toNat ((xq + sh) % wc))))) / 5))))]) rfl ?_
                  exact ih28 (xq + (((max 0 (sq - (fTk (Ru (Int.toNat 1)) (Ru (Int.toNat 5)) (Rg (Int.toNat x)) sq (lq + (Fw (Int.toNat ((xq + sh) % wc))))))) * (fFl (Ru (Int.toNat 2)) (Ru (Int.toNat 5)) fq (lq + (Fw (Int.toNat ((xq + sh) % wc)))))) / 20)) (max 0 (sq - (fTk (Ru (Int.toNat 1)) (Ru (Int.toNat 5)) (Rg (Int.toNat x)) sq (lq + (Fw (Int.toNat ((xq + sh) % wc))))))) (fFl (Ru (Int.toNat 2)) (Ru (Int.toNat 5)) fq (lq + (Fw (Int.toNat ((xq + sh) % wc))))) (fSl (Ru (Int.toNat 3)) lq (fSn nq)) (fSn nq) (bq + ((fFl (Ru (Int.toNat 2)) (Ru (Int.toNat 5)) fq (lq + (Fw (Int.toNat ((xq + sh) % wc))))) / 5)) (k + 1) (updI (updI (updI (updI (updI (updI (updI (updI (updI G (Int.toNat ((9 * k) + 1)) xq) (Int.toNat ((9 * k) + 2)) sq) (Int.toNat ((9 * k) + 3)) fq) (Int.toNat ((9 * k) + 4)) lq) (Int.toNat ((9 * k) + 5)) nq) (Int.toNat ((9 * k) + 6)) (lq + (Fw (Int.toNat ((xq + sh) % wc))))) (Int.toNat ((9 * k) + 8)) bq) (Int.toNat (9 * k)) (fKd (Ru (Int.toNat 4)) (Ru (Int.toNat 5)) (lq + (Fw (Int.toNat ((xq + sh) % wc)))) (fFl (Ru (Int.toNat 2)) (Ru (Int.toNat 5)) fq (lq + (Fw (Int.toNat ((xq + sh) % wc))))))) (Int.toNat ((9 * k) + 7)) (fTk (Ru (Int.toNat 1)) (Ru (Int.toNat 5)) (Rg (Int.toNat x)) sq (lq + (Fw (Int.toNat ((xq + sh) % wc)))))) (by omega) (by omega) (by omega) (by omega) (by omega) (by omega) (by omega) (by rw [iN, fNum_go (E := ((((Ru (Int.toNat 0)), (Ru (Int.toNat 1)), (Ru (Int.toNat 2)), (Ru (Int.toNat 3)), (Ru (Int.toNat 4)), (Ru (Int.toNat 5))), ((Wt (Int.toNat x)), (Wd (Int.toNat x)), (Rg (Int.toNat x))), (sh, wc, Fw)) : fEn)) (t := ((xq, sq, fq, lq, nq, bq) : fS)) (by omega) (fun q => q.elim KSK (by intro z; simp only [fSpT, fTkT] at z; change (max 0 (sq - (fTk (Ru (Int.toNat 1)) (Ru (Int.toNat 5)) (Rg (Int.toNat x)) sq (lq + (Fw (Int.toNat ((xq + sh) % wc))))))) = 0 at z; omega))] <;> rfl) (by rw [iR, fRes_go (E := ((((Ru (Int.toNat 0)), (Ru (Int.toNat 1)), (Ru (Int.toNat 2)), (Ru (Int.toNat 3)), (Ru (Int.toNat 4)), (Ru (Int.toNat 5))), ((Wt (Int.toNat x)), (Wd (Int.toNat x)), (Rg (Int.toNat x))), (sh, wc, Fw)) : fEn)) (t := ((xq, sq, fq, lq, nq, bq) : fS)) (by omega) KSK (by intro z; change (max 0 (sq - (fTk (Ru (Int.toNat 1)) (Ru (Int.toNat 5)) (Rg (Int.toNat x)) sq (lq + (Fw (Int.toNat ((xq + sh) % wc))))))) = 0 at z; omega), ← kpF_ref (by omega)] <;> rfl) (by omega)
            · skip
              refine r_aload_n C dX6_fly_350 10 rfl ?_
              refine gf_6_7 C hi_X6_fly_6 kw_X6_fly_1 dX6_fly_351 0 rfl rfl ?_
              refine r_iconst C dX6_fly_354 ?_
              refine r_iald C dX6_fly_355 4 rfl (by omega) (by decide) ?_
              refine r_iload C dX6_fly_356 0 rfl ?_
              refine r_isub C dX6_fly_358 ?_
              refine r_iconst C dX6_fly_359 ?_
              refine r_idiv C dX6_fly_360 (by omega) (by omega) ?_
              refine r_goto (tgt := 365) C dX6_fly_361 (by decide) ?_
              refine r_iadd C dX6_fly_365 ?_
              refine r_topi (z := (fSl (Ru (Int.toNat 3)) lq (fSn nq))) (by unfold fSl; first | (rw [if_pos (by omega)]; done) | (rw [if_neg (by omega)]; omega)) ?_
              refine r_istore (lo2 := [(9, .int (iI (fSl (Ru (Int.toNat 3)) lq (fSn nq)))), (10, .int (iI (fSn nq))), (7, .int (iI (max 0 (sq - (fTk (Ru (Int.toNat 1)) (Ru (Int.toNat 5)) (Rg (Int.toNat x)) sq (lq + (Fw (Int.toNat ((xq + sh) % wc))))))))), (18, .int (iI (max 0 (sq - (fTk (Ru (Int.toNat 1)) (Ru (Int.toNat 5)) (Rg (Int.toNat x)) sq (lq + (Fw (Int.toNat ((xq + sh) % wc))))))))), (8, .int (iI (fFl (Ru (Int.toNat 2)) (Ru (Int.toNat 5)) fq (lq + (Fw (Int.toNat ((xq + sh) % wc))))))), (17, .int (iI (fTk (Ru (Int.toNat 1)) (Ru (Int.toNat 5)) (Rg (Int.toNat x)) sq (lq + (Fw (Int.toNat ((xq + sh) % wc))))))), (16, .int (iI 0)), (15, .int (iI 0)), (14, .int (iI (lq + (Fw (Int.toNat ((xq + sh) % wc)))))), (13, .int (iI (9 * k))), (12, .int (iI 1)), (0, .ref h0), (1, .int (iI x)), (6, .int (iI xq)), (11, .int (iI bq))]) C dX6_fly_366 (by decide) rfl ?_
              refine r_iload C dX6_fly_368 2 rfl ?_
              refine r_if_le (tgt := 386) C dX6_fly_370 (by decide) (by have := hFw (Int.toNat ((xq + sh) % wc)); omega) (fun h_16 => ?_) (fun h_16 => ?_)
              · skip
                refine r_iconst C dX6_fly_386 ?_
                refine r_istore (lo2 := [(12, .int (iI 0)), (9, .int (iI (fSl (Ru (Int.toNat 3)) lq (fSn nq)))), (10, .int (iI (fSn nq))), (7, .int (iI (max 0 (sq - (fTk (Ru (Int.toNat 1)) (Ru (Int.toNat 5)) (Rg (Int.toNat x)) sq (lq + (Fw (Int.toNat ((xq + sh) % wc))))))))), (18, .int (iI (max 0 (sq - (fTk (Ru (Int.toNat 1)) (Ru (Int.toNat 5)) (Rg (Int.toNat x)) sq (lq + (Fw (Int.toNat ((xq + sh) % wc))))))))), (8, .int (iI (fFl (Ru (Int.toNat 2)) (Ru (Int.toNat 5)) fq (lq + (Fw (Int.toNat ((xq + sh) % wc))))))), (17, .int (iI (fTk (Ru (Int.toNat 1)) (Ru (Int.toNat 5)) (Rg (Int.toNat x)) sq (lq + (Fw (Int.toNat ((xq + sh) % wc))))))), (16, .int (iI 0)), (15, .int (iI 0)), (14, .int (iI (lq + (Fw (Int.toNat ((xq + sh) % wc)))))), (13, .int (iI (9 * k))), (0, .ref h0), (1, .int (iI x)), (6, .int (iI xq)), (11, .int (iI bq))]) C dX6_fly_387 (by decide) rfl ?_
                refine r_iload C dX6_fly_389 13 rfl ?_
                refine r_iload C dX6_fly_391 3 rfl ?_
                refine r_iload C dX6_fly_393 5 rfl ?_
                refine r_imul C dX6_fly_395 ?_
                refine r_bipush C dX6_fly_396 (by decide) ?_
                refine r_idiv C dX6_fly_398 (by have := hFw (Int.toNat ((xq + sh) % wc)); omega) (by omega) ?_
                refine r_iadd C dX6_fly_399 ?_
                refine r_istore (lo2 := [(6, .int (iI (xq + (((max 0 (sq - (fTk (Ru (Int.toNat 1)) (Ru (Int.toNat 5)) (Rg (Int.toNat x)) sq (lq + (Fw (Int.toNat ((xq + sh) % wc))))))) * (fFl (Ru (Int.toNat 2)) (Ru (Int.toNat 5)) fq (lq + (Fw (Int.toNat ((xq + sh) % wc)))))) / 20)))), (12, .int (iI 0)), (9, .int (iI (fSl (Ru (Int.toNat 3)) lq (fSn nq)))), (10, .int (iI (fSn nq))), (7, .int (iI (max 0 (sq - (fTk (Ru (Int.toNat 1)) (Ru (Int.toNat 5)) (Rg (Int.toNat x)) sq (lq + (Fw (Int.toNat ((xq + sh) % wc))))))))), (18, .int (iI (max 0 (sq - (fTk (Ru (Int.toNat 1)) (Ru (Int.toNat 5)) (Rg (Int.toNat x)) sq (lq + (Fw (Int.toNat ((xq + sh) % wc))))))))), (8, .int (iI (fFl (Ru (Int.toNat 2)) (Ru (Int.toNat 5)) fq (lq + (Fw (Int.toNat ((xq + sh) % wc))))))), (17, .int (iI (fTk (Ru (Int.toNat 1)) (Ru (Int.toNat 5)) (Rg (Int.toNat x)) sq (lq + (Fw (Int.toNat ((xq + sh) % wc))))))), (16, .int (iI 0)), (15, .int (iI 0)), (14, .int (iI (lq + (Fw (Int.toNat ((xq + sh) % wc)))))), (13, .int (iI (9 * k))), (0, .ref h0), (1, .int (iI x)), (11, .int (iI bq))]) C dX6_fly_400 (by decide) rfl ?_
                refine r_iload C dX6_fly_402 14 rfl ?_
                refine r_iload C dX6_fly_404 6 rfl ?_
                refine r_iconst C dX6_fly_406 ?_
                refine r_idiv C dX6_fly_407 (by have := hFw (Int.toNat ((xq + sh) % wc)); omega) (by omega) ?_
                refine r_iadd C dX6_fly_408 ?_
                refine r_istore (lo2 := [(11, .int (iI (bq + ((fFl (Ru (Int.toNat 2)) (Ru (Int.toNat 5)) fq (lq + (Fw (Int.toNat ((xq + sh) % wc))))) / 5)))), (6, .int (iI (xq + (((max 0 (sq - (fTk (Ru (Int.toNat 1)) (Ru (Int.toNat 5)) (Rg (Int.toNat x)) sq (lq + (Fw (Int.toNat ((xq + sh) % wc))))))) * (fFl (Ru (Int.toNat 2)) (Ru (Int.toNat 5)) fq (lq + (Fw (Int.toNat ((xq + sh) % wc)))))) / 20)))), (12, .int (iI 0)), (9, .int (iI (fSl (Ru (Int.toNat 3)) lq (fSn nq)))), (10, .int (iI (fSn nq))), (7, .int (iI (max 0 (sq - (fTk (Ru (Int.toNat 1)) (Ru (Int.toNat 5)) (Rg (Int.toNat x)) sq (lq + (Fw (Int.toNat ((xq + sh) % wc))))))))), (18, .int (iI (max 0 (sq - (fTk (Ru (Int.toNat 1)) (Ru (Int.toNat 5)) (Rg (Int.toNat x)) sq (lq + (Fw (Int.toNat ((xq + sh) % wc))))))))), (8, .int (iI (fFl (Ru (Int.toNat 2)) (Ru (Int.toNat 5)) fq (lq + (Fw (Int.toNat ((xq + sh) % wc))))))), (17, .int (iI (fTk (Ru (Int.toNat 1)) (Ru (Int.toNat 5)) (Rg (Int.toNat x)) sq (lq + (Fw (Int.toNat ((xq + sh) % wc))))))), (16, .int (iI 0)), (15, .int (iI 0)), (14, .int (iI (lq + (Fw (Int.toNat ((xq + sh) % wc)))))), (13, .int (iI (9 * k))), (0, .ref h0), (1, .int (iI x))]) C dX6_fly_409 (by decide) rfl ?_
                refine r_goto (tgt := 28) C dX6_fly_411 (by decide) ?_
                refine r_iload C dX6_fly_28 2 rfl ?_
                refine r_if_eq (tgt := 414) C dX6_fly_30 (by decide) (by decide) (fun h_17 => ?_) (fun h_17 => absurd h_17 (by decide))
                exact g_ret_v C rfl dX6_fly_414 () trivial [0, 1, 2, 3, 4, 5, 6] rfl (by first | (rw [iN, iR, fNum_stop (E := ((((Ru (Int.toNat 0)), (Ru (Int.toNat 1)), (Ru (Int.toNat 2)), (Ru (Int.toNat 3)), (Ru (Int.toNat 4)), (Ru (Int.toNat 5))), ((Wt (Int.toNat x)), (Wd (Int.toNat x)), (Rg (Int.toNat x))), (sh, wc, Fw)) : fEn)) (t := ((xq, sq, fq, lq, nq, bq) : fS)) (by omega) (Or.inl KSK), fRes_sunk (E := ((((Ru (Int.toNat 0)), (Ru (Int.toNat 1)), (Ru (Int.toNat 2)), (Ru (Int.toNat 3)), (Ru (Int.toNat 4)), (Ru (Int.toNat 5))), ((Wt (Int.toNat x)), (Wd (Int.toNat x)), (Rg (Int.toNat x))), (sh, wc, Fw)) : fEn)) (t := ((xq, sq, fq, lq, nq, bq) : fS)) (by omega) KSK, ← kpF_ref (by omega)] <;> rfl) | (rw [iN, iR, fNum_stop (E := ((((Ru (Int.toNat 0)), (Ru (Int.toNat 1)), (Ru (Int.toNat 2)), (Ru (Int.toNat 3)), (Ru (Int.toNat 4)), (Ru (Int.toNat 5))), ((Wt (Int.toNat x)), (Wd (Int.toNat x)), (Rg (Int.toNat x))), (sh, wc, Fw)) : fEn)) (t := ((xq, sq, fq, lq, nq, bq) : fS)) (by omega) (Or.inr (show (max 0 (sq - (fTk (Ru (Int.toNat 1)) (Ru (Int.toNat 5)) (Rg (Int.toNat x)) sq (lq + (Fw (Int.toNat ((xq + sh) % wc))))))) = 0 by omega)), fRes_zero (E := ((((Ru (Int.toNat 0)), (Ru (Int.toNat 1)), (Ru (Int.toNat 2)), (Ru (Int.toNat 3)), (Ru (Int.toNat 4)), (Ru (Int.toNat 5))), ((Wt (Int.toNat x)), (Wd (Int.toNat x)), (Rg (Int.toNat x))), (sh, wc, Fw)) : fEn)) (t := ((xq, sq, fq, lq, nq, bq) : fS)) (by omega) KSK (show (max 0 (sq - (fTk (Ru (Int.toNat 1)) (Ru (Int.toNat 5)) (Rg (Int.toNat x)) sq (lq + (Fw (Int.toNat ((xq + sh) % wc))))))) = 0 by omega), ← kpF_ref (by omega)] <;> rfl) | (rw [iN, iR, fNum_go (E := ((((Ru (Int.toNat 0)), (Ru (Int.toNat 1)), (Ru (Int.toNat 2)), (Ru (Int.toNat 3)), (Ru (Int.toNat 4)), (Ru (Int.toNat 5))), ((Wt (Int.toNat x)), (Wd (Int.toNat x)), (Rg (Int.toNat x))), (sh, wc, Fw)) : fEn)) (t := ((xq, sq, fq, lq, nq, bq) : fS)) (by omega) (fun q => q.elim KSK (by intro z; change (max 0 (sq - (fTk (Ru (Int.toNat 1)) (Ru (Int.toNat 5)) (Rg (Int.toNat x)) sq (lq + (Fw (Int.toNat ((xq + sh) % wc))))))) = 0 at z; omega)), fRes_go (E := ((((Ru (Int.toNat 0)), (Ru (Int.toNat 1)), (Ru (Int.toNat 2)), (Ru (Int.toNat 3)), (Ru (Int.toNat 4)), (Ru (Int.toNat 5))), ((Wt (Int.toNat x)), (Wd (Int.toNat x)), (Rg (Int.toNat x))), (sh, wc, Fw)) : fEn)) (t := ((xq, sq, fq, lq, nq, bq) : fS)) (by omega) KSK (by intro z; change (max 0 (sq - (fTk (Ru (Int.toNat 1)) (Ru (Int.toNat 5)) (Rg (Int.toNat x)) sq (lq + (Fw (Int.toNat ((xq + sh) % wc))))))) = 0 at z; omega), show (90 - (k + 1)).toNat = 0 by omega, ← kpF_ref (by omega)] <;> rfl))
              · skip
                refine r_aload_n C dX6_fly_373 11 rfl ?_
                refine gf_6_13 C hi_X6_fly_6 kw_X6_fly_0 dX6_fly_374 0 rfl rfl ?_
                refine r_bipush C dX6_fly_377 (by decide) ?_
                refine r_icmp_ge (tgt := 386) C dX6_fly_379 (by decide) (by omega) (by decide) (fun h_18 => ?_) (fun h_18 => ?_)
                · skip
                  refine r_iconst C dX6_fly_386 ?_
                  refine r_istore (lo2 := [(12, .int (iI 0)), (9, .int (iI (fSl (Ru (Int.toNat 3)) lq (fSn nq)))), (10, .int (iI (fSn nq))), (7, .int (iI (max 0 (sq - (fTk (Ru (Int.toNat 1)) (Ru (Int.toNat 5)) (Rg (Int.toNat x)) sq (lq + (Fw (Int.toNat ((xq + sh) % wc))))))))), (18, .int (iI (max 0 (sq - (fTk (Ru (Int.toNat 1)) (Ru (Int.toNat 5)) (Rg (Int.toNat x)) sq (lq + (Fw (Int.toNat ((xq + sh) % wc))))))))), (8, .int (iI (fFl (Ru (Int.toNat 2)) (Ru (Int.toNat 5)) fq (lq + (Fw (Int.toNat ((xq + sh) % wc))))))), (17, .int (iI (fTk (Ru (Int.toNat 1)) (Ru (Int.toNat 5)) (Rg (Int.toNat x)) sq (lq + (Fw (Int.toNat ((xq + sh) % wc))))))), (16, .int (iI 0)), (15, .int (iI 0)), (14, .int (iI (lq + (Fw (Int.toNat ((xq + sh) % wc)))))), (13, .int (iI (9 * k))), (0, .ref h0), (1, .int (iI x)), (6, .int (iI xq)), (11, .int (iI bq))]) C dX6_fly_387 (by decide) rfl ?_
                  refine r_iload C dX6_fly_389 13 rfl ?_
                  refine r_iload C dX6_fly_391 3 rfl ?_
                  refine r_iload C dX6_fly_393 5 rfl ?_
                  refine r_imul C dX6_fly_395 ?_
                  refine r_bipush C dX6_fly_396 (by decide) ?_
                  refine r_idiv C dX6_fly_398 (by have := hFw (Int.toNat ((xq + sh) % wc)); omega) (by omega) ?_
                  refine r_iadd C dX6_fly_399 ?_
                  refine r_istore (lo2 := [(6, .int (iI (xq + (((max 0 (sq - (fTk (Ru (Int.toNat 1)) (Ru (Int.toNat 5)) (Rg (Int.toNat x)) sq (lq + (Fw (Int.toNat ((xq + sh) % wc))))))) * (fFl (Ru (Int.toNat 2)) (Ru (Int.toNat 5)) fq (lq + (Fw (Int.toNat ((xq + sh) % wc)))))) / 20)))), (12, .int (iI 0)), (9, .int (iI (fSl (Ru (Int.toNat 3)) lq (fSn nq)))), (10, .int (iI (fSn nq))), (7, .int (iI (max 0 (sq - (fTk (Ru (Int.toNat 1)) (Ru (Int.toNat 5)) (Rg (Int.toNat x)) sq (lq + (Fw (Int.toNat ((xq + sh) % wc))))))))), (18, .int (iI (max 0 (sq - (fTk (Ru (Int.toNat 1)) (Ru (Int.toNat 5)) (Rg (Int.toNat x)) sq (lq + (Fw (Int.toNat ((xq + sh) % wc))))))))), (8, .int (iI (fFl (Ru (Int.toNat 2)) (Ru (Int.toNat 5)) fq (lq + (Fw (Int.toNat ((xq + sh) % wc))))))), (17, .int (iI (fTk (Ru (Int.toNat 1)) (Ru (Int.toNat 5)) (Rg (Int.toNat x)) sq (lq + (Fw (Int.toNat ((xq + sh) % wc))))))), (16, .int (iI 0)), (15, .int (iI 0)), (14, .int (iI (lq + (Fw (Int.toNat ((xq + sh) % wc)))))), (13, .int (iI (9 * k))), (0, .ref h0), (1, .int (iI x)), (11, .int (iI bq))]) C dX6_fly_400 (by decide) rfl ?_
                  refine r_iload C dX6_fly_402 14 rfl ?_
                  refine r_iload C dX6_fly_404 6 rfl ?_
                  refine r_iconst C dX6_fly_406 ?_
                  refine r_idiv C dX6_fly_407 (by have := hFw (Int.toNat ((xq + sh) % wc)); omega) (by omega) ?_
                  refine r_iadd C dX6_fly_408 ?_
                  refine r_istore (lo2 := [(11, .int (iI (bq + ((fFl (Ru (Int.toNat 2)) (Ru (Int.toNat 5)) fq (lq + (Fw (Int.toNat ((xq + sh) % wc))))) / 5)))), (6, .int (iI (xq + (((max 0 (sq - (fTk (Ru (Int.toNat 1)) (Ru (Int.toNat 5)) (Rg (Int.toNat x)) sq (lq + (Fw (Int.toNat ((xq + sh) % wc))))))) * (fFl (Ru (Int.toNat 2)) (Ru (Int.toNat 5)) fq (lq + (Fw (Int.toNat ((xq + sh) % wc)))))) / 20)))), (12, .int (iI 0)), (9, .int (iI (fSl (Ru (Int.toNat 3)) lq (fSn nq)))), (10, .int (iI (fSn nq))), (7, .int (iI (max 0 (sq - (fTk (Ru (Int.toNat 1)) (Ru (Int.toNat 5)) (Rg (Int.toNat x)) sq (lq + (Fw (Int.toNat ((xq + sh) % wc))))))))), (18, .int (iI (max 0 (sq - (fTk (Ru (Int.toNat 1)) (Ru (Int.toNat 5)) (Rg (Int.toNat x)) sq (lq + (Fw (Int.toNat ((xq + sh) % wc))))))))), (8, .int (iI (fFl (Ru (Int.toNat 2)) (Ru (Int.toNat 5)) fq (lq + (Fw (Int.toNat ((xq + sh) % wc))))))), (17, .int (iI (fTk (Ru (Int.toNat 1)) (Ru (Int.toNat 5)) (Rg (Int.toNat x)) sq (lq + (Fw (Int.toNat ((xq + sh) % wc))))))), (16, .int (iI 0)), (15, .int (iI 0)), (14, .int (iI (lq + (Fw (Int.toNat ((xq + sh) % wc)))))), (13, .int (iI (9 * k))), (0, .ref h0), (1, .int (iI x))]) C dX6_fly_409 (by decide) rfl ?_
                  refine r_goto (tgt := 28) C dX6_fly_411 (by decide) ?_
                  refine r_iload C dX6_fly_28 2 rfl ?_
                  refine r_if_eq (tgt := 414) C dX6_fly_30 (by decide) (by decide) (fun h_19 => ?_) (fun h_19 => absurd h_19 (by decide))
                  exact g_ret_v C rfl dX6_fly_414 () trivial [0, 1, 2, 3, 4, 5, 6] rfl (by first | (rw [iN, iR, fNum_stop (E := ((((Ru (Int.toNat 0)), (Ru (Int.toNat 1)), (Ru (Int.toNat 2)), (Ru (Int.toNat 3)), (Ru (Int.toNat 4)), (Ru (Int.toNat 5))), ((Wt (Int.toNat x)), (Wd (Int.toNat x)), (Rg (Int.toNat x))), (sh, wc, Fw)) : fEn)) (t := ((xq, sq, fq, lq, nq, bq) : fS)) (by omega) (Or.inl KSK), fRes_sunk (E := ((((Ru (Int.toNat 0)), (Ru (Int.toNat 1)), (Ru (Int.toNat 2)), (Ru (Int.toNat 3)), (Ru (Int.toNat 4)), (Ru (Int.toNat 5))), ((Wt (Int.toNat x)), (Wd (Int.toNat x)), (Rg (Int.toNat x))), (sh, wc, Fw)) : fEn)) (t := ((xq, sq, fq, lq, nq, bq) : fS)) (by omega) KSK, ← kpF_ref (by omega)] <;> rfl) | (rw [iN, iR, fNum_stop (E := ((((Ru (Int.toNat 0)), (Ru (Int.toNat 1)), (Ru (Int.toNat 2)), (Ru (Int.toNat 3)), (Ru (Int.toNat 4)), (Ru (Int.toNat 5))), ((Wt (Int.toNat x)), (Wd (Int.toNat x)), (Rg (Int.toNat x))), (sh, wc, Fw)) : fEn)) (t := ((xq, sq, fq, lq, nq, bq) : fS)) (by omega) (Or.inr (show (max 0 (sq - (fTk (Ru (Int.toNat 1)) (Ru (Int.toNat 5)) (Rg (Int.toNat x)) sq (lq + (Fw (Int.toNat ((xq + sh) % wc))))))) = 0 by omega)), fRes_zero (E := ((((Ru (Int.toNat 0)), (Ru (Int.toNat 1)), (Ru (Int.toNat 2)), (Ru (Int.toNat 3)), (Ru (Int.toNat 4)), (Ru (Int.toNat 5))), ((Wt (Int.toNat x)), (Wd (Int.toNat x)), (Rg (Int.toNat x))), (sh, wc, Fw)) : fEn)) (t := ((xq, sq, fq, lq, nq, bq) : fS)) (by omega) KSK (show (max 0 (sq - (fTk (Ru (Int.toNat 1)) (Ru (Int.toNat 5)) (Rg (Int.toNat x)) sq (lq + (Fw (Int.toNat ((xq + sh) % wc))))))) = 0 by omega), ← kpF_ref (by omega)] <;> rfl) | (rw [iN, iR, fNum_go (E := ((((Ru (Int.toNat 0)), (Ru (Int.toNat 1)), (Ru (Int.toNat 2)), (Ru (Int.toNat 3)), (Ru (Int.toNat 4)), (Ru (Int.toNat 5))), ((Wt (Int.toNat x)), (Wd (Int.toNat x)), (Rg (Int.toNat x))), (sh, wc, Fw)) : fEn)) (t := ((xq, sq, fq, lq, nq, bq) : fS)) (by omega) (fun q => q.elim KSK (by intro z; change (max 0 (sq - (fTk (Ru (Int.toNat 1)) (Ru (Int.toNat 5)) (Rg (Int.toNat x)) sq (lq + (Fw (Int.toNat ((xq + sh) % wc))))))) = 0 at z; omega)), fRes_go (E := ((((Ru (Int.toNat 0)), (Ru (Int.toNat 1)), (Ru (Int.toNat 2)), (Ru (Int.toNat 3)), (Ru (Int.toNat 4)), (Ru (Int.toNat 5))), ((Wt (Int.toNat x)), (Wd (Int.toNat x)), (Rg (Int.toNat x))), (sh, wc, Fw)) : fEn)) (t := ((xq, sq, fq, lq, nq, bq) : fS)) (by omega) KSK (by intro z; change (max 0 (sq - (fTk (Ru (Int.toNat 1)) (Ru (Int.toNat 5)) (Rg (Int.toNat x)) sq (lq + (Fw (Int.toNat ((xq + sh) % wc))))))) = 0 at z; omega), show (90 - (k + 1)).toNat = 0 by omega, ← kpF_ref (by omega)] <;> rfl))
                · skip
                  refine r_iconst C dX6_fly_382 ?_
                  refine r_goto (tgt := 387) C dX6_fly_383 (by decide) ?_
                  refine r_istore (lo2 := [(12, .int (iI 1)), (9, .int (iI (fSl (Ru (Int.toNat 3)) lq (fSn nq)))), (10, .int (iI (fSn nq))), (7, .int (iI (max 0 (sq - (fTk (Ru (Int.toNat 1)) (Ru (Int.toNat 5)) (Rg (Int.toNat x)) sq (lq + (Fw (Int.toNat ((xq + sh) % wc))))))))), (18, .int (iI (max 0 (sq - (fTk (Ru (Int.toNat 1)) (Ru (Int.toNat 5)) (Rg (Int.toNat x)) sq (lq + (Fw (Int.toNat ((xq + sh) % wc))))))))), (8, .int (iI (fFl (Ru (Int.toNat 2)) (Ru (Int.toNat 5)) fq (lq + (Fw (Int.toNat ((xq + sh) % wc))))))), (17, .int (iI (fTk (Ru (Int.toNat 1)) (Ru (Int.toNat 5)) (Rg (Int.toNat x)) sq (lq + (Fw (Int.toNat ((xq + sh) % wc))))))), (16, .int (iI 0)), (15, .int (iI 0)), (14, .int (iI (lq + (Fw (Int.toNat ((xq + sh) % wc)))))), (13, .int (iI (9 * k))), (0, .ref h0), (1, .int (iI x)), (6, .int (iI xq)), (11, .int (iI bq))]) C dX6_fly_387 (by decide) rfl ?_
                  refine r_iload C dX6_fly_389 13 rfl ?_
                  refine r_iload C dX6_fly_391 3 rfl ?_
                  refine r_iload C dX6_fly_393 5 rfl ?_
                  refine r_imul C dX6_fly_395 ?_
                  refine r_bipush C dX6_fly_396 (by decide) ?_
                  refine r_idiv C dX6_fly_398 (by have := hFw (Int.toNat ((xq + sh) % wc)); omega) (by omega) ?_
                  refine r_iadd C dX6_fly_399 ?_
                  refine r_istore (lo2 := [(6, .int (iI (xq + (((max 0 (sq - (fTk (Ru (Int.toNat 1)) (Ru (Int.toNat 5)) (Rg (Int.toNat x)) sq (lq + (Fw (Int.toNat ((xq + sh) % wc))))))) * (fFl (Ru (Int.toNat 2)) (Ru (Int.toNat 5)) fq (lq + (Fw (Int.toNat ((xq + sh) % wc)))))) / 20)))), (12, .int (iI 1)), (9, .int (iI (fSl (Ru (Int.toNat 3)) lq (fSn nq)))), (10, .int (iI (fSn nq))), (7, .int (iI (max 0 (sq - (fTk (Ru (Int.toNat 1)) (Ru (Int.toNat 5)) (Rg (Int.toNat x)) sq (lq + (Fw (Int.toNat ((xq + sh) % wc))))))))), (18, .int (iI (max 0 (sq - (fTk (Ru (Int.toNat 1)) (Ru (Int.toNat 5)) (Rg (Int.toNat x)) sq (lq + (Fw (Int.toNat ((xq + sh) % wc))))))))), (8, .int (iI (fFl (Ru (Int.toNat 2)) (Ru (Int.toNat 5)) fq (lq + (Fw (Int.toNat ((xq + sh) % wc))))))), (17, .int (iI (fTk (Ru (Int.toNat 1)) (Ru (Int.toNat 5)) (Rg (Int.toNat x)) sq (lq + (Fw (Int.toNat ((xq + sh) % wc))))))), (16, .int (iI 0)), (15, .int (iI 0)), (14, .int (iI (lq + (Fw (Int.toNat ((xq + sh) % wc)))))), (13, .int (iI (9 * k))), (0, .ref h0), (1, .int (iI x)), (11, .int (iI bq))]) C dX6_fly_400 (by decide) rfl ?_
                  refine r_iload C dX6_fly_402 14 rfl ?_
                  refine r_iload C dX6_fly_404 6 rfl ?_
                  refine r_iconst C dX6_fly_406 ?_
                  refine r_idiv C dX6_fly_407 (by have := hFw (Int.toNat ((xq + sh) % wc)); omega) (by omega) ?_
                  refine r_iadd C dX6_fly_408 ?_
                  refine r_istore (lo2 := [(11, .int (iI (bq + ((fFl (Ru (Int.toNat 2)) (Ru (Int.toNat 5)) fq (lq + (Fw (Int.toNat ((xq + sh) % wc))))) / 5)))), (6, .int (iI (xq + (((max 0 (sq - (fTk (Ru (Int.toNat 1)) (Ru (Int.toNat 5)) (Rg (Int.toNat x)) sq (lq + (Fw (Int.toNat ((xq + sh) % wc))))))) * (fFl (Ru (Int.toNat 2)) (Ru (Int.toNat 5)) fq (lq + (Fw (Int.toNat ((xq + sh) % wc)))))) / 20)))), (12, .int (iI 1)), (9, .int (iI (fSl (Ru (Int.toNat 3)) lq (fSn nq)))), (10, .int (iI (fSn nq))), (7, .int (iI (max 0 (sq - (fTk (Ru (Int.toNat 1)) (Ru (Int.toNat 5)) (Rg (Int.toNat x)) sq (lq + (Fw (Int.toNat ((xq + sh) % wc))))))))), (18, .int (iI (max 0 (sq - (fTk (Ru (Int.toNat 1)) (Ru (Int.toNat 5)) (Rg (Int.toNat x)) sq (lq + (Fw (Int.toNat ((xq + sh) % wc))))))))), (8, .int (iI (fFl (Ru (Int.toNat 2)) (Ru (Int.toNat 5)) fq (lq + (Fw (Int.toNat ((xq + sh) % wc))))))), (17, .int (iI (fTk (Ru (Int.toNat 1)) (Ru (Int.toNat 5)) (Rg (Int.toNat x)) sq (lq + (Fw (Int.toNat ((xq + sh) % wc))))))), (16, .int (iI 0)), (15, .int (iI 0)), (14, .int (iI (lq + (Fw (Int.toNat ((xq + sh) % wc)))))), (13, .int (iI (9 * k))), (0, .ref h0), (1, .int (iI x))]) C dX6_fly_409 (by decide) rfl ?_
                  refine r_goto (tgt := 28) C dX6_fly_411 (by decide) ?_
                  refine r_lo [2, 13, 14, 1, 5, 7, 3, 4, 0] (lo2 := [(12, .int (iI 1)), (0, .ref h0), (1, .int (iI x)), (6, .int (iI (xq + (((max 0 (sq - (fTk (Ru (Int.toNat 1)) (Ru (Int.toNat 5)) (Rg (Int.toNat x)) sq (lq + (Fw (Int.toNat ((xq + sh) % wc))))))) * (fFl (Ru (Int.toNat 2)) (Ru (Int.toNat 5)) fq (lq + (Fw (Int.toNat ((xq + sh) % wc)))))) / 20)))), (7, .int (iI (max 0 (sq - (fTk (Ru (Int.toNat 1)) (Ru (Int.toNat 5)) (Rg (Int.toNat x)) sq (lq + (Fw (Int.toNat ((xq + sh) % wc))))))))), (8, .int (iI (fFl (Ru (Int.toNat 2)) (Ru (Int.toNat 5)) fq (lq + (Fw (Int.toNat ((xq + sh) % wc))))))), (9, .int (iI (fSl (Ru (Int.toNat 3)) lq (fSn nq)))), (10, .int (iI (fSn nq))), (11, .int (iI (bq + ((fFl (Ru (Int.toNat 2)) (Ru (Int.toNat 5)) fq (lq + (Fw (Int.toNat ((xq + sh) % wc))))) / 5))))]) rfl ?_
                  exact ih28 (xq + (((max 0 (sq - (fTk (Ru (Int.toNat 1)) (Ru (Int.toNat 5)) (Rg (Int.toNat x)) sq (lq + (Fw (Int.toNat ((xq + sh) % wc))))))) * (fFl (Ru (Int.toNat 2)) (Ru (Int.toNat 5)) fq (lq + (Fw (Int.toNat ((xq + sh) % wc)))))) / 20)) (max 0 (sq - (fTk (Ru (Int.toNat 1)) (Ru (Int.toNat 5)) (Rg (Int.toNat x)) sq (lq + (Fw (Int.toNat ((xq + sh) % wc))))))) (fFl (Ru (Int.toNat 2)) (Ru (Int.toNat 5)) fq (lq + (Fw (Int.toNat ((xq + sh) % wc))))) (fSl (Ru (Int.toNat 3)) lq (fSn nq)) (fSn nq) (bq + ((fFl (Ru (Int.toNat 2)) (Ru (Int.toNat 5)) fq (lq + (Fw (Int.toNat ((xq + sh) % wc))))) / 5)) (k + 1) (updI (updI (updI (updI (updI (updI (updI (updI (updI G (Int.toNat ((9 * k) + 1)) xq) (Int.toNat ((9 * k) + 2)) sq) (Int.toNat ((9 * k) + 3)) fq) (Int.toNat ((9 * k) + 4)) lq) (Int.toNat ((9 * k) + 5)) nq) (Int.toNat ((9 * k) + 6)) (lq + (Fw (Int.toNat ((xq + sh) % wc))))) (Int.toNat ((9 * k) + 8)) bq) (Int.toNat (9 * k)) (fKd (Ru (Int.toNat 4)) (Ru (Int.toNat 5)) (lq + (Fw (Int.toNat ((xq + sh) % wc)))) (fFl (Ru (Int.toNat 2)) (Ru (Int.toNat 5)) fq (lq + (Fw (Int.toNat ((xq + sh) % wc))))))) (Int.toNat ((9 * k) + 7)) (fTk (Ru (Int.toNat 1)) (Ru (Int.toNat 5)) (Rg (Int.toNat x)) sq (lq + (Fw (Int.toNat ((xq + sh) % wc)))))) (by omega) (by omega) (by omega) (by omega) (by omega) (by omega) (by omega) (by rw [iN, fNum_go (E := ((((Ru (Int.toNat 0)), (Ru (Int.toNat 1)), (Ru (Int.toNat 2)), (Ru (Int.toNat 3)), (Ru (Int.toNat 4)), (Ru (Int.toNat 5))), ((Wt (Int.toNat x)), (Wd (Int.toNat x)), (Rg (Int.toNat x))), (sh, wc, Fw)) : fEn)) (t := ((xq, sq, fq, lq, nq, bq) : fS)) (by omega) (fun q => q.elim KSK (by intro z; simp only [fSpT, fTkT] at z; change (max 0 (sq - (fTk (Ru (Int.toNat 1)) (Ru (Int.toNat 5)) (Rg (Int.toNat x)) sq (lq + (Fw (Int.toNat ((xq + sh) % wc))))))) = 0 at z; omega))] <;> rfl) (by rw [iR, fRes_go (E := ((((Ru (Int.toNat 0)), (Ru (Int.toNat 1)), (Ru (Int.toNat 2)), (Ru (Int.toNat 3)), (Ru (Int.toNat 4)), (Ru (Int.toNat 5))), ((Wt (Int.toNat x)), (Wd (Int.toNat x)), (Rg (Int.toNat x))), (sh, wc, Fw)) : fEn)) (t := ((xq, sq, fq, lq, nq, bq) : fS)) (by omega) KSK (by intro z; change (max 0 (sq - (fTk (Ru (Int.toNat 1)) (Ru (Int.toNat 5)) (Rg (Int.toNat x)) sq (lq + (Fw (Int.toNat ((xq + sh) % wc))))))) = 0 at z; omega), ← kpF_ref (by omega)] <;> rfl) (by omega)
          · skip
            refine r_iconst C dX6_fly_288 ?_
            refine r_goto (tgt := 293) C dX6_fly_289 (by decide) ?_
            refine r_topi (z := (fKd (Ru (Int.toNat 4)) (Ru (Int.toNat 5)) (lq + (Fw (Int.toNat ((xq + sh) % wc)))) (fFl (Ru (Int.toNat 2)) (Ru (Int.toNat 5)) fq (lq + (Fw (Int.toNat ((xq + sh) % wc))))))) (by simp only [fKd]; first | (rw [if_pos (by omega)]; done) | (rw [if_neg (by omega), if_pos (by omega)]; done) | (rw [if_neg (by omega), if_neg (by omega)]; done)) ?_
            refine r_iast (ws2 := [(h0, .inr (6, [.int (iI ft), .int (iI sc), .ref u2, .ref u3, .ref u4, .ref u5, .ref u6, .ref u7, .ref u8, .int (iI rm), .int (iI wc), .ref u11, .int (iI sh), .int (iI (k + 1)), .ref u14, .int (iI cnt), .ref u16, .int (iI gf), .int (iI gs), .int (iI rc), .ref u20, .ref u21, .ref u22, .ref u23, .ref u24, .int (iI tc)])), (u2, .inl (X.2.1.1, 8, .inl (iF Wt))), (u3, .inl (X.2.1.1, 8, .inl (iF Wd))), (u4, .inl (X.2.1.1, 8, .inl (iF Rg))), (u7, .inl (X.2.1.1, 6, .inl (iF Ru))), (u11, .inl (X.2.1.1, 20, .inl (iF Fw))), (u14, .inl (X.2.1.1, 810, .inl (iF (updI (updI (updI (updI (updI (updI (updI (updI G (Int.toNat ((9 * k) + 1)) xq) (Int.toNat ((9 * k) + 2)) sq) (Int.toNat ((9 * k) + 3)) fq) (Int.toNat ((9 * k) + 4)) lq) (Int.toNat ((9 * k) + 5)) nq) (Int.toNat ((9 * k) + 6)) (lq + (Fw (Int.toNat ((xq + sh) % wc))))) (Int.toNat ((9 * k) + 8)) bq) (Int.toNat (9 * k)) (fKd (Ru (Int.toNat 4)) (Ru (Int.toNat 5)) (lq + (Fw (Int.toNat ((xq + sh) % wc)))) (fFl (Ru (Int.toNat 2)) (Ru (Int.toNat 5)) fq (lq + (Fw (Int.toNat ((xq + sh) % wc))))))))))]) C dX6_fly_293 6 rfl (by omega) (by decide) rfl ?_
            refine r_iconst C dX6_fly_294 ?_
            refine r_iload C dX6_fly_295 10 rfl ?_
            refine r_iload C dX6_fly_297 1 rfl ?_
            refine r_isub C dX6_fly_299 ?_
            refine g_S_i (ws2 := (fun _ => [(h0, .inr (6, [.int (iI ft), .int (iI sc), .ref u2, .ref u3, .ref u4, .ref u5, .ref u6, .ref u7, .ref u8, .int (iI rm), .int (iI wc), .ref u11, .int (iI sh), .int (iI (k + 1)), .ref u14, .int (iI cnt), .ref u16, .int (iI gf), .int (iI gs), .int (iI rc), .ref u20, .ref u21, .ref u22, .ref u23, .ref u24, .int (iI tc)])), (u2, .inl (X.2.1.1, 8, .inl (iF Wt))), (u3, .inl (X.2.1.1, 8, .inl (iF Wd))), (u4, .inl (X.2.1.1, 8, .inl (iF Rg))), (u7, .inl (X.2.1.1, 6, .inl (iF Ru))), (u11, .inl (X.2.1.1, 20, .inl (iF Fw))), (u14, .inl (X.2.1.1, 810, .inl (iF (updI (updI (updI (updI (updI (updI (updI (updI G (Int.toNat ((9 * k) + 1)) xq) (Int.toNat ((9 * k) + 2)) sq) (Int.toNat ((9 * k) + 3)) fq) (Int.toNat ((9 * k) + 4)) lq) (Int.toNat ((9 * k) + 5)) nq) (Int.toNat ((9 * k) + 6)) (lq + (Fw (Int.toNat ((xq + sh) % wc))))) (Int.toNat ((9 * k) + 8)) bq) (Int.toNat (9 * k)) (fKd (Ru (Int.toNat 4)) (Ru (Int.toNat 5)) (lq + (Fw (Int.toNat ((xq + sh) % wc)))) (fFl (Ru (Int.toNat 2)) (Ru (Int.toNat 5)) fq (lq + (Fw (Int.toNat ((xq + sh) % wc))))))))))])) (As := [.int (iI 0), .int (iI (sq - (fTk (Ru (Int.toNat 1)) (Ru (Int.toNat 5)) (Rg (Int.toNat x)) sq (lq + (Fw (Int.toNat ((xq + sh) % wc)))))))]) C (c_X6_greater l X 0 (sq - (fTk (Ru (Int.toNat 1)) (Ru (Int.toNat 5)) (Rg (Int.toNat x)) sq (lq + (Fw (Int.toNat ((xq + sh) % wc)))))) (by first | assumption | omega) (by first | assumption | have := hFw (Int.toNat ((xq + sh) % wc)); omega)) gX6_fly_X6_greater rfl rfl rfl hd_S_X6_greater_X6_fly (by decide) dX6_fly_300 [] [0, 1, 2, 3, 4, 5, 6] [0, 1, 2, 3, 4, 5, 6] rfl rfl rfl rfl (by decide) rfl rfl rfl (Nat.le_of_ble_eq_true rfl) (by decide) (fun _ => rfl) (fun _ hy_ => ?_)
            clear hy_
            refine r_istore (lo2 := [(18, .int (iI (max 0 (sq - (fTk (Ru (Int.toNat 1)) (Ru (Int.toNat 5)) (Rg (Int.toNat x)) sq (lq + (Fw (Int.toNat ((xq + sh) % wc))))))))), (8, .int (iI (fFl (Ru (Int.toNat 2)) (Ru (Int.toNat 5)) fq (lq + (Fw (Int.toNat ((xq + sh) % wc))))))), (17, .int (iI (fTk (Ru (Int.toNat 1)) (Ru (Int.toNat 5)) (Rg (Int.toNat x)) sq (lq + (Fw (Int.toNat ((xq + sh) % wc))))))), (16, .int (iI 0)), (15, .int (iI 0)), (14, .int (iI (lq + (Fw (Int.toNat ((xq + sh) % wc)))))), (13, .int (iI (9 * k))), (12, .int (iI 1)), (0, .ref h0), (1, .int (iI x)), (6, .int (iI xq)), (7, .int (iI sq)), (9, .int (iI lq)), (10, .int (iI nq)), (11, .int (iI bq))]) C dX6_fly_303 (by decide) rfl ?_
            refine r_aload_n C dX6_fly_305 8 rfl ?_
            refine gf_6_14 C hi_X6_fly_6 kw_X6_fly_2 dX6_fly_306 0 rfl rfl ?_
            refine r_iload C dX6_fly_309 6 rfl ?_
            refine r_bipush C dX6_fly_311 (by decide) ?_
            refine r_iadd C dX6_fly_313 ?_
            refine r_iload C dX6_fly_314 2 rfl ?_
            refine r_iast (ws2 := [(h0, .inr (6, [.int (iI ft), .int (iI sc), .ref u2, .ref u3, .ref u4, .ref u5, .ref u6, .ref u7, .ref u8, .int (iI rm), .int (iI wc), .ref u11, .int (iI sh), .int (iI (k + 1)), .ref u14, .int (iI cnt), .ref u16, .int (iI gf), .int (iI gs), .int (iI rc), .ref u20, .ref u21, .ref u22, .ref u23, .ref u24, .int (iI tc)])), (u2, .inl (X.2.1.1, 8, .inl (iF Wt))), (u3, .inl (X.2.1.1, 8, .inl (iF Wd))), (u4, .inl (X.2.1.1, 8, .inl (iF Rg))), (u7, .inl (X.2.1.1, 6, .inl (iF Ru))), (u11, .inl (X.2.1.1, 20, .inl (iF Fw))), (u14, .inl (X.2.1.1, 810, .inl (iF (updI (updI (updI (updI (updI (updI (updI (updI (updI G (Int.toNat ((9 * k) + 1)) xq) (Int.toNat ((9 * k) + 2)) sq) (Int.toNat ((9 * k) + 3)) fq) (Int.toNat ((9 * k) + 4)) lq) (Int.toNat ((9 * k) + 5)) nq) (Int.toNat ((9 * k) + 6)) (lq + (Fw (Int.toNat ((xq + sh) % wc))))) (Int.toNat ((9 * k) + 8)) bq) (Int.toNat (9 * k)) (fKd (Ru (Int.toNat 4)) (Ru (Int.toNat 5)) (lq + (Fw (Int.toNat ((xq + sh) % wc)))) (fFl (Ru (Int.toNat 2)) (Ru (Int.toNat 5)) fq (lq + (Fw (Int.toNat ((xq + sh) % wc))))))) (Int.toNat ((9 * k) + 7)) (fTk (Ru (Int.toNat 1)) (Ru (Int.toNat 5)) (Rg (Int.toNat x)) sq (lq + (Fw (Int.toNat ((xq + sh) % wc)))))))))]) C dX6_fly_316 6 rfl (by omega) (by decide) rfl ?_
            refine r_iload C dX6_fly_317 0 rfl ?_
            refine r_istore (lo2 := [(7, .int (iI (max 0 (sq - (fTk (Ru (Int.toNat 1)) (Ru (Int.toNat 5)) (Rg (Int.toNat x)) sq (lq + (Fw (Int.toNat ((xq + sh) % wc))))))))), (18, .int (iI (max 0 (sq - (fTk (Ru (Int.toNat 1)) (Ru (Int.toNat 5)) (Rg (Int.toNat x)) sq (lq + (Fw (Int.toNat ((xq + sh) % wc))))))))), (8, .int (iI (fFl (Ru (Int.toNat 2)) (Ru (Int.toNat 5)) fq (lq + (Fw (Int.toNat ((xq + sh) % wc))))))), (17, .int (iI (fTk (Ru (Int.toNat 1)) (Ru (Int.toNat 5)) (Rg (Int.toNat x)) sq (lq + (Fw (Int.toNat ((xq + sh) % wc))))))), (16, .int (iI 0)), (15, .int (iI 0)), (14, .int (iI (lq + (Fw (Int.toNat ((xq + sh) % wc)))))), (13, .int (iI (9 * k))), (12, .int (iI 1)), (0, .ref h0), (1, .int (iI x)), (6, .int (iI xq)), (9, .int (iI lq)), (10, .int (iI nq)), (11, .int (iI bq))]) C dX6_fly_319 (by decide) rfl ?_
            refine r_iconst C dX6_fly_321 ?_
            refine r_iload C dX6_fly_322 13 rfl ?_
            refine r_iload C dX6_fly_324 13 rfl ?_
            refine r_bipush C dX6_fly_326 (by decide) ?_
            refine r_idiv C dX6_fly_328 (by omega) (by omega) ?_
            refine r_isub C dX6_fly_329 ?_
            refine r_iconst C dX6_fly_330 ?_
            refine r_isub C dX6_fly_331 ?_
            refine g_S_i (ws2 := (fun _ => [(h0, .inr (6, [.int (iI ft), .int (iI sc), .ref u2, .ref u3, .ref u4, .ref u5, .ref u6, .ref u7, .ref u8, .int (iI rm), .int (iI wc), .ref u11, .int (iI sh), .int (iI (k + 1)), .ref u14, .int (iI cnt), .ref u16, .int (iI gf), .int (iI gs), .int (iI rc), .ref u20, .ref u21, .ref u22, .ref u23, .ref u24, .int (iI tc)])), (u2, .inl (X.2.1.1, 8, .inl (iF Wt))), (u3, .inl (X.2.1.1, 8, .inl (iF Wd))), (u4, .inl (X.2.1.1, 8, .inl (iF Rg))), (u7, .inl (X.2.1.1, 6, .inl (iF Ru))), (u11, .inl (X.2.1.1, 20, .inl (iF Fw))), (u14, .inl (X.2.1.1, 810, .inl (iF (updI (updI (updI (updI (updI (updI (updI (updI (updI G (Int.toNat ((9 * k) + 1)) xq) (Int.toNat ((9 * k) + 2)) sq) (Int.toNat ((9 * k) + 3)) fq) (Int.toNat ((9 * k) + 4)) lq) (Int.toNat ((9 * k) + 5)) nq) (Int.toNat ((9 * k) + 6)) (lq + (Fw (Int.toNat ((xq + sh) % wc))))) (Int.toNat ((9 * k) + 8)) bq) (Int.toNat (9 * k)) (fKd (Ru (Int.toNat 4)) (Ru (Int.toNat 5)) (lq + (Fw (Int.toNat ((xq + sh) % wc)))) (fFl (Ru (Int.toNat 2)) (Ru (Int.toNat 5)) fq (lq + (Fw (Int.toNat ((xq + sh) % wc))))))) (Int.toNat ((9 * k) + 7)) (fTk (Ru (Int.toNat 1)) (Ru (Int.toNat 5)) (Rg (Int.toNat x)) sq (lq + (Fw (Int.toNat ((xq + sh) % wc)))))))))])) (As := [.int (iI 0), .int (iI ((nq - (nq / 10)) - 1))]) C (c_X6_greater l X 0 ((nq - (nq / 10)) - 1) (by first | assumption | omega) (by first | assumption | omega)) gX6_fly_X6_greater rfl rfl rfl hd_S_X6_greater_X6_fly (by decide) dX6_fly_332 [] [0, 1, 2, 3, 4, 5, 6] [0, 1, 2, 3, 4, 5, 6] rfl rfl rfl rfl (by decide) rfl rfl rfl (Nat.le_of_ble_eq_true rfl) (by decide) (fun _ => rfl) (fun _ hy_ => ?_)
            clear hy_
            refine r_topi (z := (fSn nq)) (by unfold fSn; omega) ?_
            refine r_istore (lo2 := [(10, .int (iI (fSn nq))), (7, .int (iI (max 0 (sq - (fTk (Ru (Int.toNat 1)) (Ru (Int.toNat 5)) (Rg (Int.toNat x)) sq (lq + (Fw (Int.toNat ((xq + sh) % wc))))))))), (18, .int (iI (max 0 (sq - (fTk (Ru (Int.toNat 1)) (Ru (Int.toNat 5)) (Rg (Int.toNat x)) sq (lq + (Fw (Int.toNat ((xq + sh) % wc))))))))), (8, .int (iI (fFl (Ru (Int.toNat 2)) (Ru (Int.toNat 5)) fq (lq + (Fw (Int.toNat ((xq + sh) % wc))))))), (17, .int (iI (fTk (Ru (Int.toNat 1)) (Ru (Int.toNat 5)) (Rg (Int.toNat x)) sq (lq + (Fw (Int.toNat ((xq + sh) % wc))))))), (16, .int (iI 0)), (15, .int (iI 0)), (14, .int (iI (lq + (Fw (Int.toNat ((xq + sh) % wc)))))), (13, .int (iI (9 * k))), (12, .int (iI 1)), (0, .ref h0), (1, .int (iI x)), (6, .int (iI xq)), (9, .int (iI lq)), (11, .int (iI bq))]) C dX6_fly_335 (by decide) rfl ?_
            refine r_iload C dX6_fly_337 13 rfl ?_
            refine r_iload C dX6_fly_339 0 rfl ?_
            refine r_aload_n C dX6_fly_341 10 rfl ?_
            refine gf_6_7 C hi_X6_fly_6 kw_X6_fly_1 dX6_fly_342 0 rfl rfl ?_
            refine r_iconst C dX6_fly_345 ?_
            refine r_iald C dX6_fly_346 4 rfl (by omega) (by decide) ?_
            refine r_icmp_ge (tgt := 364) C dX6_fly_347 (by decide) (by omega) (by omega) (fun h_20 => ?_) (fun h_20 => ?_)
            · skip
              refine r_iconst C dX6_fly_364 ?_
              refine r_iadd C dX6_fly_365 ?_
              refine r_topi (z := (fSl (Ru (Int.toNat 3)) lq (fSn nq))) (by unfold fSl; first | (rw [if_pos (by omega)]; done) | (rw [if_neg (by omega)]; omega)) ?_
              refine r_istore (lo2 := [(9, .int (iI (fSl (Ru (Int.toNat 3)) lq (fSn nq)))), (10, .int (iI (fSn nq))), (7, .int (iI (max 0 (sq - (fTk (Ru (Int.toNat 1)) (Ru (Int.toNat 5)) (Rg (Int.toNat x)) sq (lq + (Fw (Int.toNat ((xq + sh) % wc))))))))), (18, .int (iI (max 0 (sq - (fTk (Ru (Int.toNat 1)) (Ru (Int.toNat 5)) (Rg (Int.toNat x)) sq (lq + (Fw (Int.toNat ((xq + sh) % wc))))))))), (8, .int (iI (fFl (Ru (Int.toNat 2)) (Ru (Int.toNat 5)) fq (lq + (Fw (Int.toNat ((xq + sh) % wc))))))), (17, .int (iI (fTk (Ru (Int.toNat 1)) (Ru (Int.toNat 5)) (Rg (Int.toNat x)) sq (lq + (Fw (Int.toNat ((xq + sh) % wc))))))), (16, .int (iI 0)), (15, .int (iI 0)), (14, .int (iI (lq + (Fw (Int.toNat ((xq + sh) % wc)))))), (13, .int (iI (9 * k))), (12, .int (iI 1)), (0, .ref h0), (1, .int (iI x)), (6, .int (iI xq)), (11, .int (iI bq))]) C dX6_fly_366 (by decide) rfl ?_
              refine r_iload C dX6_fly_368 2 rfl ?_
              refine r_if_le (tgt := 386) C dX6_fly_370 (by decide) (by have := hFw (Int.toNat ((xq + sh) % wc)); omega) (fun h_21 => ?_) (fun h_21 => ?_)
              · skip
                refine r_iconst C dX6_fly_386 ?_
                refine r_istore (lo2 := [(12, .int (iI 0)), (9, .int (iI (fSl (Ru (Int.toNat 3)) lq (fSn nq)))), (10, .int (iI (fSn nq))), (7, .int (iI (max 0 (sq - (fTk (Ru (Int.toNat 1)) (Ru (Int.toNat 5)) (Rg (Int.toNat x)) sq (lq + (Fw (Int.toNat ((xq + sh) % wc))))))))), (18, .int (iI (max 0 (sq - (fTk (Ru (Int.toNat 1)) (Ru (Int.toNat 5)) (Rg (Int.toNat x)) sq (lq + (Fw (Int.toNat ((xq + sh) % wc))))))))), (8, .int (iI (fFl (Ru (Int.toNat 2)) (Ru (Int.toNat 5)) fq (lq + (Fw (Int.toNat ((xq + sh) % wc))))))), (17, .int (iI (fTk (Ru (Int.toNat 1)) (Ru (Int.toNat 5)) (Rg (Int.toNat x)) sq (lq + (Fw (Int.toNat ((xq + sh) % wc))))))), (16, .int (iI 0)), (15, .int (iI 0)), (14, .int (iI (lq + (Fw (Int.toNat ((xq + sh) % wc)))))), (13, .int (iI (9 * k))), (0, .ref h0), (1, .int (iI x)), (6, .int (iI xq)), (11, .int (iI bq))]) C dX6_fly_387 (by decide) rfl ?_
                refine r_iload C dX6_fly_389 13 rfl ?_
                refine r_iload C dX6_fly_391 3 rfl ?_
                refine r_iload C dX6_fly_393 5 rfl ?_
                refine r_imul C dX6_fly_395 ?_
                refine r_bipush C dX6_fly_396 (by decide) ?_
                refine r_idiv C dX6_fly_398 (by have := hFw (Int.toNat ((xq + sh) % wc)); omega) (by omega) ?_
                refine r_iadd C dX6_fly_399 ?_
                refine r_istore (lo2 := [(6, .int (iI (xq + (((max 0 (sq - (fTk (Ru (Int.toNat 1)) (Ru (Int.toNat 5)) (Rg (Int.toNat x)) sq (lq + (Fw (Int.toNat ((xq + sh) % wc))))))) * (fFl (Ru (Int.toNat 2)) (Ru (Int.toNat 5)) fq (lq + (Fw (Int.toNat ((xq + sh) % wc)))))) / 20)))), (12, .int (iI 0)), (9, .int (iI (fSl (Ru (Int.toNat 3)) lq (fSn nq)))), (10, .int (iI (fSn nq))), (7, .int (iI (max 0 (sq - (fTk (Ru (Int.toNat 1)) (Ru (Int.toNat 5)) (Rg (Int.toNat x)) sq (lq + (Fw (Int.toNat ((xq + sh) % wc))))))))), (18, .int (iI (max 0 (sq - (fTk (Ru (Int.toNat 1)) (Ru (Int.toNat 5)) (Rg (Int.toNat x)) sq (lq + (Fw (Int.toNat ((xq + sh) % wc))))))))), (8, .int (iI (fFl (Ru (Int.toNat 2)) (Ru (Int.toNat 5)) fq (lq + (Fw (Int.toNat ((xq + sh) % wc))))))), (17, .int (iI (fTk (Ru (Int.toNat 1)) (Ru (Int.toNat 5)) (Rg (Int.toNat x)) sq (lq + (Fw (Int.toNat ((xq + sh) % wc))))))), (16, .int (iI 0)), (15, .int (iI 0)), (14, .int (iI (lq + (Fw (Int.toNat ((xq + sh) % wc)))))), (13, .int (iI (9 * k))), (0, .ref h0), (1, .int (iI x)), (11, .int (iI bq))]) C dX6_fly_400 (by decide) rfl ?_
                refine r_iload C dX6_fly_402 14 rfl ?_
                refine r_iload C dX6_fly_404 6 rfl ?_
                refine r_iconst C dX6_fly_406 ?_
                refine r_idiv C dX6_fly_407 (by have := hFw (Int.toNat ((xq + sh) % wc)); omega) (by omega) ?_
                refine r_iadd C dX6_fly_408 ?_
                refine r_istore (lo2 := [(11, .int (iI (bq + ((fFl (Ru (Int.toNat 2)) (Ru (Int.toNat 5)) fq (lq + (Fw (Int.toNat ((xq + sh) % wc))))) / 5)))), (6, .int (iI (xq + (((max 0 (sq - (fTk (Ru (Int.toNat 1)) (Ru (Int.toNat 5)) (Rg (Int.toNat x)) sq (lq + (Fw (Int.toNat ((xq + sh) % wc))))))) * (fFl (Ru (Int.toNat 2)) (Ru (Int.toNat 5)) fq (lq + (Fw (Int.toNat ((xq + sh) % wc)))))) / 20)))), (12, .int (iI 0)), (9, .int (iI (fSl (Ru (Int.toNat 3)) lq (fSn nq)))), (10, .int (iI (fSn nq))), (7, .int (iI (max 0 (sq - (fTk (Ru (Int.toNat 1)) (Ru (Int.toNat 5)) (Rg (Int.toNat x)) sq (lq + (Fw (Int.toNat ((xq + sh) % wc))))))))), (18, .int (iI (max 0 (sq - (fTk (Ru (Int.toNat 1)) (Ru (Int.toNat 5)) (Rg (Int.toNat x)) sq (lq + (Fw (Int.toNat ((xq + sh) % wc))))))))), (8, .int (iI (fFl (Ru (Int.toNat 2)) (Ru (Int.toNat 5)) fq (lq + (Fw (Int.toNat ((xq + sh) % wc))))))), (17, .int (iI (fTk (Ru (Int.toNat 1)) (Ru (Int.toNat 5)) (Rg (Int.toNat x)) sq (lq + (Fw (Int.toNat ((xq + sh) % wc))))))), (16, .int (iI 0)), (15, .int (iI 0)), (14, .int (iI (lq + (Fw (Int.toNat ((xq + sh) % wc)))))), (13, .int (iI (9 * k))), (0, .ref h0), (1, .int (iI x))]) C dX6_fly_409 (by decide) rfl ?_
                refine r_goto (tgt := 28) C dX6_fly_411 (by decide) ?_
                refine r_iload C dX6_fly_28 2 rfl ?_
                refine r_if_eq (tgt := 414) C dX6_fly_30 (by decide) (by decide) (fun h_22 => ?_) (fun h_22 => absurd h_22 (by decide))
                exact g_ret_v C rfl dX6_fly_414 () trivial [0, 1, 2, 3, 4, 5, 6] rfl (by first | (rw [iN, iR, fNum_stop (E := ((((Ru (Int.toNat 0)), (Ru (Int.toNat 1)), (Ru (Int.toNat 2)), (Ru (Int.toNat 3)), (Ru (Int.toNat 4)), (Ru (Int.toNat 5))), ((Wt (Int.toNat x)), (Wd (Int.toNat x)), (Rg (Int.toNat x))), (sh, wc, Fw)) : fEn)) (t := ((xq, sq, fq, lq, nq, bq) : fS)) (by omega) (Or.inl KSK), fRes_sunk (E := ((((Ru (Int.toNat 0)), (Ru (Int.toNat 1)), (Ru (Int.toNat 2)), (Ru (Int.toNat 3)), (Ru (Int.toNat 4)), (Ru (Int.toNat 5))), ((Wt (Int.toNat x)), (Wd (Int.toNat x)), (Rg (Int.toNat x))), (sh, wc, Fw)) : fEn)) (t := ((xq, sq, fq, lq, nq, bq) : fS)) (by omega) KSK, ← kpF_ref (by omega)] <;> rfl) | (rw [iN, iR, fNum_stop (E := ((((Ru (Int.toNat 0)), (Ru (Int.toNat 1)), (Ru (Int.toNat 2)), (Ru (Int.toNat 3)), (Ru (Int.toNat 4)), (Ru (Int.toNat 5))), ((Wt (Int.toNat x)), (Wd (Int.toNat x)), (Rg (Int.toNat x))), (sh, wc, Fw)) : fEn)) (t := ((xq, sq, fq, lq, nq, bq) : fS)) (by omega) (Or.inr (show (max 0 (sq - (fTk (Ru (Int.toNat 1)) (Ru (Int.toNat 5)) (Rg (Int.toNat x)) sq (lq + (Fw (Int.toNat ((xq + sh) % wc))))))) = 0 by omega)), fRes_zero (E := ((((Ru (Int.toNat 0)), (Ru (Int.toNat 1)), (Ru (Int.toNat 2)), (Ru (Int.toNat 3)), (Ru (Int.toNat 4)), (Ru (Int.toNat 5))), ((Wt (Int.toNat x)), (Wd (Int.toNat x)), (Rg (Int.toNat x))), (sh, wc, Fw)) : fEn)) (t := ((xq, sq, fq, lq, nq, bq) : fS)) (by omega) KSK (show (max 0 (sq - (fTk (Ru (Int.toNat 1)) (Ru (Int.toNat 5)) (Rg (Int.toNat x)) sq (lq + (Fw (Int.toNat ((xq + sh) % wc))))))) = 0 by omega), ← kpF_ref (by omega)] <;> rfl) | (rw [iN, iR, fNum_go (E := ((((Ru (Int.toNat 0)), (Ru (Int.toNat 1)), (Ru (Int.toNat 2)), (Ru (Int.toNat 3)), (Ru (Int.toNat 4)), (Ru (Int.toNat 5))), ((Wt (Int.toNat x)), (Wd (Int.toNat x)), (Rg (Int.toNat x))), (sh, wc, Fw)) : fEn)) (t := ((xq, sq, fq, lq, nq, bq) : fS)) (by omega) (fun q => q.elim KSK (by intro z; change (max 0 (sq - (fTk (Ru (Int.toNat 1)) (Ru (Int.toNat 5)) (Rg (Int.toNat x)) sq (lq + (Fw (Int.toNat ((xq + sh) % wc))))))) = 0 at z; omega)), fRes_go (E := ((((Ru (Int.toNat 0)), (Ru (Int.toNat 1)), (Ru (Int.toNat 2)), (Ru (Int.toNat 3)), (Ru (Int.toNat 4)), (Ru (Int.toNat 5))), ((Wt (Int.toNat x)), (Wd (Int.toNat x)), (Rg (Int.toNat x))), (sh, wc, Fw)) : fEn)) (t := ((xq, sq, fq, lq, nq, bq) : fS)) (by omega) KSK (by intro z; change (max 0 (sq - (fTk (Ru (Int.toNat 1)) (Ru (Int.toNat 5)) (Rg (Int.toNat x)) sq (lq + (Fw (Int.toNat ((xq + sh) % wc))))))) = 0 at z; omega), show (90 - (k + 1)).toNat = 0 by omega, ← kpF_ref (by omega)] <;> rfl))
              · skip
                refine r_aload_n C dX6_fly_373 11 rfl ?_
                refine gf_6_13 C hi_X6_fly_6 kw_X6_fly_0 dX6_fly_374 0 rfl rfl ?_
                refine r_bipush C dX6_fly_377 (by decide) ?_
                refine r_icmp_ge (tgt := 386) C dX6_fly_379 (by decide) (by omega) (by decide) (fun h_23 => ?_) (fun h_23 => ?_)
                · skip
                  refine r_iconst C dX6_fly_386 ?_
                  refine r_istore (lo2 := [(12, .int (iI 0)), (9, .int (iI (fSl (Ru (Int.toNat 3)) lq (fSn nq)))), (10, .int (iI (fSn nq))), (7, .int (iI (max 0 (sq - (fTk (Ru (Int.toNat 1)) (Ru (Int.toNat 5)) (Rg (Int.toNat x)) sq (lq + (Fw (Int.toNat ((xq + sh) % wc))))))))), (18, .int (iI (max 0 (sq - (fTk (Ru (Int.toNat 1)) (Ru (Int.toNat 5)) (Rg (Int.toNat x)) sq (lq + (Fw (Int.toNat ((xq + sh) % wc))))))))), (8, .int (iI (fFl (Ru (Int.toNat 2)) (Ru (Int.toNat 5)) fq (lq + (Fw (Int.toNat ((xq + sh) % wc))))))), (17, .int (iI (fTk (Ru (Int.toNat 1)) (Ru (Int.toNat 5)) (Rg (Int.toNat x)) sq (lq + (Fw (Int.toNat ((xq + sh) % wc))))))), (16, .int (iI 0)), (15, .int (iI 0)), (14, .int (iI (lq + (Fw (Int.toNat ((xq + sh) % wc)))))), (13, .int (iI (9 * k))), (0, .ref h0), (1, .int (iI x)), (6, .int (iI xq)), (11, .int (iI bq))]) C dX6_fly_387 (by decide) rfl ?_
                  refine r_iload C dX6_fly_389 13 rfl ?_
                  refine r_iload C dX6_fly_391 3 rfl ?_
                  refine r_iload C dX6_fly_393 5 rfl ?_
                  refine r_imul C dX6_fly_395 ?_
                  refine r_bipush C dX6_fly_396 (by decide) ?_
                  refine r_idiv C dX6_fly_398 (by have := hFw (Int.toNat ((xq + sh) % wc)); omega) (by omega) ?_
                  refine r_iadd C dX6_fly_399 ?_
                  refine r_istore (lo2 := [(6, .int (iI (xq + (((max 0 (sq - (fTk (Ru (Int.toNat 1)) (Ru (Int.toNat 5)) (Rg (Int.toNat x)) sq (lq + (Fw (Int.toNat ((xq + sh) % wc))))))) * (fFl (Ru (Int.toNat 2)) (Ru (Int.toNat 5)) fq (lq + (Fw (Int.toNat ((xq + sh) % wc)))))) / 20)))), (12, .int (iI 0)), (9, .int (iI (fSl (Ru (Int.toNat 3)) lq (fSn nq)))), (10, .int (iI (fSn nq))), (7, .int (iI (max 0 (sq - (fTk (Ru (Int.toNat 1)) (Ru (Int.toNat 5)) (Rg (Int.toNat x)) sq (lq + (Fw (Int.toNat ((xq + sh) % wc))))))))), (18, .int (iI (max 0 (sq - (fTk (Ru (Int.toNat 1)) (Ru (Int.toNat 5)) (Rg (Int.toNat x)) sq (lq + (Fw (Int.toNat ((xq + sh) % wc))))))))), (8, .int (iI (fFl (Ru (Int.toNat 2)) (Ru (Int.toNat 5)) fq (lq + (Fw (Int.toNat ((xq + sh) % wc))))))), (17, .int (iI (fTk (Ru (Int.toNat 1)) (Ru (Int.toNat 5)) (Rg (Int.toNat x)) sq (lq + (Fw (Int.toNat ((xq + sh) % wc))))))), (16, .int (iI 0)), (15, .int (iI 0)), (14, .int (iI (lq + (Fw (Int.toNat ((xq + sh) % wc)))))), (13, .int (iI (9 * k))), (0, .ref h0), (1, .int (iI x)), (11, .int (iI bq))]) C dX6_fly_400 (by decide) rfl ?_
                  refine r_iload C dX6_fly_402 14 rfl ?_
                  refine r_iload C dX6_fly_404 6 rfl ?_
                  refine r_iconst C dX6_fly_406 ?_
                  refine r_idiv C dX6_fly_407 (by have := hFw (Int.toNat ((xq + sh) % wc)); omega) (by omega) ?_
                  refine r_iadd C dX6_fly_408 ?_
                  refine r_istore (lo2 := [(11, .int (iI (bq + ((fFl (Ru (Int.toNat 2)) (Ru (Int.toNat 5)) fq (lq + (Fw (Int.toNat ((xq + sh) % wc))))) / 5)))), (6, .int (iI (xq + (((max 0 (sq - (fTk (Ru (Int.toNat 1)) (Ru (Int.toNat 5)) (Rg (Int.toNat x)) sq (lq + (Fw (Int.toNat ((xq + sh) % wc))))))) * (fFl (Ru (Int.toNat 2)) (Ru (Int.toNat 5)) fq (lq + (Fw (Int.toNat ((xq + sh) % wc)))))) / 20)))), (12, .int (iI 0)), (9, .int (iI (fSl (Ru (Int.toNat 3)) lq (fSn nq)))), (10, .int (iI (fSn nq))), (7, .int (iI (max 0 (sq - (fTk (Ru (Int.toNat 1)) (Ru (Int.toNat 5)) (Rg (Int.toNat x)) sq (lq + (Fw (Int.toNat ((xq + sh) % wc))))))))), (18, .int (iI (max 0 (sq - (fTk (Ru (Int.toNat 1)) (Ru (Int.toNat 5)) (Rg (Int.toNat x)) sq (lq + (Fw (Int.toNat ((xq + sh) % wc))))))))), (8, .int (iI (fFl (Ru (Int.toNat 2)) (Ru (Int.toNat 5)) fq (lq + (Fw (Int.toNat ((xq + sh) % wc))))))), (17, .int (iI (fTk (Ru (Int.toNat 1)) (Ru (Int.toNat 5)) (Rg (Int.toNat x)) sq (lq + (Fw (Int.toNat ((xq + sh) % wc))))))), (16, .int (iI 0)), (15, .int (iI 0)), (14, .int (iI (lq + (Fw (Int.toNat ((xq + sh) % wc)))))), (13, .int (iI (9 * k))), (0, .ref h0), (1, .int (iI x))]) C dX6_fly_409 (by decide) rfl ?_
                  refine r_goto (tgt := 28) C dX6_fly_411 (by decide) ?_
                  refine r_iload C dX6_fly_28 2 rfl ?_
                  refine r_if_eq (tgt := 414) C dX6_fly_30 (by decide) (by decide) (fun h_24 => ?_) (fun h_24 => absurd h_24 (by decide))
                  exact g_ret_v C rfl dX6_fly_414 () trivial [0, 1, 2, 3, 4, 5, 6] rfl (by first | (rw [iN, iR, fNum_stop (E := ((((Ru (Int.toNat 0)), (Ru (Int.toNat 1)), (Ru (Int.toNat 2)), (Ru (Int.toNat 3)), (Ru (Int.toNat 4)), (Ru (Int.toNat 5))), ((Wt (Int.toNat x)), (Wd (Int.toNat x)), (Rg (Int.toNat x))), (sh, wc, Fw)) : fEn)) (t := ((xq, sq, fq, lq, nq, bq) : fS)) (by omega) (Or.inl KSK), fRes_sunk (E := ((((Ru (Int.toNat 0)), (Ru (Int.toNat 1)), (Ru (Int.toNat 2)), (Ru (Int.toNat 3)), (Ru (Int.toNat 4)), (Ru (Int.toNat 5))), ((Wt (Int.toNat x)), (Wd (Int.toNat x)), (Rg (Int.toNat x))), (sh, wc, Fw)) : fEn)) (t := ((xq, sq, fq, lq, nq, bq) : fS)) (by omega) KSK, ← kpF_ref (by omega)] <;> rfl) | (rw [iN, iR, fNum_stop (E := ((((Ru (Int.toNat 0)), (Ru (Int.toNat 1)), (Ru (Int.toNat 2)), (Ru (Int.toNat 3)), (Ru (Int.toNat 4)), (Ru (Int.toNat 5))), ((Wt (Int.toNat x)), (Wd (Int.toNat x)), (Rg (Int.toNat x))), (sh, wc, Fw)) : fEn)) (t := ((xq, sq, fq, lq, nq, bq) : fS)) (by omega) (Or.inr (show (max 0 (sq - (fTk (Ru (Int.toNat 1)) (Ru (Int.toNat 5)) (Rg (Int.toNat x)) sq (lq + (Fw (Int.toNat ((xq + sh) % wc))))))) = 0 by omega)), fRes_zero (E := ((((Ru (Int.toNat 0)), (Ru (Int.toNat 1)), (Ru (Int.toNat 2)), (Ru (Int.toNat 3)), (Ru (Int.toNat 4)), (Ru (Int.toNat 5))), ((Wt (Int.toNat x)), (Wd (Int.toNat x)), (Rg (Int.toNat x))), (sh, wc, Fw)) : fEn)) (t := ((xq, sq, fq, lq, nq, bq) : fS)) (by omega) KSK (show (max 0 (sq - (fTk (Ru (Int.toNat 1)) (Ru (Int.toNat 5)) (Rg (Int.toNat x)) sq (lq + (Fw (Int.toNat ((xq + sh) % wc))))))) = 0 by omega), ← kpF_ref (by omega)] <;> rfl) | (rw [iN, iR, fNum_go (E := ((((Ru (Int.toNat 0)), (Ru (Int.toNat 1)), (Ru (Int.toNat 2)), (Ru (Int.toNat 3)), (Ru (Int.toNat 4)), (Ru (Int.toNat 5))), ((Wt (Int.toNat x)), (Wd (Int.toNat x)), (Rg (Int.toNat x))), (sh, wc, Fw)) : fEn)) (t := ((xq, sq, fq, lq, nq, bq) : fS)) (by omega) (fun q => q.elim KSK (by intro z; change (max 0 (sq - (fTk (Ru (Int.toNat 1)) (Ru (Int.toNat 5)) (Rg (Int.toNat x)) sq (lq + (Fw (Int.toNat ((xq + sh) % wc))))))) = 0 at z; omega)), fRes_go (E := ((((Ru (Int.toNat 0)), (Ru (Int.toNat 1)), (Ru (Int.toNat 2)), (Ru (Int.toNat 3)), (Ru (Int.toNat 4)), (Ru (Int.toNat 5))), ((Wt (Int.toNat x)), (Wd (Int.toNat x)), (Rg (Int.toNat x))), (sh, wc, Fw)) : fEn)) (t := ((xq, sq, fq, lq, nq, bq) : fS)) (by omega) KSK (by intro z; change (max 0 (sq - (fTk (Ru (Int.toNat 1)) (Ru (Int.toNat 5)) (Rg (Int.toNat x)) sq (lq + (Fw (Int.toNat ((xq + sh) % wc))))))) = 0 at z; omega), show (90 - (k + 1)).toNat = 0 by omega, ← kpF_ref (by omega)] <;> rfl))
                · skip
                  refine r_iconst C dX6_fly_382 ?_
                  refine r_goto (tgt := 387) C dX6_fly_383 (by decide) ?_
                  refine r_istore (lo2 := [(12, .int (iI 1)), (9, .int (iI (fSl (Ru (Int.toNat 3)) lq (fSn nq)))), (10, .int (iI (fSn nq))), (7, .int (iI (max 0 (sq - (fTk (Ru (Int.toNat 1)) (Ru (Int.toNat 5)) (Rg (Int.toNat x)) sq (lq + (Fw (Int.toNat ((xq + sh) % wc))))))))), (18, .int (iI (max 0 (sq - (fTk (Ru (Int.toNat 1)) (Ru (Int.toNat 5)) (Rg (Int.toNat x)) sq (lq + (Fw (Int.toNat ((xq + sh) % wc))))))))), (8, .int (iI (fFl (Ru (Int.toNat 2)) (Ru (Int.toNat 5)) fq (lq + (Fw (Int.toNat ((xq + sh) % wc))))))), (17, .int (iI (fTk (Ru (Int.toNat 1)) (Ru (Int.toNat 5)) (Rg (Int.toNat x)) sq (lq + (Fw (Int.toNat ((xq + sh) % wc))))))), (16, .int (iI 0)), (15, .int (iI 0)), (14, .int (iI (lq + (Fw (Int.toNat ((xq + sh) % wc)))))), (13, .int (iI (9 * k))), (0, .ref h0), (1, .int (iI x)), (6, .int (iI xq)), (11, .int (iI bq))]) C dX6_fly_387 (by decide) rfl ?_
                  refine r_iload C dX6_fly_389 13 rfl ?_
                  refine r_iload C dX6_fly_391 3 rfl ?_
                  refine r_iload C dX6_fly_393 5 rfl ?_
                  refine r_imul C dX6_fly_395 ?_
                  refine r_bipush C dX6_fly_396 (by decide) ?_
                  refine r_idiv C dX6_fly_398 (by have := hFw (Int.toNat ((xq + sh) % wc)); omega) (by omega) ?_
                  refine r_iadd C dX6_fly_399 ?_
                  refine r_istore (lo2 := [(6, .int (iI (xq + (((max 0 (sq - (fTk (Ru (Int.toNat 1)) (Ru (Int.toNat 5)) (Rg (Int.toNat x)) sq (lq + (Fw (Int.toNat ((xq + sh) % wc))))))) * (fFl (Ru (Int.toNat 2)) (Ru (Int.toNat 5)) fq (lq + (Fw (Int.toNat ((xq + sh) % wc)))))) / 20)))), (12, .int (iI 1)), (9, .int (iI (fSl (Ru (Int.toNat 3)) lq (fSn nq)))), (10, .int (iI (fSn nq))), (7, .int (iI (max 0 (sq - (fTk (Ru (Int.toNat 1)) (Ru (Int.toNat 5)) (Rg (Int.toNat x)) sq (lq + (Fw (Int.toNat ((xq + sh) % wc))))))))), (18, .int (iI (max 0 (sq - (fTk (Ru (Int.toNat 1)) (Ru (Int.toNat 5)) (Rg (Int.toNat x)) sq (lq + (Fw (Int.toNat ((xq + sh) % wc))))))))), (8, .int (iI (fFl (Ru (Int.toNat 2)) (Ru (Int.toNat 5)) fq (lq + (Fw (Int.toNat ((xq + sh) % wc))))))), (17, .int (iI (fTk (Ru (Int.toNat 1)) (Ru (Int.toNat 5)) (Rg (Int.toNat x)) sq (lq + (Fw (Int.toNat ((xq + sh) % wc))))))), (16, .int (iI 0)), (15, .int (iI 0)), (14, .int (iI (lq + (Fw (Int.toNat ((xq + sh) % wc)))))), (13, .int (iI (9 * k))), (0, .ref h0), (1, .int (iI x)), (11, .int (iI bq))]) C dX6_fly_400 (by decide) rfl ?_
                  refine r_iload C dX6_fly_402 14 rfl ?_
                  refine r_iload C dX6_fly_404 6 rfl ?_
                  refine r_iconst C dX6_fly_406 ?_
                  refine r_idiv C dX6_fly_407 (by have := hFw (Int.toNat ((xq + sh) % wc)); omega) (by omega) ?_
                  refine r_iadd C dX6_fly_408 ?_
                  refine r_istore (lo2 := [(11, .int (iI (bq + ((fFl (Ru (Int.toNat 2)) (Ru (Int.toNat 5)) fq (lq + (Fw (Int.toNat ((xq + sh) % wc))))) / 5)))), (6, .int (iI (xq + (((max 0 (sq - (fTk (Ru (Int.toNat 1)) (Ru (Int.toNat 5)) (Rg (Int.toNat x)) sq (lq + (Fw (Int.toNat ((xq + sh) % wc))))))) * (fFl (Ru (Int.toNat 2)) (Ru (Int.toNat 5)) fq (lq + (Fw (Int.toNat ((xq + sh) % wc)))))) / 20)))), (12, .int (iI 1)), (9, .int (iI (fSl (Ru (Int.toNat 3)) lq (fSn nq)))), (10, .int (iI (fSn nq))), (7, .int (iI (max 0 (sq - (fTk (Ru (Int.toNat 1)) (Ru (Int.toNat 5)) (Rg (Int.toNat x)) sq (lq + (Fw (Int.toNat ((xq + sh) % wc))))))))), (18, .int (iI (max 0 (sq - (fTk (Ru (Int.toNat 1)) (Ru (Int.toNat 5)) (Rg (Int.toNat x)) sq (lq + (Fw (Int.toNat ((xq + sh) % wc))))))))), (8, .int (iI (fFl (Ru (Int.toNat 2)) (Ru (Int.toNat 5)) fq (lq + (Fw (Int.toNat ((xq + sh) % wc))))))), (17, .int (iI (fTk (Ru (Int.toNat 1)) (Ru (Int.toNat 5)) (Rg (Int.toNat x)) sq (lq + (Fw (Int.toNat ((xq + sh) % wc))))))), (16, .int (iI 0)), (15, .int (iI 0)), (14, .int (iI (lq + (Fw (Int.toNat ((xq + sh) % wc)))))), (13, .int (iI (9 * k))), (0, .ref h0), (1, .int (iI x))]) C dX6_fly_409 (by decide) rfl ?_
                  refine r_goto (tgt := 28) C dX6_fly_411 (by decide) ?_
                  refine r_lo [2, 13, 14, 1, 5, 7, 3, 4, 0] (lo2 := [(12, .int (iI 1)), (0, .ref h0), (1, .int (iI x)), (6, .int (iI (xq + (((max 0 (sq - (fTk (Ru (Int.toNat 1)) (Ru (Int.toNat 5)) (Rg (Int.toNat x)) sq (lq + (Fw (Int.toNat ((xq + sh) % wc))))))) * (fFl (Ru (Int.toNat 2)) (Ru (Int.toNat 5)) fq (lq + (Fw (Int.toNat ((xq + sh) % wc)))))) / 20)))), (7, .int (iI (max 0 (sq - (fTk (Ru (Int.toNat 1)) (Ru (Int.toNat 5)) (Rg (Int.toNat x)) sq (lq + (Fw (Int.toNat ((xq + sh) % wc))))))))), (8, .int (iI (fFl (Ru (Int.toNat 2)) (Ru (Int.toNat 5)) fq (lq + (Fw (Int.toNat ((xq + sh) % wc))))))), (9, .int (iI (fSl (Ru (Int.toNat 3)) lq (fSn nq)))), (10, .int (iI (fSn nq))), (11, .int (iI (bq + ((fFl (Ru (Int.toNat 2)) (Ru (Int.toNat 5)) fq (lq + (Fw (Int.toNat ((xq + sh) % wc))))) / 5))))]) rfl ?_
                  exact ih28 (xq + (((max 0 (sq - (fTk (Ru (Int.toNat 1)) (Ru (Int.toNat 5)) (Rg (Int.toNat x)) sq (lq + (Fw (Int.toNat ((xq + sh) % wc))))))) * (fFl (Ru (Int.toNat 2)) (Ru (Int.toNat 5)) fq (lq + (Fw (Int.toNat ((xq + sh) % wc)))))) / 20)) (max 0 (sq - (fTk (Ru (Int.toNat 1)) (Ru (Int.toNat 5)) (Rg (Int.toNat x)) sq (lq + (Fw (Int.toNat ((xq + sh) % wc))))))) (fFl (Ru (Int.toNat 2)) (Ru (Int.toNat 5)) fq (lq + (Fw (Int.toNat ((xq + sh) % wc))))) (fSl (Ru (Int.toNat 3)) lq (fSn nq)) (fSn nq) (bq + ((fFl (Ru (Int.toNat 2)) (Ru (Int.toNat 5)) fq (lq + (Fw (Int.toNat ((xq + sh) % wc))))) / 5)) (k + 1) (updI (updI (updI (updI (updI (updI (updI (updI (updI G (Int.toNat ((9 * k) + 1)) xq) (Int.toNat ((9 * k) + 2)) sq) (Int.toNat ((9 * k) + 3)) fq) (Int.toNat ((9 * k) + 4)) lq) (Int.toNat ((9 * k) + 5)) nq) (Int.toNat ((9 * k) + 6)) (lq + (Fw (Int.toNat ((xq + sh) % wc))))) (Int.toNat ((9 * k) + 8)) bq) (Int.toNat (9 * k)) (fKd (Ru (Int.toNat 4)) (Ru (Int.toNat 5)) (lq + (Fw (Int.toNat ((xq + sh) % wc)))) (fFl (Ru (Int.toNat 2)) (Ru (Int.toNat 5)) fq (lq + (Fw (Int.toNat ((xq + sh) % wc))))))) (Int.toNat ((9 * k) + 7)) (fTk (Ru (Int.toNat 1)) (Ru (Int.toNat 5)) (Rg (Int.toNat x)) sq (lq + (Fw (Int.toNat ((xq + sh) % wc)))))) (by omega) (by omega) (by omega) (by omega) (by omega) (by omega) (by omega) (by rw [iN, fNum_go (E := ((((Ru (Int.toNat 0)), (Ru (Int.toNat 1)), (Ru (Int.toNat 2)), (Ru (Int.toNat 3)), (Ru (Int.toNat 4)), (Ru (Int.toNat 5))), ((Wt (Int.toNat x)), (Wd (Int.toNat x)), (Rg (Int.toNat x))), (sh, wc, Fw)) : fEn)) (t := ((xq, sq, fq, lq, nq, bq) : fS)) (by omega) (fun q => q.elim KSK (by intro z; simp only [fSpT, fTkT] at z; change (max 0 (sq - (fTk (Ru (Int.toNat 1)) (Ru (Int.toNat 5)) (Rg (Int.toNat x)) sq (lq + (Fw (Int.toNat ((xq + sh) % wc))))))) = 0 at z; omega))] <;> rfl) (by rw [iR, fRes_go (E := ((((Ru (Int.toNat 0)), (Ru (Int.toNat 1)), (Ru (Int.toNat 2)), (Ru (Int.toNat 3)), (Ru (Int.toNat 4)), (Ru (Int.toNat 5))), ((Wt (Int.toNat x)), (Wd (Int.toNat x)), (Rg (Int.toNat x))), (sh, wc, Fw)) : fEn)) (t := ((xq, sq, fq, lq, nq, bq) : fS)) (by omega) KSK (by intro z; change (max 0 (sq - (fTk (Ru (Int.toNat 1)) (Ru (Int.toNat 5)) (Rg (Int.toNat x)) sq (lq + (Fw (Int.toNat ((xq + sh) % wc))))))) = 0 at z; omega), ← kpF_ref (by omega)] <;> rfl) (by omega)
            · skip
              refine r_aload_n C dX6_fly_350 10 rfl ?_
              refine gf_6_7 C hi_X6_fly_6 kw_X6_fly_1 dX6_fly_351 0 rfl rfl ?_
              refine r_iconst C dX6_fly_354 ?_
              refine r_iald C dX6_fly_355 4 rfl (by omega) (by decide) ?_
              refine r_iload C dX6_fly_356 0 rfl ?_
              refine r_isub C dX6_fly_358 ?_
              refine r_iconst C dX6_fly_359 ?_
              refine r_idiv C dX6_fly_360 (by omega) (by omega) ?_
              refine r_goto (tgt := 365) C dX6_fly_361 (by decide) ?_
              refine r_iadd C dX6_fly_365 ?_
              refine r_topi (z := (fSl (Ru (Int.toNat 3)) lq (fSn nq))) (by unfold fSl; first | (rw [if_pos (by omega)]; done) | (rw [if_neg (by omega)]; omega)) ?_
              refine r_istore (lo2 := [(9, .int (iI (fSl (Ru (Int.toNat 3)) lq (fSn nq)))), (10, .int (iI (fSn nq))), (7, .int (iI (max 0 (sq - (fTk (Ru (Int.toNat 1)) (Ru (Int.toNat 5)) (Rg (Int.toNat x)) sq (lq + (Fw (Int.toNat ((xq + sh) % wc))))))))), (18, .int (iI (max 0 (sq - (fTk (Ru (Int.toNat 1)) (Ru (Int.toNat 5)) (Rg (Int.toNat x)) sq (lq + (Fw (Int.toNat ((xq + sh) % wc))))))))), (8, .int (iI (fFl (Ru (Int.toNat 2)) (Ru (Int.toNat 5)) fq (lq + (Fw (Int.toNat ((xq + sh) % wc))))))), (17, .int (iI (fTk (Ru (Int.toNat 1)) (Ru (Int.toNat 5)) (Rg (Int.toNat x)) sq (lq + (Fw (Int.toNat ((xq + sh) % wc))))))), (16, .int (iI 0)), (15, .int (iI 0)), (14, .int (iI (lq + (Fw (Int.toNat ((xq + sh) % wc)))))), (13, .int (iI (9 * k))), (12, .int (iI 1)), (0, .ref h0), (1, .int (iI x)), (6, .int (iI xq)), (11, .int (iI bq))]) C dX6_fly_366 (by decide) rfl ?_
              refine r_iload C dX6_fly_368 2 rfl ?_
              refine r_if_le (tgt := 386) C dX6_fly_370 (by decide) (by have := hFw (Int.toNat ((xq + sh) % wc)); omega) (fun h_25 => ?_) (fun h_25 => ?_)
              · skip
                refine r_iconst C dX6_fly_386 ?_
                refine r_istore (lo2 := [(12, .int (iI 0)), (9, .int (iI (fSl (Ru (Int.toNat 3)) lq (fSn nq)))), (10, .int (iI (fSn nq))), (7, .int (iI (max 0 (sq - (fTk (Ru (Int.toNat 1)) (Ru (Int.toNat 5)) (Rg (Int.toNat x)) sq (lq + (Fw (Int.toNat ((xq + sh) % wc))))))))), (18, .int (iI (max 0 (sq - (fTk (Ru (Int.toNat 1)) (Ru (Int.toNat 5)) (Rg (Int.toNat x)) sq (lq + (Fw (Int.toNat ((xq + sh) % wc))))))))), (8, .int (iI (fFl (Ru (Int.toNat 2)) (Ru (Int.toNat 5)) fq (lq + (Fw (Int.toNat ((xq + sh) % wc))))))), (17, .int (iI (fTk (Ru (Int.toNat 1)) (Ru (Int.toNat 5)) (Rg (Int.toNat x)) sq (lq + (Fw (Int.toNat ((xq + sh) % wc))))))), (16, .int (iI 0)), (15, .int (iI 0)), (14, .int (iI (lq + (Fw (Int.toNat ((xq + sh) % wc)))))), (13, .int (iI (9 * k))), (0, .ref h0), (1, .int (iI x)), (6, .int (iI xq)), (11, .int (iI bq))]) C dX6_fly_387 (by decide) rfl ?_
                refine r_iload C dX6_fly_389 13 rfl ?_
                refine r_iload C dX6_fly_391 3 rfl ?_
                refine r_iload C dX6_fly_393 5 rfl ?_
                refine r_imul C dX6_fly_395 ?_
                refine r_bipush C dX6_fly_396 (by decide) ?_
                refine r_idiv C dX6_fly_398 (by have := hFw (Int.toNat ((xq + sh) % wc)); omega) (by omega) ?_
                refine r_iadd C dX6_fly_399 ?_
                refine r_istore (lo2 := [(6, .int (iI (xq + (((max 0 (sq - (fTk (Ru (Int.toNat 1)) (Ru (Int.toNat 5)) (Rg (Int.toNat x)) sq (lq + (Fw (Int.toNat ((xq + sh) % wc))))))) * (fFl (Ru (Int.toNat 2)) (Ru (Int.toNat 5)) fq (lq + (Fw (Int.toNat ((xq + sh) % wc)))))) / 20)))), (12, .int (iI 0)), (9, .int (iI (fSl (Ru (Int.toNat 3)) lq (fSn nq)))), (10, .int (iI (fSn nq))), (7, .int (iI (max 0 (sq - (fTk (Ru (Int.toNat 1)) (Ru (Int.toNat 5)) (Rg (Int.toNat x)) sq (lq + (Fw (Int.toNat ((xq + sh) % wc))))))))), (18, .int (iI (max 0 (sq - (fTk (Ru (Int.toNat 1)) (Ru (Int.toNat 5)) (Rg (Int.toNat x)) sq (lq + (Fw (Int.toNat ((xq + sh) % wc))))))))), (8, .int (iI (fFl (Ru (Int.toNat 2)) (Ru (Int.toNat 5)) fq (lq + (Fw (Int.toNat ((xq + sh) % wc))))))), (17, .int (iI (fTk (Ru (Int.toNat 1)) (Ru (Int.toNat 5)) (Rg (Int.toNat x)) sq (lq + (Fw (Int.toNat ((xq + sh) % wc))))))), (16, .int (iI 0)), (15, .int (iI 0)), (14, .int (iI (lq + (Fw (Int.toNat ((xq + sh) % wc)))))), (13, .int (iI (9 * k))), (0, .ref h0), (1, .int (iI x)), (11, .int (iI bq))]) C dX6_fly_400 (by decide) rfl ?_
                refine r_iload C dX6_fly_402 14 rfl ?_
                refine r_iload C dX6_fly_404 6 rfl ?_
                refine r_iconst C dX6_fly_406 ?_
                refine r_idiv C dX6_fly_407 (by have := hFw (Int.toNat ((xq + sh) % wc)); omega) (by omega) ?_
                refine r_iadd C dX6_fly_408 ?_
                refine r_istore (lo2 := [(11, .int (iI (bq + ((fFl (Ru (Int.toNat 2)) (Ru (Int.toNat 5)) fq (lq + (Fw (Int.toNat ((xq + sh) % wc))))) / 5)))), (6, .int (iI (xq + (((max 0 (sq - (fTk (Ru (Int.toNat 1)) (Ru (Int.toNat 5)) (Rg (Int.toNat x)) sq (lq + (Fw (Int.toNat ((xq + sh) % wc))))))) * (fFl (Ru (Int.toNat 2)) (Ru (Int.toNat 5)) fq (lq + (Fw (Int.toNat ((xq + sh) % wc)))))) / 20)))), (12, .int (iI 0)), (9, .int (iI (fSl (Ru (Int.toNat 3)) lq (fSn nq)))), (10, .int (iI (fSn nq))), (7, .int (iI (max 0 (sq - (fTk (Ru (Int.toNat 1)) (Ru (Int.toNat 5)) (Rg (Int.toNat x)) sq (lq + (Fw (Int.toNat ((xq + sh) % wc))))))))), (18, .int (iI (max 0 (sq - (fTk (Ru (Int.toNat 1)) (Ru (Int.toNat 5)) (Rg (Int.toNat x)) sq (lq + (Fw (Int.toNat ((xq + sh) % wc))))))))), (8, .int (iI (fFl (Ru (Int.toNat 2)) (Ru (Int.toNat 5)) fq (lq + (Fw (Int.toNat ((xq + sh) % wc))))))), (17, .int (iI (fTk (Ru (Int.toNat 1)) (Ru (Int.toNat 5)) (Rg (Int.toNat x)) sq (lq + (Fw (Int.toNat ((xq + sh) % wc))))))), (16, .int (iI 0)), (15, .int (iI 0)), (14, .int (iI (lq + (Fw (Int.toNat ((xq + sh) % wc)))))), (13, .int (iI (9 * k))), (0, .ref h0), (1, .int (iI x))]) C dX6_fly_409 (by decide) rfl ?_
                refine r_goto (tgt := 28) C dX6_fly_411 (by decide) ?_
                refine r_iload C dX6_fly_28 2 rfl ?_
                refine r_if_eq (tgt := 414) C dX6_fly_30 (by decide) (by decide) (fun h_26 => ?_) (fun h_26 => absurd h_26 (by decide))
                exact g_ret_v C rfl dX6_fly_414 () trivial [0, 1, 2, 3, 4, 5, 6] rfl (by first | (rw [iN, iR, fNum_stop (E := ((((Ru (Int.toNat 0)), (Ru (Int.toNat 1)), (Ru (Int.toNat 2)), (Ru (Int.toNat 3)), (Ru (Int.toNat 4)), (Ru (Int.toNat 5))), ((Wt (Int.toNat x)), (Wd (Int.toNat x)), (Rg (Int.toNat x))), (sh, wc, Fw)) : fEn)) (t := ((xq, sq, fq, lq, nq, bq) : fS)) (by omega) (Or.inl KSK), fRes_sunk (E := ((((Ru (Int.toNat 0)), (Ru (Int.toNat 1)), (Ru (Int.toNat 2)), (Ru (Int.toNat 3)), (Ru (Int.toNat 4)), (Ru (Int.toNat 5))), ((Wt (Int.toNat x)), (Wd (Int.toNat x)), (Rg (Int.toNat x))), (sh, wc, Fw)) : fEn)) (t := ((xq, sq, fq, lq, nq, bq) : fS)) (by omega) KSK, ← kpF_ref (by omega)] <;> rfl) | (rw [iN, iR, fNum_stop (E := ((((Ru (Int.toNat 0)), (Ru (Int.toNat 1)), (Ru (Int.toNat 2)), (Ru (Int.toNat 3)), (Ru (Int.toNat 4)), (Ru (Int.toNat 5))), ((Wt (Int.toNat x)), (Wd (Int.toNat x)), (Rg (Int.toNat x))), (sh, wc, Fw)) : fEn)) (t := ((xq, sq, fq, lq, nq, bq) : fS)) (by omega) (Or.inr (show (max 0 (sq - (fTk (Ru (Int.toNat 1)) (Ru (Int.toNat 5)) (Rg (Int.toNat x)) sq (lq + (Fw (Int.toNat ((xq + sh) % wc))))))) = 0 by omega)), fRes_zero (E := ((((Ru (Int.toNat 0)), (Ru (Int.toNat 1)), (Ru (Int.toNat 2)), (Ru (Int.toNat 3)), (Ru (Int.toNat 4)), (Ru (Int.toNat 5))), ((Wt (Int.toNat x)), (Wd (Int.toNat x)), (Rg (Int.toNat x))), (sh, wc, Fw)) : fEn)) (t := ((xq, sq, fq, lq, nq, bq) : fS)) (by omega) KSK (show (max 0 (sq - (fTk (Ru (Int.toNat 1)) (Ru (Int.toNat 5)) (Rg (Int.toNat x)) sq (lq + (Fw (Int.toNat ((xq + sh) % wc))))))) = 0 by omega), ← kpF_ref (by omega)] <;> rfl) | (rw [iN, iR, fNum_go (E := ((((Ru (Int.toNat 0)), (Ru (Int.toNat 1)), (Ru (Int.toNat 2)), (Ru (Int.toNat 3)), (Ru (Int.toNat 4)), (Ru (Int.toNat 5))), ((Wt (Int.toNat x)), (Wd (Int.toNat x)), (Rg (Int.toNat x))), (sh, wc, Fw)) : fEn)) (t := ((xq, sq, fq, lq, nq, bq) : fS)) (by omega) (fun q => q.elim KSK (by intro z; change (max 0 (sq - (fTk (Ru (Int.toNat 1)) (Ru (Int.toNat 5)) (Rg (Int.toNat x)) sq (lq + (Fw (Int.toNat ((xq + sh) % wc))))))) = 0 at z; omega)), fRes_go (E := ((((Ru (Int.toNat 0)), (Ru (Int.toNat 1)), (Ru (Int.toNat 2)), (Ru (Int.toNat 3)), (Ru (Int.toNat 4)), (Ru (Int.toNat 5))), ((Wt (Int.toNat x)), (Wd (Int.toNat x)), (Rg (Int.toNat x))), (sh, wc, Fw)) : fEn)) (t := ((xq, sq, fq, lq, nq, bq) : fS)) (by omega) KSK (by intro z; change (max 0 (sq - (fTk (Ru (Int.toNat 1)) (Ru (Int.toNat 5)) (Rg (Int.toNat x)) sq (lq + (Fw (Int.toNat ((xq + sh) % wc))))))) = 0 at z; omega), show (90 - (k + 1)).toNat = 0 by omega, ← kpF_ref (by omega)] <;> rfl))
              · skip
                refine r_aload_n C dX6_fly_373 11 rfl ?_
                refine gf_6_13 C hi_X6_fly_6 kw_X6_fly_0 dX6_fly_374 0 rfl rfl ?_
                refine r_bipush C dX6_fly_377 (by decide) ?_
                refine r_icmp_ge (tgt := 386) C dX6_fly_379 (by decide) (by omega) (by decide) (fun h_27 => ?_) (fun h_27 => ?_)
                · skip
                  refine r_iconst C dX6_fly_386 ?_
                  refine r_istore (lo2 := [(12, .int (iI 0)), (9, .int (iI (fSl (Ru (Int.toNat 3)) lq (fSn nq)))), (10, .int (iI (fSn nq))), (7, .int (iI (max 0 (sq - (fTk (Ru (Int.toNat 1)) (Ru (Int.toNat 5)) (Rg (Int.toNat x)) sq (lq + (Fw (Int.toNat ((xq + sh) % wc))))))))), (18, .int (iI (max 0 (sq - (fTk (Ru (Int.toNat 1)) (Ru (Int.toNat 5)) (Rg (Int.toNat x)) sq (lq + (Fw (Int.toNat ((xq + sh) % wc))))))))), (8, .int (iI (fFl (Ru (Int.toNat 2)) (Ru (Int.toNat 5)) fq (lq + (Fw (Int.toNat ((xq + sh) % wc))))))), (17, .int (iI (fTk (Ru (Int.toNat 1)) (Ru (Int.toNat 5)) (Rg (Int.toNat x)) sq (lq + (Fw (Int.toNat ((xq + sh) % wc))))))), (16, .int (iI 0)), (15, .int (iI 0)), (14, .int (iI (lq + (Fw (Int.toNat ((xq + sh) % wc)))))), (13, .int (iI (9 * k))), (0, .ref h0), (1, .int (iI x)), (6, .int (iI xq)), (11, .int (iI bq))]) C dX6_fly_387 (by decide) rfl ?_
                  refine r_iload C dX6_fly_389 13 rfl ?_
                  refine r_iload C dX6_fly_391 3 rfl ?_
                  refine r_iload C dX6_fly_393 5 rfl ?_
                  refine r_imul C dX6_fly_395 ?_
                  refine r_bipush C dX6_fly_396 (by decide) ?_
                  refine r_idiv C dX6_fly_398 (by have := hFw (Int.toNat ((xq + sh) % wc)); omega) (by omega) ?_
                  refine r_iadd C dX6_fly_399 ?_
                  refine r_istore (lo2 := [(6, .int (iI (xq + (((max 0 (sq - (fTk (Ru (Int.toNat 1)) (Ru (Int.toNat 5)) (Rg (Int.toNat x)) sq (lq + (Fw (Int.toNat ((xq + sh) % wc))))))) * (fFl (Ru (Int.toNat 2)) (Ru (Int.toNat 5)) fq (lq + (Fw (Int.toNat ((xq + sh) % wc)))))) / 20)))), (12, .int (iI 0)), (9, .int (iI (fSl (Ru (Int.toNat 3)) lq (fSn nq)))), (10, .int (iI (fSn nq))), (7, .int (iI (max 0 (sq - (fTk (Ru (Int.toNat 1)) (Ru (Int.toNat 5)) (Rg (Int.toNat x)) sq (lq + (Fw (Int.toNat ((xq + sh) % wc))))))))), (18, .int (iI (max 0 (sq - (fTk (Ru (Int.toNat 1)) (Ru (Int.toNat 5)) (Rg (Int.toNat x)) sq (lq + (Fw (Int.toNat ((xq + sh) % wc))))))))), (8, .int (iI (fFl (Ru (Int.toNat 2)) (Ru (Int.toNat 5)) fq (lq + (Fw (Int.toNat ((xq + sh) % wc))))))), (17, .int (iI (fTk (Ru (Int.toNat 1)) (Ru (Int.toNat 5)) (Rg (Int.toNat x)) sq (lq + (Fw (Int.toNat ((xq + sh) % wc))))))), (16, .int (iI 0)), (15, .int (iI 0)), (14, .int (iI (lq + (Fw (Int.toNat ((xq + sh) % wc)))))), (13, .int (iI (9 * k))), (0, .ref h0), (1, .int (iI x)), (11, .int (iI bq))]) C dX6_fly_400 (by decide) rfl ?_
                  refine r_iload C dX6_fly_402 14 rfl ?_
                  refine r_iload C dX6_fly_404 6 rfl ?_
                  refine r_iconst C dX6_fly_406 ?_
                  refine r_idiv C dX6_fly_407 (by have := hFw (Int.toNat ((xq + sh) % wc)); omega) (by omega) ?_
                  refine r_iadd C dX6_fly_408 ?_
                  refine r_istore (lo2 := [(11, .int (iI (bq + ((fFl (Ru (Int.toNat 2)) (Ru (Int.toNat 5)) fq (lq + (Fw (Int.toNat ((xq + sh) % wc))))) / 5)))), (6, .int (iI (xq + (((max 0 (sq - (fTk (Ru (Int.toNat 1)) (Ru (Int.toNat 5)) (Rg (Int.toNat x)) sq (lq + (Fw (Int.toNat ((xq + sh) % wc))))))) * (fFl (Ru (Int.toNat 2)) (Ru (Int.toNat 5)) fq (lq + (Fw (Int.toNat ((xq + sh) % wc)))))) / 20)))), (12, .int (iI 0)), (9, .int (iI (fSl (Ru (Int.toNat 3)) lq (fSn nq)))), (10, .int (iI (fSn nq))), (7, .int (iI (max 0 (sq - (fTk (Ru (Int.toNat 1)) (Ru (Int.toNat 5)) (Rg (Int.toNat x)) sq (lq + (Fw (Int.toNat ((xq + sh) % wc))))))))), (18, .int (iI (max 0 (sq - (fTk (Ru (Int.toNat 1)) (Ru (Int.toNat 5)) (Rg (Int.toNat x)) sq (lq + (Fw (Int.toNat ((xq + sh) % wc))))))))), (8, .int (iI (fFl (Ru (Int.toNat 2)) (Ru (Int.toNat 5)) fq (lq + (Fw (Int.toNat ((xq + sh) % wc))))))), (17, .int (iI (fTk (Ru (Int.toNat 1)) (Ru (Int.toNat 5)) (Rg (Int.toNat x)) sq (lq + (Fw (Int.toNat ((xq + sh) % wc))))))), (16, .int (iI 0)), (15, .int (iI 0)), (14, .int (iI (lq + (Fw (Int.toNat ((xq + sh) % wc)))))), (13, .int (iI (9 * k))), (0, .ref h0), (1, .int (iI x))]) C dX6_fly_409 (by decide) rfl ?_
                  refine r_goto (tgt := 28) C dX6_fly_411 (by decide) ?_
                  refine r_iload C dX6_fly_28 2 rfl ?_
                  refine r_if_eq (tgt := 414) C dX6_fly_30 (by decide) (by decide) (fun h_28 => ?_) (fun h_28 => absurd h_28 (by decide))
                  exact g_ret_v C rfl dX6_fly_414 () trivial [0, 1, 2, 3, 4, 5, 6] rfl (by first | (rw [iN, iR, fNum_stop (E := ((((Ru (Int.toNat 0)), (Ru (Int.toNat 1)), (Ru (Int.toNat 2)), (Ru (Int.toNat 3)), (Ru (Int.toNat 4)), (Ru (Int.toNat 5))), ((Wt (Int.toNat x)), (Wd (Int.toNat x)), (Rg (Int.toNat x))), (sh, wc, Fw)) : fEn)) (t := ((xq, sq, fq, lq, nq, bq) : fS)) (by omega) (Or.inl KSK), fRes_sunk (E := ((((Ru (Int.toNat 0)), (Ru (Int.toNat 1)), (Ru (Int.toNat 2)), (Ru (Int.toNat 3)), (Ru (Int.toNat 4)), (Ru (Int.toNat 5))), ((Wt (Int.toNat x)), (Wd (Int.toNat x)), (Rg (Int.toNat x))), (sh, wc, Fw)) : fEn)) (t := ((xq, sq, fq, lq, nq, bq) : fS)) (by omega) KSK, ← kpF_ref (by omega)] <;> rfl) | (rw [iN, iR, fNum_stop (E := ((((Ru (Int.toNat 0)), (Ru (Int.toNat 1)), (Ru (Int.toNat 2)), (Ru (Int.toNat 3)), (Ru (Int.toNat 4)), (Ru (Int.toNat 5))), ((Wt (Int.toNat x)), (Wd (Int.toNat x)), (Rg (Int.toNat x))), (sh, wc, Fw)) : fEn)) (t := ((xq, sq, fq, lq, nq, bq) : fS)) (by omega) (Or.inr (show (max 0 (sq - (fTk (Ru (Int.toNat 1)) (Ru (Int.toNat 5)) (Rg (Int.toNat x)) sq (lq + (Fw (Int.toNat ((xq + sh) % wc))))))) = 0 by omega)), fRes_zero (E := ((((Ru (Int.toNat 0)), (Ru (Int.toNat 1)), (Ru (Int.toNat 2)), (Ru (Int.toNat 3)), (Ru (Int.toNat 4)), (Ru (Int.toNat 5))), ((Wt (Int.toNat x)), (Wd (Int.toNat x)), (Rg (Int.toNat x))), (sh, wc, Fw)) : fEn)) (t := ((xq, sq, fq, lq, nq, bq) : fS)) (by omega) KSK (show (max 0 (sq - (fTk (Ru (Int.toNat 1)) (Ru (Int.toNat 5)) (Rg (Int.toNat x)) sq (lq + (Fw (Int.toNat ((xq + sh) % wc))))))) = 0 by omega), ← kpF_ref (by omega)] <;> rfl) | (rw [iN, iR, fNum_go (E := ((((Ru (Int.toNat 0)), (Ru (Int.toNat 1)), (Ru (Int.toNat 2)), (Ru (Int.toNat 3)), (Ru (Int.toNat 4)), (Ru (Int.toNat 5))), ((Wt (Int.toNat x)), (Wd (Int.toNat x)), (Rg (Int.toNat x))), (sh, wc, Fw)) : fEn)) (t := ((xq, sq, fq, lq, nq, bq) : fS)) (by omega) (fun q => q.elim KSK (by intro z; change (max 0 (sq - (fTk (Ru (Int.toNat 1)) (Ru (Int.toNat 5)) (Rg (Int.toNat x)) sq (lq + (Fw (Int.toNat ((xq + sh) % wc))))))) = 0 at z; omega)), fRes_go (E := ((((Ru (Int.toNat 0)), (Ru (Int.toNat 1)), (Ru (Int.toNat 2)), (Ru (Int.toNat 3)), (Ru (Int.toNat 4)), (Ru (Int.toNat 5))), ((Wt (Int.toNat x)), (Wd (Int.toNat x)), (Rg (Int.toNat x))), (sh, wc, Fw)) : fEn)) (t := ((xq, sq, fq, lq, nq, bq) : fS)) (by omega) KSK (by intro z; change (max 0 (sq - (fTk (Ru (Int.toNat 1)) (Ru (Int.toNat 5)) (Rg (Int.toNat x)) sq (lq + (Fw (Int.toNat ((xq + sh) % wc))))))) = 0 at z; omega), show (90 - (k + 1)).toNat = 0 by omega, ← kpF_ref (by omega)] <;> rfl))
                · skip
                  refine r_iconst C dX6_fly_382 ?_
                  refine r_goto (tgt := 387) C dX6_fly_383 (by decide) ?_
                  refine r_istore (lo2 := [(12, .int (iI 1)), (9, .int (iI (fSl (Ru (Int.toNat 3)) lq (fSn nq)))), (10, .int (iI (fSn nq))), (7, .int (iI (max 0 (sq - (fTk (Ru (Int.toNat 1)) (Ru (Int.toNat 5)) (Rg (Int.toNat x)) sq (lq + (Fw (Int.toNat ((xq + sh) % wc))))))))), (18, .int (iI (max 0 (sq - (fTk (Ru (Int.toNat 1)) (Ru (Int.toNat 5)) (Rg (Int.toNat x)) sq (lq + (Fw (Int.toNat ((xq + sh) % wc))))))))), (8, .int (iI (fFl (Ru (Int.toNat 2)) (Ru (Int.toNat 5)) fq (lq + (Fw (Int.toNat ((xq + sh) % wc))))))), (17, .int (iI (fTk (Ru (Int.toNat 1)) (Ru (Int.toNat 5)) (Rg (Int.toNat x)) sq (lq + (Fw (Int.toNat ((xq + sh) % wc))))))), (16, .int (iI 0)), (15, .int (iI 0)), (14, .int (iI (lq + (Fw (Int.toNat ((xq + sh) % wc)))))), (13, .int (iI (9 * k))), (0, .ref h0), (1, .int (iI x)), (6, .int (iI xq)), (11, .int (iI bq))]) C dX6_fly_387 (by decide) rfl ?_
                  refine r_iload C dX6_fly_389 13 rfl ?_
                  refine r_iload C dX6_fly_391 3 rfl ?_
                  refine r_iload C dX6_fly_393 5 rfl ?_
                  refine r_imul C dX6_fly_395 ?_
                  refine r_bipush C dX6_fly_396 (by decide) ?_
                  refine r_idiv C dX6_fly_398 (by have := hFw (Int.toNat ((xq + sh) % wc)); omega) (by omega) ?_
                  refine r_iadd C dX6_fly_399 ?_
                  refine r_istore (lo2 := [(6, .int (iI (xq + (((max 0 (sq - (fTk (Ru (Int.toNat 1)) (Ru (Int.toNat 5)) (Rg (Int.toNat x)) sq (lq + (Fw (Int.toNat ((xq + sh) % wc))))))) * (fFl (Ru (Int.toNat 2)) (Ru (Int.toNat 5)) fq (lq + (Fw (Int.toNat ((xq + sh) % wc)))))) / 20)))), (12, .int (iI 1)), (9, .int (iI (fSl (Ru (Int.toNat 3)) lq (fSn nq)))), (10, .int (iI (fSn nq))), (7, .int (iI (max 0 (sq - (fTk (Ru (Int.toNat 1)) (Ru (Int.toNat 5)) (Rg (Int.toNat x)) sq (lq + (Fw (Int.toNat ((xq + sh) % wc))))))))), (18, .int (iI (max 0 (sq - (fTk (Ru (Int.toNat 1)) (Ru (Int.toNat 5)) (Rg (Int.toNat x)) sq (lq + (Fw (Int.toNat ((xq + sh) % wc))))))))), (8, .int (iI (fFl (Ru (Int.toNat 2)) (Ru (Int.toNat 5)) fq (lq + (Fw (Int.toNat ((xq + sh) % wc))))))), (17, .int (iI (fTk (Ru (Int.toNat 1)) (Ru (Int.toNat 5)) (Rg (Int.toNat x)) sq (lq + (Fw (Int.toNat ((xq + sh) % wc))))))), (16, .int (iI 0)), (15, .int (iI 0)), (14, .int (iI (lq + (Fw (Int.toNat ((xq + sh) % wc)))))), (13, .int (iI (9 * k))), (0, .ref h0), (1, .int (iI x)), (11, .int (iI bq))]) C dX6_fly_400 (by decide) rfl ?_
                  refine r_iload C dX6_fly_402 14 rfl ?_
                  refine r_iload C dX6_fly_404 6 rfl ?_
                  refine r_iconst C dX6_fly_406 ?_
                  refine r_idiv C dX6_fly_407 (by have := hFw (Int.toNat ((xq + sh) % wc)); omega) (by omega) ?_
                  refine r_iadd C dX6_fly_408 ?_
                  refine r_istore (lo2 := [(11, .int (iI (bq + ((fFl (Ru (Int.toNat 2)) (Ru (Int.toNat 5)) fq (lq + (Fw (Int.toNat ((xq + sh) % wc))))) / 5)))), (6, .int (iI (xq + (((max 0 (sq - (fTk (Ru (Int.toNat 1)) (Ru (Int.toNat 5)) (Rg (Int.toNat x)) sq (lq + (Fw (Int.toNat ((xq + sh) % wc))))))) * (fFl (Ru (Int.toNat 2)) (Ru (Int.toNat 5)) fq (lq + (Fw (Int.toNat ((xq + sh) % wc)))))) / 20)))), (12, .int (iI 1)), (9, .int (iI (fSl (Ru (Int.toNat 3)) lq (fSn nq)))), (10, .int (iI (fSn nq))), (7, .int (iI (max 0 (sq - (fTk (Ru (Int.toNat 1)) (Ru (Int.toNat 5)) (Rg (Int.toNat x)) sq (lq + (Fw (Int.toNat ((xq + sh) % wc))))))))), (18, .int (iI (max 0 (sq - (fTk (Ru (Int.toNat 1)) (Ru (Int.toNat 5)) (Rg (Int.toNat x)) sq (lq + (Fw (Int.toNat ((xq + sh) % wc))))))))), (8, .int (iI (fFl (Ru (Int.toNat 2)) (Ru (Int.toNat 5)) fq (lq + (Fw (Int.toNat ((xq + sh) % wc))))))), (17, .int (iI (fTk (Ru (Int.toNat 1)) (Ru (Int.toNat 5)) (Rg (Int.toNat x)) sq (lq + (Fw (Int.toNat ((xq + sh) % wc))))))), (16, .int (iI 0)), (15, .int (iI 0)), (14, .int (iI (lq + (Fw (Int.toNat ((xq + sh) % wc)))))), (13, .int (iI (9 * k))), (0, .ref h0), (1, .int (iI x))]) C dX6_fly_409 (by decide) rfl ?_
                  refine r_goto (tgt := 28) C dX6_fly_411 (by decide) ?_
                  refine r_lo [2, 13, 14, 1, 5, 7, 3, 4, 0] (lo2 := [(12, .int (iI 1)), (0, .ref h0), (1, .int (iI x)), (6, .int (iI (xq + (((max 0 (sq - (fTk (Ru (Int.toNat 1)) (Ru (Int.toNat 5)) (Rg (Int.toNat x)) sq (lq + (Fw (Int.toNat ((xq + sh) % wc))))))) * (fFl (Ru (Int.toNat 2)) (Ru (Int.toNat 5)) fq (lq + (Fw (Int.toNat ((xq + sh) % wc)))))) / 20)))), (7, .int (iI (max 0 (sq - (fTk (Ru (Int.toNat 1)) (Ru (Int.toNat 5)) (Rg (Int.toNat x)) sq (lq + (Fw (Int.toNat ((xq + sh) % wc))))))))), (8, .int (iI (fFl (Ru (Int.toNat 2)) (Ru (Int.toNat 5)) fq (lq + (Fw (Int.toNat ((xq + sh) % wc))))))), (9, .int (iI (fSl (Ru (Int.toNat 3)) lq (fSn nq)))), (10, .int (iI (fSn nq))), (11, .int (iI (bq + ((fFl (Ru (Int.toNat 2)) (Ru (Int.toNat 5)) fq (lq + (Fw (Int.toNat ((xq + sh) % wc))))) / 5))))]) rfl ?_
                  exact ih28 (xq + (((max 0 (sq - (fTk (Ru (Int.toNat 1)) (Ru (Int.toNat 5)) (Rg (Int.toNat x)) sq (lq + (Fw (Int.toNat ((xq + sh) % wc))))))) * (fFl (Ru (Int.toNat 2)) (Ru (Int.toNat 5)) fq (lq + (Fw (Int.toNat ((xq + sh) % wc)))))) / 20)) (max 0 (sq - (fTk (Ru (Int.toNat 1)) (Ru (Int.toNat 5)) (Rg (Int.toNat x)) sq (lq + (Fw (Int.toNat ((xq + sh) % wc))))))) (fFl (Ru (Int.toNat 2)) (Ru (Int.toNat 5)) fq (lq + (Fw (Int.toNat ((xq + sh) % wc))))) (fSl (Ru (Int.toNat 3)) lq (fSn nq)) (fSn nq) (bq + ((fFl (Ru (Int.toNat 2)) (Ru (Int.toNat 5)) fq (lq + (Fw (Int.toNat ((xq + sh) % wc))))) / 5)) (k + 1) (updI (updI (updI (updI (updI (updI (updI (updI (updI G (Int.toNat ((9 * k) + 1)) xq) (Int.toNat ((9 * k) + 2)) sq) (Int.toNat ((9 * k) + 3)) fq) (Int.toNat ((9 * k) + 4)) lq) (Int.toNat ((9 * k) + 5)) nq) (Int.toNat ((9 * k) + 6)) (lq + (Fw (Int.toNat ((xq + sh) % wc))))) (Int.toNat ((9 * k) + 8)) bq) (Int.toNat (9 * k)) (fKd (Ru (Int.toNat 4)) (Ru (Int.toNat 5)) (lq + (Fw (Int.toNat ((xq + sh) % wc)))) (fFl (Ru (Int.toNat 2)) (Ru (Int.toNat 5)) fq (lq + (Fw (Int.toNat ((xq + sh) % wc))))))) (Int.toNat ((9 * k) + 7)) (fTk (Ru (Int.toNat 1)) (Ru (Int.toNat 5)) (Rg (Int.toNat x)) sq (lq + (Fw (Int.toNat ((xq + sh) % wc)))))) (by omega) (by omega) (by omega) (by omega) (by omega) (by omega) (by omega) (by rw [iN, fNum_go (E := ((((Ru (Int.toNat 0)), (Ru (Int.toNat 1)), (Ru (Int.toNat 2)), (Ru (Int.toNat 3)), (Ru (Int.toNat 4)), (Ru (Int.toNat 5))), ((Wt (Int.toNat x)), (Wd (Int.toNat x)), (Rg (Int.toNat x))), (sh, wc, Fw)) : fEn)) (t := ((xq, sq, fq, lq, nq, bq) : fS)) (by omega) (fun q => q.elim KSK (by intro z; simp only [fSpT, fTkT] at z; change (max 0 (sq - (fTk (Ru (Int.toNat 1)) (Ru (Int.toNat 5)) (Rg (Int.toNat x)) sq (lq + (Fw (Int.toNat ((xq + sh) % wc))))))) = 0 at z; omega))] <;> rfl) (by rw [iR, fRes_go (E := ((((Ru (Int.toNat 0)), (Ru (Int.toNat 1)), (Ru (Int.toNat 2)), (Ru (Int.toNat 3)), (Ru (Int.toNat 4)), (Ru (Int.toNat 5))), ((Wt (Int.toNat x)), (Wd (Int.toNat x)), (Rg (Int.toNat x))), (sh, wc, Fw)) : fEn)) (t := ((xq, sq, fq, lq, nq, bq) : fS)) (by omega) KSK (by intro z; change (max 0 (sq - (fTk (Ru (Int.toNat 1)) (Ru (Int.toNat 5)) (Rg (Int.toNat x)) sq (lq + (Fw (Int.toNat ((xq + sh) % wc))))))) = 0 at z; omega), ← kpF_ref (by omega)] <;> rfl) (by omega)
        · skip
          refine r_iconst C dX6_fly_77 ?_
          refine r_goto (tgt := 82) C dX6_fly_78 (by decide) ?_
          refine r_istore (lo2 := [(16, .int (iI 1)), (15, .int (iI 0)), (14, .int (iI (lq + (Fw (Int.toNat ((xq + sh) % wc)))))), (13, .int (iI (9 * k))), (12, .int (iI 1)), (0, .ref h0), (1, .int (iI x)), (6, .int (iI xq)), (7, .int (iI sq)), (8, .int (iI fq)), (9, .int (iI lq)), (10, .int (iI nq)), (11, .int (iI bq))]) C dX6_fly_82 (by decide) rfl ?_
          refine r_aload_n C dX6_fly_84 5 rfl ?_
          refine gf_6_14 C hi_X6_fly_6 kw_X6_fly_2 dX6_fly_85 0 rfl rfl ?_
          refine r_iload C dX6_fly_88 3 rfl ?_
          refine r_iconst C dX6_fly_90 ?_
          refine r_iadd C dX6_fly_91 ?_
          refine r_iload C dX6_fly_92 7 rfl ?_
          refine r_iast (ws2 := [(h0, .inr (6, [.int (iI ft), .int (iI sc), .ref u2, .ref u3, .ref u4, .ref u5, .ref u6, .ref u7, .ref u8, .int (iI rm), .int (iI wc), .ref u11, .int (iI sh), .int (iI k), .ref u14, .int (iI cnt), .ref u16, .int (iI gf), .int (iI gs), .int (iI rc), .ref u20, .ref u21, .ref u22, .ref u23, .ref u24, .int (iI tc)])), (u2, .inl (X.2.1.1, 8, .inl (iF Wt))), (u3, .inl (X.2.1.1, 8, .inl (iF Wd))), (u4, .inl (X.2.1.1, 8, .inl (iF Rg))), (u7, .inl (X.2.1.1, 6, .inl (iF Ru))), (u11, .inl (X.2.1.1, 20, .inl (iF Fw))), (u14, .inl (X.2.1.1, 810, .inl (iF (updI G (Int.toNat ((9 * k) + 1)) xq))))]) C dX6_fly_94 6 rfl (by omega) (by decide) rfl ?_
          refine r_aload_n C dX6_fly_95 5 rfl ?_
          refine gf_6_14 C hi_X6_fly_6 kw_X6_fly_2 dX6_fly_96 0 rfl rfl ?_
          refine r_iload C dX6_fly_99 3 rfl ?_
          refine r_iconst C dX6_fly_101 ?_
          refine r_iadd C dX6_fly_102 ?_
          refine r_iload C dX6_fly_103 8 rfl ?_
          refine r_iast (ws2 := [(h0, .inr (6, [.int (iI ft), .int (iI sc), .ref u2, .ref u3, .ref u4, .ref u5, .ref u6, .ref u7, .ref u8, .int (iI rm), .int (iI wc), .ref u11, .int (iI sh), .int (iI k), .ref u14, .int (iI cnt), .ref u16, .int (iI gf), .int (iI gs), .int (iI rc), .ref u20, .ref u21, .ref u22, .ref u23, .ref u24, .int (iI tc)])), (u2, .inl (X.2.1.1, 8, .inl (iF Wt))), (u3, .inl (X.2.1.1, 8, .inl (iF Wd))), (u4, .inl (X.2.1.1, 8, .inl (iF Rg))), (u7, .inl (X.2.1.1, 6, .inl (iF Ru))), (u11, .inl (X.2.1.1, 20, .inl (iF Fw))), (u14, .inl (X.2.1.1, 810, .inl (iF (updI (updI G (Int.toNat ((9 * k) + 1)) xq) (Int.toNat ((9 * k) + 2)) sq))))]) C dX6_fly_105 6 rfl (by omega) (by decide) rfl ?_
          refine r_aload_n C dX6_fly_106 5 rfl ?_
          refine gf_6_14 C hi_X6_fly_6 kw_X6_fly_2 dX6_fly_107 0 rfl rfl ?_
          refine r_iload C dX6_fly_110 3 rfl ?_
          refine r_iconst C dX6_fly_112 ?_
          refine r_iadd C dX6_fly_113 ?_
          refine r_iload C dX6_fly_114 9 rfl ?_
          refine r_iast (ws2 := [(h0, .inr (6, [.int (iI ft), .int (iI sc), .ref u2, .ref u3, .ref u4, .ref u5, .ref u6, .ref u7, .ref u8, .int (iI rm), .int (iI wc), .ref u11, .int (iI sh), .int (iI k), .ref u14, .int (iI cnt), .ref u16, .int (iI gf), .int (iI gs), .int (iI rc), .ref u20, .ref u21, .ref u22, .ref u23, .ref u24, .int (iI tc)])), (u2, .inl (X.2.1.1, 8, .inl (iF Wt))), (u3, .inl (X.2.1.1, 8, .inl (iF Wd))), (u4, .inl (X.2.1.1, 8, .inl (iF Rg))), (u7, .inl (X.2.1.1, 6, .inl (iF Ru))), (u11, .inl (X.2.1.1, 20, .inl (iF Fw))), (u14, .inl (X.2.1.1, 810, .inl (iF (updI (updI (updI G (Int.toNat ((9 * k) + 1)) xq) (Int.toNat ((9 * k) + 2)) sq) (Int.toNat ((9 * k) + 3)) fq))))]) C dX6_fly_116 6 rfl (by omega) (by decide) rfl ?_
          refine r_aload_n C dX6_fly_117 5 rfl ?_
          refine gf_6_14 C hi_X6_fly_6 kw_X6_fly_2 dX6_fly_118 0 rfl rfl ?_
          refine r_iload C dX6_fly_121 3 rfl ?_
          refine r_iconst C dX6_fly_123 ?_
          refine r_iadd C dX6_fly_124 ?_
          refine r_iload C dX6_fly_125 10 rfl ?_
          refine r_iast (ws2 := [(h0, .inr (6, [.int (iI ft), .int (iI sc), .ref u2, .ref u3, .ref u4, .ref u5, .ref u6, .ref u7, .ref u8, .int (iI rm), .int (iI wc), .ref u11, .int (iI sh), .int (iI k), .ref u14, .int (iI cnt), .ref u16, .int (iI gf), .int (iI gs), .int (iI rc), .ref u20, .ref u21, .ref u22, .ref u23, .ref u24, .int (iI tc)])), (u2, .inl (X.2.1.1, 8, .inl (iF Wt))), (u3, .inl (X.2.1.1, 8, .inl (iF Wd))), (u4, .inl (X.2.1.1, 8, .inl (iF Rg))), (u7, .inl (X.2.1.1, 6, .inl (iF Ru))), (u11, .inl (X.2.1.1, 20, .inl (iF Fw))), (u14, .inl (X.2.1.1, 810, .inl (iF (updI (updI (updI (updI G (Int.toNat ((9 * k) + 1)) xq) (Int.toNat ((9 * k) + 2)) sq) (Int.toNat ((9 * k) + 3)) fq) (Int.toNat ((9 * k) + 4)) lq))))]) C dX6_fly_127 6 rfl (by omega) (by decide) rfl ?_
          refine r_aload_n C dX6_fly_128 5 rfl ?_
          refine gf_6_14 C hi_X6_fly_6 kw_X6_fly_2 dX6_fly_129 0 rfl rfl ?_
          refine r_iload C dX6_fly_132 3 rfl ?_
          refine r_iconst C dX6_fly_134 ?_
          refine r_iadd C dX6_fly_135 ?_
          refine r_iload C dX6_fly_136 11 rfl ?_
          refine r_iast (ws2 := [(h0, .inr (6, [.int (iI ft), .int (iI sc), .ref u2, .ref u3, .ref u4, .ref u5, .ref u6, .ref u7, .ref u8, .int (iI rm), .int (iI wc), .ref u11, .int (iI sh), .int (iI k), .ref u14, .int (iI cnt), .ref u16, .int (iI gf), .int (iI gs), .int (iI rc), .ref u20, .ref u21, .ref u22, .ref u23, .ref u24, .int (iI tc)])), (u2, .inl (X.2.1.1, 8, .inl (iF Wt))), (u3, .inl (X.2.1.1, 8, .inl (iF Wd))), (u4, .inl (X.2.1.1, 8, .inl (iF Rg))), (u7, .inl (X.2.1.1, 6, .inl (iF Ru))), (u11, .inl (X.2.1.1, 20, .inl (iF Fw))), (u14, .inl (X.2.1.1, 810, .inl (iF (updI (updI (updI (updI (updI G (Int.toNat ((9 * k) + 1)) xq) (Int.toNat ((9 * k) + 2)) sq) (Int.toNat ((9 * k) + 3)) fq) (Int.toNat ((9 * k) + 4)) lq) (Int.toNat ((9 * k) + 5)) nq))))]) C dX6_fly_138 6 rfl (by omega) (by decide) rfl ?_
          refine r_aload_n C dX6_fly_139 5 rfl ?_
          refine gf_6_14 C hi_X6_fly_6 kw_X6_fly_2 dX6_fly_140 0 rfl rfl ?_
          refine r_iload C dX6_fly_143 3 rfl ?_
          refine r_bipush C dX6_fly_145 (by decide) ?_
          refine r_iadd C dX6_fly_147 ?_
          refine r_iload C dX6_fly_148 2 rfl ?_
          refine r_iast (ws2 := [(h0, .inr (6, [.int (iI ft), .int (iI sc), .ref u2, .ref u3, .ref u4, .ref u5, .ref u6, .ref u7, .ref u8, .int (iI rm), .int (iI wc), .ref u11, .int (iI sh), .int (iI k), .ref u14, .int (iI cnt), .ref u16, .int (iI gf), .int (iI gs), .int (iI rc), .ref u20, .ref u21, .ref u22, .ref u23, .ref u24, .int (iI tc)])), (u2, .inl (X.2.1.1, 8, .inl (iF Wt))), (u3, .inl (X.2.1.1, 8, .inl (iF Wd))), (u4, .inl (X.2.1.1, 8, .inl (iF Rg))), (u7, .inl (X.2.1.1, 6, .inl (iF Ru))), (u11, .inl (X.2.1.1, 20, .inl (iF Fw))), (u14, .inl (X.2.1.1, 810, .inl (iF (updI (updI (updI (updI (updI (updI G (Int.toNat ((9 * k) + 1)) xq) (Int.toNat ((9 * k) + 2)) sq) (Int.toNat ((9 * k) + 3)) fq) (Int.toNat ((9 * k) + 4)) lq) (Int.toNat ((9 * k) + 5)) nq) (Int.toNat ((9 * k) + 6)) (lq + (Fw (Int.toNat ((xq + sh) % wc))))))))]) C dX6_fly_150 6 rfl (by omega) (by decide) rfl ?_
          refine r_aload_n C dX6_fly_151 5 rfl ?_
          refine gf_6_14 C hi_X6_fly_6 kw_X6_fly_2 dX6_fly_152 0 rfl rfl ?_
          refine r_iload C dX6_fly_155 3 rfl ?_
          refine r_bipush C dX6_fly_157 (by decide) ?_
          refine r_iadd C dX6_fly_159 ?_
          refine r_iload C dX6_fly_160 12 rfl ?_
          refine r_iast (ws2 := [(h0, .inr (6, [.int (iI ft), .int (iI sc), .ref u2, .ref u3, .ref u4, .ref u5, .ref u6, .ref u7, .ref u8, .int (iI rm), .int (iI wc), .ref u11, .int (iI sh), .int (iI k), .ref u14, .int (iI cnt), .ref u16, .int (iI gf), .int (iI gs), .int (iI rc), .ref u20, .ref u21, .ref u22, .ref u23, .ref u24, .int (iI tc)])), (u2, .inl (X.2.1.1, 8, .inl (iF Wt))), (u3, .inl (X.2.1.1, 8, .inl (iF Wd))), (u4, .inl (X.2.1.1, 8, .inl (iF Rg))), (u7, .inl (X.2.1.1, 6, .inl (iF Ru))), (u11, .inl (X.2.1.1, 20, .inl (iF Fw))), (u14, .inl (X.2.1.1, 810, .inl (iF (updI (updI (updI (updI (updI (updI (updI G (Int.toNat ((9 * k) + 1)) xq) (Int.toNat ((9 * k) + 2)) sq) (Int.toNat ((9 * k) + 3)) fq) (Int.toNat ((9 * k) + 4)) lq) (Int.toNat ((9 * k) + 5)) nq) (Int.toNat ((9 * k) + 6)) (lq + (Fw (Int.toNat ((xq + sh) % wc))))) (Int.toNat ((9 * k) + 8)) bq))))]) C dX6_fly_162 6 rfl (by omega) (by decide) rfl ?_
          refine r_aload_n C dX6_fly_163 5 rfl ?_
          refine r_dup C dX6_fly_164 rfl ?_
          refine gf_6_13 C hi_X6_fly_6 kw_X6_fly_0 dX6_fly_165 0 rfl rfl ?_
          refine r_iconst C dX6_fly_168 ?_
          refine r_iadd C dX6_fly_169 ?_
          refine pf_6_13 (ws2 := [(h0, .inr (6, [.int (iI ft), .int (iI sc), .ref u2, .ref u3, .ref u4, .ref u5, .ref u6, .ref u7, .ref u8, .int (iI rm), .int (iI wc), .ref u11, .int (iI sh), .int (iI (k + 1)), .ref u14, .int (iI cnt), .ref u16, .int (iI gf), .int (iI gs), .int (iI rc), .ref u20, .ref u21, .ref u22, .ref u23, .ref u24, .int (iI tc)])), (u2, .inl (X.2.1.1, 8, .inl (iF Wt))), (u3, .inl (X.2.1.1, 8, .inl (iF Wd))), (u4, .inl (X.2.1.1, 8, .inl (iF Rg))), (u7, .inl (X.2.1.1, 6, .inl (iF Ru))), (u11, .inl (X.2.1.1, 20, .inl (iF Fw))), (u14, .inl (X.2.1.1, 810, .inl (iF (updI (updI (updI (updI (updI (updI (updI G (Int.toNat ((9 * k) + 1)) xq) (Int.toNat ((9 * k) + 2)) sq) (Int.toNat ((9 * k) + 3)) fq) (Int.toNat ((9 * k) + 4)) lq) (Int.toNat ((9 * k) + 5)) nq) (Int.toNat ((9 * k) + 6)) (lq + (Fw (Int.toNat ((xq + sh) % wc))))) (Int.toNat ((9 * k) + 8)) bq))))]) C hi_X6_fly_6 kw_X6_fly_0 dX6_fly_170 0 rfl rfl rfl (Nat.le_of_ble_eq_true rfl) rfl ?_
          refine r_iload C dX6_fly_173 1 rfl ?_
          refine r_if_eq (tgt := 198) C dX6_fly_175 (by decide) (by decide) (fun h_29 => ?_) (fun h_29 => absurd h_29 (by decide))
          have q5 := mulB (a := sq) (b := (Ru (Int.toNat 1)) + (lq + (Fw (Int.toNat ((xq + sh) % wc)))) + (Rg (Int.toNat x))) (A := 300) (B := 104) (by omega) (by omega)
          refine r_iload C dX6_fly_198 8 rfl ?_
          refine r_aload_n C dX6_fly_200 5 rfl ?_
          refine gf_6_7 C hi_X6_fly_6 kw_X6_fly_1 dX6_fly_201 0 rfl rfl ?_
          refine r_iconst C dX6_fly_204 ?_
          refine r_iald C dX6_fly_205 4 rfl (by omega) (by decide) ?_
          refine r_iload C dX6_fly_206 2 rfl ?_
          refine r_iadd C dX6_fly_208 ?_
          refine r_aload_n C dX6_fly_209 5 rfl ?_
          refine gf_6_4 C hi_X6_fly_6 kw_X6_fly_3 dX6_fly_210 0 rfl rfl ?_
          refine r_iload_n C dX6_fly_213 6 rfl ?_
          refine r_iald C dX6_fly_214 3 rfl (by omega) (by decide) ?_
          refine r_iadd C dX6_fly_215 ?_
          refine r_imul C dX6_fly_216 ?_
          refine r_iload C dX6_fly_217 0 rfl ?_
          refine r_if_eq (tgt := 227) C dX6_fly_219 (by decide) (by decide) (fun h_30 => absurd h_30 (by decide)) (fun h_30 => ?_)
          refine r_bipush C dX6_fly_222 (by decide) ?_
          refine r_goto (tgt := 229) C dX6_fly_224 (by decide) ?_
          refine r_idiv C dX6_fly_229 (by have := hFw (Int.toNat ((xq + sh) % wc)); omega) (by omega) ?_
          refine r_iconst C dX6_fly_230 ?_
          refine r_iadd C dX6_fly_231 ?_
          refine r_topi (z := (fTk (Ru (Int.toNat 1)) (Ru (Int.toNat 5)) (Rg (Int.toNat x)) sq (lq + (Fw (Int.toNat ((xq + sh) % wc)))))) (by simp only [fTk]; first | (rw [if_pos (by omega)]; done) | (rw [if_neg (by omega)]; done)) ?_
          refine r_istore (lo2 := [(17, .int (iI (fTk (Ru (Int.toNat 1)) (Ru (Int.toNat 5)) (Rg (Int.toNat x)) sq (lq + (Fw (Int.toNat ((xq + sh) % wc))))))), (16, .int (iI 1)), (15, .int (iI 0)), (14, .int (iI (lq + (Fw (Int.toNat ((xq + sh) % wc)))))), (13, .int (iI (9 * k))), (12, .int (iI 1)), (0, .ref h0), (1, .int (iI x)), (6, .int (iI xq)), (7, .int (iI sq)), (8, .int (iI fq)), (9, .int (iI lq)), (10, .int (iI nq)), (11, .int (iI bq))]) C dX6_fly_232 (by decide) rfl ?_
          have q6 := mulB (a := fq) (b := (Ru (Int.toNat 2))) (A := 99) (B := 99) (by omega) (by omega)
          refine r_iload C dX6_fly_234 1 rfl ?_
          refine r_if_eq (tgt := 244) C dX6_fly_236 (by decide) (by decide) (fun h_31 => absurd h_31 (by decide)) (fun h_31 => ?_)
          refine r_iload C dX6_fly_239 10 rfl ?_
          refine r_goto (tgt := 260) C dX6_fly_241 (by decide) ?_
          refine r_topi (z := (fFl (Ru (Int.toNat 2)) (Ru (Int.toNat 5)) fq (lq + (Fw (Int.toNat ((xq + sh) % wc)))))) (by simp only [fFl]; first | (rw [if_pos (by omega)]; done) | (rw [if_neg (by omega)]; done)) ?_
          refine r_istore (lo2 := [(8, .int (iI (fFl (Ru (Int.toNat 2)) (Ru (Int.toNat 5)) fq (lq + (Fw (Int.toNat ((xq + sh) % wc))))))), (17, .int (iI (fTk (Ru (Int.toNat 1)) (Ru (Int.toNat 5)) (Rg (Int.toNat x)) sq (lq + (Fw (Int.toNat ((xq + sh) % wc))))))), (16, .int (iI 1)), (15, .int (iI 0)), (14, .int (iI (lq + (Fw (Int.toNat ((xq + sh) % wc)))))), (13, .int (iI (9 * k))), (12, .int (iI 1)), (0, .ref h0), (1, .int (iI x)), (6, .int (iI xq)), (7, .int (iI sq)), (9, .int (iI lq)), (10, .int (iI nq)), (11, .int (iI bq))]) C dX6_fly_260 (by decide) rfl ?_
          have q7 := fTk_B (l2 := (Ru (Int.toNat 1))) (l6 := (Ru (Int.toNat 5))) (rg := (Rg (Int.toNat x))) (sp := sq) (ti := (lq + (Fw (Int.toNat ((xq + sh) % wc))))) (by omega) (by omega)
          have q8 := fFl_B (l3 := (Ru (Int.toNat 2))) (l6 := (Ru (Int.toNat 5))) (fa := fq) (ti := (lq + (Fw (Int.toNat ((xq + sh) % wc))))) (by omega) (by omega)
          have q10 := fSn_B (sn := nq) (by omega)
          have q11 := fSl_B (nd := (Ru (Int.toNat 3))) (sl := lq) (sn := fSn nq) (by omega) (by omega) (by omega)
          have q9 := mulB (a := (max 0 (sq - (fTk (Ru (Int.toNat 1)) (Ru (Int.toNat 5)) (Rg (Int.toNat x)) sq (lq + (Fw (Int.toNat ((xq + sh) % wc)))))))) (b := (fFl (Ru (Int.toNat 2)) (Ru (Int.toNat 5)) fq (lq + (Fw (Int.toNat ((xq + sh) % wc)))))) (A := 300) (B := 99) (by omega) (by omega)
          refine r_aload_n C dX6_fly_262 7 rfl ?_
          refine gf_6_14 C hi_X6_fly_6 kw_X6_fly_2 dX6_fly_263 0 rfl rfl ?_
          refine r_iload C dX6_fly_266 5 rfl ?_
          refine r_iload C dX6_fly_268 2 rfl ?_
          refine r_if_eq (tgt := 277) C dX6_fly_270 (by decide) (by decide) (fun h_32 => absurd h_32 (by decide)) (fun h_32 => ?_)
          refine r_iconst C dX6_fly_273 ?_
          refine r_goto (tgt := 293) C dX6_fly_274 (by decide) ?_
          refine r_topi (z := (fKd (Ru (Int.toNat 4)) (Ru (Int.toNat 5)) (lq + (Fw (Int.toNat ((xq + sh) % wc)))) (fFl (Ru (Int.toNat 2)) (Ru (Int.toNat 5)) fq (lq + (Fw (Int.toNat ((xq + sh) % wc))))))) (by simp only [fKd]; first | (rw [if_pos (by omega)]; done) | (rw [if_neg (by omega), if_pos (by omega)]; done) | (rw [if_neg (by omega), if_neg (by omega)]; done)) ?_
          refine r_iast (ws2 := [(h0, .inr (6, [.int (iI ft), .int (iI sc), .ref u2, .ref u3, .ref u4, .ref u5, .ref u6, .ref u7, .ref u8, .int (iI rm), .int (iI wc), .ref u11, .int (iI sh), .int (iI (k + 1)), .ref u14, .int (iI cnt), .ref u16, .int (iI gf), .int (iI gs), .int (iI rc), .ref u20, .ref u21, .ref u22, .ref u23, .ref u24, .int (iI tc)])), (u2, .inl (X.2.1.1, 8, .inl (iF Wt))), (u3, .inl (X.2.1.1, 8, .inl (iF Wd))), (u4, .inl (X.2.1.1, 8, .inl (iF Rg))), (u7, .inl (X.2.1.1, 6, .inl (iF Ru))), (u11, .inl (X.2.1.1, 20, .inl (iF Fw))), (u14, .inl (X.2.1.1, 810, .inl (iF (updI (updI (updI (updI (updI (updI (updI (updI G (Int.toNat ((9 * k) + 1)) xq) (Int.toNat ((9 * k) + 2)) sq) (Int.toNat ((9 * k) + 3)) fq) (Int.toNat ((9 * k) + 4)) lq) (Int.toNat ((9 * k) + 5)) nq) (Int.toNat ((9 * k) + 6)) (lq + (Fw (Int.toNat ((xq + sh) % wc))))) (Int.toNat ((9 * k) + 8)) bq) (Int.toNat (9 * k)) (fKd (Ru (Int.toNat 4)) (Ru (Int.toNat 5)) (lq + (Fw (Int.toNat ((xq + sh) % wc)))) (fFl (Ru (Int.toNat 2)) (Ru (Int.toNat 5)) fq (lq + (Fw (Int.toNat ((xq + sh) % wc))))))))))]) C dX6_fly_293 6 rfl (by omega) (by decide) rfl ?_
          refine r_iconst C dX6_fly_294 ?_
          refine r_iload C dX6_fly_295 10 rfl ?_
          refine r_iload C dX6_fly_297 1 rfl ?_
          refine r_isub C dX6_fly_299 ?_
          refine g_S_i (ws2 := (fun _ => [(h0, .inr (6, [.int (iI ft), .int (iI sc), .ref u2, .ref u3, .ref u4, .ref u5, .ref u6, .ref u7, .ref u8, .int (iI rm), .int (iI wc), .ref u11, .int (iI sh), .int (iI (k + 1)), .ref u14, .int (iI cnt), .ref u16, .int (iI gf), .int (iI gs), .int (iI rc), .ref u20, .ref u21, .ref u22, .ref u23, .ref u24, .int (iI tc)])), (u2, .inl (X.2.1.1, 8, .inl (iF Wt))), (u3, .inl (X.2.1.1, 8, .inl (iF Wd))), (u4, .inl (X.2.1.1, 8, .inl (iF Rg))), (u7, .inl (X.2.1.1, 6, .inl (iF Ru))), (u11, .inl (X.2.1.1, 20, .inl (iF Fw))), (u14, .inl (X.2.1.1, 810, .inl (iF (updI (updI (updI (updI (updI (updI (updI (updI G (Int.toNat ((9 * k) + 1)) xq) (Int.toNat ((9 * k) + 2)) sq) (Int.toNat ((9 * k) + 3)) fq) (Int.toNat ((9 * k) + 4)) lq) (Int.toNat ((9 * k) + 5)) nq) (Int.toNat ((9 * k) + 6)) (lq + (Fw (Int.toNat ((xq + sh) % wc))))) (Int.toNat ((9 * k) + 8)) bq) (Int.toNat (9 * k)) (fKd (Ru (Int.toNat 4)) (Ru (Int.toNat 5)) (lq + (Fw (Int.toNat ((xq + sh) % wc)))) (fFl (Ru (Int.toNat 2)) (Ru (Int.toNat 5)) fq (lq + (Fw (Int.toNat ((xq + sh) % wc))))))))))])) (As := [.int (iI 0), .int (iI (sq - (fTk (Ru (Int.toNat 1)) (Ru (Int.toNat 5)) (Rg (Int.toNat x)) sq (lq + (Fw (Int.toNat ((xq + sh) % wc)))))))]) C (c_X6_greater l X 0 (sq - (fTk (Ru (Int.toNat 1)) (Ru (Int.toNat 5)) (Rg (Int.toNat x)) sq (lq + (Fw (Int.toNat ((xq + sh) % wc)))))) (by first | assumption | omega) (by first | assumption | have := hFw (Int.toNat ((xq + sh) % wc)); omega)) gX6_fly_X6_greater rfl rfl rfl hd_S_X6_greater_X6_fly (by decide) dX6_fly_300 [] [0, 1, 2, 3, 4, 5, 6] [0, 1, 2, 3, 4, 5, 6] rfl rfl rfl rfl (by decide) rfl rfl rfl (Nat.le_of_ble_eq_true rfl) (by decide) (fun _ => rfl) (fun _ hy_ => ?_)
          clear hy_
          refine r_istore (lo2 := [(18, .int (iI (max 0 (sq - (fTk (Ru (Int.toNat 1)) (Ru (Int.toNat 5)) (Rg (Int.toNat x)) sq (lq + (Fw (Int.toNat ((xq + sh) % wc))))))))), (8, .int (iI (fFl (Ru (Int.toNat 2)) (Ru (Int.toNat 5)) fq (lq + (Fw (Int.toNat ((xq + sh) % wc))))))), (17, .int (iI (fTk (Ru (Int.toNat 1)) (Ru (Int.toNat 5)) (Rg (Int.toNat x)) sq (lq + (Fw (Int.toNat ((xq + sh) % wc))))))), (16, .int (iI 1)), (15, .int (iI 0)), (14, .int (iI (lq + (Fw (Int.toNat ((xq + sh) % wc)))))), (13, .int (iI (9 * k))), (12, .int (iI 1)), (0, .ref h0), (1, .int (iI x)), (6, .int (iI xq)), (7, .int (iI sq)), (9, .int (iI lq)), (10, .int (iI nq)), (11, .int (iI bq))]) C dX6_fly_303 (by decide) rfl ?_
          refine r_aload_n C dX6_fly_305 8 rfl ?_
          refine gf_6_14 C hi_X6_fly_6 kw_X6_fly_2 dX6_fly_306 0 rfl rfl ?_
          refine r_iload C dX6_fly_309 6 rfl ?_
          refine r_bipush C dX6_fly_311 (by decide) ?_
          refine r_iadd C dX6_fly_313 ?_
          refine r_iload C dX6_fly_314 2 rfl ?_
          refine r_iast (ws2 := [(h0, .inr (6, [.int (iI ft), .int (iI sc), .ref u2, .ref u3, .ref u4, .ref u5, .ref u6, .ref u7, .ref u8, .int (iI rm), .int (iI wc), .ref u11, .int (iI sh), .int (iI (k + 1)), .ref u14, .int (iI cnt), .ref u16, .int (iI gf), .int (iI gs), .int (iI rc), .ref u20, .ref u21, .ref u22, .ref u23, .ref u24, .int (iI tc)])), (u2, .inl (X.2.1.1, 8, .inl (iF Wt))), (u3, .inl (X.2.1.1, 8, .inl (iF Wd))), (u4, .inl (X.2.1.1, 8, .inl (iF Rg))), (u7, .inl (X.2.1.1, 6, .inl (iF Ru))), (u11, .inl (X.2.1.1, 20, .inl (iF Fw))), (u14, .inl (X.2.1.1, 810, .inl (iF (updI (updI (updI (updI (updI (updI (updI (updI (updI G (Int.toNat ((9 * k) + 1)) xq) (Int.toNat ((9 * k) + 2)) sq) (Int.toNat ((9 * k) + 3)) fq) (Int.toNat ((9 * k) + 4)) lq) (Int.toNat ((9 * k) + 5)) nq) (Int.toNat ((9 * k) + 6)) (lq + (Fw (Int.toNat ((xq + sh) % wc))))) (Int.toNat ((9 * k) + 8)) bq) (Int.toNat (9 * k)) (fKd (Ru (Int.toNat 4)) (Ru (Int.toNat 5)) (lq + (Fw (Int.toNat ((xq + sh) % wc)))) (fFl (Ru (Int.toNat 2)) (Ru (Int.toNat 5)) fq (lq + (Fw (Int.toNat ((xq + sh) % wc))))))) (Int.toNat ((9 * k) + 7)) (fTk (Ru (Int.toNat 1)) (Ru (Int.toNat 5)) (Rg (Int.toNat x)) sq (lq + (Fw (Int.toNat ((xq + sh) % wc)))))))))]) C dX6_fly_316 6 rfl (by omega) (by decide) rfl ?_
          refine r_iload C dX6_fly_317 0 rfl ?_
          refine r_istore (lo2 := [(7, .int (iI (max 0 (sq - (fTk (Ru (Int.toNat 1)) (Ru (Int.toNat 5)) (Rg (Int.toNat x)) sq (lq + (Fw (Int.toNat ((xq + sh) % wc))))))))), (18, .int (iI (max 0 (sq - (fTk (Ru (Int.toNat 1)) (Ru (Int.toNat 5)) (Rg (Int.toNat x)) sq (lq + (Fw (Int.toNat ((xq + sh) % wc))))))))), (8, .int (iI (fFl (Ru (Int.toNat 2)) (Ru (Int.toNat 5)) fq (lq + (Fw (Int.toNat ((xq + sh) % wc))))))), (17, .int (iI (fTk (Ru (Int.toNat 1)) (Ru (Int.toNat 5)) (Rg (Int.toNat x)) sq (lq + (Fw (Int.toNat ((xq + sh) % wc))))))), (16, .int (iI 1)), (15, .int (iI 0)), (14, .int (iI (lq + (Fw (Int.toNat ((xq + sh) % wc)))))), (13, .int (iI (9 * k))), (12, .int (iI 1)), (0, .ref h0), (1, .int (iI x)), (6, .int (iI xq)), (9, .int (iI lq)), (10, .int (iI nq)), (11, .int (iI bq))]) C dX6_fly_319 (by decide) rfl ?_
          refine r_iconst C dX6_fly_321 ?_
          refine r_iload C dX6_fly_322 13 rfl ?_
          refine r_iload C dX6_fly_324 13 rfl ?_
          refine r_bipush C dX6_fly_326 (by decide) ?_
          refine r_idiv C dX6_fly_328 (by omega) (by omega) ?_
          refine r_isub C dX6_fly_329 ?_
          refine r_iconst C dX6_fly_330 ?_
          refine r_isub C dX6_fly_331 ?_
          refine g_S_i (ws2 := (fun _ => [(h0, .inr (6, [.int (iI ft), .int (iI sc), .ref u2, .ref u3, .ref u4, .ref u5, .ref u6, .ref u7, .ref u8, .int (iI rm), .int (iI wc), .ref u11, .int (iI sh), .int (iI (k + 1)), .ref u14, .int (iI cnt), .ref u16, .int (iI gf), .int (iI gs), .int (iI rc), .ref u20, .ref u21, .ref u22, .ref u23, .ref u24, .int (iI tc)])), (u2, .inl (X.2.1.1, 8, .inl (iF Wt))), (u3, .inl (X.2.1.1, 8, .inl (iF Wd))), (u4, .inl (X.2.1.1, 8, .inl (iF Rg))), (u7, .inl (X.2.1.1, 6, .inl (iF Ru))), (u11, .inl (X.2.1.1, 20, .inl (iF Fw))), (u14, .inl (X.2.1.1, 810, .inl (iF (updI (updI (updI (updI (updI (updI (updI (updI (updI G (Int.toNat ((9 * k) + 1)) xq) (Int.toNat ((9 * k) + 2)) sq) (Int.toNat ((9 * k) + 3)) fq) (Int.toNat ((9 * k) + 4)) lq) (Int.toNat ((9 * k) + 5)) nq) (Int.toNat ((9 * k) + 6)) (lq + (Fw (Int.toNat ((xq + sh) % wc))))) (Int.toNat ((9 * k) + 8)) bq) (Int.toNat (9 * k)) (fKd (Ru (Int.toNat 4)) (Ru (Int.toNat 5)) (lq + (Fw (Int.toNat ((xq + sh) % wc)))) (fFl (Ru (Int.toNat 2)) (Ru (Int.toNat 5)) fq (lq + (Fw (Int.toNat ((xq + sh) % wc))))))) (Int.toNat ((9 * k) + 7)) (fTk (Ru (Int.toNat 1)) (Ru (Int.toNat 5)) (Rg (Int.toNat x)) sq (lq + (Fw (Int.toNat ((xq + sh) % wc)))))))))])) (As := [.int (iI 0), .int (iI ((nq - (nq / 10)) - 1))]) C (c_X6_greater l X 0 ((nq - (nq / 10)) - 1) (by first | assumption | omega) (by first | assumption | omega)) gX6_fly_X6_greater rfl rfl rfl hd_S_X6_greater_X6_fly (by decide) dX6_fly_332 [] [0, 1, 2, 3, 4, 5, 6] [0, 1, 2, 3, 4, 5, 6] rfl rfl rfl rfl (by decide) rfl rfl rfl (Nat.le_of_ble_eq_true rfl) (by decide) (fun _ => rfl) (fun _ hy_ => ?_)
          clear hy_
          refine r_topi (z := (fSn nq)) (by unfold fSn; omega) ?_
          refine r_istore (lo2 := [(10, .int (iI (fSn nq))), (7, .int (iI (max 0 (sq - (fTk (Ru (Int.toNat 1)) (Ru (Int.toNat 5)) (Rg (Int.toNat x)) sq (lq + (Fw (Int.toNat ((xq + sh) % wc))))))))), (18, .int (iI (max 0 (sq - (fTk (Ru (Int.toNat 1)) (Ru (Int.toNat 5)) (Rg (Int.toNat x)) sq (lq + (Fw (Int.toNat ((xq + sh) % wc))))))))), (8, .int (iI (fFl (Ru (Int.toNat 2)) (Ru (Int.toNat 5)) fq (lq + (Fw (Int.toNat ((xq + sh) % wc))))))), (17, .int (iI (fTk (Ru (Int.toNat 1)) (Ru (Int.toNat 5)) (Rg (Int.toNat x)) sq (lq + (Fw (Int.toNat ((xq + sh) % wc))))))), (16, .int (iI 1)), (15, .int (iI 0)), (14, .int (iI (lq + (Fw (Int.toNat ((xq + sh) % wc)))))), (13, .int (iI (9 * k))), (12, .int (iI 1)), (0, .ref h0), (1, .int (iI x)), (6, .int (iI xq)), (9, .int (iI lq)), (11, .int (iI bq))]) C dX6_fly_335 (by decide) rfl ?_
          refine r_iload C dX6_fly_337 13 rfl ?_
          refine r_iload C dX6_fly_339 0 rfl ?_
          refine r_aload_n C dX6_fly_341 10 rfl ?_
          refine gf_6_7 C hi_X6_fly_6 kw_X6_fly_1 dX6_fly_342 0 rfl rfl ?_
          refine r_iconst C dX6_fly_345 ?_
          refine r_iald C dX6_fly_346 4 rfl (by omega) (by decide) ?_
          refine r_icmp_ge (tgt := 364) C dX6_fly_347 (by decide) (by omega) (by omega) (fun h_33 => ?_) (fun h_33 => ?_)
          · skip
            refine r_iconst C dX6_fly_364 ?_
            refine r_iadd C dX6_fly_365 ?_
            refine r_topi (z := (fSl (Ru (Int.toNat 3)) lq (fSn nq))) (by unfold fSl; first | (rw [if_pos (by omega)]; done) | (rw [if_neg (by omega)]; omega)) ?_
            refine r_istore (lo2 := [(9, .int (iI (fSl (Ru (Int.toNat 3)) lq (fSn nq)))), (10, .int (iI (fSn nq))), (7, .int (iI (max 0 (sq - (fTk (Ru (Int.toNat 1)) (Ru (Int.toNat 5)) (Rg (Int.toNat x)) sq (lq + (Fw (Int.toNat ((xq + sh) % wc))))))))), (18, .int (iI (max 0 (sq - (fTk (Ru (Int.toNat 1)) (Ru (Int.toNat 5)) (Rg (Int.toNat x)) sq (lq + (Fw (Int.toNat ((xq + sh) % wc))))))))), (8, .int (iI (fFl (Ru (Int.toNat 2)) (Ru (Int.toNat 5)) fq (lq + (Fw (Int.toNat ((xq + sh) % wc))))))), (17, .int (iI (fTk (Ru (Int.toNat 1)) (Ru (Int.toNat 5)) (Rg (Int.toNat x)) sq (lq + (Fw (Int.toNat ((xq + sh) % wc))))))), (16, .int (iI 1)), (15, .int (iI 0)), (14, .int (iI (lq + (Fw (Int.toNat ((xq + sh) % wc)))))), (13, .int (iI (9 * k))), (12, .int (iI 1)), (0, .ref h0), (1, .int (iI x)), (6, .int (iI xq)), (11, .int (iI bq))]) C dX6_fly_366 (by decide) rfl ?_
            refine r_iload C dX6_fly_368 2 rfl ?_
            refine r_if_le (tgt := 386) C dX6_fly_370 (by decide) (by have := hFw (Int.toNat ((xq + sh) % wc)); omega) (fun h_34 => ?_) (fun h_34 => ?_)
            · skip
              refine r_iconst C dX6_fly_386 ?_
              refine r_istore (lo2 := [(12, .int (iI 0)), (9, .int (iI (fSl (Ru (Int.toNat 3)) lq (fSn nq)))), (10, .int (iI (fSn nq))), (7, .int (iI (max 0 (sq - (fTk (Ru (Int.toNat 1)) (Ru (Int.toNat 5)) (Rg (Int.toNat x)) sq (lq + (Fw (Int.toNat ((xq + sh) % wc))))))))), (18, .int (iI (max 0 (sq - (fTk (Ru (Int.toNat 1)) (Ru (Int.toNat 5)) (Rg (Int.toNat x)) sq (lq + (Fw (Int.toNat ((xq + sh) % wc))))))))), (8, .int (iI (fFl (Ru (Int.toNat 2)) (Ru (Int.toNat 5)) fq (lq + (Fw (Int.toNat ((xq + sh) % wc))))))), (17, .int (iI (fTk (Ru (Int.toNat 1)) (Ru (Int.toNat 5)) (Rg (Int.toNat x)) sq (lq + (Fw (Int.toNat ((xq + sh) % wc))))))), (16, .int (iI 1)), (15, .int (iI 0)), (14, .int (iI (lq + (Fw (Int.toNat ((xq + sh) % wc)))))), (13, .int (iI (9 * k))), (0, .ref h0), (1, .int (iI x)), (6, .int (iI xq)), (11, .int (iI bq))]) C dX6_fly_387 (by decide) rfl ?_
              refine r_iload C dX6_fly_389 13 rfl ?_
              refine r_iload C dX6_fly_391 3 rfl ?_
              refine r_iload C dX6_fly_393 5 rfl ?_
              refine r_imul C dX6_fly_395 ?_
              refine r_bipush C dX6_fly_396 (by decide) ?_
              refine r_idiv C dX6_fly_398 (by have := hFw (Int.toNat ((xq + sh) % wc)); omega) (by omega) ?_
              refine r_iadd C dX6_fly_399 ?_
              refine r_istore (lo2 := [(6, .int (iI (xq + (((max 0 (sq - (fTk (Ru (Int.toNat 1)) (Ru (Int.toNat 5)) (Rg (Int.toNat x)) sq (lq + (Fw (Int.toNat ((xq + sh) % wc))))))) * (fFl (Ru (Int.toNat 2)) (Ru (Int.toNat 5)) fq (lq + (Fw (Int.toNat ((xq + sh) % wc)))))) / 20)))), (12, .int (iI 0)), (9, .int (iI (fSl (Ru (Int.toNat 3)) lq (fSn nq)))), (10, .int (iI (fSn nq))), (7, .int (iI (max 0 (sq - (fTk (Ru (Int.toNat 1)) (Ru (Int.toNat 5)) (Rg (Int.toNat x)) sq (lq + (Fw (Int.toNat ((xq + sh) % wc))))))))), (18, .int (iI (max 0 (sq - (fTk (Ru (Int.toNat 1)) (Ru (Int.toNat 5)) (Rg (Int.toNat x)) sq (lq + (Fw (Int.toNat ((xq + sh) % wc))))))))), (8, .int (iI (fFl (Ru (Int.toNat 2)) (Ru (Int.toNat 5)) fq (lq + (Fw (Int.toNat ((xq + sh) % wc))))))), (17, .int (iI (fTk (Ru (Int.toNat 1)) (Ru (Int.toNat 5)) (Rg (Int.toNat x)) sq (lq + (Fw (Int.toNat ((xq + sh) % wc))))))), (16, .int (iI 1)), (15, .int (iI 0)), (14, .int (iI (lq + (Fw (Int.toNat ((xq + sh) % wc)))))), (13, .int (iI (9 * k))), (0, .ref h0), (1, .int (iI x)), (11, .int (iI bq))]) C dX6_fly_400 (by decide) rfl ?_
              refine r_iload C dX6_fly_402 14 rfl ?_
              refine r_iload C dX6_fly_404 6 rfl ?_
              refine r_iconst C dX6_fly_406 ?_
              refine r_idiv C dX6_fly_407 (by have := hFw (Int.toNat ((xq + sh) % wc)); omega) (by omega) ?_
              refine r_iadd C dX6_fly_408 ?_
              refine r_istore (lo2 := [(11, .int (iI (bq + ((fFl (Ru (Int.toNat 2)) (Ru (Int.toNat 5)) fq (lq + (Fw (Int.toNat ((xq + sh) % wc))))) / 5)))), (6, .int (iI (xq + (((max 0 (sq - (fTk (Ru (Int.toNat 1)) (Ru (Int.toNat 5)) (Rg (Int.toNat x)) sq (lq + (Fw (Int.toNat ((xq + sh) % wc))))))) * (fFl (Ru (Int.toNat 2)) (Ru (Int.toNat 5)) fq (lq + (Fw (Int.toNat ((xq + sh) % wc)))))) / 20)))), (12, .int (iI 0)), (9, .int (iI (fSl (Ru (Int.toNat 3)) lq (fSn nq)))), (10, .int (iI (fSn nq))), (7, .int (iI (max 0 (sq - (fTk (Ru (Int.toNat 1)) (Ru (Int.toNat 5)) (Rg (Int.toNat x)) sq (lq + (Fw (Int.toNat ((xq + sh) % wc))))))))), (18, .int (iI (max 0 (sq - (fTk (Ru (Int.toNat 1)) (Ru (Int.toNat 5)) (Rg (Int.toNat x)) sq (lq + (Fw (Int.toNat ((xq + sh) % wc))))))))), (8, .int (iI (fFl (Ru (Int.toNat 2)) (Ru (Int.toNat 5)) fq (lq + (Fw (Int.toNat ((xq + sh) % wc))))))), (17, .int (iI (fTk (Ru (Int.toNat 1)) (Ru (Int.toNat 5)) (Rg (Int.toNat x)) sq (lq + (Fw (Int.toNat ((xq + sh) % wc))))))), (16, .int (iI 1)), (15, .int (iI 0)), (14, .int (iI (lq + (Fw (Int.toNat ((xq + sh) % wc)))))), (13, .int (iI (9 * k))), (0, .ref h0), (1, .int (iI x))]) C dX6_fly_409 (by decide) rfl ?_
              refine r_goto (tgt := 28) C dX6_fly_411 (by decide) ?_
              refine r_iload C dX6_fly_28 2 rfl ?_
              refine r_if_eq (tgt := 414) C dX6_fly_30 (by decide) (by decide) (fun h_35 => ?_) (fun h_35 => absurd h_35 (by decide))
              exact g_ret_v C rfl dX6_fly_414 () trivial [0, 1, 2, 3, 4, 5, 6] rfl (by first | (rw [iN, iR, fNum_stop (E := ((((Ru (Int.toNat 0)), (Ru (Int.toNat 1)), (Ru (Int.toNat 2)), (Ru (Int.toNat 3)), (Ru (Int.toNat 4)), (Ru (Int.toNat 5))), ((Wt (Int.toNat x)), (Wd (Int.toNat x)), (Rg (Int.toNat x))), (sh, wc, Fw)) : fEn)) (t := ((xq, sq, fq, lq, nq, bq) : fS)) (by omega) (Or.inl KSK), fRes_sunk (E := ((((Ru (Int.toNat 0)), (Ru (Int.toNat 1)), (Ru (Int.toNat 2)), (Ru (Int.toNat 3)), (Ru (Int.toNat 4)), (Ru (Int.toNat 5))), ((Wt (Int.toNat x)), (Wd (Int.toNat x)), (Rg (Int.toNat x))), (sh, wc, Fw)) : fEn)) (t := ((xq, sq, fq, lq, nq, bq) : fS)) (by omega) KSK, ← kpF_ref (by omega)] <;> rfl) | (rw [iN, iR, fNum_stop (E := ((((Ru (Int.toNat 0)), (Ru (Int.toNat 1)), (Ru (Int.toNat 2)), (Ru (Int.toNat 3)), (Ru (Int.toNat 4)), (Ru (Int.toNat 5))), ((Wt (Int.toNat x)), (Wd (Int.toNat x)), (Rg (Int.toNat x))), (sh, wc, Fw)) : fEn)) (t := ((xq, sq, fq, lq, nq, bq) : fS)) (by omega) (Or.inr (show (max 0 (sq - (fTk (Ru (Int.toNat 1)) (Ru (Int.toNat 5)) (Rg (Int.toNat x)) sq (lq + (Fw (Int.toNat ((xq + sh) % wc))))))) = 0 by omega)), fRes_zero (E := ((((Ru (Int.toNat 0)), (Ru (Int.toNat 1)), (Ru (Int.toNat 2)), (Ru (Int.toNat 3)), (Ru (Int.toNat 4)), (Ru (Int.toNat 5))), ((Wt (Int.toNat x)), (Wd (Int.toNat x)), (Rg (Int.toNat x))), (sh, wc, Fw)) : fEn)) (t := ((xq, sq, fq, lq, nq, bq) : fS)) (by omega) KSK (show (max 0 (sq - (fTk (Ru (Int.toNat 1)) (Ru (Int.toNat 5)) (Rg (Int.toNat x)) sq (lq + (Fw (Int.toNat ((xq + sh) % wc))))))) = 0 by omega), ← kpF_ref (by omega)] <;> rfl) | (rw [iN, iR, fNum_go (E := ((((Ru (Int.toNat 0)), (Ru (Int.toNat 1)), (Ru (Int.toNat 2)), (Ru (Int.toNat 3)), (Ru (Int.toNat 4)), (Ru (Int.toNat 5))), ((Wt (Int.toNat x)), (Wd (Int.toNat x)), (Rg (Int.toNat x))), (sh, wc, Fw)) : fEn)) (t := ((xq, sq, fq, lq, nq, bq) : fS)) (by omega) (fun q => q.elim KSK (by intro z; change (max 0 (sq - (fTk (Ru (Int.toNat 1)) (Ru (Int.toNat 5)) (Rg (Int.toNat x)) sq (lq + (Fw (Int.toNat ((xq + sh) % wc))))))) = 0 at z; omega)), fRes_go (E := ((((Ru (Int.toNat 0)), (Ru (Int.toNat 1)), (Ru (Int.toNat 2)), (Ru (Int.toNat 3)), (Ru (Int.toNat 4)), (Ru (Int.toNat 5))), ((Wt (Int.toNat x)), (Wd (Int.toNat x)), (Rg (Int.toNat x))), (sh, wc, Fw)) : fEn)) (t := ((xq, sq, fq, lq, nq, bq) : fS)) (by omega) KSK (by intro z; change (max 0 (sq - (fTk (Ru (Int.toNat 1)) (Ru (Int.toNat 5)) (Rg (Int.toNat x)) sq (lq + (Fw (Int.toNat ((xq + sh) % wc))))))) = 0 at z; omega), show (90 - (k + 1)).toNat = 0 by omega, ← kpF_ref (by omega)] <;> rfl))
            · skip
              refine r_aload_n C dX6_fly_373 11 rfl ?_
              refine gf_6_13 C hi_X6_fly_6 kw_X6_fly_0 dX6_fly_374 0 rfl rfl ?_
              refine r_bipush C dX6_fly_377 (by decide) ?_
              refine r_icmp_ge (tgt := 386) C dX6_fly_379 (by decide) (by omega) (by decide) (fun h_36 => ?_) (fun h_36 => ?_)
              · skip
                refine r_iconst C dX6_fly_386 ?_
                refine r_istore (lo2 := [(12, .int (iI 0)), (9, .int (iI (fSl (Ru (Int.toNat 3)) lq (fSn nq)))), (10, .int (iI (fSn nq))), (7, .int (iI (max 0 (sq - (fTk (Ru (Int.toNat 1)) (Ru (Int.toNat 5)) (Rg (Int.toNat x)) sq (lq + (Fw (Int.toNat ((xq + sh) % wc))))))))), (18, .int (iI (max 0 (sq - (fTk (Ru (Int.toNat 1)) (Ru (Int.toNat 5)) (Rg (Int.toNat x)) sq (lq + (Fw (Int.toNat ((xq + sh) % wc))))))))), (8, .int (iI (fFl (Ru (Int.toNat 2)) (Ru (Int.toNat 5)) fq (lq + (Fw (Int.toNat ((xq + sh) % wc))))))), (17, .int (iI (fTk (Ru (Int.toNat 1)) (Ru (Int.toNat 5)) (Rg (Int.toNat x)) sq (lq + (Fw (Int.toNat ((xq + sh) % wc))))))), (16, .int (iI 1)), (15, .int (iI 0)), (14, .int (iI (lq + (Fw (Int.toNat ((xq + sh) % wc)))))), (13, .int (iI (9 * k))), (0, .ref h0), (1, .int (iI x)), (6, .int (iI xq)), (11, .int (iI bq))]) C dX6_fly_387 (by decide) rfl ?_
                refine r_iload C dX6_fly_389 13 rfl ?_
                refine r_iload C dX6_fly_391 3 rfl ?_
                refine r_iload C dX6_fly_393 5 rfl ?_
                refine r_imul C dX6_fly_395 ?_
                refine r_bipush C dX6_fly_396 (by decide) ?_
                refine r_idiv C dX6_fly_398 (by have := hFw (Int.toNat ((xq + sh) % wc)); omega) (by omega) ?_
                refine r_iadd C dX6_fly_399 ?_
                refine r_istore (lo2 := [(6, .int (iI (xq + (((max 0 (sq - (fTk (Ru (Int.toNat 1)) (Ru (Int.toNat 5)) (Rg (Int.toNat x)) sq (lq + (Fw (Int.toNat ((xq + sh) % wc))))))) * (fFl (Ru (Int.toNat 2)) (Ru (Int.toNat 5)) fq (lq + (Fw (Int.toNat ((xq + sh) % wc)))))) / 20)))), (12, .int (iI 0)), (9, .int (iI (fSl (Ru (Int.toNat 3)) lq (fSn nq)))), (10, .int (iI (fSn nq))), (7, .int (iI (max 0 (sq - (fTk (Ru (Int.toNat 1)) (Ru (Int.toNat 5)) (Rg (Int.toNat x)) sq (lq + (Fw (Int.toNat ((xq + sh) % wc))))))))), (18, .int (iI (max 0 (sq - (fTk (Ru (Int.toNat 1)) (Ru (Int.toNat 5)) (Rg (Int.toNat x)) sq (lq + (Fw (Int.toNat ((xq + sh) % wc))))))))), (8, .int (iI (fFl (Ru (Int.toNat 2)) (Ru (Int.toNat 5)) fq (lq + (Fw (Int.toNat ((xq + sh) % wc))))))), (17, .int (iI (fTk (Ru (Int.toNat 1)) (Ru (Int.toNat 5)) (Rg (Int.toNat x)) sq (lq + (Fw (Int.toNat ((xq + sh) % wc))))))), (16, .int (iI 1)), (15, .int (iI 0)), (14, .int (iI (lq + (Fw (Int.toNat ((xq + sh) % wc)))))), (13, .int (iI (9 * k))), (0, .ref h0), (1, .int (iI x)), (11, .int (iI bq))]) C dX6_fly_400 (by decide) rfl ?_
                refine r_iload C dX6_fly_402 14 rfl ?_
                refine r_iload C dX6_fly_404 6 rfl ?_
                refine r_iconst C dX6_fly_406 ?_
                refine r_idiv C dX6_fly_407 (by have := hFw (Int.toNat ((xq + sh) % wc)); omega) (by omega) ?_
                refine r_iadd C dX6_fly_408 ?_
                refine r_istore (lo2 := [(11, .int (iI (bq + ((fFl (Ru (Int.toNat 2)) (Ru (Int.toNat 5)) fq (lq + (Fw (Int.toNat ((xq + sh) % wc))))) / 5)))), (6, .int (iI (xq + (((max 0 (sq - (fTk (Ru (Int.toNat 1)) (Ru (Int.toNat 5)) (Rg (Int.toNat x)) sq (lq + (Fw (Int.toNat ((xq + sh) % wc))))))) * (fFl (Ru (Int.toNat 2)) (Ru (Int.toNat 5)) fq (lq + (Fw (Int.toNat ((xq + sh) % wc)))))) / 20)))), (12, .int (iI 0)), (9, .int (iI (fSl (Ru (Int.toNat 3)) lq (fSn nq)))), (10, .int (iI (fSn nq))), (7, .int (iI (max 0 (sq - (fTk (Ru (Int.toNat 1)) (Ru (Int.toNat 5)) (Rg (Int.toNat x)) sq (lq + (Fw (Int.toNat ((xq + sh) % wc))))))))), (18, .int (iI (max 0 (sq - (fTk (Ru (Int.toNat 1)) (Ru (Int.toNat 5)) (Rg (Int.toNat x)) sq (lq + (Fw (Int.toNat ((xq + sh) % wc))))))))), (8, .int (iI (fFl (Ru (Int.toNat 2)) (Ru (Int.toNat 5)) fq (lq + (Fw (Int.toNat ((xq + sh) % wc))))))), (17, .int (iI (fTk (Ru (Int.toNat 1)) (Ru (Int.toNat 5)) (Rg (Int.toNat x)) sq (lq + (Fw (Int.toNat ((xq + sh) % wc))))))), (16, .int (iI 1)), (15, .int (iI 0)), (14, .int (iI (lq + (Fw (Int.toNat ((xq + sh) % wc)))))), (13, .int (iI (9 * k))), (0, .ref h0), (1, .int (iI x))]) C dX6_fly_409 (by decide) rfl ?_
                refine r_goto (tgt := 28) C dX6_fly_411 (by decide) ?_
                refine r_iload C dX6_fly_28 2 rfl ?_
                refine r_if_eq (tgt := 414) C dX6_fly_30 (by decide) (by decide) (fun h_37 => ?_) (fun h_37 => absurd h_37 (by decide))
                exact g_ret_v C rfl dX6_fly_414 () trivial [0, 1, 2, 3, 4, 5, 6] rfl (by first | (rw [iN, iR, fNum_stop (E := ((((Ru (Int.toNat 0)), (Ru (Int.toNat 1)), (Ru (Int.toNat 2)), (Ru (Int.toNat 3)), (Ru (Int.toNat 4)), (Ru (Int.toNat 5))), ((Wt (Int.toNat x)), (Wd (Int.toNat x)), (Rg (Int.toNat x))), (sh, wc, Fw)) : fEn)) (t := ((xq, sq, fq, lq, nq, bq) : fS)) (by omega) (Or.inl KSK), fRes_sunk (E := ((((Ru (Int.toNat 0)), (Ru (Int.toNat 1)), (Ru (Int.toNat 2)), (Ru (Int.toNat 3)), (Ru (Int.toNat 4)), (Ru (Int.toNat 5))), ((Wt (Int.toNat x)), (Wd (Int.toNat x)), (Rg (Int.toNat x))), (sh, wc, Fw)) : fEn)) (t := ((xq, sq, fq, lq, nq, bq) : fS)) (by omega) KSK, ← kpF_ref (by omega)] <;> rfl) | (rw [iN, iR, fNum_stop (E := ((((Ru (Int.toNat 0)), (Ru (Int.toNat 1)), (Ru (Int.toNat 2)), (Ru (Int.toNat 3)), (Ru (Int.toNat 4)), (Ru (Int.toNat 5))), ((Wt (Int.toNat x)), (Wd (Int.toNat x)), (Rg (Int.toNat x))), (sh, wc, Fw)) : fEn)) (t := ((xq, sq, fq, lq, nq, bq) : fS)) (by omega) (Or.inr (show (max 0 (sq - (fTk (Ru (Int.toNat 1)) (Ru (Int.toNat 5)) (Rg (Int.toNat x)) sq (lq + (Fw (Int.toNat ((xq + sh) % wc))))))) = 0 by omega)), fRes_zero (E := ((((Ru (Int.toNat 0)), (Ru (Int.toNat 1)), (Ru (Int.toNat 2)), (Ru (Int.toNat 3)), (Ru (Int.toNat 4)), (Ru (Int.toNat 5))), ((Wt (Int.toNat x)), (Wd (Int.toNat x)), (Rg (Int.toNat x))), (sh, wc, Fw)) : fEn)) (t := ((xq, sq, fq, lq, nq, bq) : fS)) (by omega) KSK (show (max 0 (sq - (fTk (Ru (Int.toNat 1)) (Ru (Int.toNat 5)) (Rg (Int.toNat x)) sq (lq + (Fw (Int.toNat ((xq + sh) % wc))))))) = 0 by omega), ← kpF_ref (by omega)] <;> rfl) | (rw [iN, iR, fNum_go (E := ((((Ru (Int.toNat 0)), (Ru (Int.toNat 1)), (Ru (Int.toNat 2)), (Ru (Int.toNat 3)), (Ru (Int.toNat 4)), (Ru (Int.toNat 5))), ((Wt (Int.toNat x)), (Wd (Int.toNat x)), (Rg (Int.toNat x))), (sh, wc, Fw)) : fEn)) (t := ((xq, sq, fq, lq, nq, bq) : fS)) (by omega) (fun q => q.elim KSK (by intro z; change (max 0 (sq - (fTk (Ru (Int.toNat 1)) (Ru (Int.toNat 5)) (Rg (Int.toNat x)) sq (lq + (Fw (Int.toNat ((xq + sh) % wc))))))) = 0 at z; omega)), fRes_go (E := ((((Ru (Int.toNat 0)), (Ru (Int.toNat 1)), (Ru (Int.toNat 2)), (Ru (Int.toNat 3)), (Ru (Int.toNat 4)), (Ru (Int.toNat 5))), ((Wt (Int.toNat x)), (Wd (Int.toNat x)), (Rg (Int.toNat x))), (sh, wc, Fw)) : fEn)) (t := ((xq, sq, fq, lq, nq, bq) : fS)) (by omega) KSK (by intro z; change (max 0 (sq - (fTk (Ru (Int.toNat 1)) (Ru (Int.toNat 5)) (Rg (Int.toNat x)) sq (lq + (Fw (Int.toNat ((xq + sh) % wc))))))) = 0 at z; omega), show (90 - (k + 1)).toNat = 0 by omega, ← kpF_ref (by omega)] <;> rfl))
              · skip
                refine r_iconst C dX6_fly_382 ?_
                refine r_goto (tgt := 387) C dX6_fly_383 (by decide) ?_
                refine r_istore (lo2 := [(12, .int (iI 1)), (9, .int (iI (fSl (Ru (Int.toNat 3)) lq (fSn nq)))), (10, .int (iI (fSn nq))), (7, .int (iI (max 0 (sq - (fTk (Ru (Int.toNat 1)) (Ru (Int.toNat 5)) (Rg (Int.toNat x)) sq (lq + (Fw (Int.toNat ((xq + sh) % wc))))))))), (18, .int (iI (max 0 (sq - (fTk (Ru (Int.toNat 1)) (Ru (Int.toNat 5)) (Rg (Int.toNat x)) sq (lq + (Fw (Int.toNat ((xq + sh) % wc))))))))), (8, .int (iI (fFl (Ru (Int.toNat 2)) (Ru (Int.toNat 5)) fq (lq + (Fw (Int.toNat ((xq + sh) % wc))))))), (17, .int (iI (fTk (Ru (Int.toNat 1)) (Ru (Int.toNat 5)) (Rg (Int.toNat x)) sq (lq + (Fw (Int.toNat ((xq + sh) % wc))))))), (16, .int (iI 1)), (15, .int (iI 0)), (14, .int (iI (lq + (Fw (Int.toNat ((xq + sh) % wc)))))), (13, .int (iI (9 * k))), (0, .ref h0), (1, .int (iI x)), (6, .int (iI xq)), (11, .int (iI bq))]) C dX6_fly_387 (by decide) rfl ?_
                refine r_iload C dX6_fly_389 13 rfl ?_
                refine r_iload C dX6_fly_391 3 rfl ?_
                refine r_iload C dX6_fly_393 5 rfl ?_
                refine r_imul C dX6_fly_395 ?_
                refine r_bipush C dX6_fly_396 (by decide) ?_
                refine r_idiv C dX6_fly_398 (by have := hFw (Int.toNat ((xq + sh) % wc)); omega) (by omega) ?_
                refine r_iadd C dX6_fly_399 ?_
                refine r_istore (lo2 := [(6, .int (iI (xq + (((max 0 (sq - (fTk (Ru (Int.toNat 1)) (Ru (Int.toNat 5)) (Rg (Int.toNat x)) sq (lq + (Fw (Int.toNat ((xq + sh) % wc))))))) * (fFl (Ru (Int.toNat 2)) (Ru (Int.toNat 5)) fq (lq + (Fw (Int.toNat ((xq + sh) % wc)))))) / 20)))), (12, .int (iI 1)), (9, .int (iI (fSl (Ru (Int.toNat 3)) lq (fSn nq)))), (10, .int (iI (fSn nq))), (7, .int (iI (max 0 (sq - (fTk (Ru (Int.toNat 1)) (Ru (Int.toNat 5)) (Rg (Int.toNat x)) sq (lq + (Fw (Int.toNat ((xq + sh) % wc))))))))), (18, .int (iI (max 0 (sq - (fTk (Ru (Int.toNat 1)) (Ru (Int.toNat 5)) (Rg (Int.toNat x)) sq (lq + (Fw (Int.toNat ((xq + sh) % wc))))))))), (8, .int (iI (fFl (Ru (Int.toNat 2)) (Ru (Int.toNat 5)) fq (lq + (Fw (Int.toNat ((xq + sh) % wc))))))), (17, .int (iI (fTk (Ru (Int.toNat 1)) (Ru (Int.toNat 5)) (Rg (Int.toNat x)) sq (lq + (Fw (Int.toNat ((xq + sh) % wc))))))), (16, .int (iI 1)), (15, .int (iI 0)), (14, .int (iI (lq + (Fw (Int.toNat ((xq + sh) % wc)))))), (13, .int (iI (9 * k))), (0, .ref h0), (1, .int (iI x)), (11, .int (iI bq))]) C dX6_fly_400 (by decide) rfl ?_
                refine r_iload C dX6_fly_402 14 rfl ?_
                refine r_iload C dX6_fly_404 6 rfl ?_
                refine r_iconst C dX6_fly_406 ?_
                refine r_idiv C dX6_fly_407 (by have := hFw (Int.toNat ((xq + sh) % wc)); omega) (by omega) ?_
                refine r_iadd C dX6_fly_408 ?_
                refine r_istore (lo2 := [(11, .int (iI (bq + ((fFl (Ru (Int.toNat 2)) (Ru (Int.toNat 5)) fq (lq + (Fw (Int.toNat ((xq + sh) % wc))))) / 5)))), (6, .int (iI (xq + (((max 0 (sq - (fTk (Ru (Int.toNat 1)) (Ru (Int.toNat 5)) (Rg (Int.toNat x)) sq (lq + (Fw (Int.toNat ((xq + sh) % wc))))))) * (fFl (Ru (Int.toNat 2)) (Ru (Int.toNat 5)) fq (lq + (Fw (Int.toNat ((xq + sh) % wc)))))) / 20)))), (12, .int (iI 1)), (9, .int (iI (fSl (Ru (Int.toNat 3)) lq (fSn nq)))), (10, .int (iI (fSn nq))), (7, .int (iI (max 0 (sq - (fTk (Ru (Int.toNat 1)) (Ru (Int.toNat 5)) (Rg (Int.toNat x)) sq (lq + (Fw (Int.toNat ((xq + sh) % wc))))))))), (18, .int (iI (max 0 (sq - (fTk (Ru (Int.toNat 1)) (Ru (Int.toNat 5)) (Rg (Int.toNat x)) sq (lq + (Fw (Int.toNat ((xq + sh) % wc))))))))), (8, .int (iI (fFl (Ru (Int.toNat 2)) (Ru (Int.toNat 5)) fq (lq + (Fw (Int.toNat ((xq + sh) % wc))))))), (17, .int (iI (fTk (Ru (Int.toNat 1)) (Ru (Int.toNat 5)) (Rg (Int.toNat x)) sq (lq + (Fw (Int.toNat ((xq + sh) % wc))))))), (16, .int (iI 1)), (15, .int (iI 0)), (14, .int (iI (lq + (Fw (Int.toNat ((xq + sh) % wc)))))), (13, .int (iI (9 * k))), (0, .ref h0), (1, .int (iI x))]) C dX6_fly_409 (by decide) rfl ?_
                refine r_goto (tgt := 28) C dX6_fly_411 (by decide) ?_
                refine r_lo [2, 13, 14, 1, 5, 7, 3, 4, 0] (lo2 := [(12, .int (iI 1)), (0, .ref h0), (1, .int (iI x)), (6, .int (iI (xq + (((max 0 (sq - (fTk (Ru (Int.toNat 1)) (Ru (Int.toNat 5)) (Rg (Int.toNat x)) sq (lq + (Fw (Int.toNat ((xq + sh) % wc))))))) * (fFl (Ru (Int.toNat 2)) (Ru (Int.toNat 5)) fq (lq + (Fw (Int.toNat ((xq + sh) % wc)))))) / 20)))), (7, .int (iI (max 0 (sq - (fTk (Ru (Int.toNat 1)) (Ru (Int.toNat 5)) (Rg (Int.toNat x)) sq (lq + (Fw (Int.toNat ((xq + sh) % wc))))))))), (8, .int (iI (fFl (Ru (Int.toNat 2)) (Ru (Int.toNat 5)) fq (lq + (Fw (Int.toNat ((xq + sh) % wc))))))), (9, .int (iI (fSl (Ru (Int.toNat 3)) lq (fSn nq)))), (10, .int (iI (fSn nq))), (11, .int (iI (bq + ((fFl (Ru (Int.toNat 2)) (Ru (Int.toNat 5)) fq (lq + (Fw (Int.toNat ((xq + sh) % wc))))) / 5))))]) rfl ?_
                exact ih28 (xq + (((max 0 (sq - (fTk (Ru (Int.toNat 1)) (Ru (Int.toNat 5)) (Rg (Int.toNat x)) sq (lq + (Fw (Int.toNat ((xq + sh) % wc))))))) * (fFl (Ru (Int.toNat 2)) (Ru (Int.toNat 5)) fq (lq + (Fw (Int.toNat ((xq + sh) % wc)))))) / 20)) (max 0 (sq - (fTk (Ru (Int.toNat 1)) (Ru (Int.toNat 5)) (Rg (Int.toNat x)) sq (lq + (Fw (Int.toNat ((xq + sh) % wc))))))) (fFl (Ru (Int.toNat 2)) (Ru (Int.toNat 5)) fq (lq + (Fw (Int.toNat ((xq + sh) % wc))))) (fSl (Ru (Int.toNat 3)) lq (fSn nq)) (fSn nq) (bq + ((fFl (Ru (Int.toNat 2)) (Ru (Int.toNat 5)) fq (lq + (Fw (Int.toNat ((xq + sh) % wc))))) / 5)) (k + 1) (updI (updI (updI (updI (updI (updI (updI (updI (updI G (Int.toNat ((9 * k) + 1)) xq) (Int.toNat ((9 * k) + 2)) sq) (Int.toNat ((9 * k) + 3)) fq) (Int.toNat ((9 * k) + 4)) lq) (Int.toNat ((9 * k) + 5)) nq) (Int.toNat ((9 * k) + 6)) (lq + (Fw (Int.toNat ((xq + sh) % wc))))) (Int.toNat ((9 * k) + 8)) bq) (Int.toNat (9 * k)) (fKd (Ru (Int.toNat 4)) (Ru (Int.toNat 5)) (lq + (Fw (Int.toNat ((xq + sh) % wc)))) (fFl (Ru (Int.toNat 2)) (Ru (Int.toNat 5)) fq (lq + (Fw (Int.toNat ((xq + sh) % wc))))))) (Int.toNat ((9 * k) + 7)) (fTk (Ru (Int.toNat 1)) (Ru (Int.toNat 5)) (Rg (Int.toNat x)) sq (lq + (Fw (Int.toNat ((xq + sh) % wc)))))) (by omega) (by omega) (by omega) (by omega) (by omega) (by omega) (by omega) (by rw [iN, fNum_go (E := ((((Ru (Int.toNat 0)), (Ru (Int.toNat 1)), (Ru (Int.toNat 2)), (Ru (Int.toNat 3)), (Ru (Int.toNat 4)), (Ru (Int.toNat 5))), ((Wt (Int.toNat x)), (Wd (Int.toNat x)), (Rg (Int.toNat x))), (sh, wc, Fw)) : fEn)) (t := ((xq, sq, fq, lq, nq, bq) : fS)) (by omega) (fun q => q.elim KSK (by intro z; simp only [fSpT, fTkT] at z; change (max 0 (sq - (fTk (Ru (Int.toNat 1)) (Ru (Int.toNat 5)) (Rg (Int.toNat x)) sq (lq + (Fw (Int.toNat ((xq + sh) % wc))))))) = 0 at z; omega))] <;> rfl) (by rw [iR, fRes_go (E := ((((Ru (Int.toNat 0)), (Ru (Int.toNat 1)), (Ru (Int.toNat 2)), (Ru (Int.toNat 3)), (Ru (Int.toNat 4)), (Ru (Int.toNat 5))), ((Wt (Int.toNat x)), (Wd (Int.toNat x)), (Rg (Int.toNat x))), (sh, wc, Fw)) : fEn)) (t := ((xq, sq, fq, lq, nq, bq) : fS)) (by omega) KSK (by intro z; change (max 0 (sq - (fTk (Ru (Int.toNat 1)) (Ru (Int.toNat 5)) (Rg (Int.toNat x)) sq (lq + (Fw (Int.toNat ((xq + sh) % wc))))))) = 0 at z; omega), ← kpF_ref (by omega)] <;> rfl) (by omega)
          · skip
            refine r_aload_n C dX6_fly_350 10 rfl ?_
            refine gf_6_7 C hi_X6_fly_6 kw_X6_fly_1 dX6_fly_351 0 rfl rfl ?_
            refine r_iconst C dX6_fly_354 ?_
            refine r_iald C dX6_fly_355 4 rfl (by omega) (by decide) ?_
            refine r_iload C dX6_fly_356 0 rfl ?_
            refine r_isub C dX6_fly_358 ?_
            refine r_iconst C dX6_fly_359 ?_
            refine r_idiv C dX6_fly_360 (by omega) (by omega) ?_
            refine r_goto (tgt := 365) C dX6_fly_361 (by decide) ?_
            refine r_iadd C dX6_fly_365 ?_
            refine r_topi (z := (fSl (Ru (Int.toNat 3)) lq (fSn nq))) (by unfold fSl; first | (rw [if_pos (by omega)]; done) | (rw [if_neg (by omega)]; omega)) ?_
            refine r_istore (lo2 := [(9, .int (iI (fSl (Ru (Int.toNat 3)) lq (fSn nq)))), (10, .int (iI (fSn nq))), (7, .int (iI (max 0 (sq - (fTk (Ru (Int.toNat 1)) (Ru (Int.toNat 5)) (Rg (Int.toNat x)) sq (lq + (Fw (Int.toNat ((xq + sh) % wc))))))))), (18, .int (iI (max 0 (sq - (fTk (Ru (Int.toNat 1)) (Ru (Int.toNat 5)) (Rg (Int.toNat x)) sq (lq + (Fw (Int.toNat ((xq + sh) % wc))))))))), (8, .int (iI (fFl (Ru (Int.toNat 2)) (Ru (Int.toNat 5)) fq (lq + (Fw (Int.toNat ((xq + sh) % wc))))))), (17, .int (iI (fTk (Ru (Int.toNat 1)) (Ru (Int.toNat 5)) (Rg (Int.toNat x)) sq (lq + (Fw (Int.toNat ((xq + sh) % wc))))))), (16, .int (iI 1)), (15, .int (iI 0)), (14, .int (iI (lq + (Fw (Int.toNat ((xq + sh) % wc)))))), (13, .int (iI (9 * k))), (12, .int (iI 1)), (0, .ref h0), (1, .int (iI x)), (6, .int (iI xq)), (11, .int (iI bq))]) C dX6_fly_366 (by decide) rfl ?_
            refine r_iload C dX6_fly_368 2 rfl ?_
            refine r_if_le (tgt := 386) C dX6_fly_370 (by decide) (by have := hFw (Int.toNat ((xq + sh) % wc)); omega) (fun h_38 => ?_) (fun h_38 => ?_)
            · skip
              refine r_iconst C dX6_fly_386 ?_
              refine r_istore (lo2 := [(12, .int (iI 0)), (9, .int (iI (fSl (Ru (Int.toNat 3)) lq (fSn nq)))), (10, .int (iI (fSn nq))), (7, .int (iI (max 0 (sq - (fTk (Ru (Int.toNat 1)) (Ru (Int.toNat 5)) (Rg (Int.toNat x)) sq (lq + (Fw (Int.toNat ((xq + sh) % wc))))))))), (18, .int (iI (max 0 (sq - (fTk (Ru (Int.toNat 1)) (Ru (Int.toNat 5)) (Rg (Int.toNat x)) sq (lq + (Fw (Int.toNat ((xq + sh) % wc))))))))), (8, .int (iI (fFl (Ru (Int.toNat 2)) (Ru (Int.toNat 5)) fq (lq + (Fw (Int.toNat ((xq + sh) % wc))))))), (17, .int (iI (fTk (Ru (Int.toNat 1)) (Ru (Int.toNat 5)) (Rg (Int.toNat x)) sq (lq + (Fw (Int.toNat ((xq + sh) % wc))))))), (16, .int (iI 1)), (15, .int (iI 0)), (14, .int (iI (lq + (Fw (Int.toNat ((xq + sh) % wc)))))), (13, .int (iI (9 * k))), (0, .ref h0), (1, .int (iI x)), (6, .int (iI xq)), (11, .int (iI bq))]) C dX6_fly_387 (by decide) rfl ?_
              refine r_iload C dX6_fly_389 13 rfl ?_
              refine r_iload C dX6_fly_391 3 rfl ?_
              refine r_iload C dX6_fly_393 5 rfl ?_
              refine r_imul C dX6_fly_395 ?_
              refine r_bipush C dX6_fly_396 (by decide) ?_
              refine r_idiv C dX6_fly_398 (by have := hFw (Int.toNat ((xq + sh) % wc)); omega) (by omega) ?_
              refine r_iadd C dX6_fly_399 ?_
              refine r_istore (lo2 := [(6, .int (iI (xq + (((max 0 (sq - (fTk (Ru (Int.toNat 1)) (Ru (Int.toNat 5)) (Rg (Int.toNat x)) sq (lq + (Fw (Int.toNat ((xq + sh) % wc))))))) * (fFl (Ru (Int.toNat 2)) (Ru (Int.toNat 5)) fq (lq + (Fw (Int.toNat ((xq + sh) % wc)))))) / 20)))), (12, .int (iI 0)), (9, .int (iI (fSl (Ru (Int.toNat 3)) lq (fSn nq)))), (10, .int (iI (fSn nq))), (7, .int (iI (max 0 (sq - (fTk (Ru (Int.toNat 1)) (Ru (Int.toNat 5)) (Rg (Int.toNat x)) sq (lq + (Fw (Int.toNat ((xq + sh) % wc))))))))), (18, .int (iI (max 0 (sq - (fTk (Ru (Int.toNat 1)) (Ru (Int.toNat 5)) (Rg (Int.toNat x)) sq (lq + (Fw (Int.toNat ((xq + sh) % wc))))))))), (8, .int (iI (fFl (Ru (Int.toNat 2)) (Ru (Int.toNat 5)) fq (lq + (Fw (Int.toNat ((xq + sh) % wc))))))), (17, .int (iI (fTk (Ru (Int.toNat 1)) (Ru (Int.toNat 5)) (Rg (Int.toNat x)) sq (lq + (Fw (Int.toNat ((xq + sh) % wc))))))), (16, .int (iI 1)), (15, .int (iI 0)), (14, .int (iI (lq + (Fw (Int.toNat ((xq + sh) % wc)))))), (13, .int (iI (9 * k))), (0, .ref h0), (1, .int (iI x)), (11, .int (iI bq))]) C dX6_fly_400 (by decide) rfl ?_
              refine r_iload C dX6_fly_402 14 rfl ?_
              refine r_iload C dX6_fly_404 6 rfl ?_
              refine r_iconst C dX6_fly_406 ?_
              refine r_idiv C dX6_fly_407 (by have := hFw (Int.toNat ((xq + sh) % wc)); omega) (by omega) ?_
              refine r_iadd C dX6_fly_408 ?_
              refine r_istore (lo2 := [(11, .int (iI (bq + ((fFl (Ru (Int.toNat 2)) (Ru (Int.toNat 5)) fq (lq + (Fw (Int.toNat ((xq + sh) % wc))))) / 5)))), (6, .int (iI (xq + (((max 0 (sq - (fTk (Ru (Int.toNat 1)) (Ru (Int.toNat 5)) (Rg (Int.toNat x)) sq (lq + (Fw (Int.toNat ((xq + sh) % wc))))))) * (fFl (Ru (Int.toNat 2)) (Ru (Int.toNat 5)) fq (lq + (Fw (Int.toNat ((xq + sh) % wc)))))) / 20)))), (12, .int (iI 0)), (9, .int (iI (fSl (Ru (Int.toNat 3)) lq (fSn nq)))), (10, .int (iI (fSn nq))), (7, .int (iI (max 0 (sq - (fTk (Ru (Int.toNat 1)) (Ru (Int.toNat 5)) (Rg (Int.toNat x)) sq (lq + (Fw (Int.toNat ((xq + sh) % wc))))))))), (18, .int (iI (max 0 (sq - (fTk (Ru (Int.toNat 1)) (Ru (Int.toNat 5)) (Rg (Int.toNat x)) sq (lq + (Fw (Int.toNat ((xq + sh) % wc))))))))), (8, .int (iI (fFl (Ru (Int.toNat 2)) (Ru (Int.toNat 5)) fq (lq + (Fw (Int.toNat ((xq + sh) % wc))))))), (17, .int (iI (fTk (Ru (Int.toNat 1)) (Ru (Int.toNat 5)) (Rg (Int.toNat x)) sq (lq + (Fw (Int.toNat ((xq + sh) % wc))))))), (16, .int (iI 1)), (15, .int (iI 0)), (14, .int (iI (lq + (Fw (Int.toNat ((xq + sh) % wc)))))), (13, .int (iI (9 * k))), (0, .ref h0), (1, .int (iI x))]) C dX6_fly_409 (by decide) rfl ?_
              refine r_goto (tgt := 28) C dX6_fly_411 (by decide) ?_
              refine r_iload C dX6_fly_28 2 rfl ?_
              refine r_if_eq (tgt := 414) C dX6_fly_30 (by decide) (by decide) (fun h_39 => ?_) (fun h_39 => absurd h_39 (by decide))
              exact g_ret_v C rfl dX6_fly_414 () trivial [0, 1, 2, 3, 4, 5, 6] rfl (by first | (rw [iN, iR, fNum_stop (E := ((((Ru (Int.toNat 0)), (Ru (Int.toNat 1)), (Ru (Int.toNat 2)), (Ru (Int.toNat 3)), (Ru (Int.toNat 4)), (Ru (Int.toNat 5))), ((Wt (Int.toNat x)), (Wd (Int.toNat x)), (Rg (Int.toNat x))), (sh, wc, Fw)) : fEn)) (t := ((xq, sq, fq, lq, nq, bq) : fS)) (by omega) (Or.inl KSK), fRes_sunk (E := ((((Ru (Int.toNat 0)), (Ru (Int.toNat 1)), (Ru (Int.toNat 2)), (Ru (Int.toNat 3)), (Ru (Int.toNat 4)), (Ru (Int.toNat 5))), ((Wt (Int.toNat x)), (Wd (Int.toNat x)), (Rg (Int.toNat x))), (sh, wc, Fw)) : fEn)) (t := ((xq, sq, fq, lq, nq, bq) : fS)) (by omega) KSK, ← kpF_ref (by omega)] <;> rfl) | (rw [iN, iR, fNum_stop (E := ((((Ru (Int.toNat 0)), (Ru (Int.toNat 1)), (Ru (Int.toNat 2)), (Ru (Int.toNat 3)), (Ru (Int.toNat 4)), (Ru (Int.toNat 5))), ((Wt (Int.toNat x)), (Wd (Int.toNat x)), (Rg (Int.toNat x))), (sh, wc, Fw)) : fEn)) (t := ((xq, sq, fq, lq, nq, bq) : fS)) (by omega) (Or.inr (show (max 0 (sq - (fTk (Ru (Int.toNat 1)) (Ru (Int.toNat 5)) (Rg (Int.toNat x)) sq (lq + (Fw (Int.toNat ((xq + sh) % wc))))))) = 0 by omega)), fRes_zero (E := ((((Ru (Int.toNat 0)), (Ru (Int.toNat 1)), (Ru (Int.toNat 2)), (Ru (Int.toNat 3)), (Ru (Int.toNat 4)), (Ru (Int.toNat 5))), ((Wt (Int.toNat x)), (Wd (Int.toNat x)), (Rg (Int.toNat x))), (sh, wc, Fw)) : fEn)) (t := ((xq, sq, fq, lq, nq, bq) : fS)) (by omega) KSK (show (max 0 (sq - (fTk (Ru (Int.toNat 1)) (Ru (Int.toNat 5)) (Rg (Int.toNat x)) sq (lq + (Fw (Int.toNat ((xq + sh) % wc))))))) = 0 by omega), ← kpF_ref (by omega)] <;> rfl) | (rw [iN, iR, fNum_go (E := ((((Ru (Int.toNat 0)), (Ru (Int.toNat 1)), (Ru (Int.toNat 2)), (Ru (Int.toNat 3)), (Ru (Int.toNat 4)), (Ru (Int.toNat 5))), ((Wt (Int.toNat x)), (Wd (Int.toNat x)), (Rg (Int.toNat x))), (sh, wc, Fw)) : fEn)) (t := ((xq, sq, fq, lq, nq, bq) : fS)) (by omega) (fun q => q.elim KSK (by intro z; change (max 0 (sq - (fTk (Ru (Int.toNat 1)) (Ru (Int.toNat 5)) (Rg (Int.toNat x)) sq (lq + (Fw (Int.toNat ((xq + sh) % wc))))))) = 0 at z; omega)), fRes_go (E := ((((Ru (Int.toNat 0)), (Ru (Int.toNat 1)), (Ru (Int.toNat 2)), (Ru (Int.toNat 3)), (Ru (Int.toNat 4)), (Ru (Int.toNat 5))), ((Wt (Int.toNat x)), (Wd (Int.toNat x)), (Rg (Int.toNat x))), (sh, wc, Fw)) : fEn)) (t := ((xq, sq, fq, lq, nq, bq) : fS)) (by omega) KSK (by intro z; change (max 0 (sq - (fTk (Ru (Int.toNat 1)) (Ru (Int.toNat 5)) (Rg (Int.toNat x)) sq (lq + (Fw (Int.toNat ((xq + sh) % wc))))))) = 0 at z; omega), show (90 - (k + 1)).toNat = 0 by omega, ← kpF_ref (by omega)] <;> rfl))
            · skip
              refine r_aload_n C dX6_fly_373 11 rfl ?_
              refine gf_6_13 C hi_X6_fly_6 kw_X6_fly_0 dX6_fly_374 0 rfl rfl ?_
              refine r_bipush C dX6_fly_377 (by decide) ?_
              refine r_icmp_ge (tgt := 386) C dX6_fly_379 (by decide) (by omega) (by decide) (fun h_40 => ?_) (fun h_40 => ?_)
              · skip
                refine r_iconst C dX6_fly_386 ?_
                refine r_istore (lo2 := [(12, .int (iI 0)), (9, .int (iI (fSl (Ru (Int.toNat 3)) lq (fSn nq)))), (10, .int (iI (fSn nq))), (7, .int (iI (max 0 (sq - (fTk (Ru (Int.toNat 1)) (Ru (Int.toNat 5)) (Rg (Int.toNat x)) sq (lq + (Fw (Int.toNat ((xq + sh) % wc))))))))), (18, .int (iI (max 0 (sq - (fTk (Ru (Int.toNat 1)) (Ru (Int.toNat 5)) (Rg (Int.toNat x)) sq (lq + (Fw (Int.toNat ((xq + sh) % wc))))))))), (8, .int (iI (fFl (Ru (Int.toNat 2)) (Ru (Int.toNat 5)) fq (lq + (Fw (Int.toNat ((xq + sh) % wc))))))), (17, .int (iI (fTk (Ru (Int.toNat 1)) (Ru (Int.toNat 5)) (Rg (Int.toNat x)) sq (lq + (Fw (Int.toNat ((xq + sh) % wc))))))), (16, .int (iI 1)), (15, .int (iI 0)), (14, .int (iI (lq + (Fw (Int.toNat ((xq + sh) % wc)))))), (13, .int (iI (9 * k))), (0, .ref h0), (1, .int (iI x)), (6, .int (iI xq)), (11, .int (iI bq))]) C dX6_fly_387 (by decide) rfl ?_
                refine r_iload C dX6_fly_389 13 rfl ?_
                refine r_iload C dX6_fly_391 3 rfl ?_
                refine r_iload C dX6_fly_393 5 rfl ?_
                refine r_imul C dX6_fly_395 ?_
                refine r_bipush C dX6_fly_396 (by decide) ?_
                refine r_idiv C dX6_fly_398 (by have := hFw (Int.toNat ((xq + sh) % wc)); omega) (by omega) ?_
                refine r_iadd C dX6_fly_399 ?_
                refine r_istore (lo2 := [(6, .int (iI (xq + (((max 0 (sq - (fTk (Ru (Int.toNat 1)) (Ru (Int.toNat 5)) (Rg (Int.toNat x)) sq (lq + (Fw (Int.toNat ((xq + sh) % wc))))))) * (fFl (Ru (Int.toNat 2)) (Ru (Int.toNat 5)) fq (lq + (Fw (Int.toNat ((xq + sh) % wc)))))) / 20)))), (12, .int (iI 0)), (9, .int (iI (fSl (Ru (Int.toNat 3)) lq (fSn nq)))), (10, .int (iI (fSn nq))), (7, .int (iI (max 0 (sq - (fTk (Ru (Int.toNat 1)) (Ru (Int.toNat 5)) (Rg (Int.toNat x)) sq (lq + (Fw (Int.toNat ((xq + sh) % wc))))))))), (18, .int (iI (max 0 (sq - (fTk (Ru (Int.toNat 1)) (Ru (Int.toNat 5)) (Rg (Int.toNat x)) sq (lq + (Fw (Int.toNat ((xq + sh) % wc))))))))), (8, .int (iI (fFl (Ru (Int.toNat 2)) (Ru (Int.toNat 5)) fq (lq + (Fw (Int.toNat ((xq + sh) % wc))))))), (17, .int (iI (fTk (Ru (Int.toNat 1)) (Ru (Int.toNat 5)) (Rg (Int.toNat x)) sq (lq + (Fw (Int.toNat ((xq + sh) % wc))))))), (16, .int (iI 1)), (15, .int (iI 0)), (14, .int (iI (lq + (Fw (Int.toNat ((xq + sh) % wc)))))), (13, .int (iI (9 * k))), (0, .ref h0), (1, .int (iI x)), (11, .int (iI bq))]) C dX6_fly_400 (by decide) rfl ?_
                refine r_iload C dX6_fly_402 14 rfl ?_
                refine r_iload C dX6_fly_404 6 rfl ?_
                refine r_iconst C dX6_fly_406 ?_
                refine r_idiv C dX6_fly_407 (by have := hFw (Int.toNat ((xq + sh) % wc)); omega) (by omega) ?_
                refine r_iadd C dX6_fly_408 ?_
                refine r_istore (lo2 := [(11, .int (iI (bq + ((fFl (Ru (Int.toNat 2)) (Ru (Int.toNat 5)) fq (lq + (Fw (Int.toNat ((xq + sh) % wc))))) / 5)))), (6, .int (iI (xq + (((max 0 (sq - (fTk (Ru (Int.toNat 1)) (Ru (Int.toNat 5)) (Rg (Int.toNat x)) sq (lq + (Fw (Int.toNat ((xq + sh) % wc))))))) * (fFl (Ru (Int.toNat 2)) (Ru (Int.toNat 5)) fq (lq + (Fw (Int.toNat ((xq + sh) % wc)))))) / 20)))), (12, .int (iI 0)), (9, .int (iI (fSl (Ru (Int.toNat 3)) lq (fSn nq)))), (10, .int (iI (fSn nq))), (7, .int (iI (max 0 (sq - (fTk (Ru (Int.toNat 1)) (Ru (Int.toNat 5)) (Rg (Int.toNat x)) sq (lq + (Fw (Int.toNat ((xq + sh) % wc))))))))), (18, .int (iI (max 0 (sq - (fTk (Ru (Int.toNat 1)) (Ru (Int.toNat 5)) (Rg (Int.toNat x)) sq (lq + (Fw (Int.toNat ((xq + sh) % wc))))))))), (8, .int (iI (fFl (Ru (Int.toNat 2)) (Ru (Int.toNat 5)) fq (lq + (Fw (Int.toNat ((xq + sh) % wc))))))), (17, .int (iI (fTk (Ru (Int.toNat 1)) (Ru (Int.toNat 5)) (Rg (Int.toNat x)) sq (lq + (Fw (Int.toNat ((xq + sh) % wc))))))), (16, .int (iI 1)), (15, .int (iI 0)), (14, .int (iI (lq + (Fw (Int.toNat ((xq + sh) % wc)))))), (13, .int (iI (9 * k))), (0, .ref h0), (1, .int (iI x))]) C dX6_fly_409 (by decide) rfl ?_
                refine r_goto (tgt := 28) C dX6_fly_411 (by decide) ?_
                refine r_iload C dX6_fly_28 2 rfl ?_
                refine r_if_eq (tgt := 414) C dX6_fly_30 (by decide) (by decide) (fun h_41 => ?_) (fun h_41 => absurd h_41 (by decide))
                exact g_ret_v C rfl dX6_fly_414 () trivial [0, 1, 2, 3, 4, 5, 6] rfl (by first | (rw [iN, iR, fNum_stop (E := ((((Ru (Int.toNat 0)), (Ru (Int.toNat 1)), (Ru (Int.toNat 2)), (Ru (Int.toNat 3)), (Ru (Int.toNat 4)), (Ru (Int.toNat 5))), ((Wt (Int.toNat x)), (Wd (Int.toNat x)), (Rg (Int.toNat x))), (sh, wc, Fw)) : fEn)) (t := ((xq, sq, fq, lq, nq, bq) : fS)) (by omega) (Or.inl KSK), fRes_sunk (E := ((((Ru (Int.toNat 0)), (Ru (Int.toNat 1)), (Ru (Int.toNat 2)), (Ru (Int.toNat 3)), (Ru (Int.toNat 4)), (Ru (Int.toNat 5))), ((Wt (Int.toNat x)), (Wd (Int.toNat x)), (Rg (Int.toNat x))), (sh, wc, Fw)) : fEn)) (t := ((xq, sq, fq, lq, nq, bq) : fS)) (by omega) KSK, ← kpF_ref (by omega)] <;> rfl) | (rw [iN, iR, fNum_stop (E := ((((Ru (Int.toNat 0)), (Ru (Int.toNat 1)), (Ru (Int.toNat 2)), (Ru (Int.toNat 3)), (Ru (Int.toNat 4)), (Ru (Int.toNat 5))), ((Wt (Int.toNat x)), (Wd (Int.toNat x)), (Rg (Int.toNat x))), (sh, wc, Fw)) : fEn)) (t := ((xq, sq, fq, lq, nq, bq) : fS)) (by omega) (Or.inr (show (max 0 (sq - (fTk (Ru (Int.toNat 1)) (Ru (Int.toNat 5)) (Rg (Int.toNat x)) sq (lq + (Fw (Int.toNat ((xq + sh) % wc))))))) = 0 by omega)), fRes_zero (E := ((((Ru (Int.toNat 0)), (Ru (Int.toNat 1)), (Ru (Int.toNat 2)), (Ru (Int.toNat 3)), (Ru (Int.toNat 4)), (Ru (Int.toNat 5))), ((Wt (Int.toNat x)), (Wd (Int.toNat x)), (Rg (Int.toNat x))), (sh, wc, Fw)) : fEn)) (t := ((xq, sq, fq, lq, nq, bq) : fS)) (by omega) KSK (show (max 0 (sq - (fTk (Ru (Int.toNat 1)) (Ru (Int.toNat 5)) (Rg (Int.toNat x)) sq (lq + (Fw (Int.toNat ((xq + sh) % wc))))))) = 0 by omega), ← kpF_ref (by omega)] <;> rfl) | (rw [iN, iR, fNum_go (E := ((((Ru (Int.toNat 0)), (Ru (Int.toNat 1)), (Ru (Int.toNat 2)), (Ru (Int.toNat 3)), (Ru (Int.toNat 4)), (Ru (Int.toNat 5))), ((Wt (Int.toNat x)), (Wd (Int.toNat x)), (Rg (Int.toNat x))), (sh, wc, Fw)) : fEn)) (t := ((xq, sq, fq, lq, nq, bq) : fS)) (by omega) (fun q => q.elim KSK (by intro z; change (max 0 (sq - (fTk (Ru (Int.toNat 1)) (Ru (Int.toNat 5)) (Rg (Int.toNat x)) sq (lq + (Fw (Int.toNat ((xq + sh) % wc))))))) = 0 at z; omega)), fRes_go (E := ((((Ru (Int.toNat 0)), (Ru (Int.toNat 1)), (Ru (Int.toNat 2)), (Ru (Int.toNat 3)), (Ru (Int.toNat 4)), (Ru (Int.toNat 5))), ((Wt (Int.toNat x)), (Wd (Int.toNat x)), (Rg (Int.toNat x))), (sh, wc, Fw)) : fEn)) (t := ((xq, sq, fq, lq, nq, bq) : fS)) (by omega) KSK (by intro z; change (max 0 (sq - (fTk (Ru (Int.toNat 1)) (Ru (Int.toNat 5)) (Rg (Int.toNat x)) sq (lq + (Fw (Int.toNat ((xq + sh) % wc))))))) = 0 at z; omega), show (90 - (k + 1)).toNat = 0 by omega, ← kpF_ref (by omega)] <;> rfl))
              · skip
                refine r_iconst C dX6_fly_382 ?_
                refine r_goto (tgt := 387) C dX6_fly_383 (by decide) ?_
                refine r_istore (lo2 := [(12, .int (iI 1)), (9, .int (iI (fSl (Ru (Int.toNat 3)) lq (fSn nq)))), (10, .int (iI (fSn nq))), (7, .int (iI (max 0 (sq - (fTk (Ru (Int.toNat 1)) (Ru (Int.toNat 5)) (Rg (Int.toNat x)) sq (lq + (Fw (Int.toNat ((xq + sh) % wc))))))))), (18, .int (iI (max 0 (sq - (fTk (Ru (Int.toNat 1)) (Ru (Int.toNat 5)) (Rg (Int.toNat x)) sq (lq + (Fw (Int.toNat ((xq + sh) % wc))))))))), (8, .int (iI (fFl (Ru (Int.toNat 2)) (Ru (Int.toNat 5)) fq (lq + (Fw (Int.toNat ((xq + sh) % wc))))))), (17, .int (iI (fTk (Ru (Int.toNat 1)) (Ru (Int.toNat 5)) (Rg (Int.toNat x)) sq (lq + (Fw (Int.toNat ((xq + sh) % wc))))))), (16, .int (iI 1)), (15, .int (iI 0)), (14, .int (iI (lq + (Fw (Int.toNat ((xq + sh) % wc)))))), (13, .int (iI (9 * k))), (0, .ref h0), (1, .int (iI x)), (6, .int (iI xq)), (11, .int (iI bq))]) C dX6_fly_387 (by decide) rfl ?_
                refine r_iload C dX6_fly_389 13 rfl ?_
                refine r_iload C dX6_fly_391 3 rfl ?_
                refine r_iload C dX6_fly_393 5 rfl ?_
                refine r_imul C dX6_fly_395 ?_
                refine r_bipush C dX6_fly_396 (by decide) ?_
                refine r_idiv C dX6_fly_398 (by have := hFw (Int.toNat ((xq + sh) % wc)); omega) (by omega) ?_
                refine r_iadd C dX6_fly_399 ?_
                refine r_istore (lo2 := [(6, .int (iI (xq + (((max 0 (sq - (fTk (Ru (Int.toNat 1)) (Ru (Int.toNat 5)) (Rg (Int.toNat x)) sq (lq + (Fw (Int.toNat ((xq + sh) % wc))))))) * (fFl (Ru (Int.toNat 2)) (Ru (Int.toNat 5)) fq (lq + (Fw (Int.toNat ((xq + sh) % wc)))))) / 20)))), (12, .int (iI 1)), (9, .int (iI (fSl (Ru (Int.toNat 3)) lq (fSn nq)))), (10, .int (iI (fSn nq))), (7, .int (iI (max 0 (sq - (fTk (Ru (Int.toNat 1)) (Ru (Int.toNat 5)) (Rg (Int.toNat x)) sq (lq + (Fw (Int.toNat ((xq + sh) % wc))))))))), (18, .int (iI (max 0 (sq - (fTk (Ru (Int.toNat 1)) (Ru (Int.toNat 5)) (Rg (Int.toNat x)) sq (lq + (Fw (Int.toNat ((xq + sh) % wc))))))))), (8, .int (iI (fFl (Ru (Int.toNat 2)) (Ru (Int.toNat 5)) fq (lq + (Fw (Int.toNat ((xq + sh) % wc))))))), (17, .int (iI (fTk (Ru (Int.toNat 1)) (Ru (Int.toNat 5)) (Rg (Int.toNat x)) sq (lq + (Fw (Int.toNat ((xq + sh) % wc))))))), (16, .int (iI 1)), (15, .int (iI 0)), (14, .int (iI (lq + (Fw (Int.toNat ((xq + sh) % wc)))))), (13, .int (iI (9 * k))), (0, .ref h0), (1, .int (iI x)), (11, .int (iI bq))]) C dX6_fly_400 (by decide) rfl ?_
                refine r_iload C dX6_fly_402 14 rfl ?_
                refine r_iload C dX6_fly_404 6 rfl ?_
                refine r_iconst C dX6_fly_406 ?_
                refine r_idiv C dX6_fly_407 (by have := hFw (Int.toNat ((xq + sh) % wc)); omega) (by omega) ?_
                refine r_iadd C dX6_fly_408 ?_
                refine r_istore (lo2 := [(11, .int (iI (bq + ((fFl (Ru (Int.toNat 2)) (Ru (Int.toNat 5)) fq (lq + (Fw (Int.toNat ((xq + sh) % wc))))) / 5)))), (6, .int (iI (xq + (((max 0 (sq - (fTk (Ru (Int.toNat 1)) (Ru (Int.toNat 5)) (Rg (Int.toNat x)) sq (lq + (Fw (Int.toNat ((xq + sh) % wc))))))) * (fFl (Ru (Int.toNat 2)) (Ru (Int.toNat 5)) fq (lq + (Fw (Int.toNat ((xq + sh) % wc)))))) / 20)))), (12, .int (iI 1)), (9, .int (iI (fSl (Ru (Int.toNat 3)) lq (fSn nq)))), (10, .int (iI (fSn nq))), (7, .int (iI (max 0 (sq - (fTk (Ru (Int.toNat 1)) (Ru (Int.toNat 5)) (Rg (Int.toNat x)) sq (lq + (Fw (Int.toNat ((xq + sh) % wc))))))))), (18, .int (iI (max 0 (sq - (fTk (Ru (Int.toNat 1)) (Ru (Int.toNat 5)) (Rg (Int.toNat x)) sq (lq + (Fw (Int.toNat ((xq + sh) % wc))))))))), (8, .int (iI (fFl (Ru (Int.toNat 2)) (Ru (Int.toNat 5)) fq (lq + (Fw (Int.toNat ((xq + sh) % wc))))))), (17, .int (iI (fTk (Ru (Int.toNat 1)) (Ru (Int.toNat 5)) (Rg (Int.toNat x)) sq (lq + (Fw (Int.toNat ((xq + sh) % wc))))))), (16, .int (iI 1)), (15, .int (iI 0)), (14, .int (iI (lq + (Fw (Int.toNat ((xq + sh) % wc)))))), (13, .int (iI (9 * k))), (0, .ref h0), (1, .int (iI x))]) C dX6_fly_409 (by decide) rfl ?_
                refine r_goto (tgt := 28) C dX6_fly_411 (by decide) ?_
                refine r_lo [2, 13, 14, 1, 5, 7, 3, 4, 0] (lo2 := [(12, .int (iI 1)), (0, .ref h0), (1, .int (iI x)), (6, .int (iI (xq + (((max 0 (sq - (fTk (Ru (Int.toNat 1)) (Ru (Int.toNat 5)) (Rg (Int.toNat x)) sq (lq + (Fw (Int.toNat ((xq + sh) % wc))))))) * (fFl (Ru (Int.toNat 2)) (Ru (Int.toNat 5)) fq (lq + (Fw (Int.toNat ((xq + sh) % wc)))))) / 20)))), (7, .int (iI (max 0 (sq - (fTk (Ru (Int.toNat 1)) (Ru (Int.toNat 5)) (Rg (Int.toNat x)) sq (lq + (Fw (Int.toNat ((xq + sh) % wc))))))))), (8, .int (iI (fFl (Ru (Int.toNat 2)) (Ru (Int.toNat 5)) fq (lq + (Fw (Int.toNat ((xq + sh) % wc))))))), (9, .int (iI (fSl (Ru (Int.toNat 3)) lq (fSn nq)))), (10, .int (iI (fSn nq))), (11, .int (iI (bq + ((fFl (Ru (Int.toNat 2)) (Ru (Int.toNat 5)) fq (lq + (Fw (Int.toNat ((xq + sh) % wc))))) / 5))))]) rfl ?_
                exact ih28 (xq + (((max 0 (sq - (fTk (Ru (Int.toNat 1)) (Ru (Int.toNat 5)) (Rg (Int.toNat x)) sq (lq + (Fw (Int.toNat ((xq + sh) % wc))))))) * (fFl (Ru (Int.toNat 2)) (Ru (Int.toNat 5)) fq (lq + (Fw (Int.toNat ((xq + sh) % wc)))))) / 20)) (max 0 (sq - (fTk (Ru (Int.toNat 1)) (Ru (Int.toNat 5)) (Rg (Int.toNat x)) sq (lq + (Fw (Int.toNat ((xq + sh) % wc))))))) (fFl (Ru (Int.toNat 2)) (Ru (Int.toNat 5)) fq (lq + (Fw (Int.toNat ((xq + sh) % wc))))) (fSl (Ru (Int.toNat 3)) lq (fSn nq)) (fSn nq) (bq + ((fFl (Ru (Int.toNat 2)) (Ru (Int.toNat 5)) fq (lq + (Fw (Int.toNat ((xq + sh) % wc))))) / 5)) (k + 1) (updI (updI (updI (updI (updI (updI (updI (updI (updI G (Int.toNat ((9 * k) + 1)) xq) (Int.toNat ((9 * k) + 2)) sq) (Int.toNat ((9 * k) + 3)) fq) (Int.toNat ((9 * k) + 4)) lq) (Int.toNat ((9 * k) + 5)) nq) (Int.toNat ((9 * k) + 6)) (lq + (Fw (Int.toNat ((xq + sh) % wc))))) (Int.toNat ((9 * k) + 8)) bq) (Int.toNat (9 * k)) (fKd (Ru (Int.toNat 4)) (Ru (Int.toNat 5)) (lq + (Fw (Int.toNat ((xq + sh) % wc)))) (fFl (Ru (Int.toNat 2)) (Ru (Int.toNat 5)) fq (lq + (Fw (Int.toNat ((xq + sh) % wc))))))) (Int.toNat ((9 * k) + 7)) (fTk (Ru (Int.toNat 1)) (Ru (Int.toNat 5)) (Rg (Int.toNat x)) sq (lq + (Fw (Int.toNat ((xq + sh) % wc)))))) (by omega) (by omega) (by omega) (by omega) (by omega) (by omega) (by omega) (by rw [iN, fNum_go (E := ((((Ru (Int.toNat 0)), (Ru (Int.toNat 1)), (Ru (Int.toNat 2)), (Ru (Int.toNat 3)), (Ru (Int.toNat 4)), (Ru (Int.toNat 5))), ((Wt (Int.toNat x)), (Wd (Int.toNat x)), (Rg (Int.toNat x))), (sh, wc, Fw)) : fEn)) (t := ((xq, sq, fq, lq, nq, bq) : fS)) (by omega) (fun q => q.elim KSK (by intro z; simp only [fSpT, fTkT] at z; change (max 0 (sq - (fTk (Ru (Int.toNat 1)) (Ru (Int.toNat 5)) (Rg (Int.toNat x)) sq (lq + (Fw (Int.toNat ((xq + sh) % wc))))))) = 0 at z; omega))] <;> rfl) (by rw [iR, fRes_go (E := ((((Ru (Int.toNat 0)), (Ru (Int.toNat 1)), (Ru (Int.toNat 2)), (Ru (Int.toNat 3)), (Ru (Int.toNat 4)), (Ru (Int.toNat 5))), ((Wt (Int.toNat x)), (Wd (Int.toNat x)), (Rg (Int.toNat x))), (sh, wc, Fw)) : fEn)) (t := ((xq, sq, fq, lq, nq, bq) : fS)) (by omega) KSK (by intro z; change (max 0 (sq - (fTk (Ru (Int.toNat 1)) (Ru (Int.toNat 5)) (Rg (Int.toNat x)) sq (lq + (Fw (Int.toNat ((xq + sh) % wc))))))) = 0 at z; omega), ← kpF_ref (by omega)] <;> rfl) (by omega)
  refine r_lo [0, 7, 8, 6, 5, 4, 3, 2, 1] (lo2 := [(12, .int (iI 1)), (0, .ref h0), (1, .int (iI x)), (6, .int (iI 0)), (7, .int (iI v)), (8, .int (iI f1)), (9, .int (iI n)), (10, .int (iI g1)), (11, .int (iI 0))]) rfl ?_
  exact L28 ((90 - (0 : Int)).toNat + 1) 0 v f1 n g1 0 0 Ft (by omega) (by omega) (by omega) (by omega) (by omega) (by omega) (by omega) rfl rfl (Nat.lt_succ_self _)

set_option maxRecDepth 20000 in
theorem kw_X6_counted_0 : Cond.fieldLink RX6 150 "SkipStonesModel" "touches" "I" ∈ wsX6_counted := List.mem_of_getElem? (i := 1) rfl
set_option maxRecDepth 20000 in
theorem kw_X6_counted_1 : Cond.fieldLink RX6 34 "SkipStonesModel" "touch" "[I" ∈ wsX6_counted := List.mem_of_getElem? (i := 2) rfl
set_option maxRecDepth 20000 in
theorem hi_X6_counted_6 : ∀ w ∈ wsX60, w ∈ wsX6_counted := fun _ h => List.mem_cons_of_mem _ (List.mem_append_right _ h)
set_option maxHeartbeats 4000000 in
set_option maxRecDepth 100000 in
theorem c_X6_counted (l : Launch) (X : gX) (h0 : Nat) (u2 : Nat) (u3 : Nat) (u4 : Nat) (u5 : Nat) (u6 : Nat) (u7 : Nat) (u8 : Nat) (u11 : Nat) (u14 : Nat) (u16 : Nat) (u20 : Nat) (u21 : Nat) (u22 : Nat) (u23 : Nat) (u24 : Nat) (ft : Int) (sc : Int) (rm : Int) (wc : Int) (sh : Int) (tq : Int) (cnt : Int) (gf : Int) (gs : Int) (rc : Int) (tc : Int) (Ft : Nat → Int) (j : Int) (htq : 1 ≤ tq ∧ tq ≤ 90) (hj : 0 ≤ j ∧ j ≤ 4) (hFt : ∀ i, -1000000 ≤ Ft i ∧ Ft i ≤ 1000000) (ho : ∀ k : Int, 0 ≤ k → k < tq → (0 ≤ Ft (Int.toNat (k * 9 + 0)) ∧ Ft (Int.toNat (k * 9 + 0)) ≤ 3) ∧ 0 ≤ Ft (Int.toNat (k * 9 + 1))) : gM l yX6_counted wsX6_counted (gr 0 0 0) X [(h0, .inr (6, [.int (iI ft), .int (iI sc), .ref u2, .ref u3, .ref u4, .ref u5, .ref u6, .ref u7, .ref u8, .int (iI rm), .int (iI wc), .ref u11, .int (iI sh), .int (iI tq), .ref u14, .int (iI cnt), .ref u16, .int (iI gf), .int (iI gs), .int (iI rc), .ref u20, .ref u21, .ref u22, .ref u23, .ref u24, .int (iI tc)])), (u14, .inl (X.2.1.1, 810, .inl (iF Ft)))] [.ref h0, .int (iI j)] (gQi X (Y := Unit) (fun _ => True) (fun _ => (ctV Ft tq j)) (fun _ => [(h0, .inr (6, [.int (iI ft), .int (iI sc), .ref u2, .ref u3, .ref u4, .ref u5, .ref u6, .ref u7, .ref u8, .int (iI rm), .int (iI wc), .ref u11, .int (iI sh), .int (iI tq), .ref u14, .int (iI cnt), .ref u16, .int (iI gf), .int (iI gs), .int (iI rc), .ref u20, .ref u21, .ref u22, .ref u23, .ref u24, .int (iI tc)])), (u14, .inl (X.2.1.1, 810, .inl (iF Ft)))])) 0 0 := by
  refine g_start2 (lo := [(0, .ref h0), (1, .int (iI j))]) (by decide +kernel) rfl rfl (Nat.le_of_ble_eq_true rfl) (fun p e s m args below meth c A C => ?_)
  refine r_iconst C dX6_counted_0 ?_
  refine r_istore_n (lo2 := [(2, .int (iI 0)), (0, .ref h0), (1, .int (iI j))]) C dX6_counted_1 rfl (by decide) rfl ?_
  refine r_bipush C dX6_counted_2 (by decide) ?_
  refine r_istore_n (lo2 := [(3, .int (iI (-9))), (2, .int (iI 0)), (0, .ref h0), (1, .int (iI j))]) C dX6_counted_4 rfl (by decide) rfl ?_
  refine r_iconst C dX6_counted_5 ?_
  refine r_istore (lo2 := [(4, .int (iI 0)), (3, .int (iI (-9))), (2, .int (iI 0)), (0, .ref h0), (1, .int (iI j))]) C dX6_counted_6 (by decide) rfl ?_
  have L8 : ∀ (fu8 : Nat) (n1 : Int) (la : Int) (k : Int) (lc : Int), (0 ≤ k ∧ k ≤ tq) → ((j = 2 ∧ ((la = -9 ∧ lc = -3) ∨ (la = lc ∧ 0 ≤ lc ∧ lc ≤ 1000000))) ∨ (¬ j = 2 ∧ la = -9)) → (0 ≤ n1 ∧ n1 ≤ k) → (ctL Ft j tq.toNat 0 (-3) 0 = ctL Ft j (tq - k).toNat k lc n1) → (tq - k).toNat < fu8 → gW p l e (gr 0 0 0) s m args below meth c X A 7 (MQ below ((gQi X (Y := Unit) (fun _ => True) (fun _ => (ctV Ft tq j)) (fun _ => [(h0, .inr (6, [.int (iI ft), .int (iI sc), .ref u2, .ref u3, .ref u4, .ref u5, .ref u6, .ref u7, .ref u8, .int (iI rm), .int (iI wc), .ref u11, .int (iI sh), .int (iI tq), .ref u14, .int (iI cnt), .ref u16, .int (iI gf), .int (iI gs), .int (iI rc), .ref u20, .ref u21, .ref u22, .ref u23, .ref u24, .int (iI tc)])), (u14, .inl (X.2.1.1, 810, .inl (iF Ft)))])) A) args s 0 0 A) 0 0 [(h0, .inr (6, [.int (iI ft), .int (iI sc), .ref u2, .ref u3, .ref u4, .ref u5, .ref u6, .ref u7, .ref u8, .int (iI rm), .int (iI wc), .ref u11, .int (iI sh), .int (iI tq), .ref u14, .int (iI cnt), .ref u16, .int (iI gf), .int (iI gs), .int (iI rc), .ref u20, .ref u21, .ref u22, .ref u23, .ref u24, .int (iI tc)])), (u14, .inl (X.2.1.1, 810, .inl (iF Ft)))] 8 [(0, .ref h0), (1, .int (iI j)), (2, .int (iI n1)), (3, .int (iI la)), (4, .int (iI k))] [] := by
    intro fu8
    induction fu8 with
    | zero => intro n1 la k lc ik ila in_ iL hm8; exact absurd hm8 (Nat.not_lt_zero _)
    | succ fu8 ih8 =>
      intro n1 la k lc ik ila in_ iL hm8
      refine r_iload C dX6_counted_8 4 rfl ?_
      refine r_aload_n C dX6_counted_10 0 rfl ?_
      refine gf_6_13 C hi_X6_counted_6 kw_X6_counted_0 dX6_counted_11 0 rfl rfl ?_
      refine r_icmp_ge (tgt := 196) C dX6_counted_14 (by decide) (by omega) (by omega) (fun h_1 => ?_) (fun h_1 => ?_)
      · skip
        refine r_iload_n C dX6_counted_196 1 rfl ?_
        refine r_iconst C dX6_counted_197 ?_
        refine r_icmp_ne (tgt := 219) C dX6_counted_198 (by decide) (by omega) (by decide) (fun h_2 => ?_) (fun h_2 => ?_)
        · skip
          refine r_iload_n C dX6_counted_219 2 rfl ?_
          exact g_ret_i C rfl dX6_counted_220 () trivial (by unfold ctV; first | (rw [if_pos (by omega), show (tq - 1) * 9 + 1 = 9 * tq - 8 by omega]; done) | (rw [if_neg (by omega), iL, show (tq - k).toNat = 0 by omega]; rfl)) [0, 1] rfl rfl
        · skip
          refine r_aload_n C dX6_counted_201 0 rfl ?_
          refine gf_6_14 C hi_X6_counted_6 kw_X6_counted_1 dX6_counted_202 0 rfl rfl ?_
          refine r_bipush C dX6_counted_205 (by decide) ?_
          refine r_aload_n C dX6_counted_207 0 rfl ?_
          refine gf_6_13 C hi_X6_counted_6 kw_X6_counted_0 dX6_counted_208 0 rfl rfl ?_
          refine r_imul C dX6_counted_211 ?_
          refine r_bipush C dX6_counted_212 (by decide) ?_
          refine r_isub C dX6_counted_214 ?_
          refine r_iald C dX6_counted_215 1 rfl (by omega) (by decide) ?_
          refine r_goto (tgt := 220) C dX6_counted_216 (by decide) ?_
          exact g_ret_i C rfl dX6_counted_220 () trivial (by unfold ctV; first | (rw [if_pos (by omega), show (tq - 1) * 9 + 1 = 9 * tq - 8 by omega]; done) | (rw [if_neg (by omega), iL, show (tq - k).toNat = 0 by omega]; rfl)) [0, 1] rfl rfl
      · skip
        have b17 := hFt (Int.toNat (k * 9 + 1))
        have b18 := hFt (Int.toNat (9 * k + 1))
        have ho1 := ho k (by omega) (by omega)
        have e0 : Ft (Int.toNat (9 * k)) = Ft (Int.toNat (k * 9 + 0)) := by congr 2; omega
        have e1 : Ft (Int.toNat (9 * k + 1)) = Ft (Int.toNat (k * 9 + 1)) := by congr 2; omega
        have e8 : Ft (Int.toNat (9 * k + 8)) = Ft (Int.toNat (k * 9 + 8)) := by congr 2; omega
        have e9 : Ft (Int.toNat (9 * k - 1)) = Ft (Int.toNat ((k - 1) * 9 + 8)) := by congr 2; omega
        refine r_bipush C dX6_counted_17 (by decide) ?_
        refine r_iload C dX6_counted_19 4 rfl ?_
        refine r_imul C dX6_counted_21 ?_
        refine r_istore (lo2 := [(5, .int (iI (9 * k))), (0, .ref h0), (1, .int (iI j)), (2, .int (iI n1)), (3, .int (iI la)), (4, .int (iI k))]) C dX6_counted_22 (by decide) rfl ?_
        refine r_aload_n C dX6_counted_24 1 rfl ?_
        refine gf_6_14 C hi_X6_counted_6 kw_X6_counted_1 dX6_counted_25 0 rfl rfl ?_
        refine r_iload C dX6_counted_28 0 rfl ?_
        refine r_iald C dX6_counted_30 1 rfl (by omega) (by decide) ?_
        refine r_if_le (tgt := 38) C dX6_counted_31 (by decide) (by have := hFt (Int.toNat (9 * k)); omega) (fun h_3 => ?_) (fun h_3 => ?_)
        · skip
          refine r_iconst C dX6_counted_38 ?_
          refine r_istore (lo2 := [(6, .int (iI 0)), (5, .int (iI (9 * k))), (0, .ref h0), (1, .int (iI j)), (2, .int (iI n1)), (3, .int (iI la)), (4, .int (iI k))]) C dX6_counted_39 (by decide) rfl ?_
          refine r_iload_n C dX6_counted_41 3 rfl ?_
          refine r_iconst C dX6_counted_42 ?_
          refine r_icmp_ne (tgt := 78) C dX6_counted_43 (by decide) (by omega) (by decide) (fun h_4 => ?_) (fun h_4 => ?_)
          · skip
            refine r_iload_n C dX6_counted_78 3 rfl ?_
            refine r_iconst C dX6_counted_79 ?_
            refine r_icmp_ne (tgt := 136) C dX6_counted_80 (by decide) (by omega) (by decide) (fun h_5 => ?_) (fun h_5 => ?_)
            · skip
              refine r_iload_n C dX6_counted_136 3 rfl ?_
              refine r_iconst C dX6_counted_137 ?_
              refine r_icmp_ne (tgt := 177) C dX6_counted_138 (by decide) (by omega) (by decide) (fun h_6 => ?_) (fun h_6 => ?_)
              · skip
                refine r_iload_n C dX6_counted_177 4 rfl ?_
                refine r_iload C dX6_counted_178 0 rfl ?_
                refine r_if_eq (tgt := 187) C dX6_counted_180 (by decide) (by decide) (fun h_7 => ?_) (fun h_7 => absurd h_7 (by decide))
                refine r_iconst C dX6_counted_187 ?_
                refine r_iadd C dX6_counted_188 ?_
                refine r_topi (z := n1) (by omega) ?_
                refine r_istore_n (lo2 := [(2, .int (iI n1)), (6, .int (iI 0)), (5, .int (iI (9 * k))), (0, .ref h0), (1, .int (iI j)), (3, .int (iI la)), (4, .int (iI k))]) C dX6_counted_189 rfl (by decide) rfl ?_
                refine r_iinc (lo2 := [(4, .int (iI (k + 1))), (2, .int (iI n1)), (6, .int (iI 0)), (5, .int (iI (9 * k))), (0, .ref h0), (1, .int (iI j)), (3, .int (iI la))]) C dX6_counted_190 6 rfl (by decide) rfl ?_
                refine r_goto (tgt := 8) C dX6_counted_193 (by decide) ?_
                refine r_lo [4, 5, 1, 6, 0] (lo2 := [(0, .ref h0), (1, .int (iI j)), (2, .int (iI n1)), (3, .int (iI la)), (4, .int (iI (k + 1)))]) rfl ?_
                exact ih8 n1 la (k + 1) lc (by omega) (by omega) (by omega) (by rw [iL, ctL_go (by omega)]; first | (rw [if_pos (by omega)]; done) | (rw [if_neg (by omega)]; done)) (by omega)
              · skip
                refine r_iload C dX6_counted_141 6 rfl ?_
                refine r_if_eq (tgt := 170) C dX6_counted_143 (by decide) (by omega) (fun h_8 => ?_) (fun h_8 => ?_)
                · skip
                  refine r_iconst C dX6_counted_170 ?_
                  refine r_goto (tgt := 175) C dX6_counted_171 (by decide) ?_
                  refine r_istore (lo2 := [(6, .int (iI 1)), (5, .int (iI (9 * k))), (0, .ref h0), (1, .int (iI j)), (2, .int (iI n1)), (3, .int (iI la)), (4, .int (iI k))]) C dX6_counted_175 (by decide) rfl ?_
                  refine r_iload_n C dX6_counted_177 4 rfl ?_
                  refine r_iload C dX6_counted_178 0 rfl ?_
                  refine r_if_eq (tgt := 187) C dX6_counted_180 (by decide) (by decide) (fun h_9 => absurd h_9 (by decide)) (fun h_9 => ?_)
                  refine r_iconst C dX6_counted_183 ?_
                  refine r_goto (tgt := 188) C dX6_counted_184 (by decide) ?_
                  refine r_iadd C dX6_counted_188 ?_
                  refine r_istore_n (lo2 := [(2, .int (iI (n1 + 1))), (6, .int (iI 1)), (5, .int (iI (9 * k))), (0, .ref h0), (1, .int (iI j)), (3, .int (iI la)), (4, .int (iI k))]) C dX6_counted_189 rfl (by decide) rfl ?_
                  refine r_iinc (lo2 := [(4, .int (iI (k + 1))), (2, .int (iI (n1 + 1))), (6, .int (iI 1)), (5, .int (iI (9 * k))), (0, .ref h0), (1, .int (iI j)), (3, .int (iI la))]) C dX6_counted_190 6 rfl (by decide) rfl ?_
                  refine r_goto (tgt := 8) C dX6_counted_193 (by decide) ?_
                  refine r_lo [4, 5, 1, 6, 0] (lo2 := [(0, .ref h0), (1, .int (iI j)), (2, .int (iI (n1 + 1))), (3, .int (iI la)), (4, .int (iI (k + 1)))]) rfl ?_
                  exact ih8 (n1 + 1) la (k + 1) (Ft (Int.toNat (k * 9 + 1))) (by omega) (by omega) (by omega) (by rw [iL, ctL_go (by omega)]; first | (rw [if_pos (by omega)]; done) | (rw [if_neg (by omega)]; done)) (by omega)
                · skip
                  refine r_aload_n C dX6_counted_146 2 rfl ?_
                  refine gf_6_14 C hi_X6_counted_6 kw_X6_counted_1 dX6_counted_147 0 rfl rfl ?_
                  refine r_iload C dX6_counted_150 1 rfl ?_
                  refine r_bipush C dX6_counted_152 (by decide) ?_
                  refine r_iadd C dX6_counted_154 ?_
                  refine r_iald C dX6_counted_155 1 rfl (by omega) (by decide) ?_
                  refine r_aload_n C dX6_counted_156 2 rfl ?_
                  refine gf_6_14 C hi_X6_counted_6 kw_X6_counted_1 dX6_counted_157 0 rfl rfl ?_
                  refine r_iload C dX6_counted_160 1 rfl ?_
                  refine r_iconst C dX6_counted_162 ?_
                  refine r_isub C dX6_counted_163 ?_
                  refine r_iald C dX6_counted_164 1 rfl (by omega) (by decide) ?_
                  refine r_isub C dX6_counted_165 ?_
                  refine r_iconst C dX6_counted_166 ?_
                  refine r_icmp_le (tgt := 174) C dX6_counted_167 (by decide) (by have := hFt (Int.toNat ((9 * k) + 8)); have := hFt (Int.toNat ((9 * k) - 1)); omega) (by decide) (fun h_10 => ?_) (fun h_10 => ?_)
                  · skip
                    refine r_iconst C dX6_counted_174 ?_
                    refine r_istore (lo2 := [(6, .int (iI 0)), (5, .int (iI (9 * k))), (0, .ref h0), (1, .int (iI j)), (2, .int (iI n1)), (3, .int (iI la)), (4, .int (iI k))]) C dX6_counted_175 (by decide) rfl ?_
                    refine r_iload_n C dX6_counted_177 4 rfl ?_
                    refine r_iload C dX6_counted_178 0 rfl ?_
                    refine r_if_eq (tgt := 187) C dX6_counted_180 (by decide) (by decide) (fun h_11 => ?_) (fun h_11 => absurd h_11 (by decide))
                    refine r_iconst C dX6_counted_187 ?_
                    refine r_iadd C dX6_counted_188 ?_
                    refine r_topi (z := n1) (by omega) ?_
                    refine r_istore_n (lo2 := [(2, .int (iI n1)), (6, .int (iI 0)), (5, .int (iI (9 * k))), (0, .ref h0), (1, .int (iI j)), (3, .int (iI la)), (4, .int (iI k))]) C dX6_counted_189 rfl (by decide) rfl ?_
                    refine r_iinc (lo2 := [(4, .int (iI (k + 1))), (2, .int (iI n1)), (6, .int (iI 0)), (5, .int (iI (9 * k))), (0, .ref h0), (1, .int (iI j)), (3, .int (iI la))]) C dX6_counted_190 6 rfl (by decide) rfl ?_
                    refine r_goto (tgt := 8) C dX6_counted_193 (by decide) ?_
                    refine r_lo [4, 5, 1, 6, 0] (lo2 := [(0, .ref h0), (1, .int (iI j)), (2, .int (iI n1)), (3, .int (iI la)), (4, .int (iI (k + 1)))]) rfl ?_
                    exact ih8 n1 la (k + 1) lc (by omega) (by omega) (by omega) (by rw [iL, ctL_go (by omega)]; first | (rw [if_pos (by omega)]; done) | (rw [if_neg (by omega)]; done)) (by omega)
                  · skip
                    refine r_iconst C dX6_counted_170 ?_
                    refine r_goto (tgt := 175) C dX6_counted_171 (by decide) ?_
                    refine r_istore (lo2 := [(6, .int (iI 1)), (5, .int (iI (9 * k))), (0, .ref h0), (1, .int (iI j)), (2, .int (iI n1)), (3, .int (iI la)), (4, .int (iI k))]) C dX6_counted_175 (by decide) rfl ?_
                    refine r_iload_n C dX6_counted_177 4 rfl ?_
                    refine r_iload C dX6_counted_178 0 rfl ?_
                    refine r_if_eq (tgt := 187) C dX6_counted_180 (by decide) (by decide) (fun h_12 => absurd h_12 (by decide)) (fun h_12 => ?_)
                    refine r_iconst C dX6_counted_183 ?_
                    refine r_goto (tgt := 188) C dX6_counted_184 (by decide) ?_
                    refine r_iadd C dX6_counted_188 ?_
                    refine r_istore_n (lo2 := [(2, .int (iI (n1 + 1))), (6, .int (iI 1)), (5, .int (iI (9 * k))), (0, .ref h0), (1, .int (iI j)), (3, .int (iI la)), (4, .int (iI k))]) C dX6_counted_189 rfl (by decide) rfl ?_
                    refine r_iinc (lo2 := [(4, .int (iI (k + 1))), (2, .int (iI (n1 + 1))), (6, .int (iI 1)), (5, .int (iI (9 * k))), (0, .ref h0), (1, .int (iI j)), (3, .int (iI la))]) C dX6_counted_190 6 rfl (by decide) rfl ?_
                    refine r_goto (tgt := 8) C dX6_counted_193 (by decide) ?_
                    refine r_lo [4, 5, 1, 6, 0] (lo2 := [(0, .ref h0), (1, .int (iI j)), (2, .int (iI (n1 + 1))), (3, .int (iI la)), (4, .int (iI (k + 1)))]) rfl ?_
                    exact ih8 (n1 + 1) la (k + 1) (Ft (Int.toNat (k * 9 + 1))) (by omega) (by omega) (by omega) (by rw [iL, ctL_go (by omega)]; first | (rw [if_pos (by omega)]; done) | (rw [if_neg (by omega)]; done)) (by omega)
            · skip
              refine r_iload C dX6_counted_83 0 rfl ?_
              refine r_if_eq (tgt := 111) C dX6_counted_85 (by decide) (by decide) (fun h_13 => ?_) (fun h_13 => absurd h_13 (by decide))
              refine r_iconst C dX6_counted_111 ?_
              refine r_istore (lo2 := [(6, .int (iI 0)), (5, .int (iI (9 * k))), (0, .ref h0), (1, .int (iI j)), (2, .int (iI n1)), (3, .int (iI la)), (4, .int (iI k))]) C dX6_counted_112 (by decide) rfl ?_
              refine r_iload C dX6_counted_114 0 rfl ?_
              refine r_if_eq (tgt := 131) C dX6_counted_116 (by decide) (by decide) (fun h_14 => ?_) (fun h_14 => absurd h_14 (by decide))
              refine r_iload_n C dX6_counted_131 5 rfl ?_
              refine r_istore_n (lo2 := [(3, .int (iI la)), (6, .int (iI 0)), (5, .int (iI (9 * k))), (0, .ref h0), (1, .int (iI j)), (2, .int (iI n1)), (4, .int (iI k))]) C dX6_counted_132 rfl (by decide) rfl ?_
              refine r_goto (tgt := 177) C dX6_counted_133 (by decide) ?_
              refine r_iload_n C dX6_counted_177 5 rfl ?_
              refine r_iload C dX6_counted_178 1 rfl ?_
              refine r_if_eq (tgt := 187) C dX6_counted_180 (by decide) (by decide) (fun h_15 => ?_) (fun h_15 => absurd h_15 (by decide))
              refine r_iconst C dX6_counted_187 ?_
              refine r_iadd C dX6_counted_188 ?_
              refine r_topi (z := n1) (by omega) ?_
              refine r_istore_n (lo2 := [(2, .int (iI n1)), (3, .int (iI la)), (6, .int (iI 0)), (5, .int (iI (9 * k))), (0, .ref h0), (1, .int (iI j)), (4, .int (iI k))]) C dX6_counted_189 rfl (by decide) rfl ?_
              refine r_iinc (lo2 := [(4, .int (iI (k + 1))), (2, .int (iI n1)), (3, .int (iI la)), (6, .int (iI 0)), (5, .int (iI (9 * k))), (0, .ref h0), (1, .int (iI j))]) C dX6_counted_190 6 rfl (by decide) rfl ?_
              refine r_goto (tgt := 8) C dX6_counted_193 (by decide) ?_
              refine r_lo [5, 6, 1, 2, 0] (lo2 := [(0, .ref h0), (1, .int (iI j)), (2, .int (iI n1)), (3, .int (iI la)), (4, .int (iI (k + 1)))]) rfl ?_
              exact ih8 n1 la (k + 1) lc (by omega) (by omega) (by omega) (by rw [iL, ctL_go (by omega)]; first | (rw [if_pos (by omega)]; done) | (rw [if_neg (by omega)]; done)) (by omega)
          · skip
            refine r_aload_n C dX6_counted_46 2 rfl ?_
            refine gf_6_14 C hi_X6_counted_6 kw_X6_counted_1 dX6_counted_47 0 rfl rfl ?_
            refine r_iload C dX6_counted_50 1 rfl ?_
            refine r_iald C dX6_counted_52 1 rfl (by omega) (by decide) ?_
            refine r_iconst C dX6_counted_53 ?_
            refine r_icmp_eq (tgt := 68) C dX6_counted_54 (by decide) (by have := hFt (Int.toNat (9 * k)); omega) (by decide) (fun h_16 => absurd h_16 (by omega)) (fun h_16 => ?_)
            refine r_aload_n C dX6_counted_57 2 rfl ?_
            refine gf_6_14 C hi_X6_counted_6 kw_X6_counted_1 dX6_counted_58 0 rfl rfl ?_
            refine r_iload C dX6_counted_61 1 rfl ?_
            refine r_iald C dX6_counted_63 1 rfl (by omega) (by decide) ?_
            refine r_iconst C dX6_counted_64 ?_
            refine r_icmp_ne (tgt := 72) C dX6_counted_65 (by decide) (by have := hFt (Int.toNat (9 * k)); omega) (by decide) (fun h_17 => ?_) (fun h_17 => absurd h_17 (by omega))
            refine r_iconst C dX6_counted_72 ?_
            refine r_istore (lo2 := [(6, .int (iI 0)), (5, .int (iI (9 * k))), (0, .ref h0), (1, .int (iI j)), (2, .int (iI n1)), (3, .int (iI la)), (4, .int (iI k))]) C dX6_counted_73 (by decide) rfl ?_
            refine r_goto (tgt := 177) C dX6_counted_75 (by decide) ?_
            refine r_iload_n C dX6_counted_177 4 rfl ?_
            refine r_iload C dX6_counted_178 0 rfl ?_
            refine r_if_eq (tgt := 187) C dX6_counted_180 (by decide) (by decide) (fun h_18 => ?_) (fun h_18 => absurd h_18 (by decide))
            refine r_iconst C dX6_counted_187 ?_
            refine r_iadd C dX6_counted_188 ?_
            refine r_topi (z := n1) (by omega) ?_
            refine r_istore_n (lo2 := [(2, .int (iI n1)), (6, .int (iI 0)), (5, .int (iI (9 * k))), (0, .ref h0), (1, .int (iI j)), (3, .int (iI la)), (4, .int (iI k))]) C dX6_counted_189 rfl (by decide) rfl ?_
            refine r_iinc (lo2 := [(4, .int (iI (k + 1))), (2, .int (iI n1)), (6, .int (iI 0)), (5, .int (iI (9 * k))), (0, .ref h0), (1, .int (iI j)), (3, .int (iI la))]) C dX6_counted_190 6 rfl (by decide) rfl ?_
            refine r_goto (tgt := 8) C dX6_counted_193 (by decide) ?_
            refine r_lo [4, 5, 1, 6, 0] (lo2 := [(0, .ref h0), (1, .int (iI j)), (2, .int (iI n1)), (3, .int (iI la)), (4, .int (iI (k + 1)))]) rfl ?_
            exact ih8 n1 la (k + 1) lc (by omega) (by omega) (by omega) (by rw [iL, ctL_go (by omega)]; first | (rw [if_pos (by omega)]; done) | (rw [if_neg (by omega)]; done)) (by omega)
        · skip
          refine r_iconst C dX6_counted_34 ?_
          refine r_goto (tgt := 39) C dX6_counted_35 (by decide) ?_
          refine r_istore (lo2 := [(6, .int (iI 1)), (5, .int (iI (9 * k))), (0, .ref h0), (1, .int (iI j)), (2, .int (iI n1)), (3, .int (iI la)), (4, .int (iI k))]) C dX6_counted_39 (by decide) rfl ?_
          refine r_iload_n C dX6_counted_41 3 rfl ?_
          refine r_iconst C dX6_counted_42 ?_
          refine r_icmp_ne (tgt := 78) C dX6_counted_43 (by decide) (by omega) (by decide) (fun h_19 => ?_) (fun h_19 => ?_)
          · skip
            refine r_iload_n C dX6_counted_78 3 rfl ?_
            refine r_iconst C dX6_counted_79 ?_
            refine r_icmp_ne (tgt := 136) C dX6_counted_80 (by decide) (by omega) (by decide) (fun h_20 => ?_) (fun h_20 => ?_)
            · skip
              refine r_iload_n C dX6_counted_136 3 rfl ?_
              refine r_iconst C dX6_counted_137 ?_
              refine r_icmp_ne (tgt := 177) C dX6_counted_138 (by decide) (by omega) (by decide) (fun h_21 => ?_) (fun h_21 => ?_)
              · skip
                refine r_iload_n C dX6_counted_177 4 rfl ?_
                refine r_iload C dX6_counted_178 0 rfl ?_
                refine r_if_eq (tgt := 187) C dX6_counted_180 (by decide) (by decide) (fun h_22 => absurd h_22 (by decide)) (fun h_22 => ?_)
                refine r_iconst C dX6_counted_183 ?_
                refine r_goto (tgt := 188) C dX6_counted_184 (by decide) ?_
                refine r_iadd C dX6_counted_188 ?_
                refine r_istore_n (lo2 := [(2, .int (iI (n1 + 1))), (6, .int (iI 1)), (5, .int (iI (9 * k))), (0, .ref h0), (1, .int (iI j)), (3, .int (iI la)), (4, .int (iI k))]) C dX6_counted_189 rfl (by decide) rfl ?_
                refine r_iinc (lo2 := [(4, .int (iI (k + 1))), (2, .int (iI (n1 + 1))), (6, .int (iI 1)), (5, .int (iI (9 * k))), (0, .ref h0), (1, .int (iI j)), (3, .int (iI la))]) C dX6_counted_190 6 rfl (by decide) rfl ?_
                refine r_goto (tgt := 8) C dX6_counted_193 (by decide) ?_
                refine r_lo [4, 5, 1, 6, 0] (lo2 := [(0, .ref h0), (1, .int (iI j)), (2, .int (iI (n1 + 1))), (3, .int (iI la)), (4, .int (iI (k + 1)))]) rfl ?_
                exact ih8 (n1 + 1) la (k + 1) (Ft (Int.toNat (k * 9 + 1))) (by omega) (by omega) (by omega) (by rw [iL, ctL_go (by omega)]; first | (rw [if_pos (by omega)]; done) | (rw [if_neg (by omega)]; done)) (by omega)
              · skip
                refine r_iload C dX6_counted_141 6 rfl ?_
                refine r_if_eq (tgt := 170) C dX6_counted_143 (by decide) (by omega) (fun h_23 => ?_) (fun h_23 => ?_)
                · skip
                  refine r_iconst C dX6_counted_170 ?_
                  refine r_goto (tgt := 175) C dX6_counted_171 (by decide) ?_
                  refine r_istore (lo2 := [(6, .int (iI 1)), (5, .int (iI (9 * k))), (0, .ref h0), (1, .int (iI j)), (2, .int (iI n1)), (3, .int (iI la)), (4, .int (iI k))]) C dX6_counted_175 (by decide) rfl ?_
                  refine r_iload_n C dX6_counted_177 4 rfl ?_
                  refine r_iload C dX6_counted_178 0 rfl ?_
                  refine r_if_eq (tgt := 187) C dX6_counted_180 (by decide) (by decide) (fun h_24 => absurd h_24 (by decide)) (fun h_24 => ?_)
                  refine r_iconst C dX6_counted_183 ?_
                  refine r_goto (tgt := 188) C dX6_counted_184 (by decide) ?_
                  refine r_iadd C dX6_counted_188 ?_
                  refine r_istore_n (lo2 := [(2, .int (iI (n1 + 1))), (6, .int (iI 1)), (5, .int (iI (9 * k))), (0, .ref h0), (1, .int (iI j)), (3, .int (iI la)), (4, .int (iI k))]) C dX6_counted_189 rfl (by decide) rfl ?_
                  refine r_iinc (lo2 := [(4, .int (iI (k + 1))), (2, .int (iI (n1 + 1))), (6, .int (iI 1)), (5, .int (iI (9 * k))), (0, .ref h0), (1, .int (iI j)), (3, .int (iI la))]) C dX6_counted_190 6 rfl (by decide) rfl ?_
                  refine r_goto (tgt := 8) C dX6_counted_193 (by decide) ?_
                  refine r_lo [4, 5, 1, 6, 0] (lo2 := [(0, .ref h0), (1, .int (iI j)), (2, .int (iI (n1 + 1))), (3, .int (iI la)), (4, .int (iI (k + 1)))]) rfl ?_
                  exact ih8 (n1 + 1) la (k + 1) (Ft (Int.toNat (k * 9 + 1))) (by omega) (by omega) (by omega) (by rw [iL, ctL_go (by omega)]; first | (rw [if_pos (by omega)]; done) | (rw [if_neg (by omega)]; done)) (by omega)
                · skip
                  refine r_aload_n C dX6_counted_146 2 rfl ?_
                  refine gf_6_14 C hi_X6_counted_6 kw_X6_counted_1 dX6_counted_147 0 rfl rfl ?_
                  refine r_iload C dX6_counted_150 1 rfl ?_
                  refine r_bipush C dX6_counted_152 (by decide) ?_
                  refine r_iadd C dX6_counted_154 ?_
                  refine r_iald C dX6_counted_155 1 rfl (by omega) (by decide) ?_
                  refine r_aload_n C dX6_counted_156 2 rfl ?_
                  refine gf_6_14 C hi_X6_counted_6 kw_X6_counted_1 dX6_counted_157 0 rfl rfl ?_
                  refine r_iload C dX6_counted_160 1 rfl ?_
                  refine r_iconst C dX6_counted_162 ?_
                  refine r_isub C dX6_counted_163 ?_
                  refine r_iald C dX6_counted_164 1 rfl (by omega) (by decide) ?_
                  refine r_isub C dX6_counted_165 ?_
                  refine r_iconst C dX6_counted_166 ?_
                  refine r_icmp_le (tgt := 174) C dX6_counted_167 (by decide) (by have := hFt (Int.toNat ((9 * k) + 8)); have := hFt (Int.toNat ((9 * k) - 1)); omega) (by decide) (fun h_25 => ?_) (fun h_25 => ?_)
                  · skip
                    refine r_iconst C dX6_counted_174 ?_
                    refine r_istore (lo2 := [(6, .int (iI 0)), (5, .int (iI (9 * k))), (0, .ref h0), (1, .int (iI j)), (2, .int (iI n1)), (3, .int (iI la)), (4, .int (iI k))]) C dX6_counted_175 (by decide) rfl ?_
                    refine r_iload_n C dX6_counted_177 4 rfl ?_
                    refine r_iload C dX6_counted_178 0 rfl ?_
                    refine r_if_eq (tgt := 187) C dX6_counted_180 (by decide) (by decide) (fun h_26 => ?_) (fun h_26 => absurd h_26 (by decide))
                    refine r_iconst C dX6_counted_187 ?_
                    refine r_iadd C dX6_counted_188 ?_
                    refine r_topi (z := n1) (by omega) ?_
                    refine r_istore_n (lo2 := [(2, .int (iI n1)), (6, .int (iI 0)), (5, .int (iI (9 * k))), (0, .ref h0), (1, .int (iI j)), (3, .int (iI la)), (4, .int (iI k))]) C dX6_counted_189 rfl (by decide) rfl ?_
                    refine r_iinc (lo2 := [(4, .int (iI (k + 1))), (2, .int (iI n1)), (6, .int (iI 0)), (5, .int (iI (9 * k))), (0, .ref h0), (1, .int (iI j)), (3, .int (iI la))]) C dX6_counted_190 6 rfl (by decide) rfl ?_
                    refine r_goto (tgt := 8) C dX6_counted_193 (by decide) ?_
                    refine r_lo [4, 5, 1, 6, 0] (lo2 := [(0, .ref h0), (1, .int (iI j)), (2, .int (iI n1)), (3, .int (iI la)), (4, .int (iI (k + 1)))]) rfl ?_
                    exact ih8 n1 la (k + 1) lc (by omega) (by omega) (by omega) (by rw [iL, ctL_go (by omega)]; first | (rw [if_pos (by omega)]; done) | (rw [if_neg (by omega)]; done)) (by omega)
                  · skip
                    refine r_iconst C dX6_counted_170 ?_
                    refine r_goto (tgt := 175) C dX6_counted_171 (by decide) ?_
                    refine r_istore (lo2 := [(6, .int (iI 1)), (5, .int (iI (9 * k))), (0, .ref h0), (1, .int (iI j)), (2, .int (iI n1)), (3, .int (iI la)), (4, .int (iI k))]) C dX6_counted_175 (by decide) rfl ?_
                    refine r_iload_n C dX6_counted_177 4 rfl ?_
                    refine r_iload C dX6_counted_178 0 rfl ?_
                    refine r_if_eq (tgt := 187) C dX6_counted_180 (by decide) (by decide) (fun h_27 => absurd h_27 (by decide)) (fun h_27 => ?_)
                    refine r_iconst C dX6_counted_183 ?_
                    refine r_goto (tgt := 188) C dX6_counted_184 (by decide) ?_
                    refine r_iadd C dX6_counted_188 ?_
                    refine r_istore_n (lo2 := [(2, .int (iI (n1 + 1))), (6, .int (iI 1)), (5, .int (iI (9 * k))), (0, .ref h0), (1, .int (iI j)), (3, .int (iI la)), (4, .int (iI k))]) C dX6_counted_189 rfl (by decide) rfl ?_
                    refine r_iinc (lo2 := [(4, .int (iI (k + 1))), (2, .int (iI (n1 + 1))), (6, .int (iI 1)), (5, .int (iI (9 * k))), (0, .ref h0), (1, .int (iI j)), (3, .int (iI la))]) C dX6_counted_190 6 rfl (by decide) rfl ?_
                    refine r_goto (tgt := 8) C dX6_counted_193 (by decide) ?_
                    refine r_lo [4, 5, 1, 6, 0] (lo2 := [(0, .ref h0), (1, .int (iI j)), (2, .int (iI (n1 + 1))), (3, .int (iI la)), (4, .int (iI (k + 1)))]) rfl ?_
                    exact ih8 (n1 + 1) la (k + 1) (Ft (Int.toNat (k * 9 + 1))) (by omega) (by omega) (by omega) (by rw [iL, ctL_go (by omega)]; first | (rw [if_pos (by omega)]; done) | (rw [if_neg (by omega)]; done)) (by omega)
            · skip
              refine r_iload C dX6_counted_83 0 rfl ?_
              refine r_if_eq (tgt := 111) C dX6_counted_85 (by decide) (by decide) (fun h_28 => absurd h_28 (by decide)) (fun h_28 => ?_)
              refine r_iload_n C dX6_counted_88 5 rfl ?_
              refine r_if_lt (tgt := 107) C dX6_counted_89 (by decide) (by omega) (fun h_29 => ?_) (fun h_29 => ?_)
              · skip
                refine r_iconst C dX6_counted_107 ?_
                refine r_goto (tgt := 112) C dX6_counted_108 (by decide) ?_
                refine r_istore (lo2 := [(6, .int (iI 1)), (5, .int (iI (9 * k))), (0, .ref h0), (1, .int (iI j)), (2, .int (iI n1)), (3, .int (iI la)), (4, .int (iI k))]) C dX6_counted_112 (by decide) rfl ?_
                refine r_iload C dX6_counted_114 0 rfl ?_
                refine r_if_eq (tgt := 131) C dX6_counted_116 (by decide) (by decide) (fun h_30 => absurd h_30 (by decide)) (fun h_30 => ?_)
                refine r_aload_n C dX6_counted_119 2 rfl ?_
                refine gf_6_14 C hi_X6_counted_6 kw_X6_counted_1 dX6_counted_120 0 rfl rfl ?_
                refine r_iload C dX6_counted_123 1 rfl ?_
                refine r_iconst C dX6_counted_125 ?_
                refine r_iadd C dX6_counted_126 ?_
                refine r_iald C dX6_counted_127 1 rfl (by omega) (by decide) ?_
                refine r_goto (tgt := 132) C dX6_counted_128 (by decide) ?_
                refine r_istore_n (lo2 := [(3, .int (iI (Ft (Int.toNat ((9 * k) + 1))))), (6, .int (iI 1)), (5, .int (iI (9 * k))), (0, .ref h0), (1, .int (iI j)), (2, .int (iI n1)), (4, .int (iI k))]) C dX6_counted_132 rfl (by decide) rfl ?_
                refine r_goto (tgt := 177) C dX6_counted_133 (by decide) ?_
                refine r_iload_n C dX6_counted_177 5 rfl ?_
                refine r_iload C dX6_counted_178 1 rfl ?_
                refine r_if_eq (tgt := 187) C dX6_counted_180 (by decide) (by decide) (fun h_31 => absurd h_31 (by decide)) (fun h_31 => ?_)
                refine r_iconst C dX6_counted_183 ?_
                refine r_goto (tgt := 188) C dX6_counted_184 (by decide) ?_
                refine r_iadd C dX6_counted_188 ?_
                refine r_istore_n (lo2 := [(2, .int (iI (n1 + 1))), (3, .int (iI (Ft (Int.toNat ((9 * k) + 1))))), (6, .int (iI 1)), (5, .int (iI (9 * k))), (0, .ref h0), (1, .int (iI j)), (4, .int (iI k))]) C dX6_counted_189 rfl (by decide) rfl ?_
                refine r_iinc (lo2 := [(4, .int (iI (k + 1))), (2, .int (iI (n1 + 1))), (3, .int (iI (Ft (Int.toNat ((9 * k) + 1))))), (6, .int (iI 1)), (5, .int (iI (9 * k))), (0, .ref h0), (1, .int (iI j))]) C dX6_counted_190 6 rfl (by decide) rfl ?_
                refine r_goto (tgt := 8) C dX6_counted_193 (by decide) ?_
                refine r_lo [5, 6, 1, 2, 0] (lo2 := [(0, .ref h0), (1, .int (iI j)), (2, .int (iI (n1 + 1))), (3, .int (iI (Ft (Int.toNat ((9 * k) + 1))))), (4, .int (iI (k + 1)))]) rfl ?_
                exact ih8 (n1 + 1) (Ft (Int.toNat ((9 * k) + 1))) (k + 1) (Ft (Int.toNat (k * 9 + 1))) (by omega) (by omega) (by omega) (by rw [iL, ctL_go (by omega)]; first | (rw [if_pos (by omega)]; done) | (rw [if_neg (by omega)]; done)) (by omega)
              · skip
                refine r_aload_n C dX6_counted_92 2 rfl ?_
                refine gf_6_14 C hi_X6_counted_6 kw_X6_counted_1 dX6_counted_93 0 rfl rfl ?_
                refine r_iload C dX6_counted_96 1 rfl ?_
                refine r_iconst C dX6_counted_98 ?_
                refine r_iadd C dX6_counted_99 ?_
                refine r_iald C dX6_counted_100 1 rfl (by omega) (by decide) ?_
                refine r_iload_n C dX6_counted_101 5 rfl ?_
                refine r_isub C dX6_counted_102 ?_
                refine r_iconst C dX6_counted_103 ?_
                refine r_icmp_le (tgt := 111) C dX6_counted_104 (by decide) (by have := hFt (Int.toNat ((9 * k) + 1)); omega) (by decide) (fun h_32 => ?_) (fun h_32 => ?_)
                · skip
                  refine r_iconst C dX6_counted_111 ?_
                  refine r_istore (lo2 := [(6, .int (iI 0)), (5, .int (iI (9 * k))), (0, .ref h0), (1, .int (iI j)), (2, .int (iI n1)), (3, .int (iI la)), (4, .int (iI k))]) C dX6_counted_112 (by decide) rfl ?_
                  refine r_iload C dX6_counted_114 0 rfl ?_
                  refine r_if_eq (tgt := 131) C dX6_counted_116 (by decide) (by decide) (fun h_33 => ?_) (fun h_33 => absurd h_33 (by decide))
                  refine r_iload_n C dX6_counted_131 5 rfl ?_
                  refine r_istore_n (lo2 := [(3, .int (iI la)), (6, .int (iI 0)), (5, .int (iI (9 * k))), (0, .ref h0), (1, .int (iI j)), (2, .int (iI n1)), (4, .int (iI k))]) C dX6_counted_132 rfl (by decide) rfl ?_
                  refine r_goto (tgt := 177) C dX6_counted_133 (by decide) ?_
                  refine r_iload_n C dX6_counted_177 5 rfl ?_
                  refine r_iload C dX6_counted_178 1 rfl ?_
                  refine r_if_eq (tgt := 187) C dX6_counted_180 (by decide) (by decide) (fun h_34 => ?_) (fun h_34 => absurd h_34 (by decide))
                  refine r_iconst C dX6_counted_187 ?_
                  refine r_iadd C dX6_counted_188 ?_
                  refine r_topi (z := n1) (by omega) ?_
                  refine r_istore_n (lo2 := [(2, .int (iI n1)), (3, .int (iI la)), (6, .int (iI 0)), (5, .int (iI (9 * k))), (0, .ref h0), (1, .int (iI j)), (4, .int (iI k))]) C dX6_counted_189 rfl (by decide) rfl ?_
                  refine r_iinc (lo2 := [(4, .int (iI (k + 1))), (2, .int (iI n1)), (3, .int (iI la)), (6, .int (iI 0)), (5, .int (iI (9 * k))), (0, .ref h0), (1, .int (iI j))]) C dX6_counted_190 6 rfl (by decide) rfl ?_
                  refine r_goto (tgt := 8) C dX6_counted_193 (by decide) ?_
                  refine r_lo [5, 6, 1, 2, 0] (lo2 := [(0, .ref h0), (1, .int (iI j)), (2, .int (iI n1)), (3, .int (iI la)), (4, .int (iI (k + 1)))]) rfl ?_
                  exact ih8 n1 la (k + 1) lc (by omega) (by omega) (by omega) (by rw [iL, ctL_go (by omega)]; first | (rw [if_pos (by omega)]; done) | (rw [if_neg (by omega)]; done)) (by omega)
                · skip
                  refine r_iconst C dX6_counted_107 ?_
                  refine r_goto (tgt := 112) C dX6_counted_108 (by decide) ?_
                  refine r_istore (lo2 := [(6, .int (iI 1)), (5, .int (iI (9 * k))), (0, .ref h0), (1, .int (iI j)), (2, .int (iI n1)), (3, .int (iI la)), (4, .int (iI k))]) C dX6_counted_112 (by decide) rfl ?_
                  refine r_iload C dX6_counted_114 0 rfl ?_
                  refine r_if_eq (tgt := 131) C dX6_counted_116 (by decide) (by decide) (fun h_35 => absurd h_35 (by decide)) (fun h_35 => ?_)
                  refine r_aload_n C dX6_counted_119 2 rfl ?_
                  refine gf_6_14 C hi_X6_counted_6 kw_X6_counted_1 dX6_counted_120 0 rfl rfl ?_
                  refine r_iload C dX6_counted_123 1 rfl ?_
                  refine r_iconst C dX6_counted_125 ?_
                  refine r_iadd C dX6_counted_126 ?_
                  refine r_iald C dX6_counted_127 1 rfl (by omega) (by decide) ?_
                  refine r_goto (tgt := 132) C dX6_counted_128 (by decide) ?_
                  refine r_istore_n (lo2 := [(3, .int (iI (Ft (Int.toNat ((9 * k) + 1))))), (6, .int (iI 1)), (5, .int (iI (9 * k))), (0, .ref h0), (1, .int (iI j)), (2, .int (iI n1)), (4, .int (iI k))]) C dX6_counted_132 rfl (by decide) rfl ?_
                  refine r_goto (tgt := 177) C dX6_counted_133 (by decide) ?_
                  refine r_iload_n C dX6_counted_177 5 rfl ?_
                  refine r_iload C dX6_counted_178 1 rfl ?_
                  refine r_if_eq (tgt := 187) C dX6_counted_180 (by decide) (by decide) (fun h_36 => absurd h_36 (by decide)) (fun h_36 => ?_)
                  refine r_iconst C dX6_counted_183 ?_
                  refine r_goto (tgt := 188) C dX6_counted_184 (by decide) ?_
                  refine r_iadd C dX6_counted_188 ?_
                  refine r_istore_n (lo2 := [(2, .int (iI (n1 + 1))), (3, .int (iI (Ft (Int.toNat ((9 * k) + 1))))), (6, .int (iI 1)), (5, .int (iI (9 * k))), (0, .ref h0), (1, .int (iI j)), (4, .int (iI k))]) C dX6_counted_189 rfl (by decide) rfl ?_
                  refine r_iinc (lo2 := [(4, .int (iI (k + 1))), (2, .int (iI (n1 + 1))), (3, .int (iI (Ft (Int.toNat ((9 * k) + 1))))), (6, .int (iI 1)), (5, .int (iI (9 * k))), (0, .ref h0), (1, .int (iI j))]) C dX6_counted_190 6 rfl (by decide) rfl ?_
                  refine r_goto (tgt := 8) C dX6_counted_193 (by decide) ?_
                  refine r_lo [5, 6, 1, 2, 0] (lo2 := [(0, .ref h0), (1, .int (iI j)), (2, .int (iI (n1 + 1))), (3, .int (iI (Ft (Int.toNat ((9 * k) + 1))))), (4, .int (iI (k + 1)))]) rfl ?_
                  exact ih8 (n1 + 1) (Ft (Int.toNat ((9 * k) + 1))) (k + 1) (Ft (Int.toNat (k * 9 + 1))) (by omega) (by omega) (by omega) (by rw [iL, ctL_go (by omega)]; first | (rw [if_pos (by omega)]; done) | (rw [if_neg (by omega)]; done)) (by omega)
          · skip
            refine r_aload_n C dX6_counted_46 2 rfl ?_
            refine gf_6_14 C hi_X6_counted_6 kw_X6_counted_1 dX6_counted_47 0 rfl rfl ?_
            refine r_iload C dX6_counted_50 1 rfl ?_
            refine r_iald C dX6_counted_52 1 rfl (by omega) (by decide) ?_
            refine r_iconst C dX6_counted_53 ?_
            refine r_icmp_eq (tgt := 68) C dX6_counted_54 (by decide) (by have := hFt (Int.toNat (9 * k)); omega) (by decide) (fun h_37 => ?_) (fun h_37 => ?_)
            · skip
              refine r_iconst C dX6_counted_68 ?_
              refine r_goto (tgt := 73) C dX6_counted_69 (by decide) ?_
              refine r_istore (lo2 := [(6, .int (iI 1)), (5, .int (iI (9 * k))), (0, .ref h0), (1, .int (iI j)), (2, .int (iI n1)), (3, .int (iI la)), (4, .int (iI k))]) C dX6_counted_73 (by decide) rfl ?_
              refine r_goto (tgt := 177) C dX6_counted_75 (by decide) ?_
              refine r_iload_n C dX6_counted_177 4 rfl ?_
              refine r_iload C dX6_counted_178 0 rfl ?_
              refine r_if_eq (tgt := 187) C dX6_counted_180 (by decide) (by decide) (fun h_38 => absurd h_38 (by decide)) (fun h_38 => ?_)
              refine r_iconst C dX6_counted_183 ?_
              refine r_goto (tgt := 188) C dX6_counted_184 (by decide) ?_
              refine r_iadd C dX6_counted_188 ?_
              refine r_istore_n (lo2 := [(2, .int (iI (n1 + 1))), (6, .int (iI 1)), (5, .int (iI (9 * k))), (0, .ref h0), (1, .int (iI j)), (3, .int (iI la)), (4, .int (iI k))]) C dX6_counted_189 rfl (by decide) rfl ?_
              refine r_iinc (lo2 := [(4, .int (iI (k + 1))), (2, .int (iI (n1 + 1))), (6, .int (iI 1)), (5, .int (iI (9 * k))), (0, .ref h0), (1, .int (iI j)), (3, .int (iI la))]) C dX6_counted_190 6 rfl (by decide) rfl ?_
              refine r_goto (tgt := 8) C dX6_counted_193 (by decide) ?_
              refine r_lo [4, 5, 1, 6, 0] (lo2 := [(0, .ref h0), (1, .int (iI j)), (2, .int (iI (n1 + 1))), (3, .int (iI la)), (4, .int (iI (k + 1)))]) rfl ?_
              exact ih8 (n1 + 1) la (k + 1) (Ft (Int.toNat (k * 9 + 1))) (by omega) (by omega) (by omega) (by rw [iL, ctL_go (by omega)]; first | (rw [if_pos (by omega)]; done) | (rw [if_neg (by omega)]; done)) (by omega)
            · skip
              refine r_aload_n C dX6_counted_57 2 rfl ?_
              refine gf_6_14 C hi_X6_counted_6 kw_X6_counted_1 dX6_counted_58 0 rfl rfl ?_
              refine r_iload C dX6_counted_61 1 rfl ?_
              refine r_iald C dX6_counted_63 1 rfl (by omega) (by decide) ?_
              refine r_iconst C dX6_counted_64 ?_
              refine r_icmp_ne (tgt := 72) C dX6_counted_65 (by decide) (by have := hFt (Int.toNat (9 * k)); omega) (by decide) (fun h_39 => ?_) (fun h_39 => ?_)
              · skip
                refine r_iconst C dX6_counted_72 ?_
                refine r_istore (lo2 := [(6, .int (iI 0)), (5, .int (iI (9 * k))), (0, .ref h0), (1, .int (iI j)), (2, .int (iI n1)), (3, .int (iI la)), (4, .int (iI k))]) C dX6_counted_73 (by decide) rfl ?_
                refine r_goto (tgt := 177) C dX6_counted_75 (by decide) ?_
                refine r_iload_n C dX6_counted_177 4 rfl ?_
                refine r_iload C dX6_counted_178 0 rfl ?_
                refine r_if_eq (tgt := 187) C dX6_counted_180 (by decide) (by decide) (fun h_40 => ?_) (fun h_40 => absurd h_40 (by decide))
                refine r_iconst C dX6_counted_187 ?_
                refine r_iadd C dX6_counted_188 ?_
                refine r_topi (z := n1) (by omega) ?_
                refine r_istore_n (lo2 := [(2, .int (iI n1)), (6, .int (iI 0)), (5, .int (iI (9 * k))), (0, .ref h0), (1, .int (iI j)), (3, .int (iI la)), (4, .int (iI k))]) C dX6_counted_189 rfl (by decide) rfl ?_
                refine r_iinc (lo2 := [(4, .int (iI (k + 1))), (2, .int (iI n1)), (6, .int (iI 0)), (5, .int (iI (9 * k))), (0, .ref h0), (1, .int (iI j)), (3, .int (iI la))]) C dX6_counted_190 6 rfl (by decide) rfl ?_
                refine r_goto (tgt := 8) C dX6_counted_193 (by decide) ?_
                refine r_lo [4, 5, 1, 6, 0] (lo2 := [(0, .ref h0), (1, .int (iI j)), (2, .int (iI n1)), (3, .int (iI la)), (4, .int (iI (k + 1)))]) rfl ?_
                exact ih8 n1 la (k + 1) lc (by omega) (by omega) (by omega) (by rw [iL, ctL_go (by omega)]; first | (rw [if_pos (by omega)]; done) | (rw [if_neg (by omega)]; done)) (by omega)
              · skip
                refine r_iconst C dX6_counted_68 ?_
                refine r_goto (tgt := 73) C dX6_counted_69 (by decide) ?_
                refine r_istore (lo2 := [(6, .int (iI 1)), (5, .int (iI (9 * k))), (0, .ref h0), (1, .int (iI j)), (2, .int (iI n1)), (3, .int (iI la)), (4, .int (iI k))]) C dX6_counted_73 (by decide) rfl ?_
                refine r_goto (tgt := 177) C dX6_counted_75 (by decide) ?_
                refine r_iload_n C dX6_counted_177 4 rfl ?_
                refine r_iload C dX6_counted_178 0 rfl ?_
                refine r_if_eq (tgt := 187) C dX6_counted_180 (by decide) (by decide) (fun h_41 => absurd h_41 (by decide)) (fun h_41 => ?_)
                refine r_iconst C dX6_counted_183 ?_
                refine r_goto (tgt := 188) C dX6_counted_184 (by decide) ?_
                refine r_iadd C dX6_counted_188 ?_
                refine r_istore_n (lo2 := [(2, .int (iI (n1 + 1))), (6, .int (iI 1)), (5, .int (iI (9 * k))), (0, .ref h0), (1, .int (iI j)), (3, .int (iI la)), (4, .int (iI k))]) C dX6_counted_189 rfl (by decide) rfl ?_
                refine r_iinc (lo2 := [(4, .int (iI (k + 1))), (2, .int (iI (n1 + 1))), (6, .int (iI 1)), (5, .int (iI (9 * k))), (0, .ref h0), (1, .int (iI j)), (3, .int (iI la))]) C dX6_counted_190 6 rfl (by decide) rfl ?_
                refine r_goto (tgt := 8) C dX6_counted_193 (by decide) ?_
                refine r_lo [4, 5, 1, 6, 0] (lo2 := [(0, .ref h0), (1, .int (iI j)), (2, .int (iI (n1 + 1))), (3, .int (iI la)), (4, .int (iI (k + 1)))]) rfl ?_
                exact ih8 (n1 + 1) la (k + 1) (Ft (Int.toNat (k * 9 + 1))) (by omega) (by omega) (by omega) (by rw [iL, ctL_go (by omega)]; first | (rw [if_pos (by omega)]; done) | (rw [if_neg (by omega)]; done)) (by omega)
  refine r_lo [3, 4, 2, 1, 0] (lo2 := [(0, .ref h0), (1, .int (iI j)), (2, .int (iI 0)), (3, .int (iI (-9))), (4, .int (iI 0))]) rfl ?_
  exact L8 ((tq - (0 : Int)).toNat + 1) 0 (-9) 0 (-3) (by omega) (by omega) (by omega) (by rw [show (tq - 0).toNat = tq.toNat by omega]) (Nat.lt_succ_self _)
end M13
