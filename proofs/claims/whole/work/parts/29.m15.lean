section M15
set_option maxHeartbeats 4000000 in
set_option maxRecDepth 100000 in
theorem c_X6_isBeyond (l : Launch) (X : gX) (i1 : Int) (m1 : Int) (w : Int) (hb_i1 : inB i1) (hb_m1 : inB m1) (hb_w : inB w) : gM l yX6_isBeyond wsX6_isBeyond (gr 0 0 0) X [] [.int (iI i1), .long (lI m1), .int (iI w)] (gQi X (Y := Unit) (fun _ => True) (fun _ => (if (i1 < 0 ∨ m1 < 0 ∨ w < i1 + m1) then 1 else 0)) (fun _ => [])) 0 0 := by
  refine g_start2 (lo := [(0, .int (iI i1)), (1, .long (lI m1)), (3, .int (iI w))]) (by decide +kernel) rfl rfl (Nat.le_of_ble_eq_true rfl) (fun p e s m args below meth c A C => ?_)
  refine r_iload_n C dX6_isBeyond_0 0 rfl ?_
  refine r_if_lt (tgt := 20) C dX6_isBeyond_1 (by decide) (by omega) (fun h_1 => ?_) (fun h_1 => ?_)
  · skip
    refine r_iconst C dX6_isBeyond_20 ?_
    refine r_goto (tgt := 25) C dX6_isBeyond_21 (by decide) ?_
    exact g_ret_z C rfl (by decide) dX6_isBeyond_25 () trivial (by (repeat' split) <;> first | rfl | omega) [] rfl (by (repeat' split) <;> first | rfl | omega)
  · skip
    refine r_lload_n C dX6_isBeyond_4 1 rfl ?_
    refine r_lconst (z := 0) C dX6_isBeyond_5 rfl ?_
    refine r_lcmp_lt (tgt := 20) C dX6_isBeyond_6 dX6_isBeyond_7 (by decide) (by omega) (by decide) (fun h_2 => ?_) (fun h_2 => ?_)
    · skip
      refine r_iconst C dX6_isBeyond_20 ?_
      refine r_goto (tgt := 25) C dX6_isBeyond_21 (by decide) ?_
      exact g_ret_z C rfl (by decide) dX6_isBeyond_25 () trivial (by (repeat' split) <;> first | rfl | omega) [] rfl (by (repeat' split) <;> first | rfl | omega)
    · skip
      refine r_iload_n C dX6_isBeyond_10 0 rfl ?_
      refine r_i2l C dX6_isBeyond_11 (by omega) ?_
      refine r_lload_n C dX6_isBeyond_12 1 rfl ?_
      refine r_ladd C dX6_isBeyond_13 ?_
      refine r_iload_n C dX6_isBeyond_14 2 rfl ?_
      refine r_i2l C dX6_isBeyond_15 (by omega) ?_
      refine r_lcmp_le (tgt := 24) C dX6_isBeyond_16 dX6_isBeyond_17 (by decide) (by omega) (by omega) (fun h_3 => ?_) (fun h_3 => ?_)
      · skip
        refine r_iconst C dX6_isBeyond_24 ?_
        exact g_ret_z C rfl (by decide) dX6_isBeyond_25 () trivial (by (repeat' split) <;> first | rfl | omega) [] rfl (by (repeat' split) <;> first | rfl | omega)
      · skip
        refine r_iconst C dX6_isBeyond_20 ?_
        refine r_goto (tgt := 25) C dX6_isBeyond_21 (by decide) ?_
        exact g_ret_z C rfl (by decide) dX6_isBeyond_25 () trivial (by (repeat' split) <;> first | rfl | omega) [] rfl (by (repeat' split) <;> first | rfl | omega)

set_option maxRecDepth 20000 in
theorem hd_S_X6_noSheet_X6_barred : yX6_noSheet.cls ≠ "java/lang/invoke/MethodHandle" ∧ yX6_noSheet.cls ≠ "java/lang/invoke/VarHandle" ∧ (parseMethodDescriptor yX6_noSheet.desc).map (fun d => d.parameters.length) = some 1 := by decide +kernel
set_option maxRecDepth 20000 in
theorem kw_X6_barred_0 : Cond.constantLong RX6 85 (2) ∈ wsX6_barred := List.mem_of_getElem? (i := 1) rfl
set_option maxRecDepth 20000 in
theorem hd_S_X6_in_X6_barred : yX6_in.cls ≠ "java/lang/invoke/MethodHandle" ∧ yX6_in.cls ≠ "java/lang/invoke/VarHandle" ∧ (parseMethodDescriptor yX6_in.desc).map (fun d => d.parameters.length) = some 3 := by decide +kernel
set_option maxRecDepth 20000 in
theorem kw_X6_barred_1 : Cond.fieldLink RX6 43 "SkipStonesModel" "sheetSize" "[I" ∈ wsX6_barred := List.mem_of_getElem? (i := 2) rfl
set_option maxRecDepth 20000 in
theorem kw_X6_barred_2 : Cond.fieldLink RX6 46 "SkipStonesModel" "sheetLane" "[I" ∈ wsX6_barred := List.mem_of_getElem? (i := 3) rfl
set_option maxRecDepth 20000 in
theorem hd_S_X6_isBeyond_X6_barred : yX6_isBeyond.cls ≠ "java/lang/invoke/MethodHandle" ∧ yX6_isBeyond.cls ≠ "java/lang/invoke/VarHandle" ∧ (parseMethodDescriptor yX6_isBeyond.desc).map (fun d => d.parameters.length) = some 3 := by decide +kernel
set_option maxRecDepth 20000 in
theorem hi_X6_barred_6 : ∀ w ∈ wsX60, w ∈ wsX6_barred := fun _ h => List.mem_cons_of_mem _ (List.mem_append_right _ h)
set_option maxHeartbeats 4000000 in
set_option maxRecDepth 100000 in
theorem c_X6_barred_ok (l : Launch) (X : gX) (h0 : Nat) (u2 : Nat) (u3 : Nat) (u4 : Nat) (u5 : Nat) (u6 : Nat) (u7 : Nat) (u8 : Nat) (u11 : Nat) (u14 : Nat) (u16 : Nat) (u20 : Nat) (u21 : Nat) (u22 : Nat) (u23 : Nat) (u24 : Nat) (ft : Int) (sc : Int) (rm : Int) (wc : Int) (sh : Int) (tq : Int) (cnt : Int) (gf : Int) (gs : Int) (rc : Int) (tc : Int) (Ss : Nat → Int) (Sl : Nat → Int) (k : Int) (w : Int) (i1 : Int) (m1 : Int) (hx : 0 ≤ k ∧ k < 4) (hb_w : inB w) (hb_i1 : inB i1) (hb_m1 : inB m1) (hSs : ∀ i, -1 ≤ Ss i ∧ Ss i ≤ 60) (hSl : ∀ i, 0 ≤ Sl i ∧ Sl i ≤ 2) (hok : (0 ≤ w ∧ w ≤ 2 ∧ 0 ≤ (Ss (Int.toNat k)) ∧ (Sl (Int.toNat k)) = w ∧ 0 ≤ i1 ∧ 0 ≤ m1 ∧ i1 + m1 ≤ (Ss (Int.toNat k)))) : gM l yX6_barred wsX6_barred (gr 2 0 0) X [(h0, .inr (6, [.int (iI ft), .int (iI sc), .ref u2, .ref u3, .ref u4, .ref u5, .ref u6, .ref u7, .ref u8, .int (iI rm), .int (iI wc), .ref u11, .int (iI sh), .int (iI tq), .ref u14, .int (iI cnt), .ref u16, .int (iI gf), .int (iI gs), .int (iI rc), .ref u20, .ref u21, .ref u22, .ref u23, .ref u24, .int (iI tc)])), (u21, .inl (X.2.1.1, 4, .inl (iF Ss))), (u22, .inl (X.2.1.1, 4, .inl (iF Sl)))] [.ref h0, .int (iI k), .int (iI w), .int (iI i1), .long (lI m1)] (gQi X (Y := Unit) (fun _ => True) (fun _ => 0) (fun _ => [(h0, .inr (6, [.int (iI ft), .int (iI sc), .ref u2, .ref u3, .ref u4, .ref u5, .ref u6, .ref u7, .ref u8, .int (iI rm), .int (iI wc), .ref u11, .int (iI sh), .int (iI tq), .ref u14, .int (iI cnt), .ref u16, .int (iI gf), .int (iI gs), .int (iI rc), .ref u20, .ref u21, .ref u22, .ref u23, .ref u24, .int (iI tc)])), (u21, .inl (X.2.1.1, 4, .inl (iF Ss))), (u22, .inl (X.2.1.1, 4, .inl (iF Sl)))])) 0 0 := by
  refine g_start2 (lo := [(0, .ref h0), (1, .int (iI k)), (2, .int (iI w)), (3, .int (iI i1)), (4, .long (lI m1))]) (by decide +kernel) rfl rfl (Nat.le_of_ble_eq_true rfl) (fun p e s m args below meth c A C => ?_)
  have qs1 := hSs (Int.toNat k)
  have ql1 := hSl (Int.toNat k)
  refine r_iload_n C dX6_barred_0 1 rfl ?_
  refine g_S_i (ws2 := (fun _ => [(h0, .inr (6, [.int (iI ft), .int (iI sc), .ref u2, .ref u3, .ref u4, .ref u5, .ref u6, .ref u7, .ref u8, .int (iI rm), .int (iI wc), .ref u11, .int (iI sh), .int (iI tq), .ref u14, .int (iI cnt), .ref u16, .int (iI gf), .int (iI gs), .int (iI rc), .ref u20, .ref u21, .ref u22, .ref u23, .ref u24, .int (iI tc)])), (u21, .inl (X.2.1.1, 4, .inl (iF Ss))), (u22, .inl (X.2.1.1, 4, .inl (iF Sl)))])) (As := [.int (iI k)]) C (c_X6_noSheet l X k (by first | assumption | omega)) gX6_barred_X6_noSheet rfl rfl rfl hd_S_X6_noSheet_X6_barred (by decide) dX6_barred_1 [] [0, 1, 2] [0, 1, 2] rfl rfl rfl rfl (by decide) rfl rfl rfl (Nat.le_of_ble_eq_true rfl) (by decide) (fun _ => rfl) (fun _ hy_ => ?_)
  clear hy_
  refine r_ite (fun h_1 => absurd h_1 (by omega)) (fun h_1 => ?_)
  refine r_if_eq (tgt := 13) C dX6_barred_4 (by decide) (by decide) (fun h_2 => ?_) (fun h_2 => absurd h_2 (by decide))
  refine r_iload_n C dX6_barred_13 2 rfl ?_
  refine r_i2l C dX6_barred_14 (by omega) ?_
  refine r_lconst (z := 0) C dX6_barred_15 rfl ?_
  refine r_ldc2 (z := 2) C dX6_barred_16 kw_X6_barred_0 rfl ?_
  refine g_S_i (ws2 := (fun _ => [(h0, .inr (6, [.int (iI ft), .int (iI sc), .ref u2, .ref u3, .ref u4, .ref u5, .ref u6, .ref u7, .ref u8, .int (iI rm), .int (iI wc), .ref u11, .int (iI sh), .int (iI tq), .ref u14, .int (iI cnt), .ref u16, .int (iI gf), .int (iI gs), .int (iI rc), .ref u20, .ref u21, .ref u22, .ref u23, .ref u24, .int (iI tc)])), (u21, .inl (X.2.1.1, 4, .inl (iF Ss))), (u22, .inl (X.2.1.1, 4, .inl (iF Sl)))])) (As := [.long (lI w), .long (lI 0), .long (lI 2)]) C (c_X6_in l X w 0 2 (by first | assumption | omega) (by first | assumption | omega) (by first | assumption | omega)) gX6_barred_X6_in rfl rfl rfl hd_S_X6_in_X6_barred (by decide) dX6_barred_19 [] [0, 1, 2] [0, 1, 2] rfl rfl rfl rfl (by decide) rfl rfl rfl (Nat.le_of_ble_eq_true rfl) (by decide) (fun _ => rfl) (fun _ hy_ => ?_)
  clear hy_
  refine r_ite (fun h_3 => ?_) (fun h_3 => absurd h_3 (by omega))
  refine r_if_ne (tgt := 32) C dX6_barred_22 (by decide) (by decide) (fun h_4 => ?_) (fun h_4 => absurd h_4 (by decide))
  refine r_aload_n C dX6_barred_32 0 rfl ?_
  refine gf_6_21 C hi_X6_barred_6 kw_X6_barred_1 dX6_barred_33 0 rfl rfl ?_
  refine r_iload_n C dX6_barred_36 1 rfl ?_
  refine r_iald C dX6_barred_37 1 rfl (by omega) (by decide) ?_
  refine r_if_lt (tgt := 57) C dX6_barred_38 (by decide) (by have := hSs (Int.toNat k); omega) (fun h_5 => absurd h_5 (by omega)) (fun h_5 => ?_)
  refine r_aload_n C dX6_barred_41 0 rfl ?_
  refine gf_6_22 C hi_X6_barred_6 kw_X6_barred_2 dX6_barred_42 0 rfl rfl ?_
  refine r_iload_n C dX6_barred_45 1 rfl ?_
  refine r_iald C dX6_barred_46 2 rfl (by omega) (by decide) ?_
  refine r_iload_n C dX6_barred_47 2 rfl ?_
  refine r_icmp_eq (tgt := 57) C dX6_barred_48 (by decide) (by have := hSl (Int.toNat k); omega) (by omega) (fun h_6 => ?_) (fun h_6 => absurd h_6 (by omega))
  refine r_aload_n C dX6_barred_57 0 rfl ?_
  refine gf_6_21 C hi_X6_barred_6 kw_X6_barred_1 dX6_barred_58 0 rfl rfl ?_
  refine r_iload_n C dX6_barred_61 1 rfl ?_
  refine r_iald C dX6_barred_62 1 rfl (by omega) (by decide) ?_
  refine r_if_ge (tgt := 72) C dX6_barred_63 (by decide) (by have := hSs (Int.toNat k); omega) (fun h_7 => ?_) (fun h_7 => absurd h_7 (by omega))
  refine r_lload C dX6_barred_72 4 rfl ?_
  refine r_lconst (z := 0) C dX6_barred_74 rfl ?_
  refine r_lcmp_ge (tgt := 85) C dX6_barred_75 dX6_barred_76 (by decide) (by omega) (by decide) (fun h_8 => ?_) (fun h_8 => absurd h_8 (by omega))
  refine r_iload_n C dX6_barred_85 3 rfl ?_
  refine r_lload C dX6_barred_86 4 rfl ?_
  refine r_aload_n C dX6_barred_88 0 rfl ?_
  refine gf_6_21 C hi_X6_barred_6 kw_X6_barred_1 dX6_barred_89 0 rfl rfl ?_
  refine r_iload_n C dX6_barred_92 1 rfl ?_
  refine r_iald C dX6_barred_93 1 rfl (by omega) (by decide) ?_
  refine g_S_i (ws2 := (fun _ => [(h0, .inr (6, [.int (iI ft), .int (iI sc), .ref u2, .ref u3, .ref u4, .ref u5, .ref u6, .ref u7, .ref u8, .int (iI rm), .int (iI wc), .ref u11, .int (iI sh), .int (iI tq), .ref u14, .int (iI cnt), .ref u16, .int (iI gf), .int (iI gs), .int (iI rc), .ref u20, .ref u21, .ref u22, .ref u23, .ref u24, .int (iI tc)])), (u21, .inl (X.2.1.1, 4, .inl (iF Ss))), (u22, .inl (X.2.1.1, 4, .inl (iF Sl)))])) (As := [.int (iI i1), .long (lI m1), .int (iI (Ss (Int.toNat k)))]) C (c_X6_isBeyond l X i1 m1 (Ss (Int.toNat k)) (by first | assumption | omega) (by first | assumption | omega) (by first | assumption | have := hSs (Int.toNat k); omega)) gX6_barred_X6_isBeyond rfl rfl rfl hd_S_X6_isBeyond_X6_barred (by decide) dX6_barred_94 [] [0, 1, 2] [0, 1, 2] rfl rfl rfl rfl (by decide) rfl rfl rfl (Nat.le_of_ble_eq_true rfl) (by decide) (fun _ => rfl) (fun _ hy_ => ?_)
  clear hy_
  refine r_ite (fun h_9 => absurd h_9 (by omega)) (fun h_9 => ?_)
  refine r_if_eq (tgt := 108) C dX6_barred_97 (by decide) (by decide) (fun h_10 => ?_) (fun h_10 => absurd h_10 (by decide))
  refine r_iconst C dX6_barred_108 ?_
  exact g_ret_i C rfl dX6_barred_109 () trivial (by (repeat' split) <;> first | rfl | omega) [0, 1, 2] rfl (by (repeat' split) <;> first | rfl | omega)

set_option maxRecDepth 20000 in
theorem hd_V_X6_failed_X6_barred : yX6_failed.cls = yX6_failed.cls ∧ yX6_failed.cls ≠ "java/lang/invoke/MethodHandle" ∧ yX6_failed.cls ≠ "java/lang/invoke/VarHandle" ∧ (parseMethodDescriptor yX6_failed.desc).map (fun d => d.parameters.length) = some 1 := by decide +kernel
set_option maxRecDepth 20000 in
theorem hd_V_X6_refused_X6_barred : yX6_refused.cls = yX6_refused.cls ∧ yX6_refused.cls ≠ "java/lang/invoke/MethodHandle" ∧ yX6_refused.cls ≠ "java/lang/invoke/VarHandle" ∧ (parseMethodDescriptor yX6_refused.desc).map (fun d => d.parameters.length) = some 1 := by decide +kernel
set_option maxHeartbeats 4000000 in
set_option maxRecDepth 100000 in
theorem c_X6_barred_no (l : Launch) (X : gX) (h0 : Nat) (u2 : Nat) (u3 : Nat) (u4 : Nat) (u5 : Nat) (u6 : Nat) (u7 : Nat) (u8 : Nat) (u11 : Nat) (u14 : Nat) (u16 : Nat) (u20 : Nat) (u21 : Nat) (u22 : Nat) (u23 : Nat) (u24 : Nat) (ft : Int) (sc : Int) (rm : Int) (wc : Int) (sh : Int) (tq : Int) (cnt : Int) (gf : Int) (gs : Int) (rc : Int) (tc : Int) (Ss : Nat → Int) (Sl : Nat → Int) (k : Int) (w : Int) (i1 : Int) (m1 : Int) (hx : 0 ≤ k ∧ k < 4) (hb_w : inB w) (hb_i1 : inB i1) (hb_m1 : inB m1) (hSs : ∀ i, -1 ≤ Ss i ∧ Ss i ≤ 60) (hSl : ∀ i, 0 ≤ Sl i ∧ Sl i ≤ 2) (hok : ¬ (0 ≤ w ∧ w ≤ 2 ∧ 0 ≤ (Ss (Int.toNat k)) ∧ (Sl (Int.toNat k)) = w ∧ 0 ≤ i1 ∧ 0 ≤ m1 ∧ i1 + m1 ≤ (Ss (Int.toNat k)))) : gM l yX6_barred wsX6_barred (gr 2 0 0) X [(h0, .inr (6, [.int (iI ft), .int (iI sc), .ref u2, .ref u3, .ref u4, .ref u5, .ref u6, .ref u7, .ref u8, .int (iI rm), .int (iI wc), .ref u11, .int (iI sh), .int (iI tq), .ref u14, .int (iI cnt), .ref u16, .int (iI gf), .int (iI gs), .int (iI rc), .ref u20, .ref u21, .ref u22, .ref u23, .ref u24, .int (iI tc)])), (u21, .inl (X.2.1.1, 4, .inl (iF Ss))), (u22, .inl (X.2.1.1, 4, .inl (iF Sl)))] [.ref h0, .int (iI k), .int (iI w), .int (iI i1), .long (lI m1)] (gQi X (Y := Int) (fun y => (-20 ≤ y ∧ y < 0) ∧ (y = (if ¬ (0 ≤ w ∧ w ≤ 2) then -2 else if (Ss (Int.toNat k)) < 0 then -11 else if ¬ (Sl (Int.toNat k)) = w then -12 else if m1 < 0 then -14 else -13))) (fun y => y) (fun y => [(h0, .inr (6, [.int (iI (if ¬ (0 ≤ w ∧ w ≤ 2) then 0 else if (Ss (Int.toNat k)) < 0 then 1 else if ¬ (Sl (Int.toNat k)) = w then 2 else if m1 < 0 then 4 else 3)), .int (iI sc), .ref u2, .ref u3, .ref u4, .ref u5, .ref u6, .ref u7, .ref u8, .int (iI rm), .int (iI wc), .ref u11, .int (iI sh), .int (iI tq), .ref u14, .int (iI cnt), .ref u16, .int (iI gf), .int (iI gs), .int (iI rc), .ref u20, .ref u21, .ref u22, .ref u23, .ref u24, .int (iI tc)])), (u21, .inl (X.2.1.1, 4, .inl (iF Ss))), (u22, .inl (X.2.1.1, 4, .inl (iF Sl)))])) 0 0 := by
  refine g_start2 (lo := [(0, .ref h0), (1, .int (iI k)), (2, .int (iI w)), (3, .int (iI i1)), (4, .long (lI m1))]) (by decide +kernel) rfl rfl (Nat.le_of_ble_eq_true rfl) (fun p e s m args below meth c A C => ?_)
  have qs1 := hSs (Int.toNat k)
  have ql1 := hSl (Int.toNat k)
  refine r_iload_n C dX6_barred_0 1 rfl ?_
  refine g_S_i (ws2 := (fun _ => [(h0, .inr (6, [.int (iI ft), .int (iI sc), .ref u2, .ref u3, .ref u4, .ref u5, .ref u6, .ref u7, .ref u8, .int (iI rm), .int (iI wc), .ref u11, .int (iI sh), .int (iI tq), .ref u14, .int (iI cnt), .ref u16, .int (iI gf), .int (iI gs), .int (iI rc), .ref u20, .ref u21, .ref u22, .ref u23, .ref u24, .int (iI tc)])), (u21, .inl (X.2.1.1, 4, .inl (iF Ss))), (u22, .inl (X.2.1.1, 4, .inl (iF Sl)))])) (As := [.int (iI k)]) C (c_X6_noSheet l X k (by first | assumption | omega)) gX6_barred_X6_noSheet rfl rfl rfl hd_S_X6_noSheet_X6_barred (by decide) dX6_barred_1 [] [0, 1, 2] [0, 1, 2] rfl rfl rfl rfl (by decide) rfl rfl rfl (Nat.le_of_ble_eq_true rfl) (by decide) (fun _ => rfl) (fun _ hy_ => ?_)
  clear hy_
  refine r_ite (fun h_1 => absurd h_1 (by omega)) (fun h_1 => ?_)
  refine r_if_eq (tgt := 13) C dX6_barred_4 (by decide) (by decide) (fun h_2 => ?_) (fun h_2 => absurd h_2 (by decide))
  refine r_iload_n C dX6_barred_13 2 rfl ?_
  refine r_i2l C dX6_barred_14 (by omega) ?_
  refine r_lconst (z := 0) C dX6_barred_15 rfl ?_
  refine r_ldc2 (z := 2) C dX6_barred_16 kw_X6_barred_0 rfl ?_
  refine g_S_i (ws2 := (fun _ => [(h0, .inr (6, [.int (iI ft), .int (iI sc), .ref u2, .ref u3, .ref u4, .ref u5, .ref u6, .ref u7, .ref u8, .int (iI rm), .int (iI wc), .ref u11, .int (iI sh), .int (iI tq), .ref u14, .int (iI cnt), .ref u16, .int (iI gf), .int (iI gs), .int (iI rc), .ref u20, .ref u21, .ref u22, .ref u23, .ref u24, .int (iI tc)])), (u21, .inl (X.2.1.1, 4, .inl (iF Ss))), (u22, .inl (X.2.1.1, 4, .inl (iF Sl)))])) (As := [.long (lI w), .long (lI 0), .long (lI 2)]) C (c_X6_in l X w 0 2 (by first | assumption | omega) (by first | assumption | omega) (by first | assumption | omega)) gX6_barred_X6_in rfl rfl rfl hd_S_X6_in_X6_barred (by decide) dX6_barred_19 [] [0, 1, 2] [0, 1, 2] rfl rfl rfl rfl (by decide) rfl rfl rfl (Nat.le_of_ble_eq_true rfl) (by decide) (fun _ => rfl) (fun _ hy_ => ?_)
  clear hy_
  refine r_ite (fun h_3 => ?_) (fun h_3 => ?_)
  · skip
    refine r_if_ne (tgt := 32) C dX6_barred_22 (by decide) (by decide) (fun h_4 => ?_) (fun h_4 => absurd h_4 (by decide))
    refine r_aload_n C dX6_barred_32 0 rfl ?_
    refine gf_6_21 C hi_X6_barred_6 kw_X6_barred_1 dX6_barred_33 0 rfl rfl ?_
    refine r_iload_n C dX6_barred_36 1 rfl ?_
    refine r_iald C dX6_barred_37 1 rfl (by omega) (by decide) ?_
    refine r_if_lt (tgt := 57) C dX6_barred_38 (by decide) (by have := hSs (Int.toNat k); omega) (fun h_5 => ?_) (fun h_5 => ?_)
    · skip
      refine r_aload_n C dX6_barred_57 0 rfl ?_
      refine gf_6_21 C hi_X6_barred_6 kw_X6_barred_1 dX6_barred_58 0 rfl rfl ?_
      refine r_iload_n C dX6_barred_61 1 rfl ?_
      refine r_iald C dX6_barred_62 1 rfl (by omega) (by decide) ?_
      refine r_if_ge (tgt := 72) C dX6_barred_63 (by decide) (by have := hSs (Int.toNat k); omega) (fun h_6 => absurd h_6 (by omega)) (fun h_6 => ?_)
      refine r_aload_n C dX6_barred_66 0 rfl ?_
      refine r_iconst C dX6_barred_67 ?_
      refine g_V_i (ws2 := (fun _ => [(h0, .inr (6, [.int (iI 1), .int (iI sc), .ref u2, .ref u3, .ref u4, .ref u5, .ref u6, .ref u7, .ref u8, .int (iI rm), .int (iI wc), .ref u11, .int (iI sh), .int (iI tq), .ref u14, .int (iI cnt), .ref u16, .int (iI gf), .int (iI gs), .int (iI rc), .ref u20, .ref u21, .ref u22, .ref u23, .ref u24, .int (iI tc)])), (u21, .inl (X.2.1.1, 4, .inl (iF Ss))), (u22, .inl (X.2.1.1, 4, .inl (iF Sl)))])) (As := [.int (iI 1)]) C (c_X6_failed l X h0 u2 u3 u4 u5 u6 u7 u8 u11 u14 u16 u20 u21 u22 u23 u24 ft sc rm wc sh tq cnt gf gs rc tc 1 ) gX6_barred_X6_failed rfl rfl rfl hd_V_X6_failed_X6_barred (by decide) dX6_barred_68 [0] [1, 2] [2, 0, 1] rfl rfl rfl rfl (by decide) rfl 0 6 rfl rfl rfl rfl (Nat.le_of_ble_eq_true rfl) (by decide) (fun _ => rfl) (fun _ hy_ => ?_)
      clear hy_
      exact g_ret_i C rfl dX6_barred_71 ((-10) - 1) (by refine ⟨by omega, ?_⟩; (repeat' split) <;> first | rfl | omega) rfl [0, 1, 2] rfl (by (repeat' split) <;> first | rfl | omega)
    · skip
      refine r_aload_n C dX6_barred_41 0 rfl ?_
      refine gf_6_22 C hi_X6_barred_6 kw_X6_barred_2 dX6_barred_42 0 rfl rfl ?_
      refine r_iload_n C dX6_barred_45 1 rfl ?_
      refine r_iald C dX6_barred_46 2 rfl (by omega) (by decide) ?_
      refine r_iload_n C dX6_barred_47 2 rfl ?_
      refine r_icmp_eq (tgt := 57) C dX6_barred_48 (by decide) (by have := hSl (Int.toNat k); omega) (by omega) (fun h_7 => ?_) (fun h_7 => ?_)
      · skip
        refine r_aload_n C dX6_barred_57 0 rfl ?_
        refine gf_6_21 C hi_X6_barred_6 kw_X6_barred_1 dX6_barred_58 0 rfl rfl ?_
        refine r_iload_n C dX6_barred_61 1 rfl ?_
        refine r_iald C dX6_barred_62 1 rfl (by omega) (by decide) ?_
        refine r_if_ge (tgt := 72) C dX6_barred_63 (by decide) (by have := hSs (Int.toNat k); omega) (fun h_8 => ?_) (fun h_8 => absurd h_8 (by omega))
        refine r_lload C dX6_barred_72 4 rfl ?_
        refine r_lconst (z := 0) C dX6_barred_74 rfl ?_
        refine r_lcmp_ge (tgt := 85) C dX6_barred_75 dX6_barred_76 (by decide) (by omega) (by decide) (fun h_9 => ?_) (fun h_9 => ?_)
        · skip
          refine r_iload_n C dX6_barred_85 3 rfl ?_
          refine r_lload C dX6_barred_86 4 rfl ?_
          refine r_aload_n C dX6_barred_88 0 rfl ?_
          refine gf_6_21 C hi_X6_barred_6 kw_X6_barred_1 dX6_barred_89 0 rfl rfl ?_
          refine r_iload_n C dX6_barred_92 1 rfl ?_
          refine r_iald C dX6_barred_93 1 rfl (by omega) (by decide) ?_
          refine g_S_i (ws2 := (fun _ => [(h0, .inr (6, [.int (iI ft), .int (iI sc), .ref u2, .ref u3, .ref u4, .ref u5, .ref u6, .ref u7, .ref u8, .int (iI rm), .int (iI wc), .ref u11, .int (iI sh), .int (iI tq), .ref u14, .int (iI cnt), .ref u16, .int (iI gf), .int (iI gs), .int (iI rc), .ref u20, .ref u21, .ref u22, .ref u23, .ref u24, .int (iI tc)])), (u21, .inl (X.2.1.1, 4, .inl (iF Ss))), (u22, .inl (X.2.1.1, 4, .inl (iF Sl)))])) (As := [.int (iI i1), .long (lI m1), .int (iI (Ss (Int.toNat k)))]) C (c_X6_isBeyond l X i1 m1 (Ss (Int.toNat k)) (by first | assumption | omega) (by first | assumption | omega) (by first | assumption | have := hSs (Int.toNat k); omega)) gX6_barred_X6_isBeyond rfl rfl rfl hd_S_X6_isBeyond_X6_barred (by decide) dX6_barred_94 [] [0, 1, 2] [0, 1, 2] rfl rfl rfl rfl (by decide) rfl rfl rfl (Nat.le_of_ble_eq_true rfl) (by decide) (fun _ => rfl) (fun _ hy_ => ?_)
          clear hy_
          refine r_ite (fun h_10 => ?_) (fun h_10 => absurd h_10 (by omega))
          refine r_if_eq (tgt := 108) C dX6_barred_97 (by decide) (by decide) (fun h_11 => absurd h_11 (by decide)) (fun h_11 => ?_)
          refine r_aload_n C dX6_barred_100 0 rfl ?_
          refine r_iconst C dX6_barred_101 ?_
          refine g_V_i (ws2 := (fun _ => [(h0, .inr (6, [.int (iI 3), .int (iI sc), .ref u2, .ref u3, .ref u4, .ref u5, .ref u6, .ref u7, .ref u8, .int (iI rm), .int (iI wc), .ref u11, .int (iI sh), .int (iI tq), .ref u14, .int (iI cnt), .ref u16, .int (iI gf), .int (iI gs), .int (iI rc), .ref u20, .ref u21, .ref u22, .ref u23, .ref u24, .int (iI tc)])), (u21, .inl (X.2.1.1, 4, .inl (iF Ss))), (u22, .inl (X.2.1.1, 4, .inl (iF Sl)))])) (As := [.int (iI 3)]) C (c_X6_failed l X h0 u2 u3 u4 u5 u6 u7 u8 u11 u14 u16 u20 u21 u22 u23 u24 ft sc rm wc sh tq cnt gf gs rc tc 3 ) gX6_barred_X6_failed rfl rfl rfl hd_V_X6_failed_X6_barred (by decide) dX6_barred_102 [0] [1, 2] [2, 0, 1] rfl rfl rfl rfl (by decide) rfl 0 6 rfl rfl rfl rfl (Nat.le_of_ble_eq_true rfl) (by decide) (fun _ => rfl) (fun _ hy_ => ?_)
          clear hy_
          refine r_goto (tgt := 109) C dX6_barred_105 (by decide) ?_
          exact g_ret_i C rfl dX6_barred_109 ((-10) - 3) (by refine ⟨by omega, ?_⟩; (repeat' split) <;> first | rfl | omega) rfl [0, 1, 2] rfl (by (repeat' split) <;> first | rfl | omega)
        · skip
          refine r_aload_n C dX6_barred_79 0 rfl ?_
          refine r_iconst C dX6_barred_80 ?_
          refine g_V_i (ws2 := (fun _ => [(h0, .inr (6, [.int (iI 4), .int (iI sc), .ref u2, .ref u3, .ref u4, .ref u5, .ref u6, .ref u7, .ref u8, .int (iI rm), .int (iI wc), .ref u11, .int (iI sh), .int (iI tq), .ref u14, .int (iI cnt), .ref u16, .int (iI gf), .int (iI gs), .int (iI rc), .ref u20, .ref u21, .ref u22, .ref u23, .ref u24, .int (iI tc)])), (u21, .inl (X.2.1.1, 4, .inl (iF Ss))), (u22, .inl (X.2.1.1, 4, .inl (iF Sl)))])) (As := [.int (iI 4)]) C (c_X6_failed l X h0 u2 u3 u4 u5 u6 u7 u8 u11 u14 u16 u20 u21 u22 u23 u24 ft sc rm wc sh tq cnt gf gs rc tc 4 ) gX6_barred_X6_failed rfl rfl rfl hd_V_X6_failed_X6_barred (by decide) dX6_barred_81 [0] [1, 2] [2, 0, 1] rfl rfl rfl rfl (by decide) rfl 0 6 rfl rfl rfl rfl (Nat.le_of_ble_eq_true rfl) (by decide) (fun _ => rfl) (fun _ hy_ => ?_)
          clear hy_
          exact g_ret_i C rfl dX6_barred_84 ((-10) - 4) (by refine ⟨by omega, ?_⟩; (repeat' split) <;> first | rfl | omega) rfl [0, 1, 2] rfl (by (repeat' split) <;> first | rfl | omega)
      · skip
        refine r_aload_n C dX6_barred_51 0 rfl ?_
        refine r_iconst C dX6_barred_52 ?_
        refine g_V_i (ws2 := (fun _ => [(h0, .inr (6, [.int (iI 2), .int (iI sc), .ref u2, .ref u3, .ref u4, .ref u5, .ref u6, .ref u7, .ref u8, .int (iI rm), .int (iI wc), .ref u11, .int (iI sh), .int (iI tq), .ref u14, .int (iI cnt), .ref u16, .int (iI gf), .int (iI gs), .int (iI rc), .ref u20, .ref u21, .ref u22, .ref u23, .ref u24, .int (iI tc)])), (u21, .inl (X.2.1.1, 4, .inl (iF Ss))), (u22, .inl (X.2.1.1, 4, .inl (iF Sl)))])) (As := [.int (iI 2)]) C (c_X6_failed l X h0 u2 u3 u4 u5 u6 u7 u8 u11 u14 u16 u20 u21 u22 u23 u24 ft sc rm wc sh tq cnt gf gs rc tc 2 ) gX6_barred_X6_failed rfl rfl rfl hd_V_X6_failed_X6_barred (by decide) dX6_barred_53 [0] [1, 2] [2, 0, 1] rfl rfl rfl rfl (by decide) rfl 0 6 rfl rfl rfl rfl (Nat.le_of_ble_eq_true rfl) (by decide) (fun _ => rfl) (fun _ hy_ => ?_)
        clear hy_
        exact g_ret_i C rfl dX6_barred_56 ((-10) - 2) (by refine ⟨by omega, ?_⟩; (repeat' split) <;> first | rfl | omega) rfl [0, 1, 2] rfl (by (repeat' split) <;> first | rfl | omega)
  · skip
    refine r_if_ne (tgt := 32) C dX6_barred_22 (by decide) (by decide) (fun h_12 => absurd h_12 (by decide)) (fun h_12 => ?_)
    refine r_aload_n C dX6_barred_25 0 rfl ?_
    refine r_bipush C dX6_barred_26 (by decide) ?_
    refine g_V_i (ws2 := (fun _ => [(h0, .inr (6, [.int (iI 0), .int (iI sc), .ref u2, .ref u3, .ref u4, .ref u5, .ref u6, .ref u7, .ref u8, .int (iI rm), .int (iI wc), .ref u11, .int (iI sh), .int (iI tq), .ref u14, .int (iI cnt), .ref u16, .int (iI gf), .int (iI gs), .int (iI rc), .ref u20, .ref u21, .ref u22, .ref u23, .ref u24, .int (iI tc)])), (u21, .inl (X.2.1.1, 4, .inl (iF Ss))), (u22, .inl (X.2.1.1, 4, .inl (iF Sl)))])) (As := [.int (iI (-2))]) C (c_X6_refused l X h0 u2 u3 u4 u5 u6 u7 u8 u11 u14 u16 u20 u21 u22 u23 u24 ft sc rm wc sh tq cnt gf gs rc tc (-2) ) gX6_barred_X6_refused rfl rfl rfl hd_V_X6_refused_X6_barred (by decide) dX6_barred_28 [0] [1, 2] [2, 0, 1] rfl rfl rfl rfl (by decide) rfl 0 6 rfl rfl rfl rfl (Nat.le_of_ble_eq_true rfl) (by decide) (fun _ => rfl) (fun _ hy_ => ?_)
    clear hy_
    exact g_ret_i C rfl dX6_barred_31 (-2) (by refine ⟨by omega, ?_⟩; (repeat' split) <;> first | rfl | omega) rfl [0, 1, 2] rfl (by (repeat' split) <;> first | rfl | omega)

set_option maxHeartbeats 4000000 in
set_option maxRecDepth 100000 in
theorem c_X6_barred_out (l : Launch) (X : gX) (h0 : Nat) (u2 : Nat) (u3 : Nat) (u4 : Nat) (u5 : Nat) (u6 : Nat) (u7 : Nat) (u8 : Nat) (u11 : Nat) (u14 : Nat) (u16 : Nat) (u20 : Nat) (u21 : Nat) (u22 : Nat) (u23 : Nat) (u24 : Nat) (ft : Int) (sc : Int) (rm : Int) (wc : Int) (sh : Int) (tq : Int) (cnt : Int) (gf : Int) (gs : Int) (rc : Int) (tc : Int) (k : Int) (w : Int) (i1 : Int) (m1 : Int) (hx : ¬ (0 ≤ k ∧ k < 4)) (hbk : inB k) : gM l yX6_barred wsX6_barred (gr 2 0 0) X [(h0, .inr (6, [.int (iI ft), .int (iI sc), .ref u2, .ref u3, .ref u4, .ref u5, .ref u6, .ref u7, .ref u8, .int (iI rm), .int (iI wc), .ref u11, .int (iI sh), .int (iI tq), .ref u14, .int (iI cnt), .ref u16, .int (iI gf), .int (iI gs), .int (iI rc), .ref u20, .ref u21, .ref u22, .ref u23, .ref u24, .int (iI tc)]))] [.ref h0, .int (iI k), .int (iI w), .int (iI i1), .long (lI m1)] (gQi X (Y := Unit) (fun _ => True) (fun _ => -1) (fun _ => [(h0, .inr (6, [.int (iI 0), .int (iI sc), .ref u2, .ref u3, .ref u4, .ref u5, .ref u6, .ref u7, .ref u8, .int (iI rm), .int (iI wc), .ref u11, .int (iI sh), .int (iI tq), .ref u14, .int (iI cnt), .ref u16, .int (iI gf), .int (iI gs), .int (iI rc), .ref u20, .ref u21, .ref u22, .ref u23, .ref u24, .int (iI tc)]))])) 0 0 := by
  refine g_start2 (lo := [(0, .ref h0), (1, .int (iI k)), (2, .int (iI w)), (3, .int (iI i1)), (4, .long (lI m1))]) (by decide +kernel) rfl rfl (Nat.le_of_ble_eq_true rfl) (fun p e s m args below meth c A C => ?_)
  refine r_iload_n C dX6_barred_0 1 rfl ?_
  refine g_S_i (ws2 := (fun _ => [(h0, .inr (6, [.int (iI ft), .int (iI sc), .ref u2, .ref u3, .ref u4, .ref u5, .ref u6, .ref u7, .ref u8, .int (iI rm), .int (iI wc), .ref u11, .int (iI sh), .int (iI tq), .ref u14, .int (iI cnt), .ref u16, .int (iI gf), .int (iI gs), .int (iI rc), .ref u20, .ref u21, .ref u22, .ref u23, .ref u24, .int (iI tc)]))])) (As := [.int (iI k)]) C (c_X6_noSheet l X k (by first | assumption | omega)) gX6_barred_X6_noSheet rfl rfl rfl hd_S_X6_noSheet_X6_barred (by decide) dX6_barred_1 [] [0] [0] rfl rfl rfl rfl (by decide) rfl rfl rfl (Nat.le_of_ble_eq_true rfl) (by decide) (fun _ => rfl) (fun _ hy_ => ?_)
  clear hy_
  refine r_ite (fun h_1 => ?_) (fun h_1 => absurd h_1 (by omega))
  refine r_if_eq (tgt := 13) C dX6_barred_4 (by decide) (by decide) (fun h_2 => absurd h_2 (by decide)) (fun h_2 => ?_)
  refine r_aload_n C dX6_barred_7 0 rfl ?_
  refine r_iconst C dX6_barred_8 ?_
  refine g_V_i (ws2 := (fun _ => [(h0, .inr (6, [.int (iI 0), .int (iI sc), .ref u2, .ref u3, .ref u4, .ref u5, .ref u6, .ref u7, .ref u8, .int (iI rm), .int (iI wc), .ref u11, .int (iI sh), .int (iI tq), .ref u14, .int (iI cnt), .ref u16, .int (iI gf), .int (iI gs), .int (iI rc), .ref u20, .ref u21, .ref u22, .ref u23, .ref u24, .int (iI tc)]))])) (As := [.int (iI (-1))]) C (c_X6_refused l X h0 u2 u3 u4 u5 u6 u7 u8 u11 u14 u16 u20 u21 u22 u23 u24 ft sc rm wc sh tq cnt gf gs rc tc (-1) ) gX6_barred_X6_refused rfl rfl rfl hd_V_X6_refused_X6_barred (by decide) dX6_barred_9 [0] [] [0] rfl rfl rfl rfl (by decide) rfl 0 6 rfl rfl rfl rfl (Nat.le_of_ble_eq_true rfl) (by decide) (fun _ => rfl) (fun _ hy_ => ?_)
  clear hy_
  exact g_ret_i C rfl dX6_barred_12 () trivial (by (repeat' split) <;> first | rfl | omega) [0] rfl (by (repeat' split) <;> first | rfl | omega)

set_option maxRecDepth 20000 in
theorem kw_X6_areNumbers_0 : Cond.constantLong RX6 132 (20) ∈ wsX6_areNumbers := List.mem_of_getElem? (i := 1) rfl
set_option maxRecDepth 20000 in
theorem hd_S_X6_in_X6_areNumbers : yX6_in.cls ≠ "java/lang/invoke/MethodHandle" ∧ yX6_in.cls ≠ "java/lang/invoke/VarHandle" ∧ (parseMethodDescriptor yX6_in.desc).map (fun d => d.parameters.length) = some 3 := by decide +kernel
set_option maxRecDepth 20000 in
theorem kw_X6_areNumbers_1 : Cond.fieldLink RX6 49 "SkipStonesModel" "sheet" "[I" ∈ wsX6_areNumbers := List.mem_of_getElem? (i := 2) rfl
set_option maxRecDepth 20000 in
theorem hi_X6_areNumbers_6 : ∀ w ∈ wsX60, w ∈ wsX6_areNumbers := fun _ h => List.mem_cons_of_mem _ (List.mem_append_right _ h)
set_option maxHeartbeats 4000000 in
set_option maxRecDepth 100000 in
theorem c_X6_areNumbers_ok (l : Launch) (X : gX) (h0 : Nat) (u2 : Nat) (u3 : Nat) (u4 : Nat) (u5 : Nat) (u6 : Nat) (u7 : Nat) (u8 : Nat) (u11 : Nat) (u14 : Nat) (u16 : Nat) (u20 : Nat) (u21 : Nat) (u22 : Nat) (u23 : Nat) (u24 : Nat) (ft : Int) (sc : Int) (rm : Int) (wc : Int) (sh : Int) (tq : Int) (cnt : Int) (gf : Int) (gs : Int) (rc : Int) (tc : Int) (Sh : Nat → Int) (f0 : Int) (m1 : Int) (g1 : Int) (g2 : Int) (hf0 : 0 ≤ f0 ∧ 0 ≤ m1 ∧ m1 ≤ 60 ∧ f0 + m1 ≤ 240) (hb_g1 : inB g1) (hb_g2 : inB g2) (hSh : ∀ i, inB (Sh i)) (hm : 1 ≤ m1 ∧ m1 ≤ 20) (hall : ∀ c : Int, 0 ≤ c → c < m1 → g1 ≤ Sh (Int.toNat (f0 + c)) ∧ Sh (Int.toNat (f0 + c)) ≤ g2) : gM l yX6_areNumbers wsX6_areNumbers (gr 1 0 0) X [(h0, .inr (6, [.int (iI ft), .int (iI sc), .ref u2, .ref u3, .ref u4, .ref u5, .ref u6, .ref u7, .ref u8, .int (iI rm), .int (iI wc), .ref u11, .int (iI sh), .int (iI tq), .ref u14, .int (iI cnt), .ref u16, .int (iI gf), .int (iI gs), .int (iI rc), .ref u20, .ref u21, .ref u22, .ref u23, .ref u24, .int (iI tc)])), (u23, .inl (X.2.1.1, 240, .inl (iF Sh)))] [.ref h0, .int (iI f0), .int (iI m1), .int (iI g1), .int (iI g2)] (gQi X (Y := Unit) (fun _ => True) (fun _ => 1) (fun _ => [(h0, .inr (6, [.int (iI ft), .int (iI sc), .ref u2, .ref u3, .ref u4, .ref u5, .ref u6, .ref u7, .ref u8, .int (iI rm), .int (iI wc), .ref u11, .int (iI sh), .int (iI tq), .ref u14, .int (iI cnt), .ref u16, .int (iI gf), .int (iI gs), .int (iI rc), .ref u20, .ref u21, .ref u22, .ref u23, .ref u24, .int (iI tc)])), (u23, .inl (X.2.1.1, 240, .inl (iF Sh)))])) 0 0 := by
  refine g_start2 (lo := [(0, .ref h0), (1, .int (iI f0)), (2, .int (iI m1)), (3, .int (iI g1)), (4, .int (iI g2))]) (by decide +kernel) rfl rfl (Nat.le_of_ble_eq_true rfl) (fun p e s m args below meth c A C => ?_)
  refine r_iload_n C dX6_areNumbers_0 2 rfl ?_
  refine r_i2l C dX6_areNumbers_1 (by omega) ?_
  refine r_lconst (z := 1) C dX6_areNumbers_2 rfl ?_
  refine r_ldc2 (z := 20) C dX6_areNumbers_3 kw_X6_areNumbers_0 rfl ?_
  refine g_S_i (ws2 := (fun _ => [(h0, .inr (6, [.int (iI ft), .int (iI sc), .ref u2, .ref u3, .ref u4, .ref u5, .ref u6, .ref u7, .ref u8, .int (iI rm), .int (iI wc), .ref u11, .int (iI sh), .int (iI tq), .ref u14, .int (iI cnt), .ref u16, .int (iI gf), .int (iI gs), .int (iI rc), .ref u20, .ref u21, .ref u22, .ref u23, .ref u24, .int (iI tc)])), (u23, .inl (X.2.1.1, 240, .inl (iF Sh)))])) (As := [.long (lI m1), .long (lI 1), .long (lI 20)]) C (c_X6_in l X m1 1 20 (by first | assumption | omega) (by first | assumption | omega) (by first | assumption | omega)) gX6_areNumbers_X6_in rfl rfl rfl hd_S_X6_in_X6_areNumbers (by decide) dX6_areNumbers_6 [] [0, 1] [0, 1] rfl rfl rfl rfl (by decide) rfl rfl rfl (Nat.le_of_ble_eq_true rfl) (by decide) (fun _ => rfl) (fun _ hy_ => ?_)
  clear hy_
  refine r_ite (fun h_1 => ?_) (fun h_1 => absurd h_1 (by omega))
  refine r_istore (lo2 := [(5, .int (iI 1)), (0, .ref h0), (1, .int (iI f0)), (2, .int (iI m1)), (3, .int (iI g1)), (4, .int (iI g2))]) C dX6_areNumbers_9 (by decide) rfl ?_
  refine r_iconst C dX6_areNumbers_11 ?_
  refine r_istore (lo2 := [(6, .int (iI 0)), (5, .int (iI 1)), (0, .ref h0), (1, .int (iI f0)), (2, .int (iI m1)), (3, .int (iI g1)), (4, .int (iI g2))]) C dX6_areNumbers_12 (by decide) rfl ?_
  have L14 : ∀ (fu14 : Nat) (b1 : Int) (c1 : Int), (b1 = 1) → (0 ≤ c1 ∧ c1 ≤ m1) → (m1 - c1).toNat < fu14 → gW p l e (gr 1 0 0) s m args below meth c X A 7 (MQ below ((gQi X (Y := Unit) (fun _ => True) (fun _ => 1) (fun _ => [(h0, .inr (6, [.int (iI ft), .int (iI sc), .ref u2, .ref u3, .ref u4, .ref u5, .ref u6, .ref u7, .ref u8, .int (iI rm), .int (iI wc), .ref u11, .int (iI sh), .int (iI tq), .ref u14, .int (iI cnt), .ref u16, .int (iI gf), .int (iI gs), .int (iI rc), .ref u20, .ref u21, .ref u22, .ref u23, .ref u24, .int (iI tc)])), (u23, .inl (X.2.1.1, 240, .inl (iF Sh)))])) A) args s 0 0 A) 0 0 [(h0, .inr (6, [.int (iI ft), .int (iI sc), .ref u2, .ref u3, .ref u4, .ref u5, .ref u6, .ref u7, .ref u8, .int (iI rm), .int (iI wc), .ref u11, .int (iI sh), .int (iI tq), .ref u14, .int (iI cnt), .ref u16, .int (iI gf), .int (iI gs), .int (iI rc), .ref u20, .ref u21, .ref u22, .ref u23, .ref u24, .int (iI tc)])), (u23, .inl (X.2.1.1, 240, .inl (iF Sh)))] 14 [(0, .ref h0), (1, .int (iI f0)), (2, .int (iI m1)), (3, .int (iI g1)), (4, .int (iI g2)), (5, .int (iI b1)), (6, .int (iI c1))] [] := by
    intro fu14
    induction fu14 with
    | zero => intro b1 c1 ib ic hm14; exact absurd hm14 (Nat.not_lt_zero _)
    | succ fu14 ih14 =>
      intro b1 c1 ib ic hm14
      refine r_iload C dX6_areNumbers_14 6 rfl ?_
      refine r_iload_n C dX6_areNumbers_16 2 rfl ?_
      refine r_icmp_ge (tgt := 51) C dX6_areNumbers_17 (by decide) (by omega) (by omega) (fun h_2 => ?_) (fun h_2 => ?_)
      · skip
        refine r_iload C dX6_areNumbers_51 5 rfl ?_
        exact g_ret_z C rfl (Or.inr ib) dX6_areNumbers_53 () trivial ib [0, 1] rfl (by (repeat' split) <;> first | rfl | omega)
      · skip
        refine r_iload C dX6_areNumbers_20 5 rfl ?_
        refine r_if_eq (tgt := 51) C dX6_areNumbers_22 (by decide) (by omega) (fun h_3 => absurd h_3 (by omega)) (fun h_3 => ?_)
        have hc1 := hall c1 (by omega) (by omega)
        refine r_aload_n C dX6_areNumbers_25 0 rfl ?_
        refine gf_6_23 C hi_X6_areNumbers_6 kw_X6_areNumbers_1 dX6_areNumbers_26 0 rfl rfl ?_
        refine r_iload_n C dX6_areNumbers_29 1 rfl ?_
        refine r_iload C dX6_areNumbers_30 6 rfl ?_
        refine r_iadd C dX6_areNumbers_32 ?_
        refine r_iald C dX6_areNumbers_33 1 rfl (by omega) (by decide) ?_
        refine r_i2l C dX6_areNumbers_34 (by have := hSh (Int.toNat (f0 + c1)); omega) ?_
        refine r_iload_n C dX6_areNumbers_35 3 rfl ?_
        refine r_i2l C dX6_areNumbers_36 (by omega) ?_
        refine r_iload C dX6_areNumbers_37 4 rfl ?_
        refine r_i2l C dX6_areNumbers_39 (by omega) ?_
        refine g_S_i (ws2 := (fun _ => [(h0, .inr (6, [.int (iI ft), .int (iI sc), .ref u2, .ref u3, .ref u4, .ref u5, .ref u6, .ref u7, .ref u8, .int (iI rm), .int (iI wc), .ref u11, .int (iI sh), .int (iI tq), .ref u14, .int (iI cnt), .ref u16, .int (iI gf), .int (iI gs), .int (iI rc), .ref u20, .ref u21, .ref u22, .ref u23, .ref u24, .int (iI tc)])), (u23, .inl (X.2.1.1, 240, .inl (iF Sh)))])) (As := [.long (lI (Sh (Int.toNat (f0 + c1)))), .long (lI g1), .long (lI g2)]) C (c_X6_in l X (Sh (Int.toNat (f0 + c1))) g1 g2 (by first | assumption | have := hSh (Int.toNat (f0 + c1)); omega) (by first | assumption | omega) (by first | assumption | omega)) gX6_areNumbers_X6_in rfl rfl rfl hd_S_X6_in_X6_areNumbers (by decide) dX6_areNumbers_40 [] [0, 1] [0, 1] rfl rfl rfl rfl (by decide) rfl rfl rfl (Nat.le_of_ble_eq_true rfl) (by decide) (fun _ => rfl) (fun _ hy_ => ?_)
        clear hy_
        refine r_ite (fun h_4 => ?_) (fun h_4 => absurd h_4 (by omega))
        refine r_istore (lo2 := [(5, .int (iI 1)), (0, .ref h0), (1, .int (iI f0)), (2, .int (iI m1)), (3, .int (iI g1)), (4, .int (iI g2)), (6, .int (iI c1))]) C dX6_areNumbers_43 (by decide) rfl ?_
        refine r_iinc (lo2 := [(6, .int (iI (c1 + 1))), (5, .int (iI 1)), (0, .ref h0), (1, .int (iI f0)), (2, .int (iI m1)), (3, .int (iI g1)), (4, .int (iI g2))]) C dX6_areNumbers_45 6 rfl (by decide) rfl ?_
        refine r_goto (tgt := 14) C dX6_areNumbers_48 (by decide) ?_
        refine r_lo [2, 3, 4, 5, 6, 1, 0] (lo2 := [(0, .ref h0), (1, .int (iI f0)), (2, .int (iI m1)), (3, .int (iI g1)), (4, .int (iI g2)), (5, .int (iI 1)), (6, .int (iI (c1 + 1)))]) rfl ?_
        exact ih14 1 (c1 + 1) rfl (by omega) (by omega)
  refine r_lo [2, 3, 4, 5, 6, 1, 0] (lo2 := [(0, .ref h0), (1, .int (iI f0)), (2, .int (iI m1)), (3, .int (iI g1)), (4, .int (iI g2)), (5, .int (iI 1)), (6, .int (iI 0))]) rfl ?_
  exact L14 ((m1 - (0 : Int)).toNat + 1) 1 0 rfl (by omega) (Nat.lt_succ_self _)

set_option maxHeartbeats 4000000 in
set_option maxRecDepth 100000 in
theorem c_X6_areNumbers_bad (l : Launch) (X : gX) (h0 : Nat) (u2 : Nat) (u3 : Nat) (u4 : Nat) (u5 : Nat) (u6 : Nat) (u7 : Nat) (u8 : Nat) (u11 : Nat) (u14 : Nat) (u16 : Nat) (u20 : Nat) (u21 : Nat) (u22 : Nat) (u23 : Nat) (u24 : Nat) (ft : Int) (sc : Int) (rm : Int) (wc : Int) (sh : Int) (tq : Int) (cnt : Int) (gf : Int) (gs : Int) (rc : Int) (tc : Int) (Sh : Nat → Int) (f0 : Int) (m1 : Int) (g1 : Int) (g2 : Int) (hf0 : 0 ≤ f0 ∧ 0 ≤ m1 ∧ m1 ≤ 60 ∧ f0 + m1 ≤ 240) (hb_g1 : inB g1) (hb_g2 : inB g2) (hSh : ∀ i, inB (Sh i)) (hbad : ¬ ((1 ≤ m1 ∧ m1 ≤ 20) ∧ ∀ c : Int, 0 ≤ c → c < m1 → g1 ≤ Sh (Int.toNat (f0 + c)) ∧ Sh (Int.toNat (f0 + c)) ≤ g2)) : gM l yX6_areNumbers wsX6_areNumbers (gr 1 0 0) X [(h0, .inr (6, [.int (iI ft), .int (iI sc), .ref u2, .ref u3, .ref u4, .ref u5, .ref u6, .ref u7, .ref u8, .int (iI rm), .int (iI wc), .ref u11, .int (iI sh), .int (iI tq), .ref u14, .int (iI cnt), .ref u16, .int (iI gf), .int (iI gs), .int (iI rc), .ref u20, .ref u21, .ref u22, .ref u23, .ref u24, .int (iI tc)])), (u23, .inl (X.2.1.1, 240, .inl (iF Sh)))] [.ref h0, .int (iI f0), .int (iI m1), .int (iI g1), .int (iI g2)] (gQi X (Y := Unit) (fun _ => True) (fun _ => 0) (fun _ => [(h0, .inr (6, [.int (iI ft), .int (iI sc), .ref u2, .ref u3, .ref u4, .ref u5, .ref u6, .ref u7, .ref u8, .int (iI rm), .int (iI wc), .ref u11, .int (iI sh), .int (iI tq), .ref u14, .int (iI cnt), .ref u16, .int (iI gf), .int (iI gs), .int (iI rc), .ref u20, .ref u21, .ref u22, .ref u23, .ref u24, .int (iI tc)])), (u23, .inl (X.2.1.1, 240, .inl (iF Sh)))])) 0 0 := by
  refine g_start2 (lo := [(0, .ref h0), (1, .int (iI f0)), (2, .int (iI m1)), (3, .int (iI g1)), (4, .int (iI g2))]) (by decide +kernel) rfl rfl (Nat.le_of_ble_eq_true rfl) (fun p e s m args below meth c A C => ?_)
  refine r_iload_n C dX6_areNumbers_0 2 rfl ?_
  refine r_i2l C dX6_areNumbers_1 (by omega) ?_
  refine r_lconst (z := 1) C dX6_areNumbers_2 rfl ?_
  refine r_ldc2 (z := 20) C dX6_areNumbers_3 kw_X6_areNumbers_0 rfl ?_
  refine g_S_i (ws2 := (fun _ => [(h0, .inr (6, [.int (iI ft), .int (iI sc), .ref u2, .ref u3, .ref u4, .ref u5, .ref u6, .ref u7, .ref u8, .int (iI rm), .int (iI wc), .ref u11, .int (iI sh), .int (iI tq), .ref u14, .int (iI cnt), .ref u16, .int (iI gf), .int (iI gs), .int (iI rc), .ref u20, .ref u21, .ref u22, .ref u23, .ref u24, .int (iI tc)])), (u23, .inl (X.2.1.1, 240, .inl (iF Sh)))])) (As := [.long (lI m1), .long (lI 1), .long (lI 20)]) C (c_X6_in l X m1 1 20 (by first | assumption | omega) (by first | assumption | omega) (by first | assumption | omega)) gX6_areNumbers_X6_in rfl rfl rfl hd_S_X6_in_X6_areNumbers (by decide) dX6_areNumbers_6 [] [0, 1] [0, 1] rfl rfl rfl rfl (by decide) rfl rfl rfl (Nat.le_of_ble_eq_true rfl) (by decide) (fun _ => rfl) (fun _ hy_ => ?_)
  clear hy_
  refine r_ite (fun h_1 => ?_) (fun h_1 => ?_)
  · skip
    refine r_istore (lo2 := [(5, .int (iI 1)), (0, .ref h0), (1, .int (iI f0)), (2, .int (iI m1)), (3, .int (iI g1)), (4, .int (iI g2))]) C dX6_areNumbers_9 (by decide) rfl ?_
    refine r_iconst C dX6_areNumbers_11 ?_
    refine r_istore (lo2 := [(6, .int (iI 0)), (5, .int (iI 1)), (0, .ref h0), (1, .int (iI f0)), (2, .int (iI m1)), (3, .int (iI g1)), (4, .int (iI g2))]) C dX6_areNumbers_12 (by decide) rfl ?_
    have L14 : ∀ (fu14 : Nat) (b1 : Int) (c1 : Int), (b1 = 0 ∨ b1 = 1) → (0 ≤ c1 ∧ c1 ≤ m1) → (b1 = 1 → (1 ≤ m1 ∧ m1 ≤ 20) ∧ ∀ c : Int, 0 ≤ c → c < c1 → g1 ≤ Sh (Int.toNat (f0 + c)) ∧ Sh (Int.toNat (f0 + c)) ≤ g2) → (m1 - c1).toNat < fu14 → gW p l e (gr 1 0 0) s m args below meth c X A 7 (MQ below ((gQi X (Y := Unit) (fun _ => True) (fun _ => 0) (fun _ => [(h0, .inr (6, [.int (iI ft), .int (iI sc), .ref u2, .ref u3, .ref u4, .ref u5, .ref u6, .ref u7, .ref u8, .int (iI rm), .int (iI wc), .ref u11, .int (iI sh), .int (iI tq), .ref u14, .int (iI cnt), .ref u16, .int (iI gf), .int (iI gs), .int (iI rc), .ref u20, .ref u21, .ref u22, .ref u23, .ref u24, .int (iI tc)])), (u23, .inl (X.2.1.1, 240, .inl (iF Sh)))])) A) args s 0 0 A) 0 0 [(h0, .inr (6, [.int (iI ft), .int (iI sc), .ref u2, .ref u3, .ref u4, .ref u5, .ref u6, .ref u7, .ref u8, .int (iI rm), .int (iI wc), .ref u11, .int (iI sh), .int (iI tq), .ref u14, .int (iI cnt), .ref u16, .int (iI gf), .int (iI gs), .int (iI rc), .ref u20, .ref u21, .ref u22, .ref u23, .ref u24, .int (iI tc)])), (u23, .inl (X.2.1.1, 240, .inl (iF Sh)))] 14 [(0, .ref h0), (1, .int (iI f0)), (2, .int (iI m1)), (3, .int (iI g1)), (4, .int (iI g2)), (5, .int (iI b1)), (6, .int (iI c1))] [] := by
      intro fu14
      induction fu14 with
      | zero => intro b1 c1 ib ic iA hm14; exact absurd hm14 (Nat.not_lt_zero _)
      | succ fu14 ih14 =>
        intro b1 c1 ib ic iA hm14
        refine r_iload C dX6_areNumbers_14 6 rfl ?_
        refine r_iload_n C dX6_areNumbers_16 2 rfl ?_
        refine r_icmp_ge (tgt := 51) C dX6_areNumbers_17 (by decide) (by omega) (by omega) (fun h_2 => ?_) (fun h_2 => ?_)
        · skip
          refine r_iload C dX6_areNumbers_51 5 rfl ?_
          exact g_ret_z C rfl ib dX6_areNumbers_53 () trivial (by rcases ib with ib | ib; exact ib; exact absurd ⟨(iA ib).1, fun c h0 h1 => (iA ib).2 c h0 (by omega)⟩ hbad) [0, 1] rfl (by (repeat' split) <;> first | rfl | omega)
        · skip
          refine r_iload C dX6_areNumbers_20 5 rfl ?_
          refine r_if_eq (tgt := 51) C dX6_areNumbers_22 (by decide) (by omega) (fun h_3 => ?_) (fun h_3 => ?_)
          · skip
            refine r_iload C dX6_areNumbers_51 5 rfl ?_
            exact g_ret_z C rfl ib dX6_areNumbers_53 () trivial (by rcases ib with ib | ib; exact ib; exact absurd ⟨(iA ib).1, fun c h0 h1 => (iA ib).2 c h0 (by omega)⟩ hbad) [0, 1] rfl (by (repeat' split) <;> first | rfl | omega)
          · skip
            refine r_aload_n C dX6_areNumbers_25 0 rfl ?_
            refine gf_6_23 C hi_X6_areNumbers_6 kw_X6_areNumbers_1 dX6_areNumbers_26 0 rfl rfl ?_
            refine r_iload_n C dX6_areNumbers_29 1 rfl ?_
            refine r_iload C dX6_areNumbers_30 6 rfl ?_
            refine r_iadd C dX6_areNumbers_32 ?_
            refine r_iald C dX6_areNumbers_33 1 rfl (by omega) (by decide) ?_
            refine r_i2l C dX6_areNumbers_34 (by have := hSh (Int.toNat (f0 + c1)); omega) ?_
            refine r_iload_n C dX6_areNumbers_35 3 rfl ?_
            refine r_i2l C dX6_areNumbers_36 (by omega) ?_
            refine r_iload C dX6_areNumbers_37 4 rfl ?_
            refine r_i2l C dX6_areNumbers_39 (by omega) ?_
            refine g_S_i (ws2 := (fun _ => [(h0, .inr (6, [.int (iI ft), .int (iI sc), .ref u2, .ref u3, .ref u4, .ref u5, .ref u6, .ref u7, .ref u8, .int (iI rm), .int (iI wc), .ref u11, .int (iI sh), .int (iI tq), .ref u14, .int (iI cnt), .ref u16, .int (iI gf), .int (iI gs), .int (iI rc), .ref u20, .ref u21, .ref u22, .ref u23, .ref u24, .int (iI tc)])), (u23, .inl (X.2.1.1, 240, .inl (iF Sh)))])) (As := [.long (lI (Sh (Int.toNat (f0 + c1)))), .long (lI g1), .long (lI g2)]) C (c_X6_in l X (Sh (Int.toNat (f0 + c1))) g1 g2 (by first | assumption | have := hSh (Int.toNat (f0 + c1)); omega) (by first | assumption | omega) (by first | assumption | omega)) gX6_areNumbers_X6_in rfl rfl rfl hd_S_X6_in_X6_areNumbers (by decide) dX6_areNumbers_40 [] [0, 1] [0, 1] rfl rfl rfl rfl (by decide) rfl rfl rfl (Nat.le_of_ble_eq_true rfl) (by decide) (fun _ => rfl) (fun _ hy_ => ?_)
            clear hy_
            refine r_ite (fun h_4 => ?_) (fun h_4 => ?_)
            · skip
              refine r_istore (lo2 := [(5, .int (iI 1)), (0, .ref h0), (1, .int (iI f0)), (2, .int (iI m1)), (3, .int (iI g1)), (4, .int (iI g2)), (6, .int (iI c1))]) C dX6_areNumbers_43 (by decide) rfl ?_
              refine r_iinc (lo2 := [(6, .int (iI (c1 + 1))), (5, .int (iI 1)), (0, .ref h0), (1, .int (iI f0)), (2, .int (iI m1)), (3, .int (iI g1)), (4, .int (iI g2))]) C dX6_areNumbers_45 6 rfl (by decide) rfl ?_
              refine r_goto (tgt := 14) C dX6_areNumbers_48 (by decide) ?_
              refine r_lo [2, 3, 4, 5, 6, 1, 0] (lo2 := [(0, .ref h0), (1, .int (iI f0)), (2, .int (iI m1)), (3, .int (iI g1)), (4, .int (iI g2)), (5, .int (iI 1)), (6, .int (iI (c1 + 1)))]) rfl ?_
              exact ih14 1 (c1 + 1) (by omega) (by omega) (fun q => by first | (exact absurd q (by decide)) | (obtain ⟨q1, q2⟩ := iA (by omega); exact ⟨q1, fun c h0 h1 => by by_cases z : c < c1; exact q2 c h0 z; rw [show c = c1 by omega]; omega⟩)) (by omega)
            · skip
              refine r_istore (lo2 := [(5, .int (iI 0)), (0, .ref h0), (1, .int (iI f0)), (2, .int (iI m1)), (3, .int (iI g1)), (4, .int (iI g2)), (6, .int (iI c1))]) C dX6_areNumbers_43 (by decide) rfl ?_
              refine r_iinc (lo2 := [(6, .int (iI (c1 + 1))), (5, .int (iI 0)), (0, .ref h0), (1, .int (iI f0)), (2, .int (iI m1)), (3, .int (iI g1)), (4, .int (iI g2))]) C dX6_areNumbers_45 6 rfl (by decide) rfl ?_
              refine r_goto (tgt := 14) C dX6_areNumbers_48 (by decide) ?_
              refine r_lo [2, 3, 4, 5, 6, 1, 0] (lo2 := [(0, .ref h0), (1, .int (iI f0)), (2, .int (iI m1)), (3, .int (iI g1)), (4, .int (iI g2)), (5, .int (iI 0)), (6, .int (iI (c1 + 1)))]) rfl ?_
              exact ih14 0 (c1 + 1) (by omega) (by omega) (fun q => by first | (exact absurd q (by decide)) | (obtain ⟨q1, q2⟩ := iA (by omega); exact ⟨q1, fun c h0 h1 => by by_cases z : c < c1; exact q2 c h0 z; rw [show c = c1 by omega]; omega⟩)) (by omega)
    refine r_lo [2, 3, 4, 5, 6, 1, 0] (lo2 := [(0, .ref h0), (1, .int (iI f0)), (2, .int (iI m1)), (3, .int (iI g1)), (4, .int (iI g2)), (5, .int (iI 1)), (6, .int (iI 0))]) rfl ?_
    exact L14 ((m1 - (0 : Int)).toNat + 1) 1 0 (by omega) (by omega) (fun q => ⟨by omega, fun c h0 h1 => by omega⟩) (Nat.lt_succ_self _)
  · skip
    refine r_istore (lo2 := [(5, .int (iI 0)), (0, .ref h0), (1, .int (iI f0)), (2, .int (iI m1)), (3, .int (iI g1)), (4, .int (iI g2))]) C dX6_areNumbers_9 (by decide) rfl ?_
    refine r_iconst C dX6_areNumbers_11 ?_
    refine r_istore (lo2 := [(6, .int (iI 0)), (5, .int (iI 0)), (0, .ref h0), (1, .int (iI f0)), (2, .int (iI m1)), (3, .int (iI g1)), (4, .int (iI g2))]) C dX6_areNumbers_12 (by decide) rfl ?_
    have L14 : ∀ (fu14 : Nat) (b1 : Int) (c1 : Int), (b1 = 0 ∨ b1 = 1) → (0 ≤ c1 ∧ c1 ≤ m1) → (b1 = 1 → (1 ≤ m1 ∧ m1 ≤ 20) ∧ ∀ c : Int, 0 ≤ c → c < c1 → g1 ≤ Sh (Int.toNat (f0 + c)) ∧ Sh (Int.toNat (f0 + c)) ≤ g2) → (m1 - c1).toNat < fu14 → gW p l e (gr 1 0 0) s m args below meth c X A 7 (MQ below ((gQi X (Y := Unit) (fun _ => True) (fun _ => 0) (fun _ => [(h0, .inr (6, [.int (iI ft), .int (iI sc), .ref u2, .ref u3, .ref u4, .ref u5, .ref u6, .ref u7, .ref u8, .int (iI rm), .int (iI wc), .ref u11, .int (iI sh), .int (iI tq), .ref u14, .int (iI cnt), .ref u16, .int (iI gf), .int (iI gs), .int (iI rc), .ref u20, .ref u21, .ref u22, .ref u23, .ref u24, .int (iI tc)])), (u23, .inl (X.2.1.1, 240, .inl (iF Sh)))])) A) args s 0 0 A) 0 0 [(h0, .inr (6, [.int (iI ft), .int (iI sc), .ref u2, .ref u3, .ref u4, .ref u5, .ref u6, .ref u7, .ref u8, .int (iI rm), .int (iI wc), .ref u11, .int (iI sh), .int (iI tq), .ref u14, .int (iI cnt), .ref u16, .int (iI gf), .int (iI gs), .int (iI rc), .ref u20, .ref u21, .ref u22, .ref u23, .ref u24, .int (iI tc)])), (u23, .inl (X.2.1.1, 240, .inl (iF Sh)))] 14 [(0, .ref h0), (1, .int (iI f0)), (2, .int (iI m1)), (3, .int (iI g1)), (4, .int (iI g2)), (5, .int (iI b1)), (6, .int (iI c1))] [] := by
      intro fu14
      induction fu14 with
      | zero => intro b1 c1 ib ic iA hm14; exact absurd hm14 (Nat.not_lt_zero _)
      | succ fu14 ih14 =>
        intro b1 c1 ib ic iA hm14
        refine r_iload C dX6_areNumbers_14 6 rfl ?_
        refine r_iload_n C dX6_areNumbers_16 2 rfl ?_
        refine r_icmp_ge (tgt := 51) C dX6_areNumbers_17 (by decide) (by omega) (by omega) (fun h_5 => ?_) (fun h_5 => ?_)
        · skip
          refine r_iload C dX6_areNumbers_51 5 rfl ?_
          exact g_ret_z C rfl ib dX6_areNumbers_53 () trivial (by rcases ib with ib | ib; exact ib; exact absurd ⟨(iA ib).1, fun c h0 h1 => (iA ib).2 c h0 (by omega)⟩ hbad) [0, 1] rfl (by (repeat' split) <;> first | rfl | omega)
        · skip
          refine r_iload C dX6_areNumbers_20 5 rfl ?_
          refine r_if_eq (tgt := 51) C dX6_areNumbers_22 (by decide) (by omega) (fun h_6 => ?_) (fun h_6 => ?_)
          · skip
            refine r_iload C dX6_areNumbers_51 5 rfl ?_
            exact g_ret_z C rfl ib dX6_areNumbers_53 () trivial (by rcases ib with ib | ib; exact ib; exact absurd ⟨(iA ib).1, fun c h0 h1 => (iA ib).2 c h0 (by omega)⟩ hbad) [0, 1] rfl (by (repeat' split) <;> first | rfl | omega)
          · skip
            refine r_aload_n C dX6_areNumbers_25 0 rfl ?_
            refine gf_6_23 C hi_X6_areNumbers_6 kw_X6_areNumbers_1 dX6_areNumbers_26 0 rfl rfl ?_
            refine r_iload_n C dX6_areNumbers_29 1 rfl ?_
            refine r_iload C dX6_areNumbers_30 6 rfl ?_
            refine r_iadd C dX6_areNumbers_32 ?_
            refine r_iald C dX6_areNumbers_33 1 rfl (by omega) (by decide) ?_
            refine r_i2l C dX6_areNumbers_34 (by have := hSh (Int.toNat (f0 + c1)); omega) ?_
            refine r_iload_n C dX6_areNumbers_35 3 rfl ?_
            refine r_i2l C dX6_areNumbers_36 (by omega) ?_
            refine r_iload C dX6_areNumbers_37 4 rfl ?_
            refine r_i2l C dX6_areNumbers_39 (by omega) ?_
            refine g_S_i (ws2 := (fun _ => [(h0, .inr (6, [.int (iI ft), .int (iI sc), .ref u2, .ref u3, .ref u4, .ref u5, .ref u6, .ref u7, .ref u8, .int (iI rm), .int (iI wc), .ref u11, .int (iI sh), .int (iI tq), .ref u14, .int (iI cnt), .ref u16, .int (iI gf), .int (iI gs), .int (iI rc), .ref u20, .ref u21, .ref u22, .ref u23, .ref u24, .int (iI tc)])), (u23, .inl (X.2.1.1, 240, .inl (iF Sh)))])) (As := [.long (lI (Sh (Int.toNat (f0 + c1)))), .long (lI g1), .long (lI g2)]) C (c_X6_in l X (Sh (Int.toNat (f0 + c1))) g1 g2 (by first | assumption | have := hSh (Int.toNat (f0 + c1)); omega) (by first | assumption | omega) (by first | assumption | omega)) gX6_areNumbers_X6_in rfl rfl rfl hd_S_X6_in_X6_areNumbers (by decide) dX6_areNumbers_40 [] [0, 1] [0, 1] rfl rfl rfl rfl (by decide) rfl rfl rfl (Nat.le_of_ble_eq_true rfl) (by decide) (fun _ => rfl) (fun _ hy_ => ?_)
            clear hy_
            refine r_ite (fun h_7 => ?_) (fun h_7 => ?_)
            · skip
              refine r_istore (lo2 := [(5, .int (iI 1)), (0, .ref h0), (1, .int (iI f0)), (2, .int (iI m1)), (3, .int (iI g1)), (4, .int (iI g2)), (6, .int (iI c1))]) C dX6_areNumbers_43 (by decide) rfl ?_
              refine r_iinc (lo2 := [(6, .int (iI (c1 + 1))), (5, .int (iI 1)), (0, .ref h0), (1, .int (iI f0)), (2, .int (iI m1)), (3, .int (iI g1)), (4, .int (iI g2))]) C dX6_areNumbers_45 6 rfl (by decide) rfl ?_
              refine r_goto (tgt := 14) C dX6_areNumbers_48 (by decide) ?_
              refine r_lo [2, 3, 4, 5, 6, 1, 0] (lo2 := [(0, .ref h0), (1, .int (iI f0)), (2, .int (iI m1)), (3, .int (iI g1)), (4, .int (iI g2)), (5, .int (iI 1)), (6, .int (iI (c1 + 1)))]) rfl ?_
              exact ih14 1 (c1 + 1) (by omega) (by omega) (fun q => by first | (exact absurd q (by decide)) | (obtain ⟨q1, q2⟩ := iA (by omega); exact ⟨q1, fun c h0 h1 => by by_cases z : c < c1; exact q2 c h0 z; rw [show c = c1 by omega]; omega⟩)) (by omega)
            · skip
              refine r_istore (lo2 := [(5, .int (iI 0)), (0, .ref h0), (1, .int (iI f0)), (2, .int (iI m1)), (3, .int (iI g1)), (4, .int (iI g2)), (6, .int (iI c1))]) C dX6_areNumbers_43 (by decide) rfl ?_
              refine r_iinc (lo2 := [(6, .int (iI (c1 + 1))), (5, .int (iI 0)), (0, .ref h0), (1, .int (iI f0)), (2, .int (iI m1)), (3, .int (iI g1)), (4, .int (iI g2))]) C dX6_areNumbers_45 6 rfl (by decide) rfl ?_
              refine r_goto (tgt := 14) C dX6_areNumbers_48 (by decide) ?_
              refine r_lo [2, 3, 4, 5, 6, 1, 0] (lo2 := [(0, .ref h0), (1, .int (iI f0)), (2, .int (iI m1)), (3, .int (iI g1)), (4, .int (iI g2)), (5, .int (iI 0)), (6, .int (iI (c1 + 1)))]) rfl ?_
              exact ih14 0 (c1 + 1) (by omega) (by omega) (fun q => by first | (exact absurd q (by decide)) | (obtain ⟨q1, q2⟩ := iA (by omega); exact ⟨q1, fun c h0 h1 => by by_cases z : c < c1; exact q2 c h0 z; rw [show c = c1 by omega]; omega⟩)) (by omega)
    refine r_lo [2, 3, 4, 5, 6, 1, 0] (lo2 := [(0, .ref h0), (1, .int (iI f0)), (2, .int (iI m1)), (3, .int (iI g1)), (4, .int (iI g2)), (5, .int (iI 0)), (6, .int (iI 0))]) rfl ?_
    exact L14 ((m1 - (0 : Int)).toNat + 1) 0 0 (by omega) (by omega) (fun q => ⟨by omega, fun c h0 h1 => by omega⟩) (Nat.lt_succ_self _)

set_option maxRecDepth 20000 in
theorem hd_V_X6_barred_X6_waves : yX6_barred.cls = yX6_barred.cls ∧ yX6_barred.cls ≠ "java/lang/invoke/MethodHandle" ∧ yX6_barred.cls ≠ "java/lang/invoke/VarHandle" ∧ (parseMethodDescriptor yX6_barred.desc).map (fun d => d.parameters.length) = some 4 := by decide +kernel
set_option maxHeartbeats 4000000 in
set_option maxRecDepth 100000 in
theorem c_X6_waves_no (l : Launch) (X : gX) (h0 : Nat) (u2 : Nat) (u3 : Nat) (u4 : Nat) (u5 : Nat) (u6 : Nat) (u7 : Nat) (u8 : Nat) (u11 : Nat) (u14 : Nat) (u16 : Nat) (u20 : Nat) (u21 : Nat) (u22 : Nat) (u23 : Nat) (u24 : Nat) (ft : Int) (sc : Int) (rm : Int) (wc : Int) (sh : Int) (tq : Int) (cnt : Int) (gf : Int) (gs : Int) (rc : Int) (tc : Int) (Ss : Nat → Int) (Sl : Nat → Int) (Sh : Nat → Int) (Fw : Nat → Int) (k : Int) (w : Int) (i1 : Int) (m1 : Int) (hx : 0 ≤ k ∧ k < 4) (hb_w : inB w) (hb_i1 : inB i1) (hb_m1 : inB m1) (hSs : ∀ i, -1 ≤ Ss i ∧ Ss i ≤ 60) (hSl : ∀ i, 0 ≤ Sl i ∧ Sl i ≤ 2) (hSh : ∀ i, inB (Sh i)) (hok : ¬ (0 ≤ w ∧ w ≤ 2 ∧ 0 ≤ (Ss (Int.toNat k)) ∧ (Sl (Int.toNat k)) = w ∧ 0 ≤ i1 ∧ 0 ≤ m1 ∧ i1 + m1 ≤ (Ss (Int.toNat k)))) : gM l yX6_waves wsX6_waves (gr 3 0 0) X [(h0, .inr (6, [.int (iI ft), .int (iI sc), .ref u2, .ref u3, .ref u4, .ref u5, .ref u6, .ref u7, .ref u8, .int (iI rm), .int (iI wc), .ref u11, .int (iI sh), .int (iI tq), .ref u14, .int (iI cnt), .ref u16, .int (iI gf), .int (iI gs), .int (iI rc), .ref u20, .ref u21, .ref u22, .ref u23, .ref u24, .int (iI tc)])), (u21, .inl (X.2.1.1, 4, .inl (iF Ss))), (u22, .inl (X.2.1.1, 4, .inl (iF Sl))), (u23, .inl (X.2.1.1, 240, .inl (iF Sh))), (u11, .inl (X.2.1.1, 20, .inl (iF Fw)))] [.ref h0, .int (iI k), .int (iI w), .int (iI i1), .int (iI m1)] (gQi X (Y := Unit) (fun _ => True) (fun _ => (if ¬ (0 ≤ w ∧ w ≤ 2) then -2 else if (Ss (Int.toNat k)) < 0 then -11 else if ¬ (Sl (Int.toNat k)) = w then -12 else if m1 < 0 then -14 else -13)) (fun _ => [(h0, .inr (6, [.int (iI (if ¬ (0 ≤ w ∧ w ≤ 2) then 0 else if (Ss (Int.toNat k)) < 0 then 1 else if ¬ (Sl (Int.toNat k)) = w then 2 else if m1 < 0 then 4 else 3)), .int (iI sc), .ref u2, .ref u3, .ref u4, .ref u5, .ref u6, .ref u7, .ref u8, .int (iI rm), .int (iI wc), .ref u11, .int (iI sh), .int (iI tq), .ref u14, .int (iI cnt), .ref u16, .int (iI gf), .int (iI gs), .int (iI rc), .ref u20, .ref u21, .ref u22, .ref u23, .ref u24, .int (iI tc)])), (u21, .inl (X.2.1.1, 4, .inl (iF Ss))), (u22, .inl (X.2.1.1, 4, .inl (iF Sl))), (u23, .inl (X.2.1.1, 240, .inl (iF Sh))), (u11, .inl (X.2.1.1, 20, .inl (iF Fw)))])) 0 0 := by
  refine g_start2 (lo := [(0, .ref h0), (1, .int (iI k)), (2, .int (iI w)), (3, .int (iI i1)), (4, .int (iI m1))]) (by decide +kernel) rfl rfl (Nat.le_of_ble_eq_true rfl) (fun p e s m args below meth c A C => ?_)
  have qs1 := hSs (Int.toNat k)
  have ql1 := hSl (Int.toNat k)
  refine r_aload_n C dX6_waves_0 0 rfl ?_
  refine r_iload_n C dX6_waves_1 1 rfl ?_
  refine r_iload_n C dX6_waves_2 2 rfl ?_
  refine r_iload_n C dX6_waves_3 3 rfl ?_
  refine r_iload C dX6_waves_4 4 rfl ?_
  refine r_i2l C dX6_waves_6 (by omega) ?_
  refine g_V_i (ws2 := (fun y_1 => [(h0, .inr (6, [.int (iI (if ¬ (0 ≤ w ∧ w ≤ 2) then 0 else if (Ss (Int.toNat k)) < 0 then 1 else if ¬ (Sl (Int.toNat k)) = w then 2 else if m1 < 0 then 4 else 3)), .int (iI sc), .ref u2, .ref u3, .ref u4, .ref u5, .ref u6, .ref u7, .ref u8, .int (iI rm), .int (iI wc), .ref u11, .int (iI sh), .int (iI tq), .ref u14, .int (iI cnt), .ref u16, .int (iI gf), .int (iI gs), .int (iI rc), .ref u20, .ref u21, .ref u22, .ref u23, .ref u24, .int (iI tc)])), (u21, .inl (X.2.1.1, 4, .inl (iF Ss))), (u22, .inl (X.2.1.1, 4, .inl (iF Sl))), (u23, .inl (X.2.1.1, 240, .inl (iF Sh))), (u11, .inl (X.2.1.1, 20, .inl (iF Fw)))])) (As := [.int (iI k), .int (iI w), .int (iI i1), .long (lI m1)]) C (c_X6_barred_no l X h0 u2 u3 u4 u5 u6 u7 u8 u11 u14 u16 u20 u21 u22 u23 u24 ft sc rm wc sh tq cnt gf gs rc tc Ss Sl k w i1 m1 (by first | assumption | omega) (by first | assumption | omega) (by first | assumption | omega) (by first | assumption | omega) (by assumption) (by assumption) (by first | assumption | have := hSs (Int.toNat k); have := hSl (Int.toNat k); omega)) gX6_waves_X6_barred rfl rfl rfl hd_V_X6_barred_X6_waves (by decide) dX6_waves_7 [0, 1, 2] [3, 4] [2, 3, 4, 0, 1] rfl rfl rfl rfl (by decide) rfl 0 6 rfl rfl rfl rfl (Nat.le_of_ble_eq_true rfl) (by decide) (fun _ => rfl) (fun y_1 hy_ => ?_)
  have y_2 := hy_
  obtain ⟨y_3, y_4⟩ := y_2
  clear hy_
  refine r_istore (lo2 := [(5, .int (iI y_1)), (0, .ref h0), (1, .int (iI k)), (2, .int (iI w)), (3, .int (iI i1)), (4, .int (iI m1))]) C dX6_waves_10 (by decide) rfl ?_
  refine r_iload C dX6_waves_12 0 rfl ?_
  refine r_if_ge (tgt := 20) C dX6_waves_14 (by decide) (by omega) (fun h_5 => absurd h_5 (by omega)) (fun h_5 => ?_)
  refine r_iload C dX6_waves_17 0 rfl ?_
  exact g_ret_i C rfl dX6_waves_19 () trivial (by (repeat' split) <;> first | rfl | omega) [0, 1, 2, 3, 4] rfl (by (repeat' split) <;> first | rfl | omega)

set_option maxRecDepth 20000 in
theorem hd_V_X6_areNumbers_X6_waves : yX6_areNumbers.cls = yX6_areNumbers.cls ∧ yX6_areNumbers.cls ≠ "java/lang/invoke/MethodHandle" ∧ yX6_areNumbers.cls ≠ "java/lang/invoke/VarHandle" ∧ (parseMethodDescriptor yX6_areNumbers.desc).map (fun d => d.parameters.length) = some 4 := by decide +kernel
set_option maxRecDepth 20000 in
theorem hd_V_X6_refused_X6_waves : yX6_refused.cls = yX6_refused.cls ∧ yX6_refused.cls ≠ "java/lang/invoke/MethodHandle" ∧ yX6_refused.cls ≠ "java/lang/invoke/VarHandle" ∧ (parseMethodDescriptor yX6_refused.desc).map (fun d => d.parameters.length) = some 1 := by decide +kernel
set_option maxHeartbeats 4000000 in
set_option maxRecDepth 100000 in
theorem c_X6_waves_bad (l : Launch) (X : gX) (h0 : Nat) (u2 : Nat) (u3 : Nat) (u4 : Nat) (u5 : Nat) (u6 : Nat) (u7 : Nat) (u8 : Nat) (u11 : Nat) (u14 : Nat) (u16 : Nat) (u20 : Nat) (u21 : Nat) (u22 : Nat) (u23 : Nat) (u24 : Nat) (ft : Int) (sc : Int) (rm : Int) (wc : Int) (sh : Int) (tq : Int) (cnt : Int) (gf : Int) (gs : Int) (rc : Int) (tc : Int) (Ss : Nat → Int) (Sl : Nat → Int) (Sh : Nat → Int) (Fw : Nat → Int) (k : Int) (w : Int) (i1 : Int) (m1 : Int) (hx : 0 ≤ k ∧ k < 4) (hb_w : inB w) (hb_i1 : inB i1) (hb_m1 : inB m1) (hSs : ∀ i, -1 ≤ Ss i ∧ Ss i ≤ 60) (hSl : ∀ i, 0 ≤ Sl i ∧ Sl i ≤ 2) (hSh : ∀ i, inB (Sh i)) (hok : (0 ≤ w ∧ w ≤ 2 ∧ 0 ≤ (Ss (Int.toNat k)) ∧ (Sl (Int.toNat k)) = w ∧ 0 ≤ i1 ∧ 0 ≤ m1 ∧ i1 + m1 ≤ (Ss (Int.toNat k)))) (hbad : ¬ ((1 ≤ m1 ∧ m1 ≤ 20) ∧ ∀ c : Int, 0 ≤ c → c < m1 → (-9) ≤ Sh (Int.toNat ((60 * k + i1) + c)) ∧ Sh (Int.toNat ((60 * k + i1) + c)) ≤ 9)) : gM l yX6_waves wsX6_waves (gr 3 0 0) X [(h0, .inr (6, [.int (iI ft), .int (iI sc), .ref u2, .ref u3, .ref u4, .ref u5, .ref u6, .ref u7, .ref u8, .int (iI rm), .int (iI wc), .ref u11, .int (iI sh), .int (iI tq), .ref u14, .int (iI cnt), .ref u16, .int (iI gf), .int (iI gs), .int (iI rc), .ref u20, .ref u21, .ref u22, .ref u23, .ref u24, .int (iI tc)])), (u21, .inl (X.2.1.1, 4, .inl (iF Ss))), (u22, .inl (X.2.1.1, 4, .inl (iF Sl))), (u23, .inl (X.2.1.1, 240, .inl (iF Sh))), (u11, .inl (X.2.1.1, 20, .inl (iF Fw)))] [.ref h0, .int (iI k), .int (iI w), .int (iI i1), .int (iI m1)] (gQi X (Y := Unit) (fun _ => True) (fun _ => -2) (fun _ => [(h0, .inr (6, [.int (iI 0), .int (iI sc), .ref u2, .ref u3, .ref u4, .ref u5, .ref u6, .ref u7, .ref u8, .int (iI rm), .int (iI wc), .ref u11, .int (iI sh), .int (iI tq), .ref u14, .int (iI cnt), .ref u16, .int (iI gf), .int (iI gs), .int (iI rc), .ref u20, .ref u21, .ref u22, .ref u23, .ref u24, .int (iI tc)])), (u21, .inl (X.2.1.1, 4, .inl (iF Ss))), (u22, .inl (X.2.1.1, 4, .inl (iF Sl))), (u23, .inl (X.2.1.1, 240, .inl (iF Sh))), (u11, .inl (X.2.1.1, 20, .inl (iF Fw)))])) 0 0 := by
  refine g_start2 (lo := [(0, .ref h0), (1, .int (iI k)), (2, .int (iI w)), (3, .int (iI i1)), (4, .int (iI m1))]) (by decide +kernel) rfl rfl (Nat.le_of_ble_eq_true rfl) (fun p e s m args below meth c A C => ?_)
  have qs1 := hSs (Int.toNat k)
  have ql1 := hSl (Int.toNat k)
  refine r_aload_n C dX6_waves_0 0 rfl ?_
  refine r_iload_n C dX6_waves_1 1 rfl ?_
  refine r_iload_n C dX6_waves_2 2 rfl ?_
  refine r_iload_n C dX6_waves_3 3 rfl ?_
  refine r_iload C dX6_waves_4 4 rfl ?_
  refine r_i2l C dX6_waves_6 (by omega) ?_
  refine g_V_i (ws2 := (fun _ => [(h0, .inr (6, [.int (iI ft), .int (iI sc), .ref u2, .ref u3, .ref u4, .ref u5, .ref u6, .ref u7, .ref u8, .int (iI rm), .int (iI wc), .ref u11, .int (iI sh), .int (iI tq), .ref u14, .int (iI cnt), .ref u16, .int (iI gf), .int (iI gs), .int (iI rc), .ref u20, .ref u21, .ref u22, .ref u23, .ref u24, .int (iI tc)])), (u21, .inl (X.2.1.1, 4, .inl (iF Ss))), (u22, .inl (X.2.1.1, 4, .inl (iF Sl))), (u23, .inl (X.2.1.1, 240, .inl (iF Sh))), (u11, .inl (X.2.1.1, 20, .inl (iF Fw)))])) (As := [.int (iI k), .int (iI w), .int (iI i1), .long (lI m1)]) C (c_X6_barred_ok l X h0 u2 u3 u4 u5 u6 u7 u8 u11 u14 u16 u20 u21 u22 u23 u24 ft sc rm wc sh tq cnt gf gs rc tc Ss Sl k w i1 m1 (by first | assumption | omega) (by first | assumption | omega) (by first | assumption | omega) (by first | assumption | omega) (by assumption) (by assumption) (by first | assumption | have := hSs (Int.toNat k); have := hSl (Int.toNat k); omega)) gX6_waves_X6_barred rfl rfl rfl hd_V_X6_barred_X6_waves (by decide) dX6_waves_7 [0, 1, 2] [3, 4] [2, 3, 4, 0, 1] rfl rfl rfl rfl (by decide) rfl 0 6 rfl rfl rfl rfl (Nat.le_of_ble_eq_true rfl) (by decide) (fun _ => rfl) (fun _ hy_ => ?_)
  clear hy_
  refine r_istore (lo2 := [(5, .int (iI 0)), (0, .ref h0), (1, .int (iI k)), (2, .int (iI w)), (3, .int (iI i1)), (4, .int (iI m1))]) C dX6_waves_10 (by decide) rfl ?_
  refine r_iload C dX6_waves_12 0 rfl ?_
  refine r_if_ge (tgt := 20) C dX6_waves_14 (by decide) (by decide) (fun h_1 => ?_) (fun h_1 => absurd h_1 (by decide))
  refine r_aload_n C dX6_waves_20 1 rfl ?_
  refine r_bipush C dX6_waves_21 (by decide) ?_
  refine r_iload_n C dX6_waves_23 2 rfl ?_
  refine r_imul C dX6_waves_24 ?_
  refine r_iload_n C dX6_waves_25 4 rfl ?_
  refine r_iadd C dX6_waves_26 ?_
  refine r_iload C dX6_waves_27 5 rfl ?_
  refine r_bipush C dX6_waves_29 (by decide) ?_
  refine r_bipush C dX6_waves_31 (by decide) ?_
  refine g_V_i (ws2 := (fun _ => [(h0, .inr (6, [.int (iI ft), .int (iI sc), .ref u2, .ref u3, .ref u4, .ref u5, .ref u6, .ref u7, .ref u8, .int (iI rm), .int (iI wc), .ref u11, .int (iI sh), .int (iI tq), .ref u14, .int (iI cnt), .ref u16, .int (iI gf), .int (iI gs), .int (iI rc), .ref u20, .ref u21, .ref u22, .ref u23, .ref u24, .int (iI tc)])), (u21, .inl (X.2.1.1, 4, .inl (iF Ss))), (u22, .inl (X.2.1.1, 4, .inl (iF Sl))), (u23, .inl (X.2.1.1, 240, .inl (iF Sh))), (u11, .inl (X.2.1.1, 20, .inl (iF Fw)))])) (As := [.int (iI ((60 * k) + i1)), .int (iI m1), .int (iI (-9)), .int (iI 9)]) C (c_X6_areNumbers_bad l X h0 u2 u3 u4 u5 u6 u7 u8 u11 u14 u16 u20 u21 u22 u23 u24 ft sc rm wc sh tq cnt gf gs rc tc Sh ((60 * k) + i1) m1 (-9) 9 (by first | assumption | omega) (by first | assumption | omega) (by first | assumption | omega) (by assumption) hbad) gX6_waves_X6_areNumbers rfl rfl rfl hd_V_X6_areNumbers_X6_waves (by decide) dX6_waves_33 [0, 3] [1, 2, 4] [3, 0, 1, 4, 2] rfl rfl rfl rfl (by decide) rfl 0 6 rfl rfl rfl rfl (Nat.le_of_ble_eq_true rfl) (by decide) (fun _ => rfl) (fun _ hy_ => ?_)
  clear hy_
  refine r_if_ne (tgt := 46) C dX6_waves_36 (by decide) (by decide) (fun h_2 => absurd h_2 (by decide)) (fun h_2 => ?_)
  refine r_aload_n C dX6_waves_39 1 rfl ?_
  refine r_bipush C dX6_waves_40 (by decide) ?_
  refine g_V_i (ws2 := (fun _ => [(h0, .inr (6, [.int (iI 0), .int (iI sc), .ref u2, .ref u3, .ref u4, .ref u5, .ref u6, .ref u7, .ref u8, .int (iI rm), .int (iI wc), .ref u11, .int (iI sh), .int (iI tq), .ref u14, .int (iI cnt), .ref u16, .int (iI gf), .int (iI gs), .int (iI rc), .ref u20, .ref u21, .ref u22, .ref u23, .ref u24, .int (iI tc)])), (u21, .inl (X.2.1.1, 4, .inl (iF Ss))), (u22, .inl (X.2.1.1, 4, .inl (iF Sl))), (u23, .inl (X.2.1.1, 240, .inl (iF Sh))), (u11, .inl (X.2.1.1, 20, .inl (iF Fw)))])) (As := [.int (iI (-2))]) C (c_X6_refused l X h0 u2 u3 u4 u5 u6 u7 u8 u11 u14 u16 u20 u21 u22 u23 u24 ft sc rm wc sh tq cnt gf gs rc tc (-2) ) gX6_waves_X6_refused rfl rfl rfl hd_V_X6_refused_X6_waves (by decide) dX6_waves_42 [0] [1, 2, 3, 4] [4, 0, 1, 2, 3] rfl rfl rfl rfl (by decide) rfl 0 6 rfl rfl rfl rfl (Nat.le_of_ble_eq_true rfl) (by decide) (fun _ => rfl) (fun _ hy_ => ?_)
  clear hy_
  exact g_ret_i C rfl dX6_waves_45 () trivial (by (repeat' split) <;> first | rfl | omega) [0, 1, 2, 3, 4] rfl (by (repeat' split) <;> first | rfl | omega)

set_option maxRecDepth 20000 in
theorem kw_X6_waves_0 : Cond.fieldLink RX6 59 "SkipStonesModel" "waveMany" "I" ∈ wsX6_waves := List.mem_of_getElem? (i := 1) rfl
set_option maxRecDepth 20000 in
theorem kw_X6_waves_1 : Cond.fieldLink RX6 31 "SkipStonesModel" "waveHigh" "[I" ∈ wsX6_waves := List.mem_of_getElem? (i := 2) rfl
set_option maxRecDepth 20000 in
theorem kw_X6_waves_2 : Cond.fieldLink RX6 49 "SkipStonesModel" "sheet" "[I" ∈ wsX6_waves := List.mem_of_getElem? (i := 3) rfl
set_option maxRecDepth 20000 in
theorem hi_X6_waves_6 : ∀ w ∈ wsX60, w ∈ wsX6_waves := fun _ h => List.mem_cons_of_mem _ (List.mem_append_right _ h)
set_option maxHeartbeats 4000000 in
set_option maxRecDepth 100000 in
theorem c_X6_waves_ok (l : Launch) (X : gX) (h0 : Nat) (u2 : Nat) (u3 : Nat) (u4 : Nat) (u5 : Nat) (u6 : Nat) (u7 : Nat) (u8 : Nat) (u11 : Nat) (u14 : Nat) (u16 : Nat) (u20 : Nat) (u21 : Nat) (u22 : Nat) (u23 : Nat) (u24 : Nat) (ft : Int) (sc : Int) (rm : Int) (wc : Int) (sh : Int) (tq : Int) (cnt : Int) (gf : Int) (gs : Int) (rc : Int) (tc : Int) (Ss : Nat → Int) (Sl : Nat → Int) (Sh : Nat → Int) (Fw : Nat → Int) (k : Int) (w : Int) (i1 : Int) (m1 : Int) (hx : 0 ≤ k ∧ k < 4) (hb_w : inB w) (hb_i1 : inB i1) (hb_m1 : inB m1) (hSs : ∀ i, -1 ≤ Ss i ∧ Ss i ≤ 60) (hSl : ∀ i, 0 ≤ Sl i ∧ Sl i ≤ 2) (hSh : ∀ i, inB (Sh i)) (hok : (0 ≤ w ∧ w ≤ 2 ∧ 0 ≤ (Ss (Int.toNat k)) ∧ (Sl (Int.toNat k)) = w ∧ 0 ≤ i1 ∧ 0 ≤ m1 ∧ i1 + m1 ≤ (Ss (Int.toNat k)))) (hm : 1 ≤ m1 ∧ m1 ≤ 20) (hall : ∀ c : Int, 0 ≤ c → c < m1 → (-9) ≤ Sh (Int.toNat ((60 * k + i1) + c)) ∧ Sh (Int.toNat ((60 * k + i1) + c)) ≤ 9) : gM l yX6_waves wsX6_waves (gr 3 0 0) X [(h0, .inr (6, [.int (iI ft), .int (iI sc), .ref u2, .ref u3, .ref u4, .ref u5, .ref u6, .ref u7, .ref u8, .int (iI rm), .int (iI wc), .ref u11, .int (iI sh), .int (iI tq), .ref u14, .int (iI cnt), .ref u16, .int (iI gf), .int (iI gs), .int (iI rc), .ref u20, .ref u21, .ref u22, .ref u23, .ref u24, .int (iI tc)])), (u21, .inl (X.2.1.1, 4, .inl (iF Ss))), (u22, .inl (X.2.1.1, 4, .inl (iF Sl))), (u23, .inl (X.2.1.1, 240, .inl (iF Sh))), (u11, .inl (X.2.1.1, 20, .inl (iF Fw)))] [.ref h0, .int (iI k), .int (iI w), .int (iI i1), .int (iI m1)] (gQi X (Y := Unit) (fun _ => True) (fun _ => m1) (fun _ => [(h0, .inr (6, [.int (iI 0), .int (iI sc), .ref u2, .ref u3, .ref u4, .ref u5, .ref u6, .ref u7, .ref u8, .int (iI rm), .int (iI m1), .ref u11, .int (iI sh), .int (iI tq), .ref u14, .int (iI cnt), .ref u16, .int (iI gf), .int (iI gs), .int (iI rc), .ref u20, .ref u21, .ref u22, .ref u23, .ref u24, .int (iI tc)])), (u21, .inl (X.2.1.1, 4, .inl (iF Ss))), (u22, .inl (X.2.1.1, 4, .inl (iF Sl))), (u23, .inl (X.2.1.1, 240, .inl (iF Sh))), (u11, .inl (X.2.1.1, 20, .inl (iF (tkI Fw Sh (60 * k + i1) m1))))])) 0 0 := by
  refine g_start2 (lo := [(0, .ref h0), (1, .int (iI k)), (2, .int (iI w)), (3, .int (iI i1)), (4, .int (iI m1))]) (by decide +kernel) rfl rfl (Nat.le_of_ble_eq_true rfl) (fun p e s m args below meth c A C => ?_)
  have qs1 := hSs (Int.toNat k)
  have ql1 := hSl (Int.toNat k)
  refine r_aload_n C dX6_waves_0 0 rfl ?_
  refine r_iload_n C dX6_waves_1 1 rfl ?_
  refine r_iload_n C dX6_waves_2 2 rfl ?_
  refine r_iload_n C dX6_waves_3 3 rfl ?_
  refine r_iload C dX6_waves_4 4 rfl ?_
  refine r_i2l C dX6_waves_6 (by omega) ?_
  refine g_V_i (ws2 := (fun _ => [(h0, .inr (6, [.int (iI ft), .int (iI sc), .ref u2, .ref u3, .ref u4, .ref u5, .ref u6, .ref u7, .ref u8, .int (iI rm), .int (iI wc), .ref u11, .int (iI sh), .int (iI tq), .ref u14, .int (iI cnt), .ref u16, .int (iI gf), .int (iI gs), .int (iI rc), .ref u20, .ref u21, .ref u22, .ref u23, .ref u24, .int (iI tc)])), (u21, .inl (X.2.1.1, 4, .inl (iF Ss))), (u22, .inl (X.2.1.1, 4, .inl (iF Sl))), (u23, .inl (X.2.1.1, 240, .inl (iF Sh))), (u11, .inl (X.2.1.1, 20, .inl (iF Fw)))])) (As := [.int (iI k), .int (iI w), .int (iI i1), .long (lI m1)]) C (c_X6_barred_ok l X h0 u2 u3 u4 u5 u6 u7 u8 u11 u14 u16 u20 u21 u22 u23 u24 ft sc rm wc sh tq cnt gf gs rc tc Ss Sl k w i1 m1 (by first | assumption | omega) (by first | assumption | omega) (by first | assumption | omega) (by first | assumption | omega) (by assumption) (by assumption) (by first | assumption | have := hSs (Int.toNat k); have := hSl (Int.toNat k); omega)) gX6_waves_X6_barred rfl rfl rfl hd_V_X6_barred_X6_waves (by decide) dX6_waves_7 [0, 1, 2] [3, 4] [2, 3, 4, 0, 1] rfl rfl rfl rfl (by decide) rfl 0 6 rfl rfl rfl rfl (Nat.le_of_ble_eq_true rfl) (by decide) (fun _ => rfl) (fun _ hy_ => ?_)
  clear hy_
  refine r_istore (lo2 := [(5, .int (iI 0)), (0, .ref h0), (1, .int (iI k)), (2, .int (iI w)), (3, .int (iI i1)), (4, .int (iI m1))]) C dX6_waves_10 (by decide) rfl ?_
  refine r_iload C dX6_waves_12 0 rfl ?_
  refine r_if_ge (tgt := 20) C dX6_waves_14 (by decide) (by decide) (fun h_1 => ?_) (fun h_1 => absurd h_1 (by decide))
  refine r_aload_n C dX6_waves_20 1 rfl ?_
  refine r_bipush C dX6_waves_21 (by decide) ?_
  refine r_iload_n C dX6_waves_23 2 rfl ?_
  refine r_imul C dX6_waves_24 ?_
  refine r_iload_n C dX6_waves_25 4 rfl ?_
  refine r_iadd C dX6_waves_26 ?_
  refine r_iload C dX6_waves_27 5 rfl ?_
  refine r_bipush C dX6_waves_29 (by decide) ?_
  refine r_bipush C dX6_waves_31 (by decide) ?_
  refine g_V_i (ws2 := (fun _ => [(h0, .inr (6, [.int (iI ft), .int (iI sc), .ref u2, .ref u3, .ref u4, .ref u5, .ref u6, .ref u7, .ref u8, .int (iI rm), .int (iI wc), .ref u11, .int (iI sh), .int (iI tq), .ref u14, .int (iI cnt), .ref u16, .int (iI gf), .int (iI gs), .int (iI rc), .ref u20, .ref u21, .ref u22, .ref u23, .ref u24, .int (iI tc)])), (u21, .inl (X.2.1.1, 4, .inl (iF Ss))), (u22, .inl (X.2.1.1, 4, .inl (iF Sl))), (u23, .inl (X.2.1.1, 240, .inl (iF Sh))), (u11, .inl (X.2.1.1, 20, .inl (iF Fw)))])) (As := [.int (iI ((60 * k) + i1)), .int (iI m1), .int (iI (-9)), .int (iI 9)]) C (c_X6_areNumbers_ok l X h0 u2 u3 u4 u5 u6 u7 u8 u11 u14 u16 u20 u21 u22 u23 u24 ft sc rm wc sh tq cnt gf gs rc tc Sh ((60 * k) + i1) m1 (-9) 9 (by first | assumption | omega) (by first | assumption | omega) (by first | assumption | omega) (by assumption) (by first | assumption | omega) hall) gX6_waves_X6_areNumbers rfl rfl rfl hd_V_X6_areNumbers_X6_waves (by decide) dX6_waves_33 [0, 3] [1, 2, 4] [3, 0, 1, 4, 2] rfl rfl rfl rfl (by decide) rfl 0 6 rfl rfl rfl rfl (Nat.le_of_ble_eq_true rfl) (by decide) (fun _ => rfl) (fun _ hy_ => ?_)
  clear hy_
  refine r_if_ne (tgt := 46) C dX6_waves_36 (by decide) (by decide) (fun h_2 => ?_) (fun h_2 => absurd h_2 (by decide))
  refine r_aload_n C dX6_waves_46 1 rfl ?_
  refine r_iload C dX6_waves_47 5 rfl ?_
  refine pf_6_10 (ws2 := [(h0, .inr (6, [.int (iI ft), .int (iI sc), .ref u2, .ref u3, .ref u4, .ref u5, .ref u6, .ref u7, .ref u8, .int (iI rm), .int (iI m1), .ref u11, .int (iI sh), .int (iI tq), .ref u14, .int (iI cnt), .ref u16, .int (iI gf), .int (iI gs), .int (iI rc), .ref u20, .ref u21, .ref u22, .ref u23, .ref u24, .int (iI tc)])), (u21, .inl (X.2.1.1, 4, .inl (iF Ss))), (u22, .inl (X.2.1.1, 4, .inl (iF Sl))), (u23, .inl (X.2.1.1, 240, .inl (iF Sh))), (u11, .inl (X.2.1.1, 20, .inl (iF Fw)))]) C hi_X6_waves_6 kw_X6_waves_0 dX6_waves_49 0 rfl rfl rfl (Nat.le_of_ble_eq_true rfl) rfl ?_
  refine r_iconst C dX6_waves_52 ?_
  refine r_istore (lo2 := [(6, .int (iI 0)), (5, .int (iI 0)), (0, .ref h0), (1, .int (iI k)), (2, .int (iI w)), (3, .int (iI i1)), (4, .int (iI m1))]) C dX6_waves_53 (by decide) rfl ?_
  have L55 : ∀ (fu55 : Nat) (c1 : Int) (G : Nat → Int), (0 ≤ c1 ∧ c1 ≤ m1) → (G = tkI Fw Sh (60 * k + i1) c1) → (m1 - c1).toNat < fu55 → gW p l e (gr 3 0 0) s m args below meth c X A 7 (MQ below ((gQi X (Y := Unit) (fun _ => True) (fun _ => m1) (fun _ => [(h0, .inr (6, [.int (iI 0), .int (iI sc), .ref u2, .ref u3, .ref u4, .ref u5, .ref u6, .ref u7, .ref u8, .int (iI rm), .int (iI m1), .ref u11, .int (iI sh), .int (iI tq), .ref u14, .int (iI cnt), .ref u16, .int (iI gf), .int (iI gs), .int (iI rc), .ref u20, .ref u21, .ref u22, .ref u23, .ref u24, .int (iI tc)])), (u21, .inl (X.2.1.1, 4, .inl (iF Ss))), (u22, .inl (X.2.1.1, 4, .inl (iF Sl))), (u23, .inl (X.2.1.1, 240, .inl (iF Sh))), (u11, .inl (X.2.1.1, 20, .inl (iF (tkI Fw Sh (60 * k + i1) m1))))])) A) args s 0 0 A) 0 0 [(h0, .inr (6, [.int (iI ft), .int (iI sc), .ref u2, .ref u3, .ref u4, .ref u5, .ref u6, .ref u7, .ref u8, .int (iI rm), .int (iI m1), .ref u11, .int (iI sh), .int (iI tq), .ref u14, .int (iI cnt), .ref u16, .int (iI gf), .int (iI gs), .int (iI rc), .ref u20, .ref u21, .ref u22, .ref u23, .ref u24, .int (iI tc)])), (u21, .inl (X.2.1.1, 4, .inl (iF Ss))), (u22, .inl (X.2.1.1, 4, .inl (iF Sl))), (u23, .inl (X.2.1.1, 240, .inl (iF Sh))), (u11, .inl (X.2.1.1, 20, .inl (iF G)))] 55 [(0, .ref h0), (1, .int (iI k)), (2, .int (iI w)), (3, .int (iI i1)), (4, .int (iI m1)), (6, .int (iI c1))] [] := by
    intro fu55
    induction fu55 with
    | zero => intro c1 G ic iG hm55; exact absurd hm55 (Nat.not_lt_zero _)
    | succ fu55 ih55 =>
      intro c1 G ic iG hm55
      refine r_iload C dX6_waves_55 5 rfl ?_
      refine r_iload C dX6_waves_57 4 rfl ?_
      refine r_icmp_ge (tgt := 89) C dX6_waves_59 (by decide) (by omega) (by omega) (fun h_3 => ?_) (fun h_3 => ?_)
      · skip
        refine r_aload_n C dX6_waves_89 0 rfl ?_
        refine r_iload C dX6_waves_90 4 rfl ?_
        refine g_V_i (ws2 := (fun _ => [(h0, .inr (6, [.int (iI 0), .int (iI sc), .ref u2, .ref u3, .ref u4, .ref u5, .ref u6, .ref u7, .ref u8, .int (iI rm), .int (iI m1), .ref u11, .int (iI sh), .int (iI tq), .ref u14, .int (iI cnt), .ref u16, .int (iI gf), .int (iI gs), .int (iI rc), .ref u20, .ref u21, .ref u22, .ref u23, .ref u24, .int (iI tc)])), (u21, .inl (X.2.1.1, 4, .inl (iF Ss))), (u22, .inl (X.2.1.1, 4, .inl (iF Sl))), (u23, .inl (X.2.1.1, 240, .inl (iF Sh))), (u11, .inl (X.2.1.1, 20, .inl (iF G)))])) (As := [.int (iI m1)]) C (c_X6_refused l X h0 u2 u3 u4 u5 u6 u7 u8 u11 u14 u16 u20 u21 u22 u23 u24 ft sc rm m1 sh tq cnt gf gs rc tc m1 ) gX6_waves_X6_refused rfl rfl rfl hd_V_X6_refused_X6_waves (by decide) dX6_waves_92 [0] [1, 2, 3, 4] [4, 0, 1, 2, 3] rfl rfl rfl rfl (by decide) rfl 0 6 rfl rfl rfl rfl (Nat.le_of_ble_eq_true rfl) (by decide) (fun _ => rfl) (fun _ hy_ => ?_)
        clear hy_
        exact g_ret_i C rfl dX6_waves_95 () trivial (by (repeat' split) <;> first | rfl | omega) [0, 1, 2, 3, 4] rfl (by rw [iG, show c1 = m1 by omega] <;> rfl)
      · skip
        refine r_aload_n C dX6_waves_62 0 rfl ?_
        refine gf_6_11 C hi_X6_waves_6 kw_X6_waves_1 dX6_waves_63 0 rfl rfl ?_
        refine r_iload C dX6_waves_66 5 rfl ?_
        refine r_aload_n C dX6_waves_68 0 rfl ?_
        refine gf_6_23 C hi_X6_waves_6 kw_X6_waves_2 dX6_waves_69 0 rfl rfl ?_
        refine r_bipush C dX6_waves_72 (by decide) ?_
        refine r_iload_n C dX6_waves_74 1 rfl ?_
        refine r_imul C dX6_waves_75 ?_
        refine r_iload_n C dX6_waves_76 3 rfl ?_
        refine r_iadd C dX6_waves_77 ?_
        refine r_iload C dX6_waves_78 5 rfl ?_
        refine r_iadd C dX6_waves_80 ?_
        refine r_iald C dX6_waves_81 3 rfl (by omega) (by decide) ?_
        refine r_iast (ws2 := [(h0, .inr (6, [.int (iI ft), .int (iI sc), .ref u2, .ref u3, .ref u4, .ref u5, .ref u6, .ref u7, .ref u8, .int (iI rm), .int (iI m1), .ref u11, .int (iI sh), .int (iI tq), .ref u14, .int (iI cnt), .ref u16, .int (iI gf), .int (iI gs), .int (iI rc), .ref u20, .ref u21, .ref u22, .ref u23, .ref u24, .int (iI tc)])), (u21, .inl (X.2.1.1, 4, .inl (iF Ss))), (u22, .inl (X.2.1.1, 4, .inl (iF Sl))), (u23, .inl (X.2.1.1, 240, .inl (iF Sh))), (u11, .inl (X.2.1.1, 20, .inl (iF (updI G (Int.toNat c1) (Sh (Int.toNat (((60 * k) + i1) + c1)))))))]) C dX6_waves_82 4 rfl (by omega) (by decide) rfl ?_
        refine r_iinc (lo2 := [(6, .int (iI (c1 + 1))), (0, .ref h0), (1, .int (iI k)), (2, .int (iI w)), (3, .int (iI i1)), (4, .int (iI m1))]) C dX6_waves_83 5 rfl (by decide) rfl ?_
        refine r_goto (tgt := 55) C dX6_waves_86 (by decide) ?_
        refine r_lo [1, 2, 3, 4, 5, 0] (lo2 := [(0, .ref h0), (1, .int (iI k)), (2, .int (iI w)), (3, .int (iI i1)), (4, .int (iI m1)), (6, .int (iI (c1 + 1)))]) rfl ?_
        exact ih55 (c1 + 1) (updI G (Int.toNat c1) (Sh (Int.toNat (((60 * k) + i1) + c1)))) (by omega) (by rw [iG]; exact tkI_go (by omega)) (by omega)
  refine r_lo [2, 3, 4, 5, 6, 0] (lo2 := [(0, .ref h0), (1, .int (iI k)), (2, .int (iI w)), (3, .int (iI i1)), (4, .int (iI m1)), (6, .int (iI 0))]) rfl ?_
  exact L55 ((m1 - (0 : Int)).toNat + 1) 0 Fw (by omega) (tkI_0 _ _ _).symm (Nat.lt_succ_self _)

set_option maxHeartbeats 4000000 in
set_option maxRecDepth 100000 in
theorem c_X6_waves_out (l : Launch) (X : gX) (h0 : Nat) (u2 : Nat) (u3 : Nat) (u4 : Nat) (u5 : Nat) (u6 : Nat) (u7 : Nat) (u8 : Nat) (u11 : Nat) (u14 : Nat) (u16 : Nat) (u20 : Nat) (u21 : Nat) (u22 : Nat) (u23 : Nat) (u24 : Nat) (ft : Int) (sc : Int) (rm : Int) (wc : Int) (sh : Int) (tq : Int) (cnt : Int) (gf : Int) (gs : Int) (rc : Int) (tc : Int) (k : Int) (w : Int) (i1 : Int) (m1 : Int) (hx : ¬ (0 ≤ k ∧ k < 4)) (hbk : inB k) (hb_m1 : inB m1) : gM l yX6_waves wsX6_waves (gr 3 0 0) X [(h0, .inr (6, [.int (iI ft), .int (iI sc), .ref u2, .ref u3, .ref u4, .ref u5, .ref u6, .ref u7, .ref u8, .int (iI rm), .int (iI wc), .ref u11, .int (iI sh), .int (iI tq), .ref u14, .int (iI cnt), .ref u16, .int (iI gf), .int (iI gs), .int (iI rc), .ref u20, .ref u21, .ref u22, .ref u23, .ref u24, .int (iI tc)]))] [.ref h0, .int (iI k), .int (iI w), .int (iI i1), .int (iI m1)] (gQi X (Y := Unit) (fun _ => True) (fun _ => -1) (fun _ => [(h0, .inr (6, [.int (iI 0), .int (iI sc), .ref u2, .ref u3, .ref u4, .ref u5, .ref u6, .ref u7, .ref u8, .int (iI rm), .int (iI wc), .ref u11, .int (iI sh), .int (iI tq), .ref u14, .int (iI cnt), .ref u16, .int (iI gf), .int (iI gs), .int (iI rc), .ref u20, .ref u21, .ref u22, .ref u23, .ref u24, .int (iI tc)]))])) 0 0 := by
  refine g_start2 (lo := [(0, .ref h0), (1, .int (iI k)), (2, .int (iI w)), (3, .int (iI i1)), (4, .int (iI m1))]) (by decide +kernel) rfl rfl (Nat.le_of_ble_eq_true rfl) (fun p e s m args below meth c A C => ?_)
  refine r_aload_n C dX6_waves_0 0 rfl ?_
  refine r_iload_n C dX6_waves_1 1 rfl ?_
  refine r_iload_n C dX6_waves_2 2 rfl ?_
  refine r_iload_n C dX6_waves_3 3 rfl ?_
  refine r_iload C dX6_waves_4 4 rfl ?_
  refine r_i2l C dX6_waves_6 (by omega) ?_
  refine g_V_i (ws2 := (fun _ => [(h0, .inr (6, [.int (iI 0), .int (iI sc), .ref u2, .ref u3, .ref u4, .ref u5, .ref u6, .ref u7, .ref u8, .int (iI rm), .int (iI wc), .ref u11, .int (iI sh), .int (iI tq), .ref u14, .int (iI cnt), .ref u16, .int (iI gf), .int (iI gs), .int (iI rc), .ref u20, .ref u21, .ref u22, .ref u23, .ref u24, .int (iI tc)]))])) (As := [.int (iI k), .int (iI w), .int (iI i1), .long (lI m1)]) C (c_X6_barred_out l X h0 u2 u3 u4 u5 u6 u7 u8 u11 u14 u16 u20 u21 u22 u23 u24 ft sc rm wc sh tq cnt gf gs rc tc k w i1 m1 (by first | assumption | omega) (by first | assumption | omega)) gX6_waves_X6_barred rfl rfl rfl hd_V_X6_barred_X6_waves (by decide) dX6_waves_7 [0] [] [0] rfl rfl rfl rfl (by decide) rfl 0 6 rfl rfl rfl rfl (Nat.le_of_ble_eq_true rfl) (by decide) (fun _ => rfl) (fun _ hy_ => ?_)
  clear hy_
  refine r_istore (lo2 := [(5, .int (iI (-1))), (0, .ref h0), (1, .int (iI k)), (2, .int (iI w)), (3, .int (iI i1)), (4, .int (iI m1))]) C dX6_waves_10 (by decide) rfl ?_
  refine r_iload C dX6_waves_12 0 rfl ?_
  refine r_if_ge (tgt := 20) C dX6_waves_14 (by decide) (by omega) (fun h_1 => absurd h_1 (by omega)) (fun h_1 => ?_)
  refine r_iload C dX6_waves_17 0 rfl ?_
  exact g_ret_i C rfl dX6_waves_19 () trivial (by (repeat' split) <;> first | rfl | omega) [0] rfl (by (repeat' split) <;> first | rfl | omega)

set_option maxRecDepth 20000 in
theorem hd_V_X6_barred_X6_rings : yX6_barred.cls = yX6_barred.cls ∧ yX6_barred.cls ≠ "java/lang/invoke/MethodHandle" ∧ yX6_barred.cls ≠ "java/lang/invoke/VarHandle" ∧ (parseMethodDescriptor yX6_barred.desc).map (fun d => d.parameters.length) = some 4 := by decide +kernel
set_option maxHeartbeats 4000000 in
set_option maxRecDepth 100000 in
theorem c_X6_rings_no (l : Launch) (X : gX) (h0 : Nat) (u2 : Nat) (u3 : Nat) (u4 : Nat) (u5 : Nat) (u6 : Nat) (u7 : Nat) (u8 : Nat) (u11 : Nat) (u14 : Nat) (u16 : Nat) (u20 : Nat) (u21 : Nat) (u22 : Nat) (u23 : Nat) (u24 : Nat) (ft : Int) (sc : Int) (rm : Int) (wc : Int) (sh : Int) (tq : Int) (cnt : Int) (gf : Int) (gs : Int) (rc : Int) (tc : Int) (Ss : Nat → Int) (Sl : Nat → Int) (Sh : Nat → Int) (Pr : Nat → Int) (k : Int) (w : Int) (i1 : Int) (m1 : Int) (hx : 0 ≤ k ∧ k < 4) (hb_w : inB w) (hb_i1 : inB i1) (hb_m1 : inB m1) (hSs : ∀ i, -1 ≤ Ss i ∧ Ss i ≤ 60) (hSl : ∀ i, 0 ≤ Sl i ∧ Sl i ≤ 2) (hSh : ∀ i, inB (Sh i)) (hok : ¬ (0 ≤ w ∧ w ≤ 2 ∧ 0 ≤ (Ss (Int.toNat k)) ∧ (Sl (Int.toNat k)) = w ∧ 0 ≤ i1 ∧ 0 ≤ m1 ∧ i1 + m1 ≤ (Ss (Int.toNat k)))) : gM l yX6_rings wsX6_rings (gr 3 0 0) X [(h0, .inr (6, [.int (iI ft), .int (iI sc), .ref u2, .ref u3, .ref u4, .ref u5, .ref u6, .ref u7, .ref u8, .int (iI rm), .int (iI wc), .ref u11, .int (iI sh), .int (iI tq), .ref u14, .int (iI cnt), .ref u16, .int (iI gf), .int (iI gs), .int (iI rc), .ref u20, .ref u21, .ref u22, .ref u23, .ref u24, .int (iI tc)])), (u21, .inl (X.2.1.1, 4, .inl (iF Ss))), (u22, .inl (X.2.1.1, 4, .inl (iF Sl))), (u23, .inl (X.2.1.1, 240, .inl (iF Sh))), (u20, .inl (X.2.1.1, 20, .inl (iF Pr)))] [.ref h0, .int (iI k), .int (iI w), .int (iI i1), .int (iI m1)] (gQi X (Y := Unit) (fun _ => True) (fun _ => (if ¬ (0 ≤ w ∧ w ≤ 2) then -2 else if (Ss (Int.toNat k)) < 0 then -11 else if ¬ (Sl (Int.toNat k)) = w then -12 else if m1 < 0 then -14 else -13)) (fun _ => [(h0, .inr (6, [.int (iI (if ¬ (0 ≤ w ∧ w ≤ 2) then 0 else if (Ss (Int.toNat k)) < 0 then 1 else if ¬ (Sl (Int.toNat k)) = w then 2 else if m1 < 0 then 4 else 3)), .int (iI sc), .ref u2, .ref u3, .ref u4, .ref u5, .ref u6, .ref u7, .ref u8, .int (iI rm), .int (iI wc), .ref u11, .int (iI sh), .int (iI tq), .ref u14, .int (iI cnt), .ref u16, .int (iI gf), .int (iI gs), .int (iI rc), .ref u20, .ref u21, .ref u22, .ref u23, .ref u24, .int (iI tc)])), (u21, .inl (X.2.1.1, 4, .inl (iF Ss))), (u22, .inl (X.2.1.1, 4, .inl (iF Sl))), (u23, .inl (X.2.1.1, 240, .inl (iF Sh))), (u20, .inl (X.2.1.1, 20, .inl (iF Pr)))])) 0 0 := by
  refine g_start2 (lo := [(0, .ref h0), (1, .int (iI k)), (2, .int (iI w)), (3, .int (iI i1)), (4, .int (iI m1))]) (by decide +kernel) rfl rfl (Nat.le_of_ble_eq_true rfl) (fun p e s m args below meth c A C => ?_)
  have qs1 := hSs (Int.toNat k)
  have ql1 := hSl (Int.toNat k)
  refine r_aload_n C dX6_rings_0 0 rfl ?_
  refine r_iload_n C dX6_rings_1 1 rfl ?_
  refine r_iload_n C dX6_rings_2 2 rfl ?_
  refine r_iload_n C dX6_rings_3 3 rfl ?_
  refine r_iload C dX6_rings_4 4 rfl ?_
  refine r_i2l C dX6_rings_6 (by omega) ?_
  refine g_V_i (ws2 := (fun y_1 => [(h0, .inr (6, [.int (iI (if ¬ (0 ≤ w ∧ w ≤ 2) then 0 else if (Ss (Int.toNat k)) < 0 then 1 else if ¬ (Sl (Int.toNat k)) = w then 2 else if m1 < 0 then 4 else 3)), .int (iI sc), .ref u2, .ref u3, .ref u4, .ref u5, .ref u6, .ref u7, .ref u8, .int (iI rm), .int (iI wc), .ref u11, .int (iI sh), .int (iI tq), .ref u14, .int (iI cnt), .ref u16, .int (iI gf), .int (iI gs), .int (iI rc), .ref u20, .ref u21, .ref u22, .ref u23, .ref u24, .int (iI tc)])), (u21, .inl (X.2.1.1, 4, .inl (iF Ss))), (u22, .inl (X.2.1.1, 4, .inl (iF Sl))), (u23, .inl (X.2.1.1, 240, .inl (iF Sh))), (u20, .inl (X.2.1.1, 20, .inl (iF Pr)))])) (As := [.int (iI k), .int (iI w), .int (iI i1), .long (lI m1)]) C (c_X6_barred_no l X h0 u2 u3 u4 u5 u6 u7 u8 u11 u14 u16 u20 u21 u22 u23 u24 ft sc rm wc sh tq cnt gf gs rc tc Ss Sl k w i1 m1 (by first | assumption | omega) (by first | assumption | omega) (by first | assumption | omega) (by first | assumption | omega) (by assumption) (by assumption) (by first | assumption | have := hSs (Int.toNat k); have := hSl (Int.toNat k); omega)) gX6_rings_X6_barred rfl rfl rfl hd_V_X6_barred_X6_rings (by decide) dX6_rings_7 [0, 1, 2] [3, 4] [2, 3, 4, 0, 1] rfl rfl rfl rfl (by decide) rfl 0 6 rfl rfl rfl rfl (Nat.le_of_ble_eq_true rfl) (by decide) (fun _ => rfl) (fun y_1 hy_ => ?_)
  have y_2 := hy_
  obtain ⟨y_3, y_4⟩ := y_2
  clear hy_
  refine r_istore (lo2 := [(5, .int (iI y_1)), (0, .ref h0), (1, .int (iI k)), (2, .int (iI w)), (3, .int (iI i1)), (4, .int (iI m1))]) C dX6_rings_10 (by decide) rfl ?_
  refine r_iload C dX6_rings_12 0 rfl ?_
  refine r_if_ge (tgt := 20) C dX6_rings_14 (by decide) (by omega) (fun h_5 => absurd h_5 (by omega)) (fun h_5 => ?_)
  refine r_iload C dX6_rings_17 0 rfl ?_
  exact g_ret_i C rfl dX6_rings_19 () trivial (by (repeat' split) <;> first | rfl | omega) [0, 1, 2, 3, 4] rfl (by (repeat' split) <;> first | rfl | omega)

set_option maxRecDepth 20000 in
theorem kw_X6_rings_0 : Cond.constant RX6 206 (2147483647) ∈ wsX6_rings := List.mem_of_getElem? (i := 1) rfl
set_option maxRecDepth 20000 in
theorem hd_V_X6_areNumbers_X6_rings : yX6_areNumbers.cls = yX6_areNumbers.cls ∧ yX6_areNumbers.cls ≠ "java/lang/invoke/MethodHandle" ∧ yX6_areNumbers.cls ≠ "java/lang/invoke/VarHandle" ∧ (parseMethodDescriptor yX6_areNumbers.desc).map (fun d => d.parameters.length) = some 4 := by decide +kernel
set_option maxRecDepth 20000 in
theorem hd_V_X6_refused_X6_rings : yX6_refused.cls = yX6_refused.cls ∧ yX6_refused.cls ≠ "java/lang/invoke/MethodHandle" ∧ yX6_refused.cls ≠ "java/lang/invoke/VarHandle" ∧ (parseMethodDescriptor yX6_refused.desc).map (fun d => d.parameters.length) = some 1 := by decide +kernel
set_option maxHeartbeats 4000000 in
set_option maxRecDepth 100000 in
theorem c_X6_rings_bad (l : Launch) (X : gX) (h0 : Nat) (u2 : Nat) (u3 : Nat) (u4 : Nat) (u5 : Nat) (u6 : Nat) (u7 : Nat) (u8 : Nat) (u11 : Nat) (u14 : Nat) (u16 : Nat) (u20 : Nat) (u21 : Nat) (u22 : Nat) (u23 : Nat) (u24 : Nat) (ft : Int) (sc : Int) (rm : Int) (wc : Int) (sh : Int) (tq : Int) (cnt : Int) (gf : Int) (gs : Int) (rc : Int) (tc : Int) (Ss : Nat → Int) (Sl : Nat → Int) (Sh : Nat → Int) (Pr : Nat → Int) (k : Int) (w : Int) (i1 : Int) (m1 : Int) (hx : 0 ≤ k ∧ k < 4) (hb_w : inB w) (hb_i1 : inB i1) (hb_m1 : inB m1) (hSs : ∀ i, -1 ≤ Ss i ∧ Ss i ≤ 60) (hSl : ∀ i, 0 ≤ Sl i ∧ Sl i ≤ 2) (hSh : ∀ i, inB (Sh i)) (hok : (0 ≤ w ∧ w ≤ 2 ∧ 0 ≤ (Ss (Int.toNat k)) ∧ (Sl (Int.toNat k)) = w ∧ 0 ≤ i1 ∧ 0 ≤ m1 ∧ i1 + m1 ≤ (Ss (Int.toNat k)))) (hbad : ¬ ((1 ≤ m1 ∧ m1 ≤ 20) ∧ ∀ c : Int, 0 ≤ c → c < m1 → 1 ≤ Sh (Int.toNat ((60 * k + i1) + c)) ∧ Sh (Int.toNat ((60 * k + i1) + c)) ≤ 2147483647)) : gM l yX6_rings wsX6_rings (gr 3 0 0) X [(h0, .inr (6, [.int (iI ft), .int (iI sc), .ref u2, .ref u3, .ref u4, .ref u5, .ref u6, .ref u7, .ref u8, .int (iI rm), .int (iI wc), .ref u11, .int (iI sh), .int (iI tq), .ref u14, .int (iI cnt), .ref u16, .int (iI gf), .int (iI gs), .int (iI rc), .ref u20, .ref u21, .ref u22, .ref u23, .ref u24, .int (iI tc)])), (u21, .inl (X.2.1.1, 4, .inl (iF Ss))), (u22, .inl (X.2.1.1, 4, .inl (iF Sl))), (u23, .inl (X.2.1.1, 240, .inl (iF Sh))), (u20, .inl (X.2.1.1, 20, .inl (iF Pr)))] [.ref h0, .int (iI k), .int (iI w), .int (iI i1), .int (iI m1)] (gQi X (Y := Unit) (fun _ => True) (fun _ => -2) (fun _ => [(h0, .inr (6, [.int (iI 0), .int (iI sc), .ref u2, .ref u3, .ref u4, .ref u5, .ref u6, .ref u7, .ref u8, .int (iI rm), .int (iI wc), .ref u11, .int (iI sh), .int (iI tq), .ref u14, .int (iI cnt), .ref u16, .int (iI gf), .int (iI gs), .int (iI rc), .ref u20, .ref u21, .ref u22, .ref u23, .ref u24, .int (iI tc)])), (u21, .inl (X.2.1.1, 4, .inl (iF Ss))), (u22, .inl (X.2.1.1, 4, .inl (iF Sl))), (u23, .inl (X.2.1.1, 240, .inl (iF Sh))), (u20, .inl (X.2.1.1, 20, .inl (iF Pr)))])) 0 0 := by
  refine g_start2 (lo := [(0, .ref h0), (1, .int (iI k)), (2, .int (iI w)), (3, .int (iI i1)), (4, .int (iI m1))]) (by decide +kernel) rfl rfl (Nat.le_of_ble_eq_true rfl) (fun p e s m args below meth c A C => ?_)
  have qs1 := hSs (Int.toNat k)
  have ql1 := hSl (Int.toNat k)
  refine r_aload_n C dX6_rings_0 0 rfl ?_
  refine r_iload_n C dX6_rings_1 1 rfl ?_
  refine r_iload_n C dX6_rings_2 2 rfl ?_
  refine r_iload_n C dX6_rings_3 3 rfl ?_
  refine r_iload C dX6_rings_4 4 rfl ?_
  refine r_i2l C dX6_rings_6 (by omega) ?_
  refine g_V_i (ws2 := (fun _ => [(h0, .inr (6, [.int (iI ft), .int (iI sc), .ref u2, .ref u3, .ref u4, .ref u5, .ref u6, .ref u7, .ref u8, .int (iI rm), .int (iI wc), .ref u11, .int (iI sh), .int (iI tq), .ref u14, .int (iI cnt), .ref u16, .int (iI gf), .int (iI gs), .int (iI rc), .ref u20, .ref u21, .ref u22, .ref u23, .ref u24, .int (iI tc)])), (u21, .inl (X.2.1.1, 4, .inl (iF Ss))), (u22, .inl (X.2.1.1, 4, .inl (iF Sl))), (u23, .inl (X.2.1.1, 240, .inl (iF Sh))), (u20, .inl (X.2.1.1, 20, .inl (iF Pr)))])) (As := [.int (iI k), .int (iI w), .int (iI i1), .long (lI m1)]) C (c_X6_barred_ok l X h0 u2 u3 u4 u5 u6 u7 u8 u11 u14 u16 u20 u21 u22 u23 u24 ft sc rm wc sh tq cnt gf gs rc tc Ss Sl k w i1 m1 (by first | assumption | omega) (by first | assumption | omega) (by first | assumption | omega) (by first | assumption | omega) (by assumption) (by assumption) (by first | assumption | have := hSs (Int.toNat k); have := hSl (Int.toNat k); omega)) gX6_rings_X6_barred rfl rfl rfl hd_V_X6_barred_X6_rings (by decide) dX6_rings_7 [0, 1, 2] [3, 4] [2, 3, 4, 0, 1] rfl rfl rfl rfl (by decide) rfl 0 6 rfl rfl rfl rfl (Nat.le_of_ble_eq_true rfl) (by decide) (fun _ => rfl) (fun _ hy_ => ?_)
  clear hy_
  refine r_istore (lo2 := [(5, .int (iI 0)), (0, .ref h0), (1, .int (iI k)), (2, .int (iI w)), (3, .int (iI i1)), (4, .int (iI m1))]) C dX6_rings_10 (by decide) rfl ?_
  refine r_iload C dX6_rings_12 0 rfl ?_
  refine r_if_ge (tgt := 20) C dX6_rings_14 (by decide) (by decide) (fun h_1 => ?_) (fun h_1 => absurd h_1 (by decide))
  refine r_aload_n C dX6_rings_20 1 rfl ?_
  refine r_bipush C dX6_rings_21 (by decide) ?_
  refine r_iload_n C dX6_rings_23 2 rfl ?_
  refine r_imul C dX6_rings_24 ?_
  refine r_iload_n C dX6_rings_25 4 rfl ?_
  refine r_iadd C dX6_rings_26 ?_
  refine r_iload C dX6_rings_27 5 rfl ?_
  refine r_iconst C dX6_rings_29 ?_
  refine r_ldc (z := 2147483647) C dX6_rings_30 kw_X6_rings_0 rfl ?_
  refine g_V_i (ws2 := (fun _ => [(h0, .inr (6, [.int (iI ft), .int (iI sc), .ref u2, .ref u3, .ref u4, .ref u5, .ref u6, .ref u7, .ref u8, .int (iI rm), .int (iI wc), .ref u11, .int (iI sh), .int (iI tq), .ref u14, .int (iI cnt), .ref u16, .int (iI gf), .int (iI gs), .int (iI rc), .ref u20, .ref u21, .ref u22, .ref u23, .ref u24, .int (iI tc)])), (u21, .inl (X.2.1.1, 4, .inl (iF Ss))), (u22, .inl (X.2.1.1, 4, .inl (iF Sl))), (u23, .inl (X.2.1.1, 240, .inl (iF Sh))), (u20, .inl (X.2.1.1, 20, .inl (iF Pr)))])) (As := [.int (iI ((60 * k) + i1)), .int (iI m1), .int (iI 1), .int (iI 2147483647)]) C (c_X6_areNumbers_bad l X h0 u2 u3 u4 u5 u6 u7 u8 u11 u14 u16 u20 u21 u22 u23 u24 ft sc rm wc sh tq cnt gf gs rc tc Sh ((60 * k) + i1) m1 1 2147483647 (by first | assumption | omega) (by first | assumption | omega) (by first | assumption | omega) (by assumption) hbad) gX6_rings_X6_areNumbers rfl rfl rfl hd_V_X6_areNumbers_X6_rings (by decide) dX6_rings_32 [0, 3] [1, 2, 4] [3, 0, 1, 4, 2] rfl rfl rfl rfl (by decide) rfl 0 6 rfl rfl rfl rfl (Nat.le_of_ble_eq_true rfl) (by decide) (fun _ => rfl) (fun _ hy_ => ?_)
  clear hy_
  refine r_if_ne (tgt := 45) C dX6_rings_35 (by decide) (by decide) (fun h_2 => absurd h_2 (by decide)) (fun h_2 => ?_)
  refine r_aload_n C dX6_rings_38 1 rfl ?_
  refine r_bipush C dX6_rings_39 (by decide) ?_
  refine g_V_i (ws2 := (fun _ => [(h0, .inr (6, [.int (iI 0), .int (iI sc), .ref u2, .ref u3, .ref u4, .ref u5, .ref u6, .ref u7, .ref u8, .int (iI rm), .int (iI wc), .ref u11, .int (iI sh), .int (iI tq), .ref u14, .int (iI cnt), .ref u16, .int (iI gf), .int (iI gs), .int (iI rc), .ref u20, .ref u21, .ref u22, .ref u23, .ref u24, .int (iI tc)])), (u21, .inl (X.2.1.1, 4, .inl (iF Ss))), (u22, .inl (X.2.1.1, 4, .inl (iF Sl))), (u23, .inl (X.2.1.1, 240, .inl (iF Sh))), (u20, .inl (X.2.1.1, 20, .inl (iF Pr)))])) (As := [.int (iI (-2))]) C (c_X6_refused l X h0 u2 u3 u4 u5 u6 u7 u8 u11 u14 u16 u20 u21 u22 u23 u24 ft sc rm wc sh tq cnt gf gs rc tc (-2) ) gX6_rings_X6_refused rfl rfl rfl hd_V_X6_refused_X6_rings (by decide) dX6_rings_41 [0] [1, 2, 3, 4] [4, 0, 1, 2, 3] rfl rfl rfl rfl (by decide) rfl 0 6 rfl rfl rfl rfl (Nat.le_of_ble_eq_true rfl) (by decide) (fun _ => rfl) (fun _ hy_ => ?_)
  clear hy_
  exact g_ret_i C rfl dX6_rings_44 () trivial (by (repeat' split) <;> first | rfl | omega) [0, 1, 2, 3, 4] rfl (by (repeat' split) <;> first | rfl | omega)

set_option maxRecDepth 20000 in
theorem kw_X6_rings_1 : Cond.fieldLink RX6 207 "SkipStonesModel" "ringMany" "I" ∈ wsX6_rings := List.mem_of_getElem? (i := 2) rfl
set_option maxRecDepth 20000 in
theorem kw_X6_rings_2 : Cond.fieldLink RX6 40 "SkipStonesModel" "ringAt" "[I" ∈ wsX6_rings := List.mem_of_getElem? (i := 3) rfl
set_option maxRecDepth 20000 in
theorem kw_X6_rings_3 : Cond.fieldLink RX6 49 "SkipStonesModel" "sheet" "[I" ∈ wsX6_rings := List.mem_of_getElem? (i := 4) rfl
set_option maxRecDepth 20000 in
theorem hi_X6_rings_6 : ∀ w ∈ wsX60, w ∈ wsX6_rings := fun _ h => List.mem_cons_of_mem _ (List.mem_append_right _ h)
set_option maxHeartbeats 4000000 in
set_option maxRecDepth 100000 in
theorem c_X6_rings_ok (l : Launch) (X : gX) (h0 : Nat) (u2 : Nat) (u3 : Nat) (u4 : Nat) (u5 : Nat) (u6 : Nat) (u7 : Nat) (u8 : Nat) (u11 : Nat) (u14 : Nat) (u16 : Nat) (u20 : Nat) (u21 : Nat) (u22 : Nat) (u23 : Nat) (u24 : Nat) (ft : Int) (sc : Int) (rm : Int) (wc : Int) (sh : Int) (tq : Int) (cnt : Int) (gf : Int) (gs : Int) (rc : Int) (tc : Int) (Ss : Nat → Int) (Sl : Nat → Int) (Sh : Nat → Int) (Pr : Nat → Int) (k : Int) (w : Int) (i1 : Int) (m1 : Int) (hx : 0 ≤ k ∧ k < 4) (hb_w : inB w) (hb_i1 : inB i1) (hb_m1 : inB m1) (hSs : ∀ i, -1 ≤ Ss i ∧ Ss i ≤ 60) (hSl : ∀ i, 0 ≤ Sl i ∧ Sl i ≤ 2) (hSh : ∀ i, inB (Sh i)) (hok : (0 ≤ w ∧ w ≤ 2 ∧ 0 ≤ (Ss (Int.toNat k)) ∧ (Sl (Int.toNat k)) = w ∧ 0 ≤ i1 ∧ 0 ≤ m1 ∧ i1 + m1 ≤ (Ss (Int.toNat k)))) (hm : 1 ≤ m1 ∧ m1 ≤ 20) (hall : ∀ c : Int, 0 ≤ c → c < m1 → 1 ≤ Sh (Int.toNat ((60 * k + i1) + c)) ∧ Sh (Int.toNat ((60 * k + i1) + c)) ≤ 2147483647) : gM l yX6_rings wsX6_rings (gr 3 0 0) X [(h0, .inr (6, [.int (iI ft), .int (iI sc), .ref u2, .ref u3, .ref u4, .ref u5, .ref u6, .ref u7, .ref u8, .int (iI rm), .int (iI wc), .ref u11, .int (iI sh), .int (iI tq), .ref u14, .int (iI cnt), .ref u16, .int (iI gf), .int (iI gs), .int (iI rc), .ref u20, .ref u21, .ref u22, .ref u23, .ref u24, .int (iI tc)])), (u21, .inl (X.2.1.1, 4, .inl (iF Ss))), (u22, .inl (X.2.1.1, 4, .inl (iF Sl))), (u23, .inl (X.2.1.1, 240, .inl (iF Sh))), (u20, .inl (X.2.1.1, 20, .inl (iF Pr)))] [.ref h0, .int (iI k), .int (iI w), .int (iI i1), .int (iI m1)] (gQi X (Y := Unit) (fun _ => True) (fun _ => m1) (fun _ => [(h0, .inr (6, [.int (iI 0), .int (iI sc), .ref u2, .ref u3, .ref u4, .ref u5, .ref u6, .ref u7, .ref u8, .int (iI rm), .int (iI wc), .ref u11, .int (iI sh), .int (iI tq), .ref u14, .int (iI cnt), .ref u16, .int (iI gf), .int (iI gs), .int (iI m1), .ref u20, .ref u21, .ref u22, .ref u23, .ref u24, .int (iI tc)])), (u21, .inl (X.2.1.1, 4, .inl (iF Ss))), (u22, .inl (X.2.1.1, 4, .inl (iF Sl))), (u23, .inl (X.2.1.1, 240, .inl (iF Sh))), (u20, .inl (X.2.1.1, 20, .inl (iF (tkI Pr Sh (60 * k + i1) m1))))])) 0 0 := by
  refine g_start2 (lo := [(0, .ref h0), (1, .int (iI k)), (2, .int (iI w)), (3, .int (iI i1)), (4, .int (iI m1))]) (by decide +kernel) rfl rfl (Nat.le_of_ble_eq_true rfl) (fun p e s m args below meth c A C => ?_)
  have qs1 := hSs (Int.toNat k)
  have ql1 := hSl (Int.toNat k)
  refine r_aload_n C dX6_rings_0 0 rfl ?_
  refine r_iload_n C dX6_rings_1 1 rfl ?_
  refine r_iload_n C dX6_rings_2 2 rfl ?_
  refine r_iload_n C dX6_rings_3 3 rfl ?_
  refine r_iload C dX6_rings_4 4 rfl ?_
  refine r_i2l C dX6_rings_6 (by omega) ?_
  refine g_V_i (ws2 := (fun _ => [(h0, .inr (6, [.int (iI ft), .int (iI sc), .ref u2, .ref u3, .ref u4, .ref u5, .ref u6, .ref u7, .ref u8, .int (iI rm), .int (iI wc), .ref u11, .int (iI sh), .int (iI tq), .ref u14, .int (iI cnt), .ref u16, .int (iI gf), .int (iI gs), .int (iI rc), .ref u20, .ref u21, .ref u22, .ref u23, .ref u24, .int (iI tc)])), (u21, .inl (X.2.1.1, 4, .inl (iF Ss))), (u22, .inl (X.2.1.1, 4, .inl (iF Sl))), (u23, .inl (X.2.1.1, 240, .inl (iF Sh))), (u20, .inl (X.2.1.1, 20, .inl (iF Pr)))])) (As := [.int (iI k), .int (iI w), .int (iI i1), .long (lI m1)]) C (c_X6_barred_ok l X h0 u2 u3 u4 u5 u6 u7 u8 u11 u14 u16 u20 u21 u22 u23 u24 ft sc rm wc sh tq cnt gf gs rc tc Ss Sl k w i1 m1 (by first | assumption | omega) (by first | assumption | omega) (by first | assumption | omega) (by first | assumption | omega) (by assumption) (by assumption) (by first | assumption | have := hSs (Int.toNat k); have := hSl (Int.toNat k); omega)) gX6_rings_X6_barred rfl rfl rfl hd_V_X6_barred_X6_rings (by decide) dX6_rings_7 [0, 1, 2] [3, 4] [2, 3, 4, 0, 1] rfl rfl rfl rfl (by decide) rfl 0 6 rfl rfl rfl rfl (Nat.le_of_ble_eq_true rfl) (by decide) (fun _ => rfl) (fun _ hy_ => ?_)
  clear hy_
  refine r_istore (lo2 := [(5, .int (iI 0)), (0, .ref h0), (1, .int (iI k)), (2, .int (iI w)), (3, .int (iI i1)), (4, .int (iI m1))]) C dX6_rings_10 (by decide) rfl ?_
  refine r_iload C dX6_rings_12 0 rfl ?_
  refine r_if_ge (tgt := 20) C dX6_rings_14 (by decide) (by decide) (fun h_1 => ?_) (fun h_1 => absurd h_1 (by decide))
  refine r_aload_n C dX6_rings_20 1 rfl ?_
  refine r_bipush C dX6_rings_21 (by decide) ?_
  refine r_iload_n C dX6_rings_23 2 rfl ?_
  refine r_imul C dX6_rings_24 ?_
  refine r_iload_n C dX6_rings_25 4 rfl ?_
  refine r_iadd C dX6_rings_26 ?_
  refine r_iload C dX6_rings_27 5 rfl ?_
  refine r_iconst C dX6_rings_29 ?_
  refine r_ldc (z := 2147483647) C dX6_rings_30 kw_X6_rings_0 rfl ?_
  refine g_V_i (ws2 := (fun _ => [(h0, .inr (6, [.int (iI ft), .int (iI sc), .ref u2, .ref u3, .ref u4, .ref u5, .ref u6, .ref u7, .ref u8, .int (iI rm), .int (iI wc), .ref u11, .int (iI sh), .int (iI tq), .ref u14, .int (iI cnt), .ref u16, .int (iI gf), .int (iI gs), .int (iI rc), .ref u20, .ref u21, .ref u22, .ref u23, .ref u24, .int (iI tc)])), (u21, .inl (X.2.1.1, 4, .inl (iF Ss))), (u22, .inl (X.2.1.1, 4, .inl (iF Sl))), (u23, .inl (X.2.1.1, 240, .inl (iF Sh))), (u20, .inl (X.2.1.1, 20, .inl (iF Pr)))])) (As := [.int (iI ((60 * k) + i1)), .int (iI m1), .int (iI 1), .int (iI 2147483647)]) C (c_X6_areNumbers_ok l X h0 u2 u3 u4 u5 u6 u7 u8 u11 u14 u16 u20 u21 u22 u23 u24 ft sc rm wc sh tq cnt gf gs rc tc Sh ((60 * k) + i1) m1 1 2147483647 (by first | assumption | omega) (by first | assumption | omega) (by first | assumption | omega) (by assumption) (by first | assumption | omega) hall) gX6_rings_X6_areNumbers rfl rfl rfl hd_V_X6_areNumbers_X6_rings (by decide) dX6_rings_32 [0, 3] [1, 2, 4] [3, 0, 1, 4, 2] rfl rfl rfl rfl (by decide) rfl 0 6 rfl rfl rfl rfl (Nat.le_of_ble_eq_true rfl) (by decide) (fun _ => rfl) (fun _ hy_ => ?_)
  clear hy_
  refine r_if_ne (tgt := 45) C dX6_rings_35 (by decide) (by decide) (fun h_2 => ?_) (fun h_2 => absurd h_2 (by decide))
  refine r_aload_n C dX6_rings_45 1 rfl ?_
  refine r_iload C dX6_rings_46 5 rfl ?_
  refine pf_6_19 (ws2 := [(h0, .inr (6, [.int (iI ft), .int (iI sc), .ref u2, .ref u3, .ref u4, .ref u5, .ref u6, .ref u7, .ref u8, .int (iI rm), .int (iI wc), .ref u11, .int (iI sh), .int (iI tq), .ref u14, .int (iI cnt), .ref u16, .int (iI gf), .int (iI gs), .int (iI m1), .ref u20, .ref u21, .ref u22, .ref u23, .ref u24, .int (iI tc)])), (u21, .inl (X.2.1.1, 4, .inl (iF Ss))), (u22, .inl (X.2.1.1, 4, .inl (iF Sl))), (u23, .inl (X.2.1.1, 240, .inl (iF Sh))), (u20, .inl (X.2.1.1, 20, .inl (iF Pr)))]) C hi_X6_rings_6 kw_X6_rings_1 dX6_rings_48 0 rfl rfl rfl (Nat.le_of_ble_eq_true rfl) rfl ?_
  refine r_iconst C dX6_rings_51 ?_
  refine r_istore (lo2 := [(6, .int (iI 0)), (5, .int (iI 0)), (0, .ref h0), (1, .int (iI k)), (2, .int (iI w)), (3, .int (iI i1)), (4, .int (iI m1))]) C dX6_rings_52 (by decide) rfl ?_
  have L54 : ∀ (fu54 : Nat) (c1 : Int) (G : Nat → Int), (0 ≤ c1 ∧ c1 ≤ m1) → (G = tkI Pr Sh (60 * k + i1) c1) → (m1 - c1).toNat < fu54 → gW p l e (gr 3 0 0) s m args below meth c X A 7 (MQ below ((gQi X (Y := Unit) (fun _ => True) (fun _ => m1) (fun _ => [(h0, .inr (6, [.int (iI 0), .int (iI sc), .ref u2, .ref u3, .ref u4, .ref u5, .ref u6, .ref u7, .ref u8, .int (iI rm), .int (iI wc), .ref u11, .int (iI sh), .int (iI tq), .ref u14, .int (iI cnt), .ref u16, .int (iI gf), .int (iI gs), .int (iI m1), .ref u20, .ref u21, .ref u22, .ref u23, .ref u24, .int (iI tc)])), (u21, .inl (X.2.1.1, 4, .inl (iF Ss))), (u22, .inl (X.2.1.1, 4, .inl (iF Sl))), (u23, .inl (X.2.1.1, 240, .inl (iF Sh))), (u20, .inl (X.2.1.1, 20, .inl (iF (tkI Pr Sh (60 * k + i1) m1))))])) A) args s 0 0 A) 0 0 [(h0, .inr (6, [.int (iI ft), .int (iI sc), .ref u2, .ref u3, .ref u4, .ref u5, .ref u6, .ref u7, .ref u8, .int (iI rm), .int (iI wc), .ref u11, .int (iI sh), .int (iI tq), .ref u14, .int (iI cnt), .ref u16, .int (iI gf), .int (iI gs), .int (iI m1), .ref u20, .ref u21, .ref u22, .ref u23, .ref u24, .int (iI tc)])), (u21, .inl (X.2.1.1, 4, .inl (iF Ss))), (u22, .inl (X.2.1.1, 4, .inl (iF Sl))), (u23, .inl (X.2.1.1, 240, .inl (iF Sh))), (u20, .inl (X.2.1.1, 20, .inl (iF G)))] 54 [(0, .ref h0), (1, .int (iI k)), (2, .int (iI w)), (3, .int (iI i1)), (4, .int (iI m1)), (6, .int (iI c1))] [] := by
    intro fu54
    induction fu54 with
    | zero => intro c1 G ic iG hm54; exact absurd hm54 (Nat.not_lt_zero _)
    | succ fu54 ih54 =>
      intro c1 G ic iG hm54
      refine r_iload C dX6_rings_54 5 rfl ?_
      refine r_iload C dX6_rings_56 4 rfl ?_
      refine r_icmp_ge (tgt := 88) C dX6_rings_58 (by decide) (by omega) (by omega) (fun h_3 => ?_) (fun h_3 => ?_)
      · skip
        refine r_aload_n C dX6_rings_88 0 rfl ?_
        refine r_iload C dX6_rings_89 4 rfl ?_
        refine g_V_i (ws2 := (fun _ => [(h0, .inr (6, [.int (iI 0), .int (iI sc), .ref u2, .ref u3, .ref u4, .ref u5, .ref u6, .ref u7, .ref u8, .int (iI rm), .int (iI wc), .ref u11, .int (iI sh), .int (iI tq), .ref u14, .int (iI cnt), .ref u16, .int (iI gf), .int (iI gs), .int (iI m1), .ref u20, .ref u21, .ref u22, .ref u23, .ref u24, .int (iI tc)])), (u21, .inl (X.2.1.1, 4, .inl (iF Ss))), (u22, .inl (X.2.1.1, 4, .inl (iF Sl))), (u23, .inl (X.2.1.1, 240, .inl (iF Sh))), (u20, .inl (X.2.1.1, 20, .inl (iF G)))])) (As := [.int (iI m1)]) C (c_X6_refused l X h0 u2 u3 u4 u5 u6 u7 u8 u11 u14 u16 u20 u21 u22 u23 u24 ft sc rm wc sh tq cnt gf gs m1 tc m1 ) gX6_rings_X6_refused rfl rfl rfl hd_V_X6_refused_X6_rings (by decide) dX6_rings_91 [0] [1, 2, 3, 4] [4, 0, 1, 2, 3] rfl rfl rfl rfl (by decide) rfl 0 6 rfl rfl rfl rfl (Nat.le_of_ble_eq_true rfl) (by decide) (fun _ => rfl) (fun _ hy_ => ?_)
        clear hy_
        exact g_ret_i C rfl dX6_rings_94 () trivial (by (repeat' split) <;> first | rfl | omega) [0, 1, 2, 3, 4] rfl (by rw [iG, show c1 = m1 by omega] <;> rfl)
      · skip
        refine r_aload_n C dX6_rings_61 0 rfl ?_
        refine gf_6_20 C hi_X6_rings_6 kw_X6_rings_2 dX6_rings_62 0 rfl rfl ?_
        refine r_iload C dX6_rings_65 5 rfl ?_
        refine r_aload_n C dX6_rings_67 0 rfl ?_
        refine gf_6_23 C hi_X6_rings_6 kw_X6_rings_3 dX6_rings_68 0 rfl rfl ?_
        refine r_bipush C dX6_rings_71 (by decide) ?_
        refine r_iload_n C dX6_rings_73 1 rfl ?_
        refine r_imul C dX6_rings_74 ?_
        refine r_iload_n C dX6_rings_75 3 rfl ?_
        refine r_iadd C dX6_rings_76 ?_
        refine r_iload C dX6_rings_77 5 rfl ?_
        refine r_iadd C dX6_rings_79 ?_
        refine r_iald C dX6_rings_80 3 rfl (by omega) (by decide) ?_
        refine r_iast (ws2 := [(h0, .inr (6, [.int (iI ft), .int (iI sc), .ref u2, .ref u3, .ref u4, .ref u5, .ref u6, .ref u7, .ref u8, .int (iI rm), .int (iI wc), .ref u11, .int (iI sh), .int (iI tq), .ref u14, .int (iI cnt), .ref u16, .int (iI gf), .int (iI gs), .int (iI m1), .ref u20, .ref u21, .ref u22, .ref u23, .ref u24, .int (iI tc)])), (u21, .inl (X.2.1.1, 4, .inl (iF Ss))), (u22, .inl (X.2.1.1, 4, .inl (iF Sl))), (u23, .inl (X.2.1.1, 240, .inl (iF Sh))), (u20, .inl (X.2.1.1, 20, .inl (iF (updI G (Int.toNat c1) (Sh (Int.toNat (((60 * k) + i1) + c1)))))))]) C dX6_rings_81 4 rfl (by omega) (by decide) rfl ?_
        refine r_iinc (lo2 := [(6, .int (iI (c1 + 1))), (0, .ref h0), (1, .int (iI k)), (2, .int (iI w)), (3, .int (iI i1)), (4, .int (iI m1))]) C dX6_rings_82 5 rfl (by decide) rfl ?_
        refine r_goto (tgt := 54) C dX6_rings_85 (by decide) ?_
        refine r_lo [1, 2, 3, 4, 5, 0] (lo2 := [(0, .ref h0), (1, .int (iI k)), (2, .int (iI w)), (3, .int (iI i1)), (4, .int (iI m1)), (6, .int (iI (c1 + 1)))]) rfl ?_
        exact ih54 (c1 + 1) (updI G (Int.toNat c1) (Sh (Int.toNat (((60 * k) + i1) + c1)))) (by omega) (by rw [iG]; exact tkI_go (by omega)) (by omega)
  refine r_lo [2, 3, 4, 5, 6, 0] (lo2 := [(0, .ref h0), (1, .int (iI k)), (2, .int (iI w)), (3, .int (iI i1)), (4, .int (iI m1)), (6, .int (iI 0))]) rfl ?_
  exact L54 ((m1 - (0 : Int)).toNat + 1) 0 Pr (by omega) (tkI_0 _ _ _).symm (Nat.lt_succ_self _)

set_option maxHeartbeats 4000000 in
set_option maxRecDepth 100000 in
theorem c_X6_rings_out (l : Launch) (X : gX) (h0 : Nat) (u2 : Nat) (u3 : Nat) (u4 : Nat) (u5 : Nat) (u6 : Nat) (u7 : Nat) (u8 : Nat) (u11 : Nat) (u14 : Nat) (u16 : Nat) (u20 : Nat) (u21 : Nat) (u22 : Nat) (u23 : Nat) (u24 : Nat) (ft : Int) (sc : Int) (rm : Int) (wc : Int) (sh : Int) (tq : Int) (cnt : Int) (gf : Int) (gs : Int) (rc : Int) (tc : Int) (k : Int) (w : Int) (i1 : Int) (m1 : Int) (hx : ¬ (0 ≤ k ∧ k < 4)) (hbk : inB k) (hb_m1 : inB m1) : gM l yX6_rings wsX6_rings (gr 3 0 0) X [(h0, .inr (6, [.int (iI ft), .int (iI sc), .ref u2, .ref u3, .ref u4, .ref u5, .ref u6, .ref u7, .ref u8, .int (iI rm), .int (iI wc), .ref u11, .int (iI sh), .int (iI tq), .ref u14, .int (iI cnt), .ref u16, .int (iI gf), .int (iI gs), .int (iI rc), .ref u20, .ref u21, .ref u22, .ref u23, .ref u24, .int (iI tc)]))] [.ref h0, .int (iI k), .int (iI w), .int (iI i1), .int (iI m1)] (gQi X (Y := Unit) (fun _ => True) (fun _ => -1) (fun _ => [(h0, .inr (6, [.int (iI 0), .int (iI sc), .ref u2, .ref u3, .ref u4, .ref u5, .ref u6, .ref u7, .ref u8, .int (iI rm), .int (iI wc), .ref u11, .int (iI sh), .int (iI tq), .ref u14, .int (iI cnt), .ref u16, .int (iI gf), .int (iI gs), .int (iI rc), .ref u20, .ref u21, .ref u22, .ref u23, .ref u24, .int (iI tc)]))])) 0 0 := by
  refine g_start2 (lo := [(0, .ref h0), (1, .int (iI k)), (2, .int (iI w)), (3, .int (iI i1)), (4, .int (iI m1))]) (by decide +kernel) rfl rfl (Nat.le_of_ble_eq_true rfl) (fun p e s m args below meth c A C => ?_)
  refine r_aload_n C dX6_rings_0 0 rfl ?_
  refine r_iload_n C dX6_rings_1 1 rfl ?_
  refine r_iload_n C dX6_rings_2 2 rfl ?_
  refine r_iload_n C dX6_rings_3 3 rfl ?_
  refine r_iload C dX6_rings_4 4 rfl ?_
  refine r_i2l C dX6_rings_6 (by omega) ?_
  refine g_V_i (ws2 := (fun _ => [(h0, .inr (6, [.int (iI 0), .int (iI sc), .ref u2, .ref u3, .ref u4, .ref u5, .ref u6, .ref u7, .ref u8, .int (iI rm), .int (iI wc), .ref u11, .int (iI sh), .int (iI tq), .ref u14, .int (iI cnt), .ref u16, .int (iI gf), .int (iI gs), .int (iI rc), .ref u20, .ref u21, .ref u22, .ref u23, .ref u24, .int (iI tc)]))])) (As := [.int (iI k), .int (iI w), .int (iI i1), .long (lI m1)]) C (c_X6_barred_out l X h0 u2 u3 u4 u5 u6 u7 u8 u11 u14 u16 u20 u21 u22 u23 u24 ft sc rm wc sh tq cnt gf gs rc tc k w i1 m1 (by first | assumption | omega) (by first | assumption | omega)) gX6_rings_X6_barred rfl rfl rfl hd_V_X6_barred_X6_rings (by decide) dX6_rings_7 [0] [] [0] rfl rfl rfl rfl (by decide) rfl 0 6 rfl rfl rfl rfl (Nat.le_of_ble_eq_true rfl) (by decide) (fun _ => rfl) (fun _ hy_ => ?_)
  clear hy_
  refine r_istore (lo2 := [(5, .int (iI (-1))), (0, .ref h0), (1, .int (iI k)), (2, .int (iI w)), (3, .int (iI i1)), (4, .int (iI m1))]) C dX6_rings_10 (by decide) rfl ?_
  refine r_iload C dX6_rings_12 0 rfl ?_
  refine r_if_ge (tgt := 20) C dX6_rings_14 (by decide) (by omega) (fun h_1 => absurd h_1 (by omega)) (fun h_1 => ?_)
  refine r_iload C dX6_rings_17 0 rfl ?_
  exact g_ret_i C rfl dX6_rings_19 () trivial (by (repeat' split) <;> first | rfl | omega) [0] rfl (by (repeat' split) <;> first | rfl | omega)

set_option maxRecDepth 20000 in
theorem hd_S_X6_noSheet_X6_sheet : yX6_noSheet.cls ≠ "java/lang/invoke/MethodHandle" ∧ yX6_noSheet.cls ≠ "java/lang/invoke/VarHandle" ∧ (parseMethodDescriptor yX6_noSheet.desc).map (fun d => d.parameters.length) = some 1 := by decide +kernel
set_option maxRecDepth 20000 in
theorem kw_X6_sheet_0 : Cond.constantLong RX6 85 (2) ∈ wsX6_sheet := List.mem_of_getElem? (i := 1) rfl
set_option maxRecDepth 20000 in
theorem hd_S_X6_in_X6_sheet : yX6_in.cls ≠ "java/lang/invoke/MethodHandle" ∧ yX6_in.cls ≠ "java/lang/invoke/VarHandle" ∧ (parseMethodDescriptor yX6_in.desc).map (fun d => d.parameters.length) = some 3 := by decide +kernel
set_option maxRecDepth 20000 in
theorem hd_V_X6_failed_X6_sheet : yX6_failed.cls = yX6_failed.cls ∧ yX6_failed.cls ≠ "java/lang/invoke/MethodHandle" ∧ yX6_failed.cls ≠ "java/lang/invoke/VarHandle" ∧ (parseMethodDescriptor yX6_failed.desc).map (fun d => d.parameters.length) = some 1 := by decide +kernel
set_option maxRecDepth 20000 in
theorem hd_V_X6_refused_X6_sheet : yX6_refused.cls = yX6_refused.cls ∧ yX6_refused.cls ≠ "java/lang/invoke/MethodHandle" ∧ yX6_refused.cls ≠ "java/lang/invoke/VarHandle" ∧ (parseMethodDescriptor yX6_refused.desc).map (fun d => d.parameters.length) = some 1 := by decide +kernel
set_option maxHeartbeats 4000000 in
set_option maxRecDepth 100000 in
theorem c_X6_sheet_no (l : Launch) (X : gX) (h0 : Nat) (u2 : Nat) (u3 : Nat) (u4 : Nat) (u5 : Nat) (u6 : Nat) (u7 : Nat) (u8 : Nat) (u11 : Nat) (u14 : Nat) (u16 : Nat) (u20 : Nat) (u21 : Nat) (u22 : Nat) (u23 : Nat) (u24 : Nat) (ft : Int) (sc : Int) (rm : Int) (wc : Int) (sh : Int) (tq : Int) (cnt : Int) (gf : Int) (gs : Int) (rc : Int) (tc : Int) (Ss : Nat → Int) (Sl : Nat → Int) (Sh : Nat → Int) (k : Int) (w : Int) (m1 : Int) (hx : 0 ≤ k ∧ k < 4) (hb_w : inB w) (hb_m1 : inB m1) (hok : ¬ (0 ≤ w ∧ w ≤ 2 ∧ m1 ≤ 60 ∧ 0 ≤ m1)) : gM l yX6_sheet wsX6_sheet (gr 2 0 0) X [(h0, .inr (6, [.int (iI ft), .int (iI sc), .ref u2, .ref u3, .ref u4, .ref u5, .ref u6, .ref u7, .ref u8, .int (iI rm), .int (iI wc), .ref u11, .int (iI sh), .int (iI tq), .ref u14, .int (iI cnt), .ref u16, .int (iI gf), .int (iI gs), .int (iI rc), .ref u20, .ref u21, .ref u22, .ref u23, .ref u24, .int (iI tc)])), (u21, .inl (X.2.1.1, 4, .inl (iF Ss))), (u22, .inl (X.2.1.1, 4, .inl (iF Sl))), (u23, .inl (X.2.1.1, 240, .inl (iF Sh)))] [.ref h0, .int (iI k), .int (iI w), .int (iI m1)] (gQi X (Y := Unit) (fun _ => True) (fun _ => (if 0 ≤ w ∧ w ≤ 2 ∧ m1 ≤ 60 then -14 else -2)) (fun _ => [(h0, .inr (6, [.int (iI (if 0 ≤ w ∧ w ≤ 2 ∧ m1 ≤ 60 then 4 else 0)), .int (iI sc), .ref u2, .ref u3, .ref u4, .ref u5, .ref u6, .ref u7, .ref u8, .int (iI rm), .int (iI wc), .ref u11, .int (iI sh), .int (iI tq), .ref u14, .int (iI cnt), .ref u16, .int (iI gf), .int (iI gs), .int (iI rc), .ref u20, .ref u21, .ref u22, .ref u23, .ref u24, .int (iI tc)])), (u21, .inl (X.2.1.1, 4, .inl (iF Ss))), (u22, .inl (X.2.1.1, 4, .inl (iF Sl))), (u23, .inl (X.2.1.1, 240, .inl (iF Sh)))])) 0 0 := by
  refine g_start2 (lo := [(0, .ref h0), (1, .int (iI k)), (2, .int (iI w)), (3, .int (iI m1))]) (by decide +kernel) rfl rfl (Nat.le_of_ble_eq_true rfl) (fun p e s m args below meth c A C => ?_)
  refine r_iload_n C dX6_sheet_0 1 rfl ?_
  refine g_S_i (ws2 := (fun _ => [(h0, .inr (6, [.int (iI ft), .int (iI sc), .ref u2, .ref u3, .ref u4, .ref u5, .ref u6, .ref u7, .ref u8, .int (iI rm), .int (iI wc), .ref u11, .int (iI sh), .int (iI tq), .ref u14, .int (iI cnt), .ref u16, .int (iI gf), .int (iI gs), .int (iI rc), .ref u20, .ref u21, .ref u22, .ref u23, .ref u24, .int (iI tc)])), (u21, .inl (X.2.1.1, 4, .inl (iF Ss))), (u22, .inl (X.2.1.1, 4, .inl (iF Sl))), (u23, .inl (X.2.1.1, 240, .inl (iF Sh)))])) (As := [.int (iI k)]) C (c_X6_noSheet l X k (by first | assumption | omega)) gX6_sheet_X6_noSheet rfl rfl rfl hd_S_X6_noSheet_X6_sheet (by decide) dX6_sheet_1 [] [0, 1, 2, 3] [0, 1, 2, 3] rfl rfl rfl rfl (by decide) rfl rfl rfl (Nat.le_of_ble_eq_true rfl) (by decide) (fun _ => rfl) (fun _ hy_ => ?_)
  clear hy_
  refine r_ite (fun h_1 => absurd h_1 (by omega)) (fun h_1 => ?_)
  refine r_if_eq (tgt := 13) C dX6_sheet_4 (by decide) (by decide) (fun h_2 => ?_) (fun h_2 => absurd h_2 (by decide))
  refine r_iload_n C dX6_sheet_13 2 rfl ?_
  refine r_i2l C dX6_sheet_14 (by omega) ?_
  refine r_lconst (z := 0) C dX6_sheet_15 rfl ?_
  refine r_ldc2 (z := 2) C dX6_sheet_16 kw_X6_sheet_0 rfl ?_
  refine g_S_i (ws2 := (fun _ => [(h0, .inr (6, [.int (iI ft), .int (iI sc), .ref u2, .ref u3, .ref u4, .ref u5, .ref u6, .ref u7, .ref u8, .int (iI rm), .int (iI wc), .ref u11, .int (iI sh), .int (iI tq), .ref u14, .int (iI cnt), .ref u16, .int (iI gf), .int (iI gs), .int (iI rc), .ref u20, .ref u21, .ref u22, .ref u23, .ref u24, .int (iI tc)])), (u21, .inl (X.2.1.1, 4, .inl (iF Ss))), (u22, .inl (X.2.1.1, 4, .inl (iF Sl))), (u23, .inl (X.2.1.1, 240, .inl (iF Sh)))])) (As := [.long (lI w), .long (lI 0), .long (lI 2)]) C (c_X6_in l X w 0 2 (by first | assumption | omega) (by first | assumption | omega) (by first | assumption | omega)) gX6_sheet_X6_in rfl rfl rfl hd_S_X6_in_X6_sheet (by decide) dX6_sheet_19 [] [0, 1, 2, 3] [0, 1, 2, 3] rfl rfl rfl rfl (by decide) rfl rfl rfl (Nat.le_of_ble_eq_true rfl) (by decide) (fun _ => rfl) (fun _ hy_ => ?_)
  clear hy_
  refine r_ite (fun h_3 => ?_) (fun h_3 => ?_)
  · skip
    refine r_if_eq (tgt := 31) C dX6_sheet_22 (by decide) (by decide) (fun h_4 => absurd h_4 (by decide)) (fun h_4 => ?_)
    refine r_iload_n C dX6_sheet_25 3 rfl ?_
    refine r_bipush C dX6_sheet_26 (by decide) ?_
    refine r_icmp_le (tgt := 38) C dX6_sheet_28 (by decide) (by omega) (by decide) (fun h_5 => ?_) (fun h_5 => ?_)
    · skip
      refine r_iload_n C dX6_sheet_38 3 rfl ?_
      refine r_if_ge (tgt := 48) C dX6_sheet_39 (by decide) (by omega) (fun h_6 => absurd h_6 (by omega)) (fun h_6 => ?_)
      refine r_aload_n C dX6_sheet_42 0 rfl ?_
      refine r_iconst C dX6_sheet_43 ?_
      refine g_V_i (ws2 := (fun _ => [(h0, .inr (6, [.int (iI 4), .int (iI sc), .ref u2, .ref u3, .ref u4, .ref u5, .ref u6, .ref u7, .ref u8, .int (iI rm), .int (iI wc), .ref u11, .int (iI sh), .int (iI tq), .ref u14, .int (iI cnt), .ref u16, .int (iI gf), .int (iI gs), .int (iI rc), .ref u20, .ref u21, .ref u22, .ref u23, .ref u24, .int (iI tc)])), (u21, .inl (X.2.1.1, 4, .inl (iF Ss))), (u22, .inl (X.2.1.1, 4, .inl (iF Sl))), (u23, .inl (X.2.1.1, 240, .inl (iF Sh)))])) (As := [.int (iI 4)]) C (c_X6_failed l X h0 u2 u3 u4 u5 u6 u7 u8 u11 u14 u16 u20 u21 u22 u23 u24 ft sc rm wc sh tq cnt gf gs rc tc 4 ) gX6_sheet_X6_failed rfl rfl rfl hd_V_X6_failed_X6_sheet (by decide) dX6_sheet_44 [0] [1, 2, 3] [3, 0, 1, 2] rfl rfl rfl rfl (by decide) rfl 0 6 rfl rfl rfl rfl (Nat.le_of_ble_eq_true rfl) (by decide) (fun _ => rfl) (fun _ hy_ => ?_)
      clear hy_
      exact g_ret_i C rfl dX6_sheet_47 () trivial (by (repeat' split) <;> first | rfl | omega) [0, 1, 2, 3] rfl (by (repeat' split) <;> first | rfl | omega)
    · skip
      refine r_aload_n C dX6_sheet_31 0 rfl ?_
      refine r_bipush C dX6_sheet_32 (by decide) ?_
      refine g_V_i (ws2 := (fun _ => [(h0, .inr (6, [.int (iI 0), .int (iI sc), .ref u2, .ref u3, .ref u4, .ref u5, .ref u6, .ref u7, .ref u8, .int (iI rm), .int (iI wc), .ref u11, .int (iI sh), .int (iI tq), .ref u14, .int (iI cnt), .ref u16, .int (iI gf), .int (iI gs), .int (iI rc), .ref u20, .ref u21, .ref u22, .ref u23, .ref u24, .int (iI tc)])), (u21, .inl (X.2.1.1, 4, .inl (iF Ss))), (u22, .inl (X.2.1.1, 4, .inl (iF Sl))), (u23, .inl (X.2.1.1, 240, .inl (iF Sh)))])) (As := [.int (iI (-2))]) C (c_X6_refused l X h0 u2 u3 u4 u5 u6 u7 u8 u11 u14 u16 u20 u21 u22 u23 u24 ft sc rm wc sh tq cnt gf gs rc tc (-2) ) gX6_sheet_X6_refused rfl rfl rfl hd_V_X6_refused_X6_sheet (by decide) dX6_sheet_34 [0] [1, 2, 3] [3, 0, 1, 2] rfl rfl rfl rfl (by decide) rfl 0 6 rfl rfl rfl rfl (Nat.le_of_ble_eq_true rfl) (by decide) (fun _ => rfl) (fun _ hy_ => ?_)
      clear hy_
      exact g_ret_i C rfl dX6_sheet_37 () trivial (by (repeat' split) <;> first | rfl | omega) [0, 1, 2, 3] rfl (by (repeat' split) <;> first | rfl | omega)
  · skip
    refine r_if_eq (tgt := 31) C dX6_sheet_22 (by decide) (by decide) (fun h_7 => ?_) (fun h_7 => absurd h_7 (by decide))
    refine r_aload_n C dX6_sheet_31 0 rfl ?_
    refine r_bipush C dX6_sheet_32 (by decide) ?_
    refine g_V_i (ws2 := (fun _ => [(h0, .inr (6, [.int (iI 0), .int (iI sc), .ref u2, .ref u3, .ref u4, .ref u5, .ref u6, .ref u7, .ref u8, .int (iI rm), .int (iI wc), .ref u11, .int (iI sh), .int (iI tq), .ref u14, .int (iI cnt), .ref u16, .int (iI gf), .int (iI gs), .int (iI rc), .ref u20, .ref u21, .ref u22, .ref u23, .ref u24, .int (iI tc)])), (u21, .inl (X.2.1.1, 4, .inl (iF Ss))), (u22, .inl (X.2.1.1, 4, .inl (iF Sl))), (u23, .inl (X.2.1.1, 240, .inl (iF Sh)))])) (As := [.int (iI (-2))]) C (c_X6_refused l X h0 u2 u3 u4 u5 u6 u7 u8 u11 u14 u16 u20 u21 u22 u23 u24 ft sc rm wc sh tq cnt gf gs rc tc (-2) ) gX6_sheet_X6_refused rfl rfl rfl hd_V_X6_refused_X6_sheet (by decide) dX6_sheet_34 [0] [1, 2, 3] [3, 0, 1, 2] rfl rfl rfl rfl (by decide) rfl 0 6 rfl rfl rfl rfl (Nat.le_of_ble_eq_true rfl) (by decide) (fun _ => rfl) (fun _ hy_ => ?_)
    clear hy_
    exact g_ret_i C rfl dX6_sheet_37 () trivial (by (repeat' split) <;> first | rfl | omega) [0, 1, 2, 3] rfl (by (repeat' split) <;> first | rfl | omega)

set_option maxRecDepth 20000 in
theorem kw_X6_sheet_1 : Cond.fieldLink RX6 43 "SkipStonesModel" "sheetSize" "[I" ∈ wsX6_sheet := List.mem_of_getElem? (i := 2) rfl
set_option maxRecDepth 20000 in
theorem kw_X6_sheet_2 : Cond.fieldLink RX6 46 "SkipStonesModel" "sheetLane" "[I" ∈ wsX6_sheet := List.mem_of_getElem? (i := 3) rfl
set_option maxRecDepth 20000 in
theorem kw_X6_sheet_3 : Cond.fieldLink RX6 49 "SkipStonesModel" "sheet" "[I" ∈ wsX6_sheet := List.mem_of_getElem? (i := 4) rfl
set_option maxRecDepth 20000 in
theorem hi_X6_sheet_6 : ∀ w ∈ wsX60, w ∈ wsX6_sheet := fun _ h => List.mem_cons_of_mem _ (List.mem_append_right _ h)
set_option maxHeartbeats 4000000 in
set_option maxRecDepth 100000 in
theorem c_X6_sheet_ok (l : Launch) (X : gX) (h0 : Nat) (u2 : Nat) (u3 : Nat) (u4 : Nat) (u5 : Nat) (u6 : Nat) (u7 : Nat) (u8 : Nat) (u11 : Nat) (u14 : Nat) (u16 : Nat) (u20 : Nat) (u21 : Nat) (u22 : Nat) (u23 : Nat) (u24 : Nat) (ft : Int) (sc : Int) (rm : Int) (wc : Int) (sh : Int) (tq : Int) (cnt : Int) (gf : Int) (gs : Int) (rc : Int) (tc : Int) (Ss : Nat → Int) (Sl : Nat → Int) (Sh : Nat → Int) (k : Int) (w : Int) (m1 : Int) (hx : 0 ≤ k ∧ k < 4) (hb_w : inB w) (hb_m1 : inB m1) (hok : 0 ≤ w ∧ w ≤ 2 ∧ m1 ≤ 60 ∧ 0 ≤ m1) : gM l yX6_sheet wsX6_sheet (gr 2 0 0) X [(h0, .inr (6, [.int (iI ft), .int (iI sc), .ref u2, .ref u3, .ref u4, .ref u5, .ref u6, .ref u7, .ref u8, .int (iI rm), .int (iI wc), .ref u11, .int (iI sh), .int (iI tq), .ref u14, .int (iI cnt), .ref u16, .int (iI gf), .int (iI gs), .int (iI rc), .ref u20, .ref u21, .ref u22, .ref u23, .ref u24, .int (iI tc)])), (u21, .inl (X.2.1.1, 4, .inl (iF Ss))), (u22, .inl (X.2.1.1, 4, .inl (iF Sl))), (u23, .inl (X.2.1.1, 240, .inl (iF Sh)))] [.ref h0, .int (iI k), .int (iI w), .int (iI m1)] (gQi X (Y := Unit) (fun _ => True) (fun _ => 1) (fun _ => [(h0, .inr (6, [.int (iI 0), .int (iI sc), .ref u2, .ref u3, .ref u4, .ref u5, .ref u6, .ref u7, .ref u8, .int (iI rm), .int (iI wc), .ref u11, .int (iI sh), .int (iI tq), .ref u14, .int (iI cnt), .ref u16, .int (iI gf), .int (iI gs), .int (iI rc), .ref u20, .ref u21, .ref u22, .ref u23, .ref u24, .int (iI tc)])), (u21, .inl (X.2.1.1, 4, .inl (iF (updI Ss (Int.toNat k) m1)))), (u22, .inl (X.2.1.1, 4, .inl (iF (updI Sl (Int.toNat k) w)))), (u23, .inl (X.2.1.1, 240, .inl (iF (flT Sh (60 * k) m1))))])) 0 0 := by
  refine g_start2 (lo := [(0, .ref h0), (1, .int (iI k)), (2, .int (iI w)), (3, .int (iI m1))]) (by decide +kernel) rfl rfl (Nat.le_of_ble_eq_true rfl) (fun p e s m args below meth c A C => ?_)
  refine r_iload_n C dX6_sheet_0 1 rfl ?_
  refine g_S_i (ws2 := (fun _ => [(h0, .inr (6, [.int (iI ft), .int (iI sc), .ref u2, .ref u3, .ref u4, .ref u5, .ref u6, .ref u7, .ref u8, .int (iI rm), .int (iI wc), .ref u11, .int (iI sh), .int (iI tq), .ref u14, .int (iI cnt), .ref u16, .int (iI gf), .int (iI gs), .int (iI rc), .ref u20, .ref u21, .ref u22, .ref u23, .ref u24, .int (iI tc)])), (u21, .inl (X.2.1.1, 4, .inl (iF Ss))), (u22, .inl (X.2.1.1, 4, .inl (iF Sl))), (u23, .inl (X.2.1.1, 240, .inl (iF Sh)))])) (As := [.int (iI k)]) C (c_X6_noSheet l X k (by first | assumption | omega)) gX6_sheet_X6_noSheet rfl rfl rfl hd_S_X6_noSheet_X6_sheet (by decide) dX6_sheet_1 [] [0, 1, 2, 3] [0, 1, 2, 3] rfl rfl rfl rfl (by decide) rfl rfl rfl (Nat.le_of_ble_eq_true rfl) (by decide) (fun _ => rfl) (fun _ hy_ => ?_)
  clear hy_
  refine r_ite (fun h_1 => absurd h_1 (by omega)) (fun h_1 => ?_)
  refine r_if_eq (tgt := 13) C dX6_sheet_4 (by decide) (by decide) (fun h_2 => ?_) (fun h_2 => absurd h_2 (by decide))
  refine r_iload_n C dX6_sheet_13 2 rfl ?_
  refine r_i2l C dX6_sheet_14 (by omega) ?_
  refine r_lconst (z := 0) C dX6_sheet_15 rfl ?_
  refine r_ldc2 (z := 2) C dX6_sheet_16 kw_X6_sheet_0 rfl ?_
  refine g_S_i (ws2 := (fun _ => [(h0, .inr (6, [.int (iI ft), .int (iI sc), .ref u2, .ref u3, .ref u4, .ref u5, .ref u6, .ref u7, .ref u8, .int (iI rm), .int (iI wc), .ref u11, .int (iI sh), .int (iI tq), .ref u14, .int (iI cnt), .ref u16, .int (iI gf), .int (iI gs), .int (iI rc), .ref u20, .ref u21, .ref u22, .ref u23, .ref u24, .int (iI tc)])), (u21, .inl (X.2.1.1, 4, .inl (iF Ss))), (u22, .inl (X.2.1.1, 4, .inl (iF Sl))), (u23, .inl (X.2.1.1, 240, .inl (iF Sh)))])) (As := [.long (lI w), .long (lI 0), .long (lI 2)]) C (c_X6_in l X w 0 2 (by first | assumption | omega) (by first | assumption | omega) (by first | assumption | omega)) gX6_sheet_X6_in rfl rfl rfl hd_S_X6_in_X6_sheet (by decide) dX6_sheet_19 [] [0, 1, 2, 3] [0, 1, 2, 3] rfl rfl rfl rfl (by decide) rfl rfl rfl (Nat.le_of_ble_eq_true rfl) (by decide) (fun _ => rfl) (fun _ hy_ => ?_)
  clear hy_
  refine r_ite (fun h_3 => ?_) (fun h_3 => absurd h_3 (by omega))
  refine r_if_eq (tgt := 31) C dX6_sheet_22 (by decide) (by decide) (fun h_4 => absurd h_4 (by decide)) (fun h_4 => ?_)
  refine r_iload_n C dX6_sheet_25 3 rfl ?_
  refine r_bipush C dX6_sheet_26 (by decide) ?_
  refine r_icmp_le (tgt := 38) C dX6_sheet_28 (by decide) (by omega) (by decide) (fun h_5 => ?_) (fun h_5 => absurd h_5 (by omega))
  refine r_iload_n C dX6_sheet_38 3 rfl ?_
  refine r_if_ge (tgt := 48) C dX6_sheet_39 (by decide) (by omega) (fun h_6 => ?_) (fun h_6 => absurd h_6 (by omega))
  refine r_aload_n C dX6_sheet_48 0 rfl ?_
  refine gf_6_21 C hi_X6_sheet_6 kw_X6_sheet_1 dX6_sheet_49 0 rfl rfl ?_
  refine r_iload_n C dX6_sheet_52 1 rfl ?_
  refine r_iload_n C dX6_sheet_53 3 rfl ?_
  refine r_iast (ws2 := [(h0, .inr (6, [.int (iI ft), .int (iI sc), .ref u2, .ref u3, .ref u4, .ref u5, .ref u6, .ref u7, .ref u8, .int (iI rm), .int (iI wc), .ref u11, .int (iI sh), .int (iI tq), .ref u14, .int (iI cnt), .ref u16, .int (iI gf), .int (iI gs), .int (iI rc), .ref u20, .ref u21, .ref u22, .ref u23, .ref u24, .int (iI tc)])), (u21, .inl (X.2.1.1, 4, .inl (iF (updI Ss (Int.toNat k) m1)))), (u22, .inl (X.2.1.1, 4, .inl (iF Sl))), (u23, .inl (X.2.1.1, 240, .inl (iF Sh)))]) C dX6_sheet_54 1 rfl (by omega) (by decide) rfl ?_
  refine r_aload_n C dX6_sheet_55 0 rfl ?_
  refine gf_6_22 C hi_X6_sheet_6 kw_X6_sheet_2 dX6_sheet_56 0 rfl rfl ?_
  refine r_iload_n C dX6_sheet_59 1 rfl ?_
  refine r_iload_n C dX6_sheet_60 2 rfl ?_
  refine r_iast (ws2 := [(h0, .inr (6, [.int (iI ft), .int (iI sc), .ref u2, .ref u3, .ref u4, .ref u5, .ref u6, .ref u7, .ref u8, .int (iI rm), .int (iI wc), .ref u11, .int (iI sh), .int (iI tq), .ref u14, .int (iI cnt), .ref u16, .int (iI gf), .int (iI gs), .int (iI rc), .ref u20, .ref u21, .ref u22, .ref u23, .ref u24, .int (iI tc)])), (u21, .inl (X.2.1.1, 4, .inl (iF (updI Ss (Int.toNat k) m1)))), (u22, .inl (X.2.1.1, 4, .inl (iF (updI Sl (Int.toNat k) w)))), (u23, .inl (X.2.1.1, 240, .inl (iF Sh)))]) C dX6_sheet_61 2 rfl (by omega) (by decide) rfl ?_
  refine r_iconst C dX6_sheet_62 ?_
  refine r_istore (lo2 := [(4, .int (iI 0)), (0, .ref h0), (1, .int (iI k)), (2, .int (iI w)), (3, .int (iI m1))]) C dX6_sheet_63 (by decide) rfl ?_
  have L65 : ∀ (fu65 : Nat) (c1 : Int) (G : Nat → Int), (0 ≤ c1 ∧ c1 ≤ m1) → (G = flT Sh (60 * k) c1) → (m1 - c1).toNat < fu65 → gW p l e (gr 2 0 0) s m args below meth c X A 5 (MQ below ((gQi X (Y := Unit) (fun _ => True) (fun _ => 1) (fun _ => [(h0, .inr (6, [.int (iI 0), .int (iI sc), .ref u2, .ref u3, .ref u4, .ref u5, .ref u6, .ref u7, .ref u8, .int (iI rm), .int (iI wc), .ref u11, .int (iI sh), .int (iI tq), .ref u14, .int (iI cnt), .ref u16, .int (iI gf), .int (iI gs), .int (iI rc), .ref u20, .ref u21, .ref u22, .ref u23, .ref u24, .int (iI tc)])), (u21, .inl (X.2.1.1, 4, .inl (iF (updI Ss (Int.toNat k) m1)))), (u22, .inl (X.2.1.1, 4, .inl (iF (updI Sl (Int.toNat k) w)))), (u23, .inl (X.2.1.1, 240, .inl (iF (flT Sh (60 * k) m1))))])) A) args s 0 0 A) 0 0 [(h0, .inr (6, [.int (iI ft), .int (iI sc), .ref u2, .ref u3, .ref u4, .ref u5, .ref u6, .ref u7, .ref u8, .int (iI rm), .int (iI wc), .ref u11, .int (iI sh), .int (iI tq), .ref u14, .int (iI cnt), .ref u16, .int (iI gf), .int (iI gs), .int (iI rc), .ref u20, .ref u21, .ref u22, .ref u23, .ref u24, .int (iI tc)])), (u21, .inl (X.2.1.1, 4, .inl (iF (updI Ss (Int.toNat k) m1)))), (u22, .inl (X.2.1.1, 4, .inl (iF (updI Sl (Int.toNat k) w)))), (u23, .inl (X.2.1.1, 240, .inl (iF G)))] 65 [(0, .ref h0), (1, .int (iI k)), (2, .int (iI w)), (3, .int (iI m1)), (4, .int (iI c1))] [] := by
    intro fu65
    induction fu65 with
    | zero => intro c1 G ic iG hm65; exact absurd hm65 (Nat.not_lt_zero _)
    | succ fu65 ih65 =>
      intro c1 G ic iG hm65
      refine r_iload C dX6_sheet_65 4 rfl ?_
      refine r_iload_n C dX6_sheet_67 3 rfl ?_
      refine r_icmp_ge (tgt := 90) C dX6_sheet_68 (by decide) (by omega) (by omega) (fun h_7 => ?_) (fun h_7 => ?_)
      · skip
        refine r_aload_n C dX6_sheet_90 0 rfl ?_
        refine r_iconst C dX6_sheet_91 ?_
        refine g_V_i (ws2 := (fun _ => [(h0, .inr (6, [.int (iI 0), .int (iI sc), .ref u2, .ref u3, .ref u4, .ref u5, .ref u6, .ref u7, .ref u8, .int (iI rm), .int (iI wc), .ref u11, .int (iI sh), .int (iI tq), .ref u14, .int (iI cnt), .ref u16, .int (iI gf), .int (iI gs), .int (iI rc), .ref u20, .ref u21, .ref u22, .ref u23, .ref u24, .int (iI tc)])), (u21, .inl (X.2.1.1, 4, .inl (iF (updI Ss (Int.toNat k) m1)))), (u22, .inl (X.2.1.1, 4, .inl (iF (updI Sl (Int.toNat k) w)))), (u23, .inl (X.2.1.1, 240, .inl (iF G)))])) (As := [.int (iI 1)]) C (c_X6_refused l X h0 u2 u3 u4 u5 u6 u7 u8 u11 u14 u16 u20 u21 u22 u23 u24 ft sc rm wc sh tq cnt gf gs rc tc 1 ) gX6_sheet_X6_refused rfl rfl rfl hd_V_X6_refused_X6_sheet (by decide) dX6_sheet_92 [0] [1, 2, 3] [3, 0, 1, 2] rfl rfl rfl rfl (by decide) rfl 0 6 rfl rfl rfl rfl (Nat.le_of_ble_eq_true rfl) (by decide) (fun _ => rfl) (fun _ hy_ => ?_)
        clear hy_
        exact g_ret_i C rfl dX6_sheet_95 () trivial (by (repeat' split) <;> first | rfl | omega) [0, 1, 2, 3] rfl (by rw [iG, show c1 = m1 by omega] <;> rfl)
      · skip
        refine r_aload_n C dX6_sheet_71 0 rfl ?_
        refine gf_6_23 C hi_X6_sheet_6 kw_X6_sheet_3 dX6_sheet_72 0 rfl rfl ?_
        refine r_bipush C dX6_sheet_75 (by decide) ?_
        refine r_iload_n C dX6_sheet_77 1 rfl ?_
        refine r_imul C dX6_sheet_78 ?_
        refine r_iload C dX6_sheet_79 4 rfl ?_
        refine r_iadd C dX6_sheet_81 ?_
        refine r_iconst C dX6_sheet_82 ?_
        refine r_iast (ws2 := [(h0, .inr (6, [.int (iI ft), .int (iI sc), .ref u2, .ref u3, .ref u4, .ref u5, .ref u6, .ref u7, .ref u8, .int (iI rm), .int (iI wc), .ref u11, .int (iI sh), .int (iI tq), .ref u14, .int (iI cnt), .ref u16, .int (iI gf), .int (iI gs), .int (iI rc), .ref u20, .ref u21, .ref u22, .ref u23, .ref u24, .int (iI tc)])), (u21, .inl (X.2.1.1, 4, .inl (iF (updI Ss (Int.toNat k) m1)))), (u22, .inl (X.2.1.1, 4, .inl (iF (updI Sl (Int.toNat k) w)))), (u23, .inl (X.2.1.1, 240, .inl (iF (updI G (Int.toNat ((60 * k) + c1)) 0))))]) C dX6_sheet_83 3 rfl (by omega) (by decide) rfl ?_
        refine r_iinc (lo2 := [(4, .int (iI (c1 + 1))), (0, .ref h0), (1, .int (iI k)), (2, .int (iI w)), (3, .int (iI m1))]) C dX6_sheet_84 4 rfl (by decide) rfl ?_
        refine r_goto (tgt := 65) C dX6_sheet_87 (by decide) ?_
        refine r_lo [1, 2, 3, 4, 0] (lo2 := [(0, .ref h0), (1, .int (iI k)), (2, .int (iI w)), (3, .int (iI m1)), (4, .int (iI (c1 + 1)))]) rfl ?_
        exact ih65 (c1 + 1) (updI G (Int.toNat ((60 * k) + c1)) 0) (by omega) (by rw [iG]; exact flT_go (by omega) (by omega)) (by omega)
  refine r_lo [1, 2, 3, 4, 0] (lo2 := [(0, .ref h0), (1, .int (iI k)), (2, .int (iI w)), (3, .int (iI m1)), (4, .int (iI 0))]) rfl ?_
  exact L65 ((m1 - (0 : Int)).toNat + 1) 0 Sh (by omega) (flT_0 _ _) (Nat.lt_succ_self _)

set_option maxHeartbeats 4000000 in
set_option maxRecDepth 100000 in
theorem c_X6_sheet_out (l : Launch) (X : gX) (h0 : Nat) (u2 : Nat) (u3 : Nat) (u4 : Nat) (u5 : Nat) (u6 : Nat) (u7 : Nat) (u8 : Nat) (u11 : Nat) (u14 : Nat) (u16 : Nat) (u20 : Nat) (u21 : Nat) (u22 : Nat) (u23 : Nat) (u24 : Nat) (ft : Int) (sc : Int) (rm : Int) (wc : Int) (sh : Int) (tq : Int) (cnt : Int) (gf : Int) (gs : Int) (rc : Int) (tc : Int) (k : Int) (w : Int) (m1 : Int) (hx : ¬ (0 ≤ k ∧ k < 4)) (hbk : inB k) : gM l yX6_sheet wsX6_sheet (gr 2 0 0) X [(h0, .inr (6, [.int (iI ft), .int (iI sc), .ref u2, .ref u3, .ref u4, .ref u5, .ref u6, .ref u7, .ref u8, .int (iI rm), .int (iI wc), .ref u11, .int (iI sh), .int (iI tq), .ref u14, .int (iI cnt), .ref u16, .int (iI gf), .int (iI gs), .int (iI rc), .ref u20, .ref u21, .ref u22, .ref u23, .ref u24, .int (iI tc)]))] [.ref h0, .int (iI k), .int (iI w), .int (iI m1)] (gQi X (Y := Unit) (fun _ => True) (fun _ => -1) (fun _ => [(h0, .inr (6, [.int (iI 0), .int (iI sc), .ref u2, .ref u3, .ref u4, .ref u5, .ref u6, .ref u7, .ref u8, .int (iI rm), .int (iI wc), .ref u11, .int (iI sh), .int (iI tq), .ref u14, .int (iI cnt), .ref u16, .int (iI gf), .int (iI gs), .int (iI rc), .ref u20, .ref u21, .ref u22, .ref u23, .ref u24, .int (iI tc)]))])) 0 0 := by
  refine g_start2 (lo := [(0, .ref h0), (1, .int (iI k)), (2, .int (iI w)), (3, .int (iI m1))]) (by decide +kernel) rfl rfl (Nat.le_of_ble_eq_true rfl) (fun p e s m args below meth c A C => ?_)
  refine r_iload_n C dX6_sheet_0 1 rfl ?_
  refine g_S_i (ws2 := (fun _ => [(h0, .inr (6, [.int (iI ft), .int (iI sc), .ref u2, .ref u3, .ref u4, .ref u5, .ref u6, .ref u7, .ref u8, .int (iI rm), .int (iI wc), .ref u11, .int (iI sh), .int (iI tq), .ref u14, .int (iI cnt), .ref u16, .int (iI gf), .int (iI gs), .int (iI rc), .ref u20, .ref u21, .ref u22, .ref u23, .ref u24, .int (iI tc)]))])) (As := [.int (iI k)]) C (c_X6_noSheet l X k (by first | assumption | omega)) gX6_sheet_X6_noSheet rfl rfl rfl hd_S_X6_noSheet_X6_sheet (by decide) dX6_sheet_1 [] [0] [0] rfl rfl rfl rfl (by decide) rfl rfl rfl (Nat.le_of_ble_eq_true rfl) (by decide) (fun _ => rfl) (fun _ hy_ => ?_)
  clear hy_
  refine r_ite (fun h_1 => ?_) (fun h_1 => absurd h_1 (by omega))
  refine r_if_eq (tgt := 13) C dX6_sheet_4 (by decide) (by decide) (fun h_2 => absurd h_2 (by decide)) (fun h_2 => ?_)
  refine r_aload_n C dX6_sheet_7 0 rfl ?_
  refine r_iconst C dX6_sheet_8 ?_
  refine g_V_i (ws2 := (fun _ => [(h0, .inr (6, [.int (iI 0), .int (iI sc), .ref u2, .ref u3, .ref u4, .ref u5, .ref u6, .ref u7, .ref u8, .int (iI rm), .int (iI wc), .ref u11, .int (iI sh), .int (iI tq), .ref u14, .int (iI cnt), .ref u16, .int (iI gf), .int (iI gs), .int (iI rc), .ref u20, .ref u21, .ref u22, .ref u23, .ref u24, .int (iI tc)]))])) (As := [.int (iI (-1))]) C (c_X6_refused l X h0 u2 u3 u4 u5 u6 u7 u8 u11 u14 u16 u20 u21 u22 u23 u24 ft sc rm wc sh tq cnt gf gs rc tc (-1) ) gX6_sheet_X6_refused rfl rfl rfl hd_V_X6_refused_X6_sheet (by decide) dX6_sheet_9 [0] [] [0] rfl rfl rfl rfl (by decide) rfl 0 6 rfl rfl rfl rfl (Nat.le_of_ble_eq_true rfl) (by decide) (fun _ => rfl) (fun _ hy_ => ?_)
  clear hy_
  exact g_ret_i C rfl dX6_sheet_12 () trivial (by (repeat' split) <;> first | rfl | omega) [0] rfl (by (repeat' split) <;> first | rfl | omega)

set_option maxRecDepth 20000 in
theorem hd_S_X6_noSheet_X6_lose : yX6_noSheet.cls ≠ "java/lang/invoke/MethodHandle" ∧ yX6_noSheet.cls ≠ "java/lang/invoke/VarHandle" ∧ (parseMethodDescriptor yX6_noSheet.desc).map (fun d => d.parameters.length) = some 1 := by decide +kernel
set_option maxRecDepth 20000 in
theorem kw_X6_lose_0 : Cond.fieldLink RX6 43 "SkipStonesModel" "sheetSize" "[I" ∈ wsX6_lose := List.mem_of_getElem? (i := 1) rfl
set_option maxRecDepth 20000 in
theorem hi_X6_lose_6 : ∀ w ∈ wsX60, w ∈ wsX6_lose := fun _ h => List.mem_cons_of_mem _ (List.mem_append_right _ h)
set_option maxHeartbeats 4000000 in
set_option maxRecDepth 100000 in
theorem c_X6_lose_in (l : Launch) (X : gX) (h0 : Nat) (u2 : Nat) (u3 : Nat) (u4 : Nat) (u5 : Nat) (u6 : Nat) (u7 : Nat) (u8 : Nat) (u11 : Nat) (u14 : Nat) (u16 : Nat) (u20 : Nat) (u21 : Nat) (u22 : Nat) (u23 : Nat) (u24 : Nat) (ft : Int) (sc : Int) (rm : Int) (wc : Int) (sh : Int) (tq : Int) (cnt : Int) (gf : Int) (gs : Int) (rc : Int) (tc : Int) (Ss : Nat → Int) (k : Int) (hx : 0 ≤ k ∧ k < 4) (hSs : ∀ i, -1 ≤ Ss i ∧ Ss i ≤ 60) : gM l yX6_lose wsX6_lose (gr 2 0 0) X [(h0, .inr (6, [.int (iI ft), .int (iI sc), .ref u2, .ref u3, .ref u4, .ref u5, .ref u6, .ref u7, .ref u8, .int (iI rm), .int (iI wc), .ref u11, .int (iI sh), .int (iI tq), .ref u14, .int (iI cnt), .ref u16, .int (iI gf), .int (iI gs), .int (iI rc), .ref u20, .ref u21, .ref u22, .ref u23, .ref u24, .int (iI tc)])), (u21, .inl (X.2.1.1, 4, .inl (iF Ss)))] [.ref h0, .int (iI k)] (gQi X (Y := Unit) (fun _ => True) (fun _ => (if (Ss (Int.toNat k)) < 0 then 0 else 1)) (fun _ => [(h0, .inr (6, [.int (iI ft), .int (iI sc), .ref u2, .ref u3, .ref u4, .ref u5, .ref u6, .ref u7, .ref u8, .int (iI rm), .int (iI wc), .ref u11, .int (iI sh), .int (iI tq), .ref u14, .int (iI cnt), .ref u16, .int (iI gf), .int (iI gs), .int (iI rc), .ref u20, .ref u21, .ref u22, .ref u23, .ref u24, .int (iI tc)])), (u21, .inl (X.2.1.1, 4, .inl (iF (updI Ss (Int.toNat k) (-1)))))])) 0 0 := by
  refine g_start2 (lo := [(0, .ref h0), (1, .int (iI k))]) (by decide +kernel) rfl rfl (Nat.le_of_ble_eq_true rfl) (fun p e s m args below meth c A C => ?_)
  have qs1 := hSs (Int.toNat k)
  refine r_iload_n C dX6_lose_0 1 rfl ?_
  refine g_S_i (ws2 := (fun _ => [(h0, .inr (6, [.int (iI ft), .int (iI sc), .ref u2, .ref u3, .ref u4, .ref u5, .ref u6, .ref u7, .ref u8, .int (iI rm), .int (iI wc), .ref u11, .int (iI sh), .int (iI tq), .ref u14, .int (iI cnt), .ref u16, .int (iI gf), .int (iI gs), .int (iI rc), .ref u20, .ref u21, .ref u22, .ref u23, .ref u24, .int (iI tc)])), (u21, .inl (X.2.1.1, 4, .inl (iF Ss)))])) (As := [.int (iI k)]) C (c_X6_noSheet l X k (by first | assumption | omega)) gX6_lose_X6_noSheet rfl rfl rfl hd_S_X6_noSheet_X6_lose (by decide) dX6_lose_1 [] [0, 1] [0, 1] rfl rfl rfl rfl (by decide) rfl rfl rfl (Nat.le_of_ble_eq_true rfl) (by decide) (fun _ => rfl) (fun _ hy_ => ?_)
  clear hy_
  refine r_ite (fun h_1 => absurd h_1 (by omega)) (fun h_1 => ?_)
  refine r_if_eq (tgt := 9) C dX6_lose_4 (by decide) (by decide) (fun h_2 => ?_) (fun h_2 => absurd h_2 (by decide))
  refine r_aload_n C dX6_lose_9 0 rfl ?_
  refine gf_6_21 C hi_X6_lose_6 kw_X6_lose_0 dX6_lose_10 0 rfl rfl ?_
  refine r_iload_n C dX6_lose_13 1 rfl ?_
  refine r_iald C dX6_lose_14 1 rfl (by omega) (by decide) ?_
  refine r_if_ge (tgt := 22) C dX6_lose_15 (by decide) (by have := hSs (Int.toNat k); omega) (fun h_3 => ?_) (fun h_3 => ?_)
  · skip
    refine r_iconst C dX6_lose_22 ?_
    refine r_istore_n (lo2 := [(2, .int (iI 1)), (0, .ref h0), (1, .int (iI k))]) C dX6_lose_23 rfl (by decide) rfl ?_
    refine r_aload_n C dX6_lose_24 1 rfl ?_
    refine gf_6_21 C hi_X6_lose_6 kw_X6_lose_0 dX6_lose_25 0 rfl rfl ?_
    refine r_iload_n C dX6_lose_28 2 rfl ?_
    refine r_iconst C dX6_lose_29 ?_
    refine r_iast (ws2 := [(h0, .inr (6, [.int (iI ft), .int (iI sc), .ref u2, .ref u3, .ref u4, .ref u5, .ref u6, .ref u7, .ref u8, .int (iI rm), .int (iI wc), .ref u11, .int (iI sh), .int (iI tq), .ref u14, .int (iI cnt), .ref u16, .int (iI gf), .int (iI gs), .int (iI rc), .ref u20, .ref u21, .ref u22, .ref u23, .ref u24, .int (iI tc)])), (u21, .inl (X.2.1.1, 4, .inl (iF (updI Ss (Int.toNat k) (-1)))))]) C dX6_lose_30 1 rfl (by omega) (by decide) rfl ?_
    refine r_iload_n C dX6_lose_31 0 rfl ?_
    exact g_ret_i C rfl dX6_lose_32 () trivial (by (repeat' split) <;> first | rfl | omega) [0, 1] rfl (by (repeat' split) <;> first | rfl | omega)
  · skip
    refine r_iconst C dX6_lose_18 ?_
    refine r_goto (tgt := 23) C dX6_lose_19 (by decide) ?_
    refine r_istore_n (lo2 := [(2, .int (iI 0)), (0, .ref h0), (1, .int (iI k))]) C dX6_lose_23 rfl (by decide) rfl ?_
    refine r_aload_n C dX6_lose_24 1 rfl ?_
    refine gf_6_21 C hi_X6_lose_6 kw_X6_lose_0 dX6_lose_25 0 rfl rfl ?_
    refine r_iload_n C dX6_lose_28 2 rfl ?_
    refine r_iconst C dX6_lose_29 ?_
    refine r_iast (ws2 := [(h0, .inr (6, [.int (iI ft), .int (iI sc), .ref u2, .ref u3, .ref u4, .ref u5, .ref u6, .ref u7, .ref u8, .int (iI rm), .int (iI wc), .ref u11, .int (iI sh), .int (iI tq), .ref u14, .int (iI cnt), .ref u16, .int (iI gf), .int (iI gs), .int (iI rc), .ref u20, .ref u21, .ref u22, .ref u23, .ref u24, .int (iI tc)])), (u21, .inl (X.2.1.1, 4, .inl (iF (updI Ss (Int.toNat k) (-1)))))]) C dX6_lose_30 1 rfl (by omega) (by decide) rfl ?_
    refine r_iload_n C dX6_lose_31 0 rfl ?_
    exact g_ret_i C rfl dX6_lose_32 () trivial (by (repeat' split) <;> first | rfl | omega) [0, 1] rfl (by (repeat' split) <;> first | rfl | omega)

set_option maxHeartbeats 4000000 in
set_option maxRecDepth 100000 in
theorem c_X6_lose_out (l : Launch) (X : gX) (h0 : Nat) (u2 : Nat) (u3 : Nat) (u4 : Nat) (u5 : Nat) (u6 : Nat) (u7 : Nat) (u8 : Nat) (u11 : Nat) (u14 : Nat) (u16 : Nat) (u20 : Nat) (u21 : Nat) (u22 : Nat) (u23 : Nat) (u24 : Nat) (ft : Int) (sc : Int) (rm : Int) (wc : Int) (sh : Int) (tq : Int) (cnt : Int) (gf : Int) (gs : Int) (rc : Int) (tc : Int) (k : Int) (hx : ¬ (0 ≤ k ∧ k < 4)) (hbk : inB k) : gM l yX6_lose wsX6_lose (gr 2 0 0) X [(h0, .inr (6, [.int (iI ft), .int (iI sc), .ref u2, .ref u3, .ref u4, .ref u5, .ref u6, .ref u7, .ref u8, .int (iI rm), .int (iI wc), .ref u11, .int (iI sh), .int (iI tq), .ref u14, .int (iI cnt), .ref u16, .int (iI gf), .int (iI gs), .int (iI rc), .ref u20, .ref u21, .ref u22, .ref u23, .ref u24, .int (iI tc)]))] [.ref h0, .int (iI k)] (gQi X (Y := Unit) (fun _ => True) (fun _ => -1) (fun _ => [(h0, .inr (6, [.int (iI ft), .int (iI sc), .ref u2, .ref u3, .ref u4, .ref u5, .ref u6, .ref u7, .ref u8, .int (iI rm), .int (iI wc), .ref u11, .int (iI sh), .int (iI tq), .ref u14, .int (iI cnt), .ref u16, .int (iI gf), .int (iI gs), .int (iI rc), .ref u20, .ref u21, .ref u22, .ref u23, .ref u24, .int (iI tc)]))])) 0 0 := by
  refine g_start2 (lo := [(0, .ref h0), (1, .int (iI k))]) (by decide +kernel) rfl rfl (Nat.le_of_ble_eq_true rfl) (fun p e s m args below meth c A C => ?_)
  refine r_iload_n C dX6_lose_0 1 rfl ?_
  refine g_S_i (ws2 := (fun _ => [(h0, .inr (6, [.int (iI ft), .int (iI sc), .ref u2, .ref u3, .ref u4, .ref u5, .ref u6, .ref u7, .ref u8, .int (iI rm), .int (iI wc), .ref u11, .int (iI sh), .int (iI tq), .ref u14, .int (iI cnt), .ref u16, .int (iI gf), .int (iI gs), .int (iI rc), .ref u20, .ref u21, .ref u22, .ref u23, .ref u24, .int (iI tc)]))])) (As := [.int (iI k)]) C (c_X6_noSheet l X k (by first | assumption | omega)) gX6_lose_X6_noSheet rfl rfl rfl hd_S_X6_noSheet_X6_lose (by decide) dX6_lose_1 [] [0] [0] rfl rfl rfl rfl (by decide) rfl rfl rfl (Nat.le_of_ble_eq_true rfl) (by decide) (fun _ => rfl) (fun _ hy_ => ?_)
  clear hy_
  refine r_ite (fun h_1 => ?_) (fun h_1 => absurd h_1 (by omega))
  refine r_if_eq (tgt := 9) C dX6_lose_4 (by decide) (by decide) (fun h_2 => absurd h_2 (by decide)) (fun h_2 => ?_)
  refine r_iconst C dX6_lose_7 ?_
  exact g_ret_i C rfl dX6_lose_8 () trivial (by (repeat' split) <;> first | rfl | omega) [0] rfl (by (repeat' split) <;> first | rfl | omega)

set_option maxRecDepth 20000 in
theorem kw_X6_noCell_0 : Cond.fieldLink RX6 43 "SkipStonesModel" "sheetSize" "[I" ∈ wsX6_noCell := List.mem_of_getElem? (i := 1) rfl
set_option maxRecDepth 20000 in
theorem hi_X6_noCell_6 : ∀ w ∈ wsX60, w ∈ wsX6_noCell := fun _ h => List.mem_cons_of_mem _ (List.mem_append_right _ h)
set_option maxHeartbeats 4000000 in
set_option maxRecDepth 100000 in
theorem c_X6_noCell_null (l : Launch) (X : gX) (h0 : Nat) (u2 : Nat) (u3 : Nat) (u4 : Nat) (u5 : Nat) (u6 : Nat) (u7 : Nat) (u8 : Nat) (u11 : Nat) (u14 : Nat) (u16 : Nat) (u20 : Nat) (u21 : Nat) (u22 : Nat) (u23 : Nat) (u24 : Nat) (ft : Int) (sc : Int) (rm : Int) (wc : Int) (sh : Int) (tq : Int) (cnt : Int) (gf : Int) (gs : Int) (rc : Int) (tc : Int) (Ss : Nat → Int) (k : Int) (i1 : Int) (hx : 0 ≤ k ∧ k < 4) (hb_i1 : inB i1) (hSs : ∀ i, -1 ≤ Ss i ∧ Ss i ≤ 60) (hnc : (Ss (Int.toNat k)) < 0) : gM l yX6_noCell wsX6_noCell (gr 1 0 0) X [(h0, .inr (6, [.int (iI ft), .int (iI sc), .ref u2, .ref u3, .ref u4, .ref u5, .ref u6, .ref u7, .ref u8, .int (iI rm), .int (iI wc), .ref u11, .int (iI sh), .int (iI tq), .ref u14, .int (iI cnt), .ref u16, .int (iI gf), .int (iI gs), .int (iI rc), .ref u20, .ref u21, .ref u22, .ref u23, .ref u24, .int (iI tc)])), (u21, .inl (X.2.1.1, 4, .inl (iF Ss)))] [.ref h0, .int (iI k), .int (iI i1)] (gQi X (Y := Unit) (fun _ => True) (fun _ => 1) (fun _ => [(h0, .inr (6, [.int (iI ft), .int (iI sc), .ref u2, .ref u3, .ref u4, .ref u5, .ref u6, .ref u7, .ref u8, .int (iI rm), .int (iI wc), .ref u11, .int (iI sh), .int (iI tq), .ref u14, .int (iI cnt), .ref u16, .int (iI gf), .int (iI gs), .int (iI rc), .ref u20, .ref u21, .ref u22, .ref u23, .ref u24, .int (iI tc)])), (u21, .inl (X.2.1.1, 4, .inl (iF Ss)))])) 0 0 := by
  refine g_start2 (lo := [(0, .ref h0), (1, .int (iI k)), (2, .int (iI i1))]) (by decide +kernel) rfl rfl (Nat.le_of_ble_eq_true rfl) (fun p e s m args below meth c A C => ?_)
  have qs1 := hSs (Int.toNat k)
  refine r_aload_n C dX6_noCell_0 0 rfl ?_
  refine gf_6_21 C hi_X6_noCell_6 kw_X6_noCell_0 dX6_noCell_1 0 rfl rfl ?_
  refine r_iload_n C dX6_noCell_4 1 rfl ?_
  refine r_iald C dX6_noCell_5 1 rfl (by omega) (by decide) ?_
  refine r_if_ge (tgt := 13) C dX6_noCell_6 (by decide) (by have := hSs (Int.toNat k); omega) (fun h_1 => absurd h_1 (by omega)) (fun h_1 => ?_)
  refine r_iconst C dX6_noCell_9 ?_
  refine r_goto (tgt := 36) C dX6_noCell_10 (by decide) ?_
  exact g_ret_i C rfl dX6_noCell_36 () trivial (by (repeat' split) <;> first | rfl | omega) [0, 1] rfl (by (repeat' split) <;> first | rfl | omega)

set_option maxRecDepth 20000 in
theorem hd_S_X6_in_X6_noCell : yX6_in.cls ≠ "java/lang/invoke/MethodHandle" ∧ yX6_in.cls ≠ "java/lang/invoke/VarHandle" ∧ (parseMethodDescriptor yX6_in.desc).map (fun d => d.parameters.length) = some 3 := by decide +kernel
set_option maxHeartbeats 4000000 in
set_option maxRecDepth 100000 in
theorem c_X6_noCell_in (l : Launch) (X : gX) (h0 : Nat) (u2 : Nat) (u3 : Nat) (u4 : Nat) (u5 : Nat) (u6 : Nat) (u7 : Nat) (u8 : Nat) (u11 : Nat) (u14 : Nat) (u16 : Nat) (u20 : Nat) (u21 : Nat) (u22 : Nat) (u23 : Nat) (u24 : Nat) (ft : Int) (sc : Int) (rm : Int) (wc : Int) (sh : Int) (tq : Int) (cnt : Int) (gf : Int) (gs : Int) (rc : Int) (tc : Int) (Ss : Nat → Int) (k : Int) (i1 : Int) (hx : 0 ≤ k ∧ k < 4) (hb_i1 : inB i1) (hSs : ∀ i, -1 ≤ Ss i ∧ Ss i ≤ 60) (hnc : 0 ≤ (Ss (Int.toNat k)) ∧ 0 ≤ i1 ∧ i1 < (Ss (Int.toNat k))) : gM l yX6_noCell wsX6_noCell (gr 1 0 0) X [(h0, .inr (6, [.int (iI ft), .int (iI sc), .ref u2, .ref u3, .ref u4, .ref u5, .ref u6, .ref u7, .ref u8, .int (iI rm), .int (iI wc), .ref u11, .int (iI sh), .int (iI tq), .ref u14, .int (iI cnt), .ref u16, .int (iI gf), .int (iI gs), .int (iI rc), .ref u20, .ref u21, .ref u22, .ref u23, .ref u24, .int (iI tc)])), (u21, .inl (X.2.1.1, 4, .inl (iF Ss)))] [.ref h0, .int (iI k), .int (iI i1)] (gQi X (Y := Unit) (fun _ => True) (fun _ => 0) (fun _ => [(h0, .inr (6, [.int (iI ft), .int (iI sc), .ref u2, .ref u3, .ref u4, .ref u5, .ref u6, .ref u7, .ref u8, .int (iI rm), .int (iI wc), .ref u11, .int (iI sh), .int (iI tq), .ref u14, .int (iI cnt), .ref u16, .int (iI gf), .int (iI gs), .int (iI rc), .ref u20, .ref u21, .ref u22, .ref u23, .ref u24, .int (iI tc)])), (u21, .inl (X.2.1.1, 4, .inl (iF Ss)))])) 0 0 := by
  refine g_start2 (lo := [(0, .ref h0), (1, .int (iI k)), (2, .int (iI i1))]) (by decide +kernel) rfl rfl (Nat.le_of_ble_eq_true rfl) (fun p e s m args below meth c A C => ?_)
  have qs1 := hSs (Int.toNat k)
  refine r_aload_n C dX6_noCell_0 0 rfl ?_
  refine gf_6_21 C hi_X6_noCell_6 kw_X6_noCell_0 dX6_noCell_1 0 rfl rfl ?_
  refine r_iload_n C dX6_noCell_4 1 rfl ?_
  refine r_iald C dX6_noCell_5 1 rfl (by omega) (by decide) ?_
  refine r_if_ge (tgt := 13) C dX6_noCell_6 (by decide) (by have := hSs (Int.toNat k); omega) (fun h_1 => ?_) (fun h_1 => absurd h_1 (by omega))
  refine r_iload_n C dX6_noCell_13 2 rfl ?_
  refine r_i2l C dX6_noCell_14 (by omega) ?_
  refine r_lconst (z := 0) C dX6_noCell_15 rfl ?_
  refine r_aload_n C dX6_noCell_16 0 rfl ?_
  refine gf_6_21 C hi_X6_noCell_6 kw_X6_noCell_0 dX6_noCell_17 0 rfl rfl ?_
  refine r_iload_n C dX6_noCell_20 1 rfl ?_
  refine r_iald C dX6_noCell_21 1 rfl (by omega) (by decide) ?_
  refine r_i2l C dX6_noCell_22 (by have := hSs (Int.toNat k); omega) ?_
  refine r_lconst (z := 1) C dX6_noCell_23 rfl ?_
  refine r_lsub C dX6_noCell_24 ?_
  refine g_S_i (ws2 := (fun _ => [(h0, .inr (6, [.int (iI ft), .int (iI sc), .ref u2, .ref u3, .ref u4, .ref u5, .ref u6, .ref u7, .ref u8, .int (iI rm), .int (iI wc), .ref u11, .int (iI sh), .int (iI tq), .ref u14, .int (iI cnt), .ref u16, .int (iI gf), .int (iI gs), .int (iI rc), .ref u20, .ref u21, .ref u22, .ref u23, .ref u24, .int (iI tc)])), (u21, .inl (X.2.1.1, 4, .inl (iF Ss)))])) (As := [.long (lI i1), .long (lI 0), .long (lI ((Ss (Int.toNat k)) - 1))]) C (c_X6_in l X i1 0 ((Ss (Int.toNat k)) - 1) (by first | assumption | omega) (by first | assumption | omega) (by first | assumption | have := hSs (Int.toNat k); omega)) gX6_noCell_X6_in rfl rfl rfl hd_S_X6_in_X6_noCell (by decide) dX6_noCell_25 [] [0, 1] [0, 1] rfl rfl rfl rfl (by decide) rfl rfl rfl (Nat.le_of_ble_eq_true rfl) (by decide) (fun _ => rfl) (fun _ hy_ => ?_)
  clear hy_
  refine r_ite (fun h_2 => ?_) (fun h_2 => absurd h_2 (by omega))
  refine r_if_eq (tgt := 35) C dX6_noCell_28 (by decide) (by decide) (fun h_3 => absurd h_3 (by decide)) (fun h_3 => ?_)
  refine r_iconst C dX6_noCell_31 ?_
  refine r_goto (tgt := 36) C dX6_noCell_32 (by decide) ?_
  exact g_ret_i C rfl dX6_noCell_36 () trivial (by (repeat' split) <;> first | rfl | omega) [0, 1] rfl (by (repeat' split) <;> first | rfl | omega)

set_option maxHeartbeats 4000000 in
set_option maxRecDepth 100000 in
theorem c_X6_noCell_far (l : Launch) (X : gX) (h0 : Nat) (u2 : Nat) (u3 : Nat) (u4 : Nat) (u5 : Nat) (u6 : Nat) (u7 : Nat) (u8 : Nat) (u11 : Nat) (u14 : Nat) (u16 : Nat) (u20 : Nat) (u21 : Nat) (u22 : Nat) (u23 : Nat) (u24 : Nat) (ft : Int) (sc : Int) (rm : Int) (wc : Int) (sh : Int) (tq : Int) (cnt : Int) (gf : Int) (gs : Int) (rc : Int) (tc : Int) (Ss : Nat → Int) (k : Int) (i1 : Int) (hx : 0 ≤ k ∧ k < 4) (hb_i1 : inB i1) (hSs : ∀ i, -1 ≤ Ss i ∧ Ss i ≤ 60) (hnc : 0 ≤ (Ss (Int.toNat k)) ∧ ¬ (0 ≤ i1 ∧ i1 < (Ss (Int.toNat k)))) : gM l yX6_noCell wsX6_noCell (gr 1 0 0) X [(h0, .inr (6, [.int (iI ft), .int (iI sc), .ref u2, .ref u3, .ref u4, .ref u5, .ref u6, .ref u7, .ref u8, .int (iI rm), .int (iI wc), .ref u11, .int (iI sh), .int (iI tq), .ref u14, .int (iI cnt), .ref u16, .int (iI gf), .int (iI gs), .int (iI rc), .ref u20, .ref u21, .ref u22, .ref u23, .ref u24, .int (iI tc)])), (u21, .inl (X.2.1.1, 4, .inl (iF Ss)))] [.ref h0, .int (iI k), .int (iI i1)] (gQi X (Y := Unit) (fun _ => True) (fun _ => 3) (fun _ => [(h0, .inr (6, [.int (iI ft), .int (iI sc), .ref u2, .ref u3, .ref u4, .ref u5, .ref u6, .ref u7, .ref u8, .int (iI rm), .int (iI wc), .ref u11, .int (iI sh), .int (iI tq), .ref u14, .int (iI cnt), .ref u16, .int (iI gf), .int (iI gs), .int (iI rc), .ref u20, .ref u21, .ref u22, .ref u23, .ref u24, .int (iI tc)])), (u21, .inl (X.2.1.1, 4, .inl (iF Ss)))])) 0 0 := by
  refine g_start2 (lo := [(0, .ref h0), (1, .int (iI k)), (2, .int (iI i1))]) (by decide +kernel) rfl rfl (Nat.le_of_ble_eq_true rfl) (fun p e s m args below meth c A C => ?_)
  have qs1 := hSs (Int.toNat k)
  refine r_aload_n C dX6_noCell_0 0 rfl ?_
  refine gf_6_21 C hi_X6_noCell_6 kw_X6_noCell_0 dX6_noCell_1 0 rfl rfl ?_
  refine r_iload_n C dX6_noCell_4 1 rfl ?_
  refine r_iald C dX6_noCell_5 1 rfl (by omega) (by decide) ?_
  refine r_if_ge (tgt := 13) C dX6_noCell_6 (by decide) (by have := hSs (Int.toNat k); omega) (fun h_1 => ?_) (fun h_1 => absurd h_1 (by omega))
  refine r_iload_n C dX6_noCell_13 2 rfl ?_
  refine r_i2l C dX6_noCell_14 (by omega) ?_
  refine r_lconst (z := 0) C dX6_noCell_15 rfl ?_
  refine r_aload_n C dX6_noCell_16 0 rfl ?_
  refine gf_6_21 C hi_X6_noCell_6 kw_X6_noCell_0 dX6_noCell_17 0 rfl rfl ?_
  refine r_iload_n C dX6_noCell_20 1 rfl ?_
  refine r_iald C dX6_noCell_21 1 rfl (by omega) (by decide) ?_
  refine r_i2l C dX6_noCell_22 (by have := hSs (Int.toNat k); omega) ?_
  refine r_lconst (z := 1) C dX6_noCell_23 rfl ?_
  refine r_lsub C dX6_noCell_24 ?_
  refine g_S_i (ws2 := (fun _ => [(h0, .inr (6, [.int (iI ft), .int (iI sc), .ref u2, .ref u3, .ref u4, .ref u5, .ref u6, .ref u7, .ref u8, .int (iI rm), .int (iI wc), .ref u11, .int (iI sh), .int (iI tq), .ref u14, .int (iI cnt), .ref u16, .int (iI gf), .int (iI gs), .int (iI rc), .ref u20, .ref u21, .ref u22, .ref u23, .ref u24, .int (iI tc)])), (u21, .inl (X.2.1.1, 4, .inl (iF Ss)))])) (As := [.long (lI i1), .long (lI 0), .long (lI ((Ss (Int.toNat k)) - 1))]) C (c_X6_in l X i1 0 ((Ss (Int.toNat k)) - 1) (by first | assumption | omega) (by first | assumption | omega) (by first | assumption | have := hSs (Int.toNat k); omega)) gX6_noCell_X6_in rfl rfl rfl hd_S_X6_in_X6_noCell (by decide) dX6_noCell_25 [] [0, 1] [0, 1] rfl rfl rfl rfl (by decide) rfl rfl rfl (Nat.le_of_ble_eq_true rfl) (by decide) (fun _ => rfl) (fun _ hy_ => ?_)
  clear hy_
  refine r_ite (fun h_2 => absurd h_2 (by omega)) (fun h_2 => ?_)
  refine r_if_eq (tgt := 35) C dX6_noCell_28 (by decide) (by decide) (fun h_3 => ?_) (fun h_3 => absurd h_3 (by decide))
  refine r_iconst C dX6_noCell_35 ?_
  exact g_ret_i C rfl dX6_noCell_36 () trivial (by (repeat' split) <;> first | rfl | omega) [0, 1] rfl (by (repeat' split) <;> first | rfl | omega)

set_option maxRecDepth 20000 in
theorem hd_S_X6_noSheet_X6_put : yX6_noSheet.cls ≠ "java/lang/invoke/MethodHandle" ∧ yX6_noSheet.cls ≠ "java/lang/invoke/VarHandle" ∧ (parseMethodDescriptor yX6_noSheet.desc).map (fun d => d.parameters.length) = some 1 := by decide +kernel
set_option maxRecDepth 20000 in
theorem hd_V_X6_noCell_X6_put : yX6_noCell.cls = yX6_noCell.cls ∧ yX6_noCell.cls ≠ "java/lang/invoke/MethodHandle" ∧ yX6_noCell.cls ≠ "java/lang/invoke/VarHandle" ∧ (parseMethodDescriptor yX6_noCell.desc).map (fun d => d.parameters.length) = some 2 := by decide +kernel
set_option maxRecDepth 20000 in
theorem hd_V_X6_failed_X6_put : yX6_failed.cls = yX6_failed.cls ∧ yX6_failed.cls ≠ "java/lang/invoke/MethodHandle" ∧ yX6_failed.cls ≠ "java/lang/invoke/VarHandle" ∧ (parseMethodDescriptor yX6_failed.desc).map (fun d => d.parameters.length) = some 1 := by decide +kernel
set_option maxHeartbeats 4000000 in
set_option maxRecDepth 100000 in
theorem c_X6_put_no (l : Launch) (X : gX) (h0 : Nat) (u2 : Nat) (u3 : Nat) (u4 : Nat) (u5 : Nat) (u6 : Nat) (u7 : Nat) (u8 : Nat) (u11 : Nat) (u14 : Nat) (u16 : Nat) (u20 : Nat) (u21 : Nat) (u22 : Nat) (u23 : Nat) (u24 : Nat) (ft : Int) (sc : Int) (rm : Int) (wc : Int) (sh : Int) (tq : Int) (cnt : Int) (gf : Int) (gs : Int) (rc : Int) (tc : Int) (Ss : Nat → Int) (Sl : Nat → Int) (Sh : Nat → Int) (k : Int) (i1 : Int) (v : Int) (hx : 0 ≤ k ∧ k < 4) (hb_i1 : inB i1) (hb_v : inB v) (hSs : ∀ i, -1 ≤ Ss i ∧ Ss i ≤ 60) (hSl : ∀ i, 0 ≤ Sl i ∧ Sl i ≤ 2) (hSh : ∀ i, inB (Sh i)) (hok : ¬ (0 ≤ (Ss (Int.toNat k)) ∧ 0 ≤ i1 ∧ i1 < (Ss (Int.toNat k)))) : gM l yX6_put wsX6_put (gr 2 0 0) X [(h0, .inr (6, [.int (iI ft), .int (iI sc), .ref u2, .ref u3, .ref u4, .ref u5, .ref u6, .ref u7, .ref u8, .int (iI rm), .int (iI wc), .ref u11, .int (iI sh), .int (iI tq), .ref u14, .int (iI cnt), .ref u16, .int (iI gf), .int (iI gs), .int (iI rc), .ref u20, .ref u21, .ref u22, .ref u23, .ref u24, .int (iI tc)])), (u21, .inl (X.2.1.1, 4, .inl (iF Ss))), (u22, .inl (X.2.1.1, 4, .inl (iF Sl))), (u23, .inl (X.2.1.1, 240, .inl (iF Sh)))] [.ref h0, .int (iI k), .int (iI i1), .int (iI v)] (gQi X (Y := Unit) (fun _ => True) (fun _ => (if (Ss (Int.toNat k)) < 0 then -11 else -13)) (fun _ => [(h0, .inr (6, [.int (iI (if (Ss (Int.toNat k)) < 0 then 1 else 3)), .int (iI sc), .ref u2, .ref u3, .ref u4, .ref u5, .ref u6, .ref u7, .ref u8, .int (iI rm), .int (iI wc), .ref u11, .int (iI sh), .int (iI tq), .ref u14, .int (iI cnt), .ref u16, .int (iI gf), .int (iI gs), .int (iI rc), .ref u20, .ref u21, .ref u22, .ref u23, .ref u24, .int (iI tc)])), (u21, .inl (X.2.1.1, 4, .inl (iF Ss))), (u22, .inl (X.2.1.1, 4, .inl (iF Sl))), (u23, .inl (X.2.1.1, 240, .inl (iF Sh)))])) 0 0 := by
  refine g_start2 (lo := [(0, .ref h0), (1, .int (iI k)), (2, .int (iI i1)), (3, .int (iI v))]) (by decide +kernel) rfl rfl (Nat.le_of_ble_eq_true rfl) (fun p e s m args below meth c A C => ?_)
  have qs1 := hSs (Int.toNat k)
  have ql1 := hSl (Int.toNat k)
  refine r_iload_n C dX6_put_0 1 rfl ?_
  refine g_S_i (ws2 := (fun _ => [(h0, .inr (6, [.int (iI ft), .int (iI sc), .ref u2, .ref u3, .ref u4, .ref u5, .ref u6, .ref u7, .ref u8, .int (iI rm), .int (iI wc), .ref u11, .int (iI sh), .int (iI tq), .ref u14, .int (iI cnt), .ref u16, .int (iI gf), .int (iI gs), .int (iI rc), .ref u20, .ref u21, .ref u22, .ref u23, .ref u24, .int (iI tc)])), (u21, .inl (X.2.1.1, 4, .inl (iF Ss))), (u22, .inl (X.2.1.1, 4, .inl (iF Sl))), (u23, .inl (X.2.1.1, 240, .inl (iF Sh)))])) (As := [.int (iI k)]) C (c_X6_noSheet l X k (by first | assumption | omega)) gX6_put_X6_noSheet rfl rfl rfl hd_S_X6_noSheet_X6_put (by decide) dX6_put_1 [] [0, 1, 2, 3] [0, 1, 2, 3] rfl rfl rfl rfl (by decide) rfl rfl rfl (Nat.le_of_ble_eq_true rfl) (by decide) (fun _ => rfl) (fun _ hy_ => ?_)
  clear hy_
  refine r_ite (fun h_1 => absurd h_1 (by omega)) (fun h_1 => ?_)
  refine r_if_eq (tgt := 13) C dX6_put_4 (by decide) (by decide) (fun h_2 => ?_) (fun h_2 => absurd h_2 (by decide))
  refine r_aload_n C dX6_put_13 0 rfl ?_
  refine r_iload_n C dX6_put_14 1 rfl ?_
  refine r_iload_n C dX6_put_15 2 rfl ?_
  by_cases k_3 : (Ss (Int.toNat k)) < 0
  · skip
    refine g_V_i (ws2 := (fun _ => [(h0, .inr (6, [.int (iI ft), .int (iI sc), .ref u2, .ref u3, .ref u4, .ref u5, .ref u6, .ref u7, .ref u8, .int (iI rm), .int (iI wc), .ref u11, .int (iI sh), .int (iI tq), .ref u14, .int (iI cnt), .ref u16, .int (iI gf), .int (iI gs), .int (iI rc), .ref u20, .ref u21, .ref u22, .ref u23, .ref u24, .int (iI tc)])), (u21, .inl (X.2.1.1, 4, .inl (iF Ss))), (u22, .inl (X.2.1.1, 4, .inl (iF Sl))), (u23, .inl (X.2.1.1, 240, .inl (iF Sh)))])) (As := [.int (iI k), .int (iI i1)]) C (c_X6_noCell_null l X h0 u2 u3 u4 u5 u6 u7 u8 u11 u14 u16 u20 u21 u22 u23 u24 ft sc rm wc sh tq cnt gf gs rc tc Ss k i1 (by first | assumption | omega) (by first | assumption | omega) (by assumption) (by first | assumption | have := hSs (Int.toNat k); omega)) gX6_put_X6_noCell rfl rfl rfl hd_V_X6_noCell_X6_put (by decide) dX6_put_16 [0, 1] [2, 3] [2, 3, 0, 1] rfl rfl rfl rfl (by decide) rfl 0 6 rfl rfl rfl rfl (Nat.le_of_ble_eq_true rfl) (by decide) (fun _ => rfl) (fun _ hy_ => ?_)
    clear hy_
    refine r_if_le (tgt := 33) C dX6_put_19 (by decide) (by decide) (fun h_4 => absurd h_4 (by decide)) (fun h_4 => ?_)
    refine r_aload_n C dX6_put_22 0 rfl ?_
    refine r_aload_n C dX6_put_23 0 rfl ?_
    refine r_iload_n C dX6_put_24 1 rfl ?_
    refine r_iload_n C dX6_put_25 2 rfl ?_
    by_cases k_5 : (Ss (Int.toNat k)) < 0
    · skip
      refine g_V_i (ws2 := (fun _ => [(h0, .inr (6, [.int (iI ft), .int (iI sc), .ref u2, .ref u3, .ref u4, .ref u5, .ref u6, .ref u7, .ref u8, .int (iI rm), .int (iI wc), .ref u11, .int (iI sh), .int (iI tq), .ref u14, .int (iI cnt), .ref u16, .int (iI gf), .int (iI gs), .int (iI rc), .ref u20, .ref u21, .ref u22, .ref u23, .ref u24, .int (iI tc)])), (u21, .inl (X.2.1.1, 4, .inl (iF Ss))), (u22, .inl (X.2.1.1, 4, .inl (iF Sl))), (u23, .inl (X.2.1.1, 240, .inl (iF Sh)))])) (As := [.int (iI k), .int (iI i1)]) C (c_X6_noCell_null l X h0 u2 u3 u4 u5 u6 u7 u8 u11 u14 u16 u20 u21 u22 u23 u24 ft sc rm wc sh tq cnt gf gs rc tc Ss k i1 (by first | assumption | omega) (by first | assumption | omega) (by assumption) (by first | assumption | have := hSs (Int.toNat k); omega)) gX6_put_X6_noCell rfl rfl rfl hd_V_X6_noCell_X6_put (by decide) dX6_put_26 [0, 1] [2, 3] [2, 3, 0, 1] rfl rfl rfl rfl (by decide) rfl 0 6 rfl rfl rfl rfl (Nat.le_of_ble_eq_true rfl) (by decide) (fun _ => rfl) (fun _ hy_ => ?_)
      clear hy_
      refine g_V_i (ws2 := (fun _ => [(h0, .inr (6, [.int (iI 1), .int (iI sc), .ref u2, .ref u3, .ref u4, .ref u5, .ref u6, .ref u7, .ref u8, .int (iI rm), .int (iI wc), .ref u11, .int (iI sh), .int (iI tq), .ref u14, .int (iI cnt), .ref u16, .int (iI gf), .int (iI gs), .int (iI rc), .ref u20, .ref u21, .ref u22, .ref u23, .ref u24, .int (iI tc)])), (u21, .inl (X.2.1.1, 4, .inl (iF Ss))), (u22, .inl (X.2.1.1, 4, .inl (iF Sl))), (u23, .inl (X.2.1.1, 240, .inl (iF Sh)))])) (As := [.int (iI 1)]) C (c_X6_failed l X h0 u2 u3 u4 u5 u6 u7 u8 u11 u14 u16 u20 u21 u22 u23 u24 ft sc rm wc sh tq cnt gf gs rc tc 1 ) gX6_put_X6_failed rfl rfl rfl hd_V_X6_failed_X6_put (by decide) dX6_put_29 [0] [1, 2, 3] [3, 0, 1, 2] rfl rfl rfl rfl (by decide) rfl 0 6 rfl rfl rfl rfl (Nat.le_of_ble_eq_true rfl) (by decide) (fun _ => rfl) (fun _ hy_ => ?_)
      clear hy_
      exact g_ret_i C rfl dX6_put_32 () trivial (by (repeat' split) <;> first | rfl | omega) [0, 1, 2, 3] rfl (by (repeat' split) <;> first | rfl | omega)
    refine g_V_i (ws2 := (fun _ => [(h0, .inr (6, [.int (iI ft), .int (iI sc), .ref u2, .ref u3, .ref u4, .ref u5, .ref u6, .ref u7, .ref u8, .int (iI rm), .int (iI wc), .ref u11, .int (iI sh), .int (iI tq), .ref u14, .int (iI cnt), .ref u16, .int (iI gf), .int (iI gs), .int (iI rc), .ref u20, .ref u21, .ref u22, .ref u23, .ref u24, .int (iI tc)])), (u21, .inl (X.2.1.1, 4, .inl (iF Ss))), (u22, .inl (X.2.1.1, 4, .inl (iF Sl))), (u23, .inl (X.2.1.1, 240, .inl (iF Sh)))])) (As := [.int (iI k), .int (iI i1)]) C (c_X6_noCell_far l X h0 u2 u3 u4 u5 u6 u7 u8 u11 u14 u16 u20 u21 u22 u23 u24 ft sc rm wc sh tq cnt gf gs rc tc Ss k i1 (by first | assumption | omega) (by first | assumption | omega) (by assumption) (by first | assumption | have := hSs (Int.toNat k); omega)) gX6_put_X6_noCell rfl rfl rfl hd_V_X6_noCell_X6_put (by decide) dX6_put_26 [0, 1] [2, 3] [2, 3, 0, 1] rfl rfl rfl rfl (by decide) rfl 0 6 rfl rfl rfl rfl (Nat.le_of_ble_eq_true rfl) (by decide) (fun _ => rfl) (fun _ hy_ => ?_)
    clear hy_
    refine g_V_i (ws2 := (fun _ => [(h0, .inr (6, [.int (iI 3), .int (iI sc), .ref u2, .ref u3, .ref u4, .ref u5, .ref u6, .ref u7, .ref u8, .int (iI rm), .int (iI wc), .ref u11, .int (iI sh), .int (iI tq), .ref u14, .int (iI cnt), .ref u16, .int (iI gf), .int (iI gs), .int (iI rc), .ref u20, .ref u21, .ref u22, .ref u23, .ref u24, .int (iI tc)])), (u21, .inl (X.2.1.1, 4, .inl (iF Ss))), (u22, .inl (X.2.1.1, 4, .inl (iF Sl))), (u23, .inl (X.2.1.1, 240, .inl (iF Sh)))])) (As := [.int (iI 3)]) C (c_X6_failed l X h0 u2 u3 u4 u5 u6 u7 u8 u11 u14 u16 u20 u21 u22 u23 u24 ft sc rm wc sh tq cnt gf gs rc tc 3 ) gX6_put_X6_failed rfl rfl rfl hd_V_X6_failed_X6_put (by decide) dX6_put_29 [0] [1, 2, 3] [3, 0, 1, 2] rfl rfl rfl rfl (by decide) rfl 0 6 rfl rfl rfl rfl (Nat.le_of_ble_eq_true rfl) (by decide) (fun _ => rfl) (fun _ hy_ => ?_)
    clear hy_
    exact g_ret_i C rfl dX6_put_32 () trivial (by (repeat' split) <;> first | rfl | omega) [0, 1, 2, 3] rfl (by (repeat' split) <;> first | rfl | omega)
  refine g_V_i (ws2 := (fun _ => [(h0, .inr (6, [.int (iI ft), .int (iI sc), .ref u2, .ref u3, .ref u4, .ref u5, .ref u6, .ref u7, .ref u8, .int (iI rm), .int (iI wc), .ref u11, .int (iI sh), .int (iI tq), .ref u14, .int (iI cnt), .ref u16, .int (iI gf), .int (iI gs), .int (iI rc), .ref u20, .ref u21, .ref u22, .ref u23, .ref u24, .int (iI tc)])), (u21, .inl (X.2.1.1, 4, .inl (iF Ss))), (u22, .inl (X.2.1.1, 4, .inl (iF Sl))), (u23, .inl (X.2.1.1, 240, .inl (iF Sh)))])) (As := [.int (iI k), .int (iI i1)]) C (c_X6_noCell_far l X h0 u2 u3 u4 u5 u6 u7 u8 u11 u14 u16 u20 u21 u22 u23 u24 ft sc rm wc sh tq cnt gf gs rc tc Ss k i1 (by first | assumption | omega) (by first | assumption | omega) (by assumption) (by first | assumption | have := hSs (Int.toNat k); omega)) gX6_put_X6_noCell rfl rfl rfl hd_V_X6_noCell_X6_put (by decide) dX6_put_16 [0, 1] [2, 3] [2, 3, 0, 1] rfl rfl rfl rfl (by decide) rfl 0 6 rfl rfl rfl rfl (Nat.le_of_ble_eq_true rfl) (by decide) (fun _ => rfl) (fun _ hy_ => ?_)
  clear hy_
  refine r_if_le (tgt := 33) C dX6_put_19 (by decide) (by decide) (fun h_6 => absurd h_6 (by decide)) (fun h_6 => ?_)
  refine r_aload_n C dX6_put_22 0 rfl ?_
  refine r_aload_n C dX6_put_23 0 rfl ?_
  refine r_iload_n C dX6_put_24 1 rfl ?_
  refine r_iload_n C dX6_put_25 2 rfl ?_
  by_cases k_7 : (Ss (Int.toNat k)) < 0
  · skip
    refine g_V_i (ws2 := (fun _ => [(h0, .inr (6, [.int (iI ft), .int (iI sc), .ref u2, .ref u3, .ref u4, .ref u5, .ref u6, .ref u7, .ref u8, .int (iI rm), .int (iI wc), .ref u11, .int (iI sh), .int (iI tq), .ref u14, .int (iI cnt), .ref u16, .int (iI gf), .int (iI gs), .int (iI rc), .ref u20, .ref u21, .ref u22, .ref u23, .ref u24, .int (iI tc)])), (u21, .inl (X.2.1.1, 4, .inl (iF Ss))), (u22, .inl (X.2.1.1, 4, .inl (iF Sl))), (u23, .inl (X.2.1.1, 240, .inl (iF Sh)))])) (As := [.int (iI k), .int (iI i1)]) C (c_X6_noCell_null l X h0 u2 u3 u4 u5 u6 u7 u8 u11 u14 u16 u20 u21 u22 u23 u24 ft sc rm wc sh tq cnt gf gs rc tc Ss k i1 (by first | assumption | omega) (by first | assumption | omega) (by assumption) (by first | assumption | have := hSs (Int.toNat k); omega)) gX6_put_X6_noCell rfl rfl rfl hd_V_X6_noCell_X6_put (by decide) dX6_put_26 [0, 1] [2, 3] [2, 3, 0, 1] rfl rfl rfl rfl (by decide) rfl 0 6 rfl rfl rfl rfl (Nat.le_of_ble_eq_true rfl) (by decide) (fun _ => rfl) (fun _ hy_ => ?_)
    clear hy_
    refine g_V_i (ws2 := (fun _ => [(h0, .inr (6, [.int (iI 1), .int (iI sc), .ref u2, .ref u3, .ref u4, .ref u5, .ref u6, .ref u7, .ref u8, .int (iI rm), .int (iI wc), .ref u11, .int (iI sh), .int (iI tq), .ref u14, .int (iI cnt), .ref u16, .int (iI gf), .int (iI gs), .int (iI rc), .ref u20, .ref u21, .ref u22, .ref u23, .ref u24, .int (iI tc)])), (u21, .inl (X.2.1.1, 4, .inl (iF Ss))), (u22, .inl (X.2.1.1, 4, .inl (iF Sl))), (u23, .inl (X.2.1.1, 240, .inl (iF Sh)))])) (As := [.int (iI 1)]) C (c_X6_failed l X h0 u2 u3 u4 u5 u6 u7 u8 u11 u14 u16 u20 u21 u22 u23 u24 ft sc rm wc sh tq cnt gf gs rc tc 1 ) gX6_put_X6_failed rfl rfl rfl hd_V_X6_failed_X6_put (by decide) dX6_put_29 [0] [1, 2, 3] [3, 0, 1, 2] rfl rfl rfl rfl (by decide) rfl 0 6 rfl rfl rfl rfl (Nat.le_of_ble_eq_true rfl) (by decide) (fun _ => rfl) (fun _ hy_ => ?_)
    clear hy_
    exact g_ret_i C rfl dX6_put_32 () trivial (by (repeat' split) <;> first | rfl | omega) [0, 1, 2, 3] rfl (by (repeat' split) <;> first | rfl | omega)
  refine g_V_i (ws2 := (fun _ => [(h0, .inr (6, [.int (iI ft), .int (iI sc), .ref u2, .ref u3, .ref u4, .ref u5, .ref u6, .ref u7, .ref u8, .int (iI rm), .int (iI wc), .ref u11, .int (iI sh), .int (iI tq), .ref u14, .int (iI cnt), .ref u16, .int (iI gf), .int (iI gs), .int (iI rc), .ref u20, .ref u21, .ref u22, .ref u23, .ref u24, .int (iI tc)])), (u21, .inl (X.2.1.1, 4, .inl (iF Ss))), (u22, .inl (X.2.1.1, 4, .inl (iF Sl))), (u23, .inl (X.2.1.1, 240, .inl (iF Sh)))])) (As := [.int (iI k), .int (iI i1)]) C (c_X6_noCell_far l X h0 u2 u3 u4 u5 u6 u7 u8 u11 u14 u16 u20 u21 u22 u23 u24 ft sc rm wc sh tq cnt gf gs rc tc Ss k i1 (by first | assumption | omega) (by first | assumption | omega) (by assumption) (by first | assumption | have := hSs (Int.toNat k); omega)) gX6_put_X6_noCell rfl rfl rfl hd_V_X6_noCell_X6_put (by decide) dX6_put_26 [0, 1] [2, 3] [2, 3, 0, 1] rfl rfl rfl rfl (by decide) rfl 0 6 rfl rfl rfl rfl (Nat.le_of_ble_eq_true rfl) (by decide) (fun _ => rfl) (fun _ hy_ => ?_)
  clear hy_
  refine g_V_i (ws2 := (fun _ => [(h0, .inr (6, [.int (iI 3), .int (iI sc), .ref u2, .ref u3, .ref u4, .ref u5, .ref u6, .ref u7, .ref u8, .int (iI rm), .int (iI wc), .ref u11, .int (iI sh), .int (iI tq), .ref u14, .int (iI cnt), .ref u16, .int (iI gf), .int (iI gs), .int (iI rc), .ref u20, .ref u21, .ref u22, .ref u23, .ref u24, .int (iI tc)])), (u21, .inl (X.2.1.1, 4, .inl (iF Ss))), (u22, .inl (X.2.1.1, 4, .inl (iF Sl))), (u23, .inl (X.2.1.1, 240, .inl (iF Sh)))])) (As := [.int (iI 3)]) C (c_X6_failed l X h0 u2 u3 u4 u5 u6 u7 u8 u11 u14 u16 u20 u21 u22 u23 u24 ft sc rm wc sh tq cnt gf gs rc tc 3 ) gX6_put_X6_failed rfl rfl rfl hd_V_X6_failed_X6_put (by decide) dX6_put_29 [0] [1, 2, 3] [3, 0, 1, 2] rfl rfl rfl rfl (by decide) rfl 0 6 rfl rfl rfl rfl (Nat.le_of_ble_eq_true rfl) (by decide) (fun _ => rfl) (fun _ hy_ => ?_)
  clear hy_
  exact g_ret_i C rfl dX6_put_32 () trivial (by (repeat' split) <;> first | rfl | omega) [0, 1, 2, 3] rfl (by (repeat' split) <;> first | rfl | omega)

set_option maxRecDepth 20000 in
theorem kw_X6_put_0 : Cond.fieldLink RX6 49 "SkipStonesModel" "sheet" "[I" ∈ wsX6_put := List.mem_of_getElem? (i := 1) rfl
set_option maxRecDepth 20000 in
theorem kw_X6_put_1 : Cond.fieldLink RX6 46 "SkipStonesModel" "sheetLane" "[I" ∈ wsX6_put := List.mem_of_getElem? (i := 2) rfl
set_option maxRecDepth 20000 in
theorem hd_V_X6_refused_X6_put : yX6_refused.cls = yX6_refused.cls ∧ yX6_refused.cls ≠ "java/lang/invoke/MethodHandle" ∧ yX6_refused.cls ≠ "java/lang/invoke/VarHandle" ∧ (parseMethodDescriptor yX6_refused.desc).map (fun d => d.parameters.length) = some 1 := by decide +kernel
set_option maxRecDepth 20000 in
theorem hi_X6_put_6 : ∀ w ∈ wsX60, w ∈ wsX6_put := fun _ h => List.mem_cons_of_mem _ (List.mem_append_right _ h)
set_option maxHeartbeats 4000000 in
set_option maxRecDepth 100000 in
theorem c_X6_put_ok (l : Launch) (X : gX) (h0 : Nat) (u2 : Nat) (u3 : Nat) (u4 : Nat) (u5 : Nat) (u6 : Nat) (u7 : Nat) (u8 : Nat) (u11 : Nat) (u14 : Nat) (u16 : Nat) (u20 : Nat) (u21 : Nat) (u22 : Nat) (u23 : Nat) (u24 : Nat) (ft : Int) (sc : Int) (rm : Int) (wc : Int) (sh : Int) (tq : Int) (cnt : Int) (gf : Int) (gs : Int) (rc : Int) (tc : Int) (Ss : Nat → Int) (Sl : Nat → Int) (Sh : Nat → Int) (k : Int) (i1 : Int) (v : Int) (hx : 0 ≤ k ∧ k < 4) (hb_i1 : inB i1) (hb_v : inB v) (hSs : ∀ i, -1 ≤ Ss i ∧ Ss i ≤ 60) (hSl : ∀ i, 0 ≤ Sl i ∧ Sl i ≤ 2) (hSh : ∀ i, inB (Sh i)) (hok : 0 ≤ (Ss (Int.toNat k)) ∧ 0 ≤ i1 ∧ i1 < (Ss (Int.toNat k))) : gM l yX6_put wsX6_put (gr 2 0 0) X [(h0, .inr (6, [.int (iI ft), .int (iI sc), .ref u2, .ref u3, .ref u4, .ref u5, .ref u6, .ref u7, .ref u8, .int (iI rm), .int (iI wc), .ref u11, .int (iI sh), .int (iI tq), .ref u14, .int (iI cnt), .ref u16, .int (iI gf), .int (iI gs), .int (iI rc), .ref u20, .ref u21, .ref u22, .ref u23, .ref u24, .int (iI tc)])), (u21, .inl (X.2.1.1, 4, .inl (iF Ss))), (u22, .inl (X.2.1.1, 4, .inl (iF Sl))), (u23, .inl (X.2.1.1, 240, .inl (iF Sh)))] [.ref h0, .int (iI k), .int (iI i1), .int (iI v)] (gQi X (Y := Unit) (fun _ => True) (fun _ => 1) (fun _ => [(h0, .inr (6, [.int (iI 0), .int (iI sc), .ref u2, .ref u3, .ref u4, .ref u5, .ref u6, .ref u7, .ref u8, .int (iI rm), .int (iI wc), .ref u11, .int (iI sh), .int (iI tq), .ref u14, .int (iI cnt), .ref u16, .int (iI gf), .int (iI gs), .int (iI rc), .ref u20, .ref u21, .ref u22, .ref u23, .ref u24, .int (iI tc)])), (u21, .inl (X.2.1.1, 4, .inl (iF Ss))), (u22, .inl (X.2.1.1, 4, .inl (iF Sl))), (u23, .inl (X.2.1.1, 240, .inl (iF (updI Sh (Int.toNat (60 * k + i1)) (cutL (Sl (Int.toNat k)) v)))))])) 0 0 := by
  refine g_start2 (lo := [(0, .ref h0), (1, .int (iI k)), (2, .int (iI i1)), (3, .int (iI v))]) (by decide +kernel) rfl rfl (Nat.le_of_ble_eq_true rfl) (fun p e s m args below meth c A C => ?_)
  have qs1 := hSs (Int.toNat k)
  have ql1 := hSl (Int.toNat k)
  refine r_iload_n C dX6_put_0 1 rfl ?_
  refine g_S_i (ws2 := (fun _ => [(h0, .inr (6, [.int (iI ft), .int (iI sc), .ref u2, .ref u3, .ref u4, .ref u5, .ref u6, .ref u7, .ref u8, .int (iI rm), .int (iI wc), .ref u11, .int (iI sh), .int (iI tq), .ref u14, .int (iI cnt), .ref u16, .int (iI gf), .int (iI gs), .int (iI rc), .ref u20, .ref u21, .ref u22, .ref u23, .ref u24, .int (iI tc)])), (u21, .inl (X.2.1.1, 4, .inl (iF Ss))), (u22, .inl (X.2.1.1, 4, .inl (iF Sl))), (u23, .inl (X.2.1.1, 240, .inl (iF Sh)))])) (As := [.int (iI k)]) C (c_X6_noSheet l X k (by first | assumption | omega)) gX6_put_X6_noSheet rfl rfl rfl hd_S_X6_noSheet_X6_put (by decide) dX6_put_1 [] [0, 1, 2, 3] [0, 1, 2, 3] rfl rfl rfl rfl (by decide) rfl rfl rfl (Nat.le_of_ble_eq_true rfl) (by decide) (fun _ => rfl) (fun _ hy_ => ?_)
  clear hy_
  refine r_ite (fun h_1 => absurd h_1 (by omega)) (fun h_1 => ?_)
  refine r_if_eq (tgt := 13) C dX6_put_4 (by decide) (by decide) (fun h_2 => ?_) (fun h_2 => absurd h_2 (by decide))
  refine r_aload_n C dX6_put_13 0 rfl ?_
  refine r_iload_n C dX6_put_14 1 rfl ?_
  refine r_iload_n C dX6_put_15 2 rfl ?_
  refine g_V_i (ws2 := (fun _ => [(h0, .inr (6, [.int (iI ft), .int (iI sc), .ref u2, .ref u3, .ref u4, .ref u5, .ref u6, .ref u7, .ref u8, .int (iI rm), .int (iI wc), .ref u11, .int (iI sh), .int (iI tq), .ref u14, .int (iI cnt), .ref u16, .int (iI gf), .int (iI gs), .int (iI rc), .ref u20, .ref u21, .ref u22, .ref u23, .ref u24, .int (iI tc)])), (u21, .inl (X.2.1.1, 4, .inl (iF Ss))), (u22, .inl (X.2.1.1, 4, .inl (iF Sl))), (u23, .inl (X.2.1.1, 240, .inl (iF Sh)))])) (As := [.int (iI k), .int (iI i1)]) C (c_X6_noCell_in l X h0 u2 u3 u4 u5 u6 u7 u8 u11 u14 u16 u20 u21 u22 u23 u24 ft sc rm wc sh tq cnt gf gs rc tc Ss k i1 (by first | assumption | omega) (by first | assumption | omega) (by assumption) (by first | assumption | have := hSs (Int.toNat k); omega)) gX6_put_X6_noCell rfl rfl rfl hd_V_X6_noCell_X6_put (by decide) dX6_put_16 [0, 1] [2, 3] [2, 3, 0, 1] rfl rfl rfl rfl (by decide) rfl 0 6 rfl rfl rfl rfl (Nat.le_of_ble_eq_true rfl) (by decide) (fun _ => rfl) (fun _ hy_ => ?_)
  clear hy_
  refine r_if_le (tgt := 33) C dX6_put_19 (by decide) (by decide) (fun h_3 => ?_) (fun h_3 => absurd h_3 (by decide))
  refine r_aload_n C dX6_put_33 0 rfl ?_
  refine gf_6_23 C hi_X6_put_6 kw_X6_put_0 dX6_put_34 0 rfl rfl ?_
  refine r_bipush C dX6_put_37 (by decide) ?_
  refine r_iload_n C dX6_put_39 1 rfl ?_
  refine r_imul C dX6_put_40 ?_
  refine r_iload_n C dX6_put_41 2 rfl ?_
  refine r_iadd C dX6_put_42 ?_
  refine r_aload_n C dX6_put_43 0 rfl ?_
  refine gf_6_22 C hi_X6_put_6 kw_X6_put_1 dX6_put_44 0 rfl rfl ?_
  refine r_iload_n C dX6_put_47 1 rfl ?_
  refine r_iald C dX6_put_48 2 rfl (by omega) (by decide) ?_
  refine r_if_ne (tgt := 57) C dX6_put_49 (by decide) (by have := hSl (Int.toNat k); omega) (fun h_4 => ?_) (fun h_4 => ?_)
  · skip
    refine r_aload_n C dX6_put_57 0 rfl ?_
    refine gf_6_22 C hi_X6_put_6 kw_X6_put_1 dX6_put_58 0 rfl rfl ?_
    refine r_iload_n C dX6_put_61 1 rfl ?_
    refine r_iald C dX6_put_62 2 rfl (by omega) (by decide) ?_
    refine r_iconst C dX6_put_63 ?_
    refine r_icmp_ne (tgt := 72) C dX6_put_64 (by decide) (by have := hSl (Int.toNat k); omega) (by decide) (fun h_5 => ?_) (fun h_5 => ?_)
    · skip
      refine r_iload_n C dX6_put_72 3 rfl ?_
      refine r_topi (z := (cutL (Sl (Int.toNat k)) v)) (by unfold cutL; first | (rw [if_pos (by omega)]; done) | (rw [if_neg (by omega), if_pos (by omega)]; done) | (rw [if_neg (by omega), if_neg (by omega)]; done)) ?_
      refine r_iast (ws2 := [(h0, .inr (6, [.int (iI ft), .int (iI sc), .ref u2, .ref u3, .ref u4, .ref u5, .ref u6, .ref u7, .ref u8, .int (iI rm), .int (iI wc), .ref u11, .int (iI sh), .int (iI tq), .ref u14, .int (iI cnt), .ref u16, .int (iI gf), .int (iI gs), .int (iI rc), .ref u20, .ref u21, .ref u22, .ref u23, .ref u24, .int (iI tc)])), (u21, .inl (X.2.1.1, 4, .inl (iF Ss))), (u22, .inl (X.2.1.1, 4, .inl (iF Sl))), (u23, .inl (X.2.1.1, 240, .inl (iF (updI Sh (Int.toNat ((60 * k) + i1)) (cutL (Sl (Int.toNat k)) v)))))]) C dX6_put_73 3 rfl (by omega) (by decide) rfl ?_
      refine r_aload_n C dX6_put_74 0 rfl ?_
      refine r_iconst C dX6_put_75 ?_
      refine g_V_i (ws2 := (fun _ => [(h0, .inr (6, [.int (iI 0), .int (iI sc), .ref u2, .ref u3, .ref u4, .ref u5, .ref u6, .ref u7, .ref u8, .int (iI rm), .int (iI wc), .ref u11, .int (iI sh), .int (iI tq), .ref u14, .int (iI cnt), .ref u16, .int (iI gf), .int (iI gs), .int (iI rc), .ref u20, .ref u21, .ref u22, .ref u23, .ref u24, .int (iI tc)])), (u21, .inl (X.2.1.1, 4, .inl (iF Ss))), (u22, .inl (X.2.1.1, 4, .inl (iF Sl))), (u23, .inl (X.2.1.1, 240, .inl (iF (updI Sh (Int.toNat ((60 * k) + i1)) (cutL (Sl (Int.toNat k)) v)))))])) (As := [.int (iI 1)]) C (c_X6_refused l X h0 u2 u3 u4 u5 u6 u7 u8 u11 u14 u16 u20 u21 u22 u23 u24 ft sc rm wc sh tq cnt gf gs rc tc 1 ) gX6_put_X6_refused rfl rfl rfl hd_V_X6_refused_X6_put (by decide) dX6_put_76 [0] [1, 2, 3] [3, 0, 1, 2] rfl rfl rfl rfl (by decide) rfl 0 6 rfl rfl rfl rfl (Nat.le_of_ble_eq_true rfl) (by decide) (fun _ => rfl) (fun _ hy_ => ?_)
      clear hy_
      exact g_ret_i C rfl dX6_put_79 () trivial (by (repeat' split) <;> first | rfl | omega) [0, 1, 2, 3] rfl (by (repeat' split) <;> first | rfl | omega)
    · skip
      refine r_iload_n C dX6_put_67 3 rfl ?_
      refine r_i2s C dX6_put_68 ?_
      refine r_goto (tgt := 73) C dX6_put_69 (by decide) ?_
      refine r_topi (z := (cutL (Sl (Int.toNat k)) v)) (by unfold cutL; first | (rw [if_pos (by omega)]; done) | (rw [if_neg (by omega), if_pos (by omega)]; done) | (rw [if_neg (by omega), if_neg (by omega)]; done)) ?_
      refine r_iast (ws2 := [(h0, .inr (6, [.int (iI ft), .int (iI sc), .ref u2, .ref u3, .ref u4, .ref u5, .ref u6, .ref u7, .ref u8, .int (iI rm), .int (iI wc), .ref u11, .int (iI sh), .int (iI tq), .ref u14, .int (iI cnt), .ref u16, .int (iI gf), .int (iI gs), .int (iI rc), .ref u20, .ref u21, .ref u22, .ref u23, .ref u24, .int (iI tc)])), (u21, .inl (X.2.1.1, 4, .inl (iF Ss))), (u22, .inl (X.2.1.1, 4, .inl (iF Sl))), (u23, .inl (X.2.1.1, 240, .inl (iF (updI Sh (Int.toNat ((60 * k) + i1)) (cutL (Sl (Int.toNat k)) v)))))]) C dX6_put_73 3 rfl (by omega) (by decide) rfl ?_
      refine r_aload_n C dX6_put_74 0 rfl ?_
      refine r_iconst C dX6_put_75 ?_
      refine g_V_i (ws2 := (fun _ => [(h0, .inr (6, [.int (iI 0), .int (iI sc), .ref u2, .ref u3, .ref u4, .ref u5, .ref u6, .ref u7, .ref u8, .int (iI rm), .int (iI wc), .ref u11, .int (iI sh), .int (iI tq), .ref u14, .int (iI cnt), .ref u16, .int (iI gf), .int (iI gs), .int (iI rc), .ref u20, .ref u21, .ref u22, .ref u23, .ref u24, .int (iI tc)])), (u21, .inl (X.2.1.1, 4, .inl (iF Ss))), (u22, .inl (X.2.1.1, 4, .inl (iF Sl))), (u23, .inl (X.2.1.1, 240, .inl (iF (updI Sh (Int.toNat ((60 * k) + i1)) (cutL (Sl (Int.toNat k)) v)))))])) (As := [.int (iI 1)]) C (c_X6_refused l X h0 u2 u3 u4 u5 u6 u7 u8 u11 u14 u16 u20 u21 u22 u23 u24 ft sc rm wc sh tq cnt gf gs rc tc 1 ) gX6_put_X6_refused rfl rfl rfl hd_V_X6_refused_X6_put (by decide) dX6_put_76 [0] [1, 2, 3] [3, 0, 1, 2] rfl rfl rfl rfl (by decide) rfl 0 6 rfl rfl rfl rfl (Nat.le_of_ble_eq_true rfl) (by decide) (fun _ => rfl) (fun _ hy_ => ?_)
      clear hy_
      exact g_ret_i C rfl dX6_put_79 () trivial (by (repeat' split) <;> first | rfl | omega) [0, 1, 2, 3] rfl (by (repeat' split) <;> first | rfl | omega)
  · skip
    refine r_iload_n C dX6_put_52 3 rfl ?_
    refine r_i2b C dX6_put_53 ?_
    refine r_goto (tgt := 73) C dX6_put_54 (by decide) ?_
    refine r_topi (z := (cutL (Sl (Int.toNat k)) v)) (by unfold cutL; first | (rw [if_pos (by omega)]; done) | (rw [if_neg (by omega), if_pos (by omega)]; done) | (rw [if_neg (by omega), if_neg (by omega)]; done)) ?_
    refine r_iast (ws2 := [(h0, .inr (6, [.int (iI ft), .int (iI sc), .ref u2, .ref u3, .ref u4, .ref u5, .ref u6, .ref u7, .ref u8, .int (iI rm), .int (iI wc), .ref u11, .int (iI sh), .int (iI tq), .ref u14, .int (iI cnt), .ref u16, .int (iI gf), .int (iI gs), .int (iI rc), .ref u20, .ref u21, .ref u22, .ref u23, .ref u24, .int (iI tc)])), (u21, .inl (X.2.1.1, 4, .inl (iF Ss))), (u22, .inl (X.2.1.1, 4, .inl (iF Sl))), (u23, .inl (X.2.1.1, 240, .inl (iF (updI Sh (Int.toNat ((60 * k) + i1)) (cutL (Sl (Int.toNat k)) v)))))]) C dX6_put_73 3 rfl (by omega) (by decide) rfl ?_
    refine r_aload_n C dX6_put_74 0 rfl ?_
    refine r_iconst C dX6_put_75 ?_
    refine g_V_i (ws2 := (fun _ => [(h0, .inr (6, [.int (iI 0), .int (iI sc), .ref u2, .ref u3, .ref u4, .ref u5, .ref u6, .ref u7, .ref u8, .int (iI rm), .int (iI wc), .ref u11, .int (iI sh), .int (iI tq), .ref u14, .int (iI cnt), .ref u16, .int (iI gf), .int (iI gs), .int (iI rc), .ref u20, .ref u21, .ref u22, .ref u23, .ref u24, .int (iI tc)])), (u21, .inl (X.2.1.1, 4, .inl (iF Ss))), (u22, .inl (X.2.1.1, 4, .inl (iF Sl))), (u23, .inl (X.2.1.1, 240, .inl (iF (updI Sh (Int.toNat ((60 * k) + i1)) (cutL (Sl (Int.toNat k)) v)))))])) (As := [.int (iI 1)]) C (c_X6_refused l X h0 u2 u3 u4 u5 u6 u7 u8 u11 u14 u16 u20 u21 u22 u23 u24 ft sc rm wc sh tq cnt gf gs rc tc 1 ) gX6_put_X6_refused rfl rfl rfl hd_V_X6_refused_X6_put (by decide) dX6_put_76 [0] [1, 2, 3] [3, 0, 1, 2] rfl rfl rfl rfl (by decide) rfl 0 6 rfl rfl rfl rfl (Nat.le_of_ble_eq_true rfl) (by decide) (fun _ => rfl) (fun _ hy_ => ?_)
    clear hy_
    exact g_ret_i C rfl dX6_put_79 () trivial (by (repeat' split) <;> first | rfl | omega) [0, 1, 2, 3] rfl (by (repeat' split) <;> first | rfl | omega)

set_option maxHeartbeats 4000000 in
set_option maxRecDepth 100000 in
theorem c_X6_put_out (l : Launch) (X : gX) (h0 : Nat) (u2 : Nat) (u3 : Nat) (u4 : Nat) (u5 : Nat) (u6 : Nat) (u7 : Nat) (u8 : Nat) (u11 : Nat) (u14 : Nat) (u16 : Nat) (u20 : Nat) (u21 : Nat) (u22 : Nat) (u23 : Nat) (u24 : Nat) (ft : Int) (sc : Int) (rm : Int) (wc : Int) (sh : Int) (tq : Int) (cnt : Int) (gf : Int) (gs : Int) (rc : Int) (tc : Int) (k : Int) (i1 : Int) (v : Int) (hx : ¬ (0 ≤ k ∧ k < 4)) (hbk : inB k) : gM l yX6_put wsX6_put (gr 2 0 0) X [(h0, .inr (6, [.int (iI ft), .int (iI sc), .ref u2, .ref u3, .ref u4, .ref u5, .ref u6, .ref u7, .ref u8, .int (iI rm), .int (iI wc), .ref u11, .int (iI sh), .int (iI tq), .ref u14, .int (iI cnt), .ref u16, .int (iI gf), .int (iI gs), .int (iI rc), .ref u20, .ref u21, .ref u22, .ref u23, .ref u24, .int (iI tc)]))] [.ref h0, .int (iI k), .int (iI i1), .int (iI v)] (gQi X (Y := Unit) (fun _ => True) (fun _ => -1) (fun _ => [(h0, .inr (6, [.int (iI 0), .int (iI sc), .ref u2, .ref u3, .ref u4, .ref u5, .ref u6, .ref u7, .ref u8, .int (iI rm), .int (iI wc), .ref u11, .int (iI sh), .int (iI tq), .ref u14, .int (iI cnt), .ref u16, .int (iI gf), .int (iI gs), .int (iI rc), .ref u20, .ref u21, .ref u22, .ref u23, .ref u24, .int (iI tc)]))])) 0 0 := by
  refine g_start2 (lo := [(0, .ref h0), (1, .int (iI k)), (2, .int (iI i1)), (3, .int (iI v))]) (by decide +kernel) rfl rfl (Nat.le_of_ble_eq_true rfl) (fun p e s m args below meth c A C => ?_)
  refine r_iload_n C dX6_put_0 1 rfl ?_
  refine g_S_i (ws2 := (fun _ => [(h0, .inr (6, [.int (iI ft), .int (iI sc), .ref u2, .ref u3, .ref u4, .ref u5, .ref u6, .ref u7, .ref u8, .int (iI rm), .int (iI wc), .ref u11, .int (iI sh), .int (iI tq), .ref u14, .int (iI cnt), .ref u16, .int (iI gf), .int (iI gs), .int (iI rc), .ref u20, .ref u21, .ref u22, .ref u23, .ref u24, .int (iI tc)]))])) (As := [.int (iI k)]) C (c_X6_noSheet l X k (by first | assumption | omega)) gX6_put_X6_noSheet rfl rfl rfl hd_S_X6_noSheet_X6_put (by decide) dX6_put_1 [] [0] [0] rfl rfl rfl rfl (by decide) rfl rfl rfl (Nat.le_of_ble_eq_true rfl) (by decide) (fun _ => rfl) (fun _ hy_ => ?_)
  clear hy_
  refine r_ite (fun h_1 => ?_) (fun h_1 => absurd h_1 (by omega))
  refine r_if_eq (tgt := 13) C dX6_put_4 (by decide) (by decide) (fun h_2 => absurd h_2 (by decide)) (fun h_2 => ?_)
  refine r_aload_n C dX6_put_7 0 rfl ?_
  refine r_iconst C dX6_put_8 ?_
  refine g_V_i (ws2 := (fun _ => [(h0, .inr (6, [.int (iI 0), .int (iI sc), .ref u2, .ref u3, .ref u4, .ref u5, .ref u6, .ref u7, .ref u8, .int (iI rm), .int (iI wc), .ref u11, .int (iI sh), .int (iI tq), .ref u14, .int (iI cnt), .ref u16, .int (iI gf), .int (iI gs), .int (iI rc), .ref u20, .ref u21, .ref u22, .ref u23, .ref u24, .int (iI tc)]))])) (As := [.int (iI (-1))]) C (c_X6_refused l X h0 u2 u3 u4 u5 u6 u7 u8 u11 u14 u16 u20 u21 u22 u23 u24 ft sc rm wc sh tq cnt gf gs rc tc (-1) ) gX6_put_X6_refused rfl rfl rfl hd_V_X6_refused_X6_put (by decide) dX6_put_9 [0] [] [0] rfl rfl rfl rfl (by decide) rfl 0 6 rfl rfl rfl rfl (Nat.le_of_ble_eq_true rfl) (by decide) (fun _ => rfl) (fun _ hy_ => ?_)
  clear hy_
  exact g_ret_i C rfl dX6_put_12 () trivial (by (repeat' split) <;> first | rfl | omega) [0] rfl (by (repeat' split) <;> first | rfl | omega)

set_option maxRecDepth 20000 in
theorem kw_X6_cell_0 : Cond.fieldLink RX6 71 "SkipStonesModel" "fault" "I" ∈ wsX6_cell := List.mem_of_getElem? (i := 1) rfl
set_option maxRecDepth 20000 in
theorem hd_S_X6_noSheet_X6_cell : yX6_noSheet.cls ≠ "java/lang/invoke/MethodHandle" ∧ yX6_noSheet.cls ≠ "java/lang/invoke/VarHandle" ∧ (parseMethodDescriptor yX6_noSheet.desc).map (fun d => d.parameters.length) = some 1 := by decide +kernel
set_option maxRecDepth 20000 in
theorem kw_X6_cell_1 : Cond.constantLong RX6 85 (2) ∈ wsX6_cell := List.mem_of_getElem? (i := 2) rfl
set_option maxRecDepth 20000 in
theorem hd_S_X6_in_X6_cell : yX6_in.cls ≠ "java/lang/invoke/MethodHandle" ∧ yX6_in.cls ≠ "java/lang/invoke/VarHandle" ∧ (parseMethodDescriptor yX6_in.desc).map (fun d => d.parameters.length) = some 3 := by decide +kernel
set_option maxRecDepth 20000 in
theorem kw_X6_cell_2 : Cond.fieldLink RX6 43 "SkipStonesModel" "sheetSize" "[I" ∈ wsX6_cell := List.mem_of_getElem? (i := 3) rfl
set_option maxRecDepth 20000 in
theorem hd_V_X6_noCell_X6_cell : yX6_noCell.cls = yX6_noCell.cls ∧ yX6_noCell.cls ≠ "java/lang/invoke/MethodHandle" ∧ yX6_noCell.cls ≠ "java/lang/invoke/VarHandle" ∧ (parseMethodDescriptor yX6_noCell.desc).map (fun d => d.parameters.length) = some 2 := by decide +kernel
set_option maxRecDepth 20000 in
theorem hd_V_X6_failedLong_X6_cell : yX6_failedLong.cls = yX6_failedLong.cls ∧ yX6_failedLong.cls ≠ "java/lang/invoke/MethodHandle" ∧ yX6_failedLong.cls ≠ "java/lang/invoke/VarHandle" ∧ (parseMethodDescriptor yX6_failedLong.desc).map (fun d => d.parameters.length) = some 1 := by decide +kernel
set_option maxRecDepth 20000 in
theorem kw_X6_cell_3 : Cond.fieldLink RX6 46 "SkipStonesModel" "sheetLane" "[I" ∈ wsX6_cell := List.mem_of_getElem? (i := 4) rfl
set_option maxRecDepth 20000 in
theorem hd_S_X6_lost_X6_cell : yX6_lost.cls ≠ "java/lang/invoke/MethodHandle" ∧ yX6_lost.cls ≠ "java/lang/invoke/VarHandle" ∧ (parseMethodDescriptor yX6_lost.desc).map (fun d => d.parameters.length) = some 0 := by decide +kernel
set_option maxRecDepth 20000 in
theorem hi_X6_cell_6 : ∀ w ∈ wsX60, w ∈ wsX6_cell := fun _ h => List.mem_cons_of_mem _ (List.mem_append_right _ h)
set_option maxHeartbeats 4000000 in
set_option maxRecDepth 100000 in
theorem c_X6_cell_no (l : Launch) (X : gX) (h0 : Nat) (u2 : Nat) (u3 : Nat) (u4 : Nat) (u5 : Nat) (u6 : Nat) (u7 : Nat) (u8 : Nat) (u11 : Nat) (u14 : Nat) (u16 : Nat) (u20 : Nat) (u21 : Nat) (u22 : Nat) (u23 : Nat) (u24 : Nat) (ft : Int) (sc : Int) (rm : Int) (wc : Int) (sh : Int) (tq : Int) (cnt : Int) (gf : Int) (gs : Int) (rc : Int) (tc : Int) (Ss : Nat → Int) (Sl : Nat → Int) (Sh : Nat → Int) (k : Int) (i1 : Int) (w : Int) (hx : 0 ≤ k ∧ k < 4) (hb_i1 : inB i1) (hb_w : inB w) (hSs : ∀ i, -1 ≤ Ss i ∧ Ss i ≤ 60) (hSl : ∀ i, 0 ≤ Sl i ∧ Sl i ≤ 2) (hSh : ∀ i, inB (Sh i)) (hok : ¬ (0 ≤ w ∧ w ≤ 2 ∧ 0 ≤ (Ss (Int.toNat k)) ∧ (Sl (Int.toNat k)) = w ∧ 0 ≤ i1 ∧ i1 < (Ss (Int.toNat k)))) : gM l yX6_cell wsX6_cell (gr 2 0 0) X [(h0, .inr (6, [.int (iI ft), .int (iI sc), .ref u2, .ref u3, .ref u4, .ref u5, .ref u6, .ref u7, .ref u8, .int (iI rm), .int (iI wc), .ref u11, .int (iI sh), .int (iI tq), .ref u14, .int (iI cnt), .ref u16, .int (iI gf), .int (iI gs), .int (iI rc), .ref u20, .ref u21, .ref u22, .ref u23, .ref u24, .int (iI tc)])), (u21, .inl (X.2.1.1, 4, .inl (iF Ss))), (u22, .inl (X.2.1.1, 4, .inl (iF Sl))), (u23, .inl (X.2.1.1, 240, .inl (iF Sh)))] [.ref h0, .int (iI k), .int (iI i1), .int (iI w)] (gQl X (Y := Unit) (fun _ => True) (fun _ => -9223372036854775808) (fun _ => [(h0, .inr (6, [.int (iI (if ¬ (0 ≤ w ∧ w ≤ 2) then 0 else if (Ss (Int.toNat k)) < 0 then 1 else if ¬ (Sl (Int.toNat k)) = w then 2 else 3)), .int (iI sc), .ref u2, .ref u3, .ref u4, .ref u5, .ref u6, .ref u7, .ref u8, .int (iI rm), .int (iI wc), .ref u11, .int (iI sh), .int (iI tq), .ref u14, .int (iI cnt), .ref u16, .int (iI gf), .int (iI gs), .int (iI rc), .ref u20, .ref u21, .ref u22, .ref u23, .ref u24, .int (iI tc)])), (u21, .inl (X.2.1.1, 4, .inl (iF Ss))), (u22, .inl (X.2.1.1, 4, .inl (iF Sl))), (u23, .inl (X.2.1.1, 240, .inl (iF Sh)))])) 0 0 := by
  refine g_start2 (lo := [(0, .ref h0), (1, .int (iI k)), (2, .int (iI i1)), (3, .int (iI w))]) (by decide +kernel) rfl rfl (Nat.le_of_ble_eq_true rfl) (fun p e s m args below meth c A C => ?_)
  have qs1 := hSs (Int.toNat k)
  have ql1 := hSl (Int.toNat k)
  refine r_aload_n C dX6_cell_0 0 rfl ?_
  refine r_iconst C dX6_cell_1 ?_
  refine pf_6_0 (ws2 := [(h0, .inr (6, [.int (iI 0), .int (iI sc), .ref u2, .ref u3, .ref u4, .ref u5, .ref u6, .ref u7, .ref u8, .int (iI rm), .int (iI wc), .ref u11, .int (iI sh), .int (iI tq), .ref u14, .int (iI cnt), .ref u16, .int (iI gf), .int (iI gs), .int (iI rc), .ref u20, .ref u21, .ref u22, .ref u23, .ref u24, .int (iI tc)])), (u21, .inl (X.2.1.1, 4, .inl (iF Ss))), (u22, .inl (X.2.1.1, 4, .inl (iF Sl))), (u23, .inl (X.2.1.1, 240, .inl (iF Sh)))]) C hi_X6_cell_6 kw_X6_cell_0 dX6_cell_2 0 rfl rfl rfl (Nat.le_of_ble_eq_true rfl) rfl ?_
  refine r_iload_n C dX6_cell_5 1 rfl ?_
  refine g_S_i (ws2 := (fun _ => [(h0, .inr (6, [.int (iI 0), .int (iI sc), .ref u2, .ref u3, .ref u4, .ref u5, .ref u6, .ref u7, .ref u8, .int (iI rm), .int (iI wc), .ref u11, .int (iI sh), .int (iI tq), .ref u14, .int (iI cnt), .ref u16, .int (iI gf), .int (iI gs), .int (iI rc), .ref u20, .ref u21, .ref u22, .ref u23, .ref u24, .int (iI tc)])), (u21, .inl (X.2.1.1, 4, .inl (iF Ss))), (u22, .inl (X.2.1.1, 4, .inl (iF Sl))), (u23, .inl (X.2.1.1, 240, .inl (iF Sh)))])) (As := [.int (iI k)]) C (c_X6_noSheet l X k (by first | assumption | omega)) gX6_cell_X6_noSheet rfl rfl rfl hd_S_X6_noSheet_X6_cell (by decide) dX6_cell_6 [] [0, 1, 2, 3] [0, 1, 2, 3] rfl rfl rfl rfl (by decide) rfl rfl rfl (Nat.le_of_ble_eq_true rfl) (by decide) (fun _ => rfl) (fun _ hy_ => ?_)
  clear hy_
  refine r_ite (fun h_1 => absurd h_1 (by omega)) (fun h_1 => ?_)
  refine r_if_ne (tgt := 24) C dX6_cell_9 (by decide) (by decide) (fun h_2 => absurd h_2 (by decide)) (fun h_2 => ?_)
  refine r_iload_n C dX6_cell_12 3 rfl ?_
  refine r_i2l C dX6_cell_13 (by omega) ?_
  refine r_lconst (z := 0) C dX6_cell_14 rfl ?_
  refine r_ldc2 (z := 2) C dX6_cell_15 kw_X6_cell_1 rfl ?_
  refine g_S_i (ws2 := (fun _ => [(h0, .inr (6, [.int (iI 0), .int (iI sc), .ref u2, .ref u3, .ref u4, .ref u5, .ref u6, .ref u7, .ref u8, .int (iI rm), .int (iI wc), .ref u11, .int (iI sh), .int (iI tq), .ref u14, .int (iI cnt), .ref u16, .int (iI gf), .int (iI gs), .int (iI rc), .ref u20, .ref u21, .ref u22, .ref u23, .ref u24, .int (iI tc)])), (u21, .inl (X.2.1.1, 4, .inl (iF Ss))), (u22, .inl (X.2.1.1, 4, .inl (iF Sl))), (u23, .inl (X.2.1.1, 240, .inl (iF Sh)))])) (As := [.long (lI w), .long (lI 0), .long (lI 2)]) C (c_X6_in l X w 0 2 (by first | assumption | omega) (by first | assumption | omega) (by first | assumption | omega)) gX6_cell_X6_in rfl rfl rfl hd_S_X6_in_X6_cell (by decide) dX6_cell_18 [] [0, 1, 2, 3] [0, 1, 2, 3] rfl rfl rfl rfl (by decide) rfl rfl rfl (Nat.le_of_ble_eq_true rfl) (by decide) (fun _ => rfl) (fun _ hy_ => ?_)
  clear hy_
  refine r_ite (fun h_3 => ?_) (fun h_3 => ?_)
  · skip
    refine r_if_ne (tgt := 28) C dX6_cell_21 (by decide) (by decide) (fun h_4 => ?_) (fun h_4 => absurd h_4 (by decide))
    refine r_aload_n C dX6_cell_28 0 rfl ?_
    refine gf_6_21 C hi_X6_cell_6 kw_X6_cell_2 dX6_cell_29 0 rfl rfl ?_
    refine r_iload_n C dX6_cell_32 1 rfl ?_
    refine r_iald C dX6_cell_33 1 rfl (by omega) (by decide) ?_
    refine r_if_lt (tgt := 53) C dX6_cell_34 (by decide) (by have := hSs (Int.toNat k); omega) (fun h_5 => ?_) (fun h_5 => ?_)
    · skip
      refine r_aload_n C dX6_cell_53 0 rfl ?_
      refine r_iload_n C dX6_cell_54 1 rfl ?_
      refine r_iload_n C dX6_cell_55 2 rfl ?_
      by_cases k_6 : (Ss (Int.toNat k)) < 0
      · skip
        refine g_V_i (ws2 := (fun _ => [(h0, .inr (6, [.int (iI 0), .int (iI sc), .ref u2, .ref u3, .ref u4, .ref u5, .ref u6, .ref u7, .ref u8, .int (iI rm), .int (iI wc), .ref u11, .int (iI sh), .int (iI tq), .ref u14, .int (iI cnt), .ref u16, .int (iI gf), .int (iI gs), .int (iI rc), .ref u20, .ref u21, .ref u22, .ref u23, .ref u24, .int (iI tc)])), (u21, .inl (X.2.1.1, 4, .inl (iF Ss))), (u22, .inl (X.2.1.1, 4, .inl (iF Sl))), (u23, .inl (X.2.1.1, 240, .inl (iF Sh)))])) (As := [.int (iI k), .int (iI i1)]) C (c_X6_noCell_null l X h0 u2 u3 u4 u5 u6 u7 u8 u11 u14 u16 u20 u21 u22 u23 u24 0 sc rm wc sh tq cnt gf gs rc tc Ss k i1 (by first | assumption | omega) (by first | assumption | omega) (by assumption) (by first | assumption | have := hSs (Int.toNat k); omega)) gX6_cell_X6_noCell rfl rfl rfl hd_V_X6_noCell_X6_cell (by decide) dX6_cell_56 [0, 1] [2, 3] [2, 3, 0, 1] rfl rfl rfl rfl (by decide) rfl 0 6 rfl rfl rfl rfl (Nat.le_of_ble_eq_true rfl) (by decide) (fun _ => rfl) (fun _ hy_ => ?_)
        clear hy_
        refine r_if_le (tgt := 75) C dX6_cell_59 (by decide) (by decide) (fun h_7 => absurd h_7 (by decide)) (fun h_7 => ?_)
        refine r_aload_n C dX6_cell_62 0 rfl ?_
        refine r_aload_n C dX6_cell_63 0 rfl ?_
        refine r_iload_n C dX6_cell_64 1 rfl ?_
        refine r_iload_n C dX6_cell_65 2 rfl ?_
        by_cases k_8 : (Ss (Int.toNat k)) < 0
        · skip
          refine g_V_i (ws2 := (fun _ => [(h0, .inr (6, [.int (iI 0), .int (iI sc), .ref u2, .ref u3, .ref u4, .ref u5, .ref u6, .ref u7, .ref u8, .int (iI rm), .int (iI wc), .ref u11, .int (iI sh), .int (iI tq), .ref u14, .int (iI cnt), .ref u16, .int (iI gf), .int (iI gs), .int (iI rc), .ref u20, .ref u21, .ref u22, .ref u23, .ref u24, .int (iI tc)])), (u21, .inl (X.2.1.1, 4, .inl (iF Ss))), (u22, .inl (X.2.1.1, 4, .inl (iF Sl))), (u23, .inl (X.2.1.1, 240, .inl (iF Sh)))])) (As := [.int (iI k), .int (iI i1)]) C (c_X6_noCell_null l X h0 u2 u3 u4 u5 u6 u7 u8 u11 u14 u16 u20 u21 u22 u23 u24 0 sc rm wc sh tq cnt gf gs rc tc Ss k i1 (by first | assumption | omega) (by first | assumption | omega) (by assumption) (by first | assumption | have := hSs (Int.toNat k); omega)) gX6_cell_X6_noCell rfl rfl rfl hd_V_X6_noCell_X6_cell (by decide) dX6_cell_66 [0, 1] [2, 3] [2, 3, 0, 1] rfl rfl rfl rfl (by decide) rfl 0 6 rfl rfl rfl rfl (Nat.le_of_ble_eq_true rfl) (by decide) (fun _ => rfl) (fun _ hy_ => ?_)
          clear hy_
          refine g_V_l (ws2 := (fun _ => [(h0, .inr (6, [.int (iI 1), .int (iI sc), .ref u2, .ref u3, .ref u4, .ref u5, .ref u6, .ref u7, .ref u8, .int (iI rm), .int (iI wc), .ref u11, .int (iI sh), .int (iI tq), .ref u14, .int (iI cnt), .ref u16, .int (iI gf), .int (iI gs), .int (iI rc), .ref u20, .ref u21, .ref u22, .ref u23, .ref u24, .int (iI tc)])), (u21, .inl (X.2.1.1, 4, .inl (iF Ss))), (u22, .inl (X.2.1.1, 4, .inl (iF Sl))), (u23, .inl (X.2.1.1, 240, .inl (iF Sh)))])) (As := [.int (iI 1)]) C (c_X6_failedLong l X h0 u2 u3 u4 u5 u6 u7 u8 u11 u14 u16 u20 u21 u22 u23 u24 0 sc rm wc sh tq cnt gf gs rc tc 1 ) gX6_cell_X6_failedLong rfl rfl rfl hd_V_X6_failedLong_X6_cell (by decide) dX6_cell_69 [0] [1, 2, 3] [3, 0, 1, 2] rfl rfl rfl rfl (by decide) rfl 0 6 rfl rfl rfl rfl (Nat.le_of_ble_eq_true rfl) (by decide) (fun _ => rfl) (fun _ hy_ => ?_)
          clear hy_
          refine r_goto (tgt := 87) C dX6_cell_72 (by decide) ?_
          exact g_ret_l C rfl dX6_cell_87 () trivial (by (repeat' split) <;> first | rfl | omega) [0, 1, 2, 3] rfl (by (repeat' split) <;> first | rfl | omega)
        refine g_V_i (ws2 := (fun _ => [(h0, .inr (6, [.int (iI 0), .int (iI sc), .ref u2, .ref u3, .ref u4, .ref u5, .ref u6, .ref u7, .ref u8, .int (iI rm), .int (iI wc), .ref u11, .int (iI sh), .int (iI tq), .ref u14, .int (iI cnt), .ref u16, .int (iI gf), .int (iI gs), .int (iI rc), .ref u20, .ref u21, .ref u22, .ref u23, .ref u24, .int (iI tc)])), (u21, .inl (X.2.1.1, 4, .inl (iF Ss))), (u22, .inl (X.2.1.1, 4, .inl (iF Sl))), (u23, .inl (X.2.1.1, 240, .inl (iF Sh)))])) (As := [.int (iI k), .int (iI i1)]) C (c_X6_noCell_far l X h0 u2 u3 u4 u5 u6 u7 u8 u11 u14 u16 u20 u21 u22 u23 u24 0 sc rm wc sh tq cnt gf gs rc tc Ss k i1 (by first | assumption | omega) (by first | assumption | omega) (by assumption) (by first | assumption | have := hSs (Int.toNat k); omega)) gX6_cell_X6_noCell rfl rfl rfl hd_V_X6_noCell_X6_cell (by decide) dX6_cell_66 [0, 1] [2, 3] [2, 3, 0, 1] rfl rfl rfl rfl (by decide) rfl 0 6 rfl rfl rfl rfl (Nat.le_of_ble_eq_true rfl) (by decide) (fun _ => rfl) (fun _ hy_ => ?_)
        clear hy_
        refine g_V_l (ws2 := (fun _ => [(h0, .inr (6, [.int (iI 3), .int (iI sc), .ref u2, .ref u3, .ref u4, .ref u5, .ref u6, .ref u7, .ref u8, .int (iI rm), .int (iI wc), .ref u11, .int (iI sh), .int (iI tq), .ref u14, .int (iI cnt), .ref u16, .int (iI gf), .int (iI gs), .int (iI rc), .ref u20, .ref u21, .ref u22, .ref u23, .ref u24, .int (iI tc)])), (u21, .inl (X.2.1.1, 4, .inl (iF Ss))), (u22, .inl (X.2.1.1, 4, .inl (iF Sl))), (u23, .inl (X.2.1.1, 240, .inl (iF Sh)))])) (As := [.int (iI 3)]) C (c_X6_failedLong l X h0 u2 u3 u4 u5 u6 u7 u8 u11 u14 u16 u20 u21 u22 u23 u24 0 sc rm wc sh tq cnt gf gs rc tc 3 ) gX6_cell_X6_failedLong rfl rfl rfl hd_V_X6_failedLong_X6_cell (by decide) dX6_cell_69 [0] [1, 2, 3] [3, 0, 1, 2] rfl rfl rfl rfl (by decide) rfl 0 6 rfl rfl rfl rfl (Nat.le_of_ble_eq_true rfl) (by decide) (fun _ => rfl) (fun _ hy_ => ?_)
        clear hy_
        refine r_goto (tgt := 87) C dX6_cell_72 (by decide) ?_
        exact g_ret_l C rfl dX6_cell_87 () trivial (by (repeat' split) <;> first | rfl | omega) [0, 1, 2, 3] rfl (by (repeat' split) <;> first | rfl | omega)
      refine g_V_i (ws2 := (fun _ => [(h0, .inr (6, [.int (iI 0), .int (iI sc), .ref u2, .ref u3, .ref u4, .ref u5, .ref u6, .ref u7, .ref u8, .int (iI rm), .int (iI wc), .ref u11, .int (iI sh), .int (iI tq), .ref u14, .int (iI cnt), .ref u16, .int (iI gf), .int (iI gs), .int (iI rc), .ref u20, .ref u21, .ref u22, .ref u23, .ref u24, .int (iI tc)])), (u21, .inl (X.2.1.1, 4, .inl (iF Ss))), (u22, .inl (X.2.1.1, 4, .inl (iF Sl))), (u23, .inl (X.2.1.1, 240, .inl (iF Sh)))])) (As := [.int (iI k), .int (iI i1)]) C (c_X6_noCell_far l X h0 u2 u3 u4 u5 u6 u7 u8 u11 u14 u16 u20 u21 u22 u23 u24 0 sc rm wc sh tq cnt gf gs rc tc Ss k i1 (by first | assumption | omega) (by first | assumption | omega) (by assumption) (by first | assumption | have := hSs (Int.toNat k); omega)) gX6_cell_X6_noCell rfl rfl rfl hd_V_X6_noCell_X6_cell (by decide) dX6_cell_56 [0, 1] [2, 3] [2, 3, 0, 1] rfl rfl rfl rfl (by decide) rfl 0 6 rfl rfl rfl rfl (Nat.le_of_ble_eq_true rfl) (by decide) (fun _ => rfl) (fun _ hy_ => ?_)
      clear hy_
      exfalso; omega
    · skip
      refine r_aload_n C dX6_cell_37 0 rfl ?_
      refine gf_6_22 C hi_X6_cell_6 kw_X6_cell_3 dX6_cell_38 0 rfl rfl ?_
      refine r_iload_n C dX6_cell_41 1 rfl ?_
      refine r_iald C dX6_cell_42 2 rfl (by omega) (by decide) ?_
      refine r_iload_n C dX6_cell_43 3 rfl ?_
      refine r_icmp_eq (tgt := 53) C dX6_cell_44 (by decide) (by have := hSl (Int.toNat k); omega) (by omega) (fun h_10 => ?_) (fun h_10 => ?_)
      · skip
        refine r_aload_n C dX6_cell_53 0 rfl ?_
        refine r_iload_n C dX6_cell_54 1 rfl ?_
        refine r_iload_n C dX6_cell_55 2 rfl ?_
        by_cases k_11 : (Ss (Int.toNat k)) < 0
        · skip
          refine g_V_i (ws2 := (fun _ => [(h0, .inr (6, [.int (iI 0), .int (iI sc), .ref u2, .ref u3, .ref u4, .ref u5, .ref u6, .ref u7, .ref u8, .int (iI rm), .int (iI wc), .ref u11, .int (iI sh), .int (iI tq), .ref u14, .int (iI cnt), .ref u16, .int (iI gf), .int (iI gs), .int (iI rc), .ref u20, .ref u21, .ref u22, .ref u23, .ref u24, .int (iI tc)])), (u21, .inl (X.2.1.1, 4, .inl (iF Ss))), (u22, .inl (X.2.1.1, 4, .inl (iF Sl))), (u23, .inl (X.2.1.1, 240, .inl (iF Sh)))])) (As := [.int (iI k), .int (iI i1)]) C (c_X6_noCell_null l X h0 u2 u3 u4 u5 u6 u7 u8 u11 u14 u16 u20 u21 u22 u23 u24 0 sc rm wc sh tq cnt gf gs rc tc Ss k i1 (by first | assumption | omega) (by first | assumption | omega) (by assumption) (by first | assumption | have := hSs (Int.toNat k); omega)) gX6_cell_X6_noCell rfl rfl rfl hd_V_X6_noCell_X6_cell (by decide) dX6_cell_56 [0, 1] [2, 3] [2, 3, 0, 1] rfl rfl rfl rfl (by decide) rfl 0 6 rfl rfl rfl rfl (Nat.le_of_ble_eq_true rfl) (by decide) (fun _ => rfl) (fun _ hy_ => ?_)
          clear hy_
          exfalso; omega
        refine g_V_i (ws2 := (fun _ => [(h0, .inr (6, [.int (iI 0), .int (iI sc), .ref u2, .ref u3, .ref u4, .ref u5, .ref u6, .ref u7, .ref u8, .int (iI rm), .int (iI wc), .ref u11, .int (iI sh), .int (iI tq), .ref u14, .int (iI cnt), .ref u16, .int (iI gf), .int (iI gs), .int (iI rc), .ref u20, .ref u21, .ref u22, .ref u23, .ref u24, .int (iI tc)])), (u21, .inl (X.2.1.1, 4, .inl (iF Ss))), (u22, .inl (X.2.1.1, 4, .inl (iF Sl))), (u23, .inl (X.2.1.1, 240, .inl (iF Sh)))])) (As := [.int (iI k), .int (iI i1)]) C (c_X6_noCell_far l X h0 u2 u3 u4 u5 u6 u7 u8 u11 u14 u16 u20 u21 u22 u23 u24 0 sc rm wc sh tq cnt gf gs rc tc Ss k i1 (by first | assumption | omega) (by first | assumption | omega) (by assumption) (by first | assumption | have := hSs (Int.toNat k); omega)) gX6_cell_X6_noCell rfl rfl rfl hd_V_X6_noCell_X6_cell (by decide) dX6_cell_56 [0, 1] [2, 3] [2, 3, 0, 1] rfl rfl rfl rfl (by decide) rfl 0 6 rfl rfl rfl rfl (Nat.le_of_ble_eq_true rfl) (by decide) (fun _ => rfl) (fun _ hy_ => ?_)
        clear hy_
        refine r_if_le (tgt := 75) C dX6_cell_59 (by decide) (by decide) (fun h_13 => absurd h_13 (by decide)) (fun h_13 => ?_)
        refine r_aload_n C dX6_cell_62 0 rfl ?_
        refine r_aload_n C dX6_cell_63 0 rfl ?_
        refine r_iload_n C dX6_cell_64 1 rfl ?_
        refine r_iload_n C dX6_cell_65 2 rfl ?_
        by_cases k_14 : (Ss (Int.toNat k)) < 0
        · skip
          refine g_V_i (ws2 := (fun _ => [(h0, .inr (6, [.int (iI 0), .int (iI sc), .ref u2, .ref u3, .ref u4, .ref u5, .ref u6, .ref u7, .ref u8, .int (iI rm), .int (iI wc), .ref u11, .int (iI sh), .int (iI tq), .ref u14, .int (iI cnt), .ref u16, .int (iI gf), .int (iI gs), .int (iI rc), .ref u20, .ref u21, .ref u22, .ref u23, .ref u24, .int (iI tc)])), (u21, .inl (X.2.1.1, 4, .inl (iF Ss))), (u22, .inl (X.2.1.1, 4, .inl (iF Sl))), (u23, .inl (X.2.1.1, 240, .inl (iF Sh)))])) (As := [.int (iI k), .int (iI i1)]) C (c_X6_noCell_null l X h0 u2 u3 u4 u5 u6 u7 u8 u11 u14 u16 u20 u21 u22 u23 u24 0 sc rm wc sh tq cnt gf gs rc tc Ss k i1 (by first | assumption | omega) (by first | assumption | omega) (by assumption) (by first | assumption | have := hSs (Int.toNat k); omega)) gX6_cell_X6_noCell rfl rfl rfl hd_V_X6_noCell_X6_cell (by decide) dX6_cell_66 [0, 1] [2, 3] [2, 3, 0, 1] rfl rfl rfl rfl (by decide) rfl 0 6 rfl rfl rfl rfl (Nat.le_of_ble_eq_true rfl) (by decide) (fun _ => rfl) (fun _ hy_ => ?_)
          clear hy_
          refine g_V_l (ws2 := (fun _ => [(h0, .inr (6, [.int (iI 1), .int (iI sc), .ref u2, .ref u3, .ref u4, .ref u5, .ref u6, .ref u7, .ref u8, .int (iI rm), .int (iI wc), .ref u11, .int (iI sh), .int (iI tq), .ref u14, .int (iI cnt), .ref u16, .int (iI gf), .int (iI gs), .int (iI rc), .ref u20, .ref u21, .ref u22, .ref u23, .ref u24, .int (iI tc)])), (u21, .inl (X.2.1.1, 4, .inl (iF Ss))), (u22, .inl (X.2.1.1, 4, .inl (iF Sl))), (u23, .inl (X.2.1.1, 240, .inl (iF Sh)))])) (As := [.int (iI 1)]) C (c_X6_failedLong l X h0 u2 u3 u4 u5 u6 u7 u8 u11 u14 u16 u20 u21 u22 u23 u24 0 sc rm wc sh tq cnt gf gs rc tc 1 ) gX6_cell_X6_failedLong rfl rfl rfl hd_V_X6_failedLong_X6_cell (by decide) dX6_cell_69 [0] [1, 2, 3] [3, 0, 1, 2] rfl rfl rfl rfl (by decide) rfl 0 6 rfl rfl rfl rfl (Nat.le_of_ble_eq_true rfl) (by decide) (fun _ => rfl) (fun _ hy_ => ?_)
          clear hy_
          refine r_goto (tgt := 87) C dX6_cell_72 (by decide) ?_
          exact g_ret_l C rfl dX6_cell_87 () trivial (by (repeat' split) <;> first | rfl | omega) [0, 1, 2, 3] rfl (by (repeat' split) <;> first | rfl | omega)
        refine g_V_i (ws2 := (fun _ => [(h0, .inr (6, [.int (iI 0), .int (iI sc), .ref u2, .ref u3, .ref u4, .ref u5, .ref u6, .ref u7, .ref u8, .int (iI rm), .int (iI wc), .ref u11, .int (iI sh), .int (iI tq), .ref u14, .int (iI cnt), .ref u16, .int (iI gf), .int (iI gs), .int (iI rc), .ref u20, .ref u21, .ref u22, .ref u23, .ref u24, .int (iI tc)])), (u21, .inl (X.2.1.1, 4, .inl (iF Ss))), (u22, .inl (X.2.1.1, 4, .inl (iF Sl))), (u23, .inl (X.2.1.1, 240, .inl (iF Sh)))])) (As := [.int (iI k), .int (iI i1)]) C (c_X6_noCell_far l X h0 u2 u3 u4 u5 u6 u7 u8 u11 u14 u16 u20 u21 u22 u23 u24 0 sc rm wc sh tq cnt gf gs rc tc Ss k i1 (by first | assumption | omega) (by first | assumption | omega) (by assumption) (by first | assumption | have := hSs (Int.toNat k); omega)) gX6_cell_X6_noCell rfl rfl rfl hd_V_X6_noCell_X6_cell (by decide) dX6_cell_66 [0, 1] [2, 3] [2, 3, 0, 1] rfl rfl rfl rfl (by decide) rfl 0 6 rfl rfl rfl rfl (Nat.le_of_ble_eq_true rfl) (by decide) (fun _ => rfl) (fun _ hy_ => ?_)
        clear hy_
        refine g_V_l (ws2 := (fun _ => [(h0, .inr (6, [.int (iI 3), .int (iI sc), .ref u2, .ref u3, .ref u4, .ref u5, .ref u6, .ref u7, .ref u8, .int (iI rm), .int (iI wc), .ref u11, .int (iI sh), .int (iI tq), .ref u14, .int (iI cnt), .ref u16, .int (iI gf), .int (iI gs), .int (iI rc), .ref u20, .ref u21, .ref u22, .ref u23, .ref u24, .int (iI tc)])), (u21, .inl (X.2.1.1, 4, .inl (iF Ss))), (u22, .inl (X.2.1.1, 4, .inl (iF Sl))), (u23, .inl (X.2.1.1, 240, .inl (iF Sh)))])) (As := [.int (iI 3)]) C (c_X6_failedLong l X h0 u2 u3 u4 u5 u6 u7 u8 u11 u14 u16 u20 u21 u22 u23 u24 0 sc rm wc sh tq cnt gf gs rc tc 3 ) gX6_cell_X6_failedLong rfl rfl rfl hd_V_X6_failedLong_X6_cell (by decide) dX6_cell_69 [0] [1, 2, 3] [3, 0, 1, 2] rfl rfl rfl rfl (by decide) rfl 0 6 rfl rfl rfl rfl (Nat.le_of_ble_eq_true rfl) (by decide) (fun _ => rfl) (fun _ hy_ => ?_)
        clear hy_
        refine r_goto (tgt := 87) C dX6_cell_72 (by decide) ?_
        exact g_ret_l C rfl dX6_cell_87 () trivial (by (repeat' split) <;> first | rfl | omega) [0, 1, 2, 3] rfl (by (repeat' split) <;> first | rfl | omega)
      · skip
        refine r_aload_n C dX6_cell_47 0 rfl ?_
        refine r_iconst C dX6_cell_48 ?_
        refine g_V_l (ws2 := (fun _ => [(h0, .inr (6, [.int (iI 2), .int (iI sc), .ref u2, .ref u3, .ref u4, .ref u5, .ref u6, .ref u7, .ref u8, .int (iI rm), .int (iI wc), .ref u11, .int (iI sh), .int (iI tq), .ref u14, .int (iI cnt), .ref u16, .int (iI gf), .int (iI gs), .int (iI rc), .ref u20, .ref u21, .ref u22, .ref u23, .ref u24, .int (iI tc)])), (u21, .inl (X.2.1.1, 4, .inl (iF Ss))), (u22, .inl (X.2.1.1, 4, .inl (iF Sl))), (u23, .inl (X.2.1.1, 240, .inl (iF Sh)))])) (As := [.int (iI 2)]) C (c_X6_failedLong l X h0 u2 u3 u4 u5 u6 u7 u8 u11 u14 u16 u20 u21 u22 u23 u24 0 sc rm wc sh tq cnt gf gs rc tc 2 ) gX6_cell_X6_failedLong rfl rfl rfl hd_V_X6_failedLong_X6_cell (by decide) dX6_cell_49 [0] [1, 2, 3] [3, 0, 1, 2] rfl rfl rfl rfl (by decide) rfl 0 6 rfl rfl rfl rfl (Nat.le_of_ble_eq_true rfl) (by decide) (fun _ => rfl) (fun _ hy_ => ?_)
        clear hy_
        exact g_ret_l C rfl dX6_cell_52 () trivial (by (repeat' split) <;> first | rfl | omega) [0, 1, 2, 3] rfl (by (repeat' split) <;> first | rfl | omega)
  · skip
    refine r_if_ne (tgt := 28) C dX6_cell_21 (by decide) (by decide) (fun h_15 => absurd h_15 (by decide)) (fun h_15 => ?_)
    refine g_S_l (ws2 := (fun _ => [(h0, .inr (6, [.int (iI 0), .int (iI sc), .ref u2, .ref u3, .ref u4, .ref u5, .ref u6, .ref u7, .ref u8, .int (iI rm), .int (iI wc), .ref u11, .int (iI sh), .int (iI tq), .ref u14, .int (iI cnt), .ref u16, .int (iI gf), .int (iI gs), .int (iI rc), .ref u20, .ref u21, .ref u22, .ref u23, .ref u24, .int (iI tc)])), (u21, .inl (X.2.1.1, 4, .inl (iF Ss))), (u22, .inl (X.2.1.1, 4, .inl (iF Sl))), (u23, .inl (X.2.1.1, 240, .inl (iF Sh)))])) (As := []) C (c_X6_lost l X  ) gX6_cell_X6_lost rfl rfl rfl hd_S_X6_lost_X6_cell (by decide) dX6_cell_24 [] [0, 1, 2, 3] [0, 1, 2, 3] rfl rfl rfl rfl (by decide) rfl rfl rfl (Nat.le_of_ble_eq_true rfl) (by decide) (fun _ => rfl) (fun _ hy_ => ?_)
    clear hy_
    exact g_ret_l C rfl dX6_cell_27 () trivial (by (repeat' split) <;> first | rfl | omega) [0, 1, 2, 3] rfl (by (repeat' split) <;> first | rfl | omega)

set_option maxRecDepth 20000 in
theorem kw_X6_cell_4 : Cond.fieldLink RX6 49 "SkipStonesModel" "sheet" "[I" ∈ wsX6_cell := List.mem_of_getElem? (i := 5) rfl
set_option maxHeartbeats 4000000 in
set_option maxRecDepth 100000 in
theorem c_X6_cell_ok (l : Launch) (X : gX) (h0 : Nat) (u2 : Nat) (u3 : Nat) (u4 : Nat) (u5 : Nat) (u6 : Nat) (u7 : Nat) (u8 : Nat) (u11 : Nat) (u14 : Nat) (u16 : Nat) (u20 : Nat) (u21 : Nat) (u22 : Nat) (u23 : Nat) (u24 : Nat) (ft : Int) (sc : Int) (rm : Int) (wc : Int) (sh : Int) (tq : Int) (cnt : Int) (gf : Int) (gs : Int) (rc : Int) (tc : Int) (Ss : Nat → Int) (Sl : Nat → Int) (Sh : Nat → Int) (k : Int) (i1 : Int) (w : Int) (hx : 0 ≤ k ∧ k < 4) (hb_i1 : inB i1) (hb_w : inB w) (hSs : ∀ i, -1 ≤ Ss i ∧ Ss i ≤ 60) (hSl : ∀ i, 0 ≤ Sl i ∧ Sl i ≤ 2) (hSh : ∀ i, inB (Sh i)) (hok : 0 ≤ w ∧ w ≤ 2 ∧ 0 ≤ (Ss (Int.toNat k)) ∧ (Sl (Int.toNat k)) = w ∧ 0 ≤ i1 ∧ i1 < (Ss (Int.toNat k))) : gM l yX6_cell wsX6_cell (gr 2 0 0) X [(h0, .inr (6, [.int (iI ft), .int (iI sc), .ref u2, .ref u3, .ref u4, .ref u5, .ref u6, .ref u7, .ref u8, .int (iI rm), .int (iI wc), .ref u11, .int (iI sh), .int (iI tq), .ref u14, .int (iI cnt), .ref u16, .int (iI gf), .int (iI gs), .int (iI rc), .ref u20, .ref u21, .ref u22, .ref u23, .ref u24, .int (iI tc)])), (u21, .inl (X.2.1.1, 4, .inl (iF Ss))), (u22, .inl (X.2.1.1, 4, .inl (iF Sl))), (u23, .inl (X.2.1.1, 240, .inl (iF Sh)))] [.ref h0, .int (iI k), .int (iI i1), .int (iI w)] (gQl X (Y := Unit) (fun _ => True) (fun _ => (Sh (Int.toNat (60 * k + i1)))) (fun _ => [(h0, .inr (6, [.int (iI 0), .int (iI sc), .ref u2, .ref u3, .ref u4, .ref u5, .ref u6, .ref u7, .ref u8, .int (iI rm), .int (iI wc), .ref u11, .int (iI sh), .int (iI tq), .ref u14, .int (iI cnt), .ref u16, .int (iI gf), .int (iI gs), .int (iI rc), .ref u20, .ref u21, .ref u22, .ref u23, .ref u24, .int (iI tc)])), (u21, .inl (X.2.1.1, 4, .inl (iF Ss))), (u22, .inl (X.2.1.1, 4, .inl (iF Sl))), (u23, .inl (X.2.1.1, 240, .inl (iF Sh)))])) 0 0 := by
  refine g_start2 (lo := [(0, .ref h0), (1, .int (iI k)), (2, .int (iI i1)), (3, .int (iI w))]) (by decide +kernel) rfl rfl (Nat.le_of_ble_eq_true rfl) (fun p e s m args below meth c A C => ?_)
  have qs1 := hSs (Int.toNat k)
  have ql1 := hSl (Int.toNat k)
  refine r_aload_n C dX6_cell_0 0 rfl ?_
  refine r_iconst C dX6_cell_1 ?_
  refine pf_6_0 (ws2 := [(h0, .inr (6, [.int (iI 0), .int (iI sc), .ref u2, .ref u3, .ref u4, .ref u5, .ref u6, .ref u7, .ref u8, .int (iI rm), .int (iI wc), .ref u11, .int (iI sh), .int (iI tq), .ref u14, .int (iI cnt), .ref u16, .int (iI gf), .int (iI gs), .int (iI rc), .ref u20, .ref u21, .ref u22, .ref u23, .ref u24, .int (iI tc)])), (u21, .inl (X.2.1.1, 4, .inl (iF Ss))), (u22, .inl (X.2.1.1, 4, .inl (iF Sl))), (u23, .inl (X.2.1.1, 240, .inl (iF Sh)))]) C hi_X6_cell_6 kw_X6_cell_0 dX6_cell_2 0 rfl rfl rfl (Nat.le_of_ble_eq_true rfl) rfl ?_
  refine r_iload_n C dX6_cell_5 1 rfl ?_
  refine g_S_i (ws2 := (fun _ => [(h0, .inr (6, [.int (iI 0), .int (iI sc), .ref u2, .ref u3, .ref u4, .ref u5, .ref u6, .ref u7, .ref u8, .int (iI rm), .int (iI wc), .ref u11, .int (iI sh), .int (iI tq), .ref u14, .int (iI cnt), .ref u16, .int (iI gf), .int (iI gs), .int (iI rc), .ref u20, .ref u21, .ref u22, .ref u23, .ref u24, .int (iI tc)])), (u21, .inl (X.2.1.1, 4, .inl (iF Ss))), (u22, .inl (X.2.1.1, 4, .inl (iF Sl))), (u23, .inl (X.2.1.1, 240, .inl (iF Sh)))])) (As := [.int (iI k)]) C (c_X6_noSheet l X k (by first | assumption | omega)) gX6_cell_X6_noSheet rfl rfl rfl hd_S_X6_noSheet_X6_cell (by decide) dX6_cell_6 [] [0, 1, 2, 3] [0, 1, 2, 3] rfl rfl rfl rfl (by decide) rfl rfl rfl (Nat.le_of_ble_eq_true rfl) (by decide) (fun _ => rfl) (fun _ hy_ => ?_)
  clear hy_
  refine r_ite (fun h_1 => absurd h_1 (by omega)) (fun h_1 => ?_)
  refine r_if_ne (tgt := 24) C dX6_cell_9 (by decide) (by decide) (fun h_2 => absurd h_2 (by decide)) (fun h_2 => ?_)
  refine r_iload_n C dX6_cell_12 3 rfl ?_
  refine r_i2l C dX6_cell_13 (by omega) ?_
  refine r_lconst (z := 0) C dX6_cell_14 rfl ?_
  refine r_ldc2 (z := 2) C dX6_cell_15 kw_X6_cell_1 rfl ?_
  refine g_S_i (ws2 := (fun _ => [(h0, .inr (6, [.int (iI 0), .int (iI sc), .ref u2, .ref u3, .ref u4, .ref u5, .ref u6, .ref u7, .ref u8, .int (iI rm), .int (iI wc), .ref u11, .int (iI sh), .int (iI tq), .ref u14, .int (iI cnt), .ref u16, .int (iI gf), .int (iI gs), .int (iI rc), .ref u20, .ref u21, .ref u22, .ref u23, .ref u24, .int (iI tc)])), (u21, .inl (X.2.1.1, 4, .inl (iF Ss))), (u22, .inl (X.2.1.1, 4, .inl (iF Sl))), (u23, .inl (X.2.1.1, 240, .inl (iF Sh)))])) (As := [.long (lI w), .long (lI 0), .long (lI 2)]) C (c_X6_in l X w 0 2 (by first | assumption | omega) (by first | assumption | omega) (by first | assumption | omega)) gX6_cell_X6_in rfl rfl rfl hd_S_X6_in_X6_cell (by decide) dX6_cell_18 [] [0, 1, 2, 3] [0, 1, 2, 3] rfl rfl rfl rfl (by decide) rfl rfl rfl (Nat.le_of_ble_eq_true rfl) (by decide) (fun _ => rfl) (fun _ hy_ => ?_)
  clear hy_
  refine r_ite (fun h_3 => ?_) (fun h_3 => absurd h_3 (by omega))
  refine r_if_ne (tgt := 28) C dX6_cell_21 (by decide) (by decide) (fun h_4 => ?_) (fun h_4 => absurd h_4 (by decide))
  refine r_aload_n C dX6_cell_28 0 rfl ?_
  refine gf_6_21 C hi_X6_cell_6 kw_X6_cell_2 dX6_cell_29 0 rfl rfl ?_
  refine r_iload_n C dX6_cell_32 1 rfl ?_
  refine r_iald C dX6_cell_33 1 rfl (by omega) (by decide) ?_
  refine r_if_lt (tgt := 53) C dX6_cell_34 (by decide) (by have := hSs (Int.toNat k); omega) (fun h_5 => absurd h_5 (by omega)) (fun h_5 => ?_)
  refine r_aload_n C dX6_cell_37 0 rfl ?_
  refine gf_6_22 C hi_X6_cell_6 kw_X6_cell_3 dX6_cell_38 0 rfl rfl ?_
  refine r_iload_n C dX6_cell_41 1 rfl ?_
  refine r_iald C dX6_cell_42 2 rfl (by omega) (by decide) ?_
  refine r_iload_n C dX6_cell_43 3 rfl ?_
  refine r_icmp_eq (tgt := 53) C dX6_cell_44 (by decide) (by have := hSl (Int.toNat k); omega) (by omega) (fun h_6 => ?_) (fun h_6 => absurd h_6 (by omega))
  refine r_aload_n C dX6_cell_53 0 rfl ?_
  refine r_iload_n C dX6_cell_54 1 rfl ?_
  refine r_iload_n C dX6_cell_55 2 rfl ?_
  refine g_V_i (ws2 := (fun _ => [(h0, .inr (6, [.int (iI 0), .int (iI sc), .ref u2, .ref u3, .ref u4, .ref u5, .ref u6, .ref u7, .ref u8, .int (iI rm), .int (iI wc), .ref u11, .int (iI sh), .int (iI tq), .ref u14, .int (iI cnt), .ref u16, .int (iI gf), .int (iI gs), .int (iI rc), .ref u20, .ref u21, .ref u22, .ref u23, .ref u24, .int (iI tc)])), (u21, .inl (X.2.1.1, 4, .inl (iF Ss))), (u22, .inl (X.2.1.1, 4, .inl (iF Sl))), (u23, .inl (X.2.1.1, 240, .inl (iF Sh)))])) (As := [.int (iI k), .int (iI i1)]) C (c_X6_noCell_in l X h0 u2 u3 u4 u5 u6 u7 u8 u11 u14 u16 u20 u21 u22 u23 u24 0 sc rm wc sh tq cnt gf gs rc tc Ss k i1 (by first | assumption | omega) (by first | assumption | omega) (by assumption) (by first | assumption | have := hSs (Int.toNat k); omega)) gX6_cell_X6_noCell rfl rfl rfl hd_V_X6_noCell_X6_cell (by decide) dX6_cell_56 [0, 1] [2, 3] [2, 3, 0, 1] rfl rfl rfl rfl (by decide) rfl 0 6 rfl rfl rfl rfl (Nat.le_of_ble_eq_true rfl) (by decide) (fun _ => rfl) (fun _ hy_ => ?_)
  clear hy_
  refine r_if_le (tgt := 75) C dX6_cell_59 (by decide) (by decide) (fun h_7 => ?_) (fun h_7 => absurd h_7 (by decide))
  refine r_aload_n C dX6_cell_75 0 rfl ?_
  refine gf_6_23 C hi_X6_cell_6 kw_X6_cell_4 dX6_cell_76 0 rfl rfl ?_
  refine r_bipush C dX6_cell_79 (by decide) ?_
  refine r_iload_n C dX6_cell_81 1 rfl ?_
  refine r_imul C dX6_cell_82 ?_
  refine r_iload_n C dX6_cell_83 2 rfl ?_
  refine r_iadd C dX6_cell_84 ?_
  refine r_iald C dX6_cell_85 3 rfl (by omega) (by decide) ?_
  refine r_i2l C dX6_cell_86 (by have := hSh (Int.toNat ((60 * k) + i1)); omega) ?_
  exact g_ret_l C rfl dX6_cell_87 () trivial (by (repeat' split) <;> first | rfl | omega) [0, 1, 2, 3] rfl (by (repeat' split) <;> first | rfl | omega)

set_option maxHeartbeats 4000000 in
set_option maxRecDepth 100000 in
theorem c_X6_cell_out (l : Launch) (X : gX) (h0 : Nat) (u2 : Nat) (u3 : Nat) (u4 : Nat) (u5 : Nat) (u6 : Nat) (u7 : Nat) (u8 : Nat) (u11 : Nat) (u14 : Nat) (u16 : Nat) (u20 : Nat) (u21 : Nat) (u22 : Nat) (u23 : Nat) (u24 : Nat) (ft : Int) (sc : Int) (rm : Int) (wc : Int) (sh : Int) (tq : Int) (cnt : Int) (gf : Int) (gs : Int) (rc : Int) (tc : Int) (k : Int) (i1 : Int) (w : Int) (hx : ¬ (0 ≤ k ∧ k < 4)) (hbk : inB k) : gM l yX6_cell wsX6_cell (gr 2 0 0) X [(h0, .inr (6, [.int (iI ft), .int (iI sc), .ref u2, .ref u3, .ref u4, .ref u5, .ref u6, .ref u7, .ref u8, .int (iI rm), .int (iI wc), .ref u11, .int (iI sh), .int (iI tq), .ref u14, .int (iI cnt), .ref u16, .int (iI gf), .int (iI gs), .int (iI rc), .ref u20, .ref u21, .ref u22, .ref u23, .ref u24, .int (iI tc)]))] [.ref h0, .int (iI k), .int (iI i1), .int (iI w)] (gQl X (Y := Unit) (fun _ => True) (fun _ => -9223372036854775808) (fun _ => [(h0, .inr (6, [.int (iI 0), .int (iI sc), .ref u2, .ref u3, .ref u4, .ref u5, .ref u6, .ref u7, .ref u8, .int (iI rm), .int (iI wc), .ref u11, .int (iI sh), .int (iI tq), .ref u14, .int (iI cnt), .ref u16, .int (iI gf), .int (iI gs), .int (iI rc), .ref u20, .ref u21, .ref u22, .ref u23, .ref u24, .int (iI tc)]))])) 0 0 := by
  refine g_start2 (lo := [(0, .ref h0), (1, .int (iI k)), (2, .int (iI i1)), (3, .int (iI w))]) (by decide +kernel) rfl rfl (Nat.le_of_ble_eq_true rfl) (fun p e s m args below meth c A C => ?_)
  refine r_aload_n C dX6_cell_0 0 rfl ?_
  refine r_iconst C dX6_cell_1 ?_
  refine pf_6_0 (ws2 := [(h0, .inr (6, [.int (iI 0), .int (iI sc), .ref u2, .ref u3, .ref u4, .ref u5, .ref u6, .ref u7, .ref u8, .int (iI rm), .int (iI wc), .ref u11, .int (iI sh), .int (iI tq), .ref u14, .int (iI cnt), .ref u16, .int (iI gf), .int (iI gs), .int (iI rc), .ref u20, .ref u21, .ref u22, .ref u23, .ref u24, .int (iI tc)]))]) C hi_X6_cell_6 kw_X6_cell_0 dX6_cell_2 0 rfl rfl rfl (Nat.le_of_ble_eq_true rfl) rfl ?_
  refine r_iload_n C dX6_cell_5 1 rfl ?_
  refine g_S_i (ws2 := (fun _ => [(h0, .inr (6, [.int (iI 0), .int (iI sc), .ref u2, .ref u3, .ref u4, .ref u5, .ref u6, .ref u7, .ref u8, .int (iI rm), .int (iI wc), .ref u11, .int (iI sh), .int (iI tq), .ref u14, .int (iI cnt), .ref u16, .int (iI gf), .int (iI gs), .int (iI rc), .ref u20, .ref u21, .ref u22, .ref u23, .ref u24, .int (iI tc)]))])) (As := [.int (iI k)]) C (c_X6_noSheet l X k (by first | assumption | omega)) gX6_cell_X6_noSheet rfl rfl rfl hd_S_X6_noSheet_X6_cell (by decide) dX6_cell_6 [] [0] [0] rfl rfl rfl rfl (by decide) rfl rfl rfl (Nat.le_of_ble_eq_true rfl) (by decide) (fun _ => rfl) (fun _ hy_ => ?_)
  clear hy_
  refine r_ite (fun h_1 => ?_) (fun h_1 => absurd h_1 (by omega))
  refine r_if_ne (tgt := 24) C dX6_cell_9 (by decide) (by decide) (fun h_2 => ?_) (fun h_2 => absurd h_2 (by decide))
  refine g_S_l (ws2 := (fun _ => [(h0, .inr (6, [.int (iI 0), .int (iI sc), .ref u2, .ref u3, .ref u4, .ref u5, .ref u6, .ref u7, .ref u8, .int (iI rm), .int (iI wc), .ref u11, .int (iI sh), .int (iI tq), .ref u14, .int (iI cnt), .ref u16, .int (iI gf), .int (iI gs), .int (iI rc), .ref u20, .ref u21, .ref u22, .ref u23, .ref u24, .int (iI tc)]))])) (As := []) C (c_X6_lost l X  ) gX6_cell_X6_lost rfl rfl rfl hd_S_X6_lost_X6_cell (by decide) dX6_cell_24 [] [0] [0] rfl rfl rfl rfl (by decide) rfl rfl rfl (Nat.le_of_ble_eq_true rfl) (by decide) (fun _ => rfl) (fun _ hy_ => ?_)
  clear hy_
  exact g_ret_l C rfl dX6_cell_27 () trivial (by (repeat' split) <;> first | rfl | omega) [0] rfl (by (repeat' split) <;> first | rfl | omega)

set_option maxRecDepth 20000 in
theorem hd_S_X6_noSheet_X6_copy : yX6_noSheet.cls ≠ "java/lang/invoke/MethodHandle" ∧ yX6_noSheet.cls ≠ "java/lang/invoke/VarHandle" ∧ (parseMethodDescriptor yX6_noSheet.desc).map (fun d => d.parameters.length) = some 1 := by decide +kernel
set_option maxRecDepth 20000 in
theorem kw_X6_copy_0 : Cond.fieldLink RX6 43 "SkipStonesModel" "sheetSize" "[I" ∈ wsX6_copy := List.mem_of_getElem? (i := 1) rfl
set_option maxRecDepth 20000 in
theorem hd_V_X6_failed_X6_copy : yX6_failed.cls = yX6_failed.cls ∧ yX6_failed.cls ≠ "java/lang/invoke/MethodHandle" ∧ yX6_failed.cls ≠ "java/lang/invoke/VarHandle" ∧ (parseMethodDescriptor yX6_failed.desc).map (fun d => d.parameters.length) = some 1 := by decide +kernel
set_option maxRecDepth 20000 in
theorem kw_X6_copy_1 : Cond.fieldLink RX6 46 "SkipStonesModel" "sheetLane" "[I" ∈ wsX6_copy := List.mem_of_getElem? (i := 2) rfl
set_option maxRecDepth 20000 in
theorem hd_S_X6_isBeyond_X6_copy : yX6_isBeyond.cls ≠ "java/lang/invoke/MethodHandle" ∧ yX6_isBeyond.cls ≠ "java/lang/invoke/VarHandle" ∧ (parseMethodDescriptor yX6_isBeyond.desc).map (fun d => d.parameters.length) = some 3 := by decide +kernel
set_option maxRecDepth 20000 in
theorem hi_X6_copy_6 : ∀ w ∈ wsX60, w ∈ wsX6_copy := fun _ h => List.mem_cons_of_mem _ (List.mem_append_right _ h)
set_option maxHeartbeats 4000000 in
set_option maxRecDepth 100000 in
theorem c_X6_copy_no (l : Launch) (X : gX) (h0 : Nat) (u2 : Nat) (u3 : Nat) (u4 : Nat) (u5 : Nat) (u6 : Nat) (u7 : Nat) (u8 : Nat) (u11 : Nat) (u14 : Nat) (u16 : Nat) (u20 : Nat) (u21 : Nat) (u22 : Nat) (u23 : Nat) (u24 : Nat) (ft : Int) (sc : Int) (rm : Int) (wc : Int) (sh : Int) (tq : Int) (cnt : Int) (gf : Int) (gs : Int) (rc : Int) (tc : Int) (Ss : Nat → Int) (Sl : Nat → Int) (Sh : Nat → Int) (k : Int) (i1 : Int) (k2 : Int) (j1 : Int) (m1 : Int) (hx : 0 ≤ k ∧ k < 4) (hx2 : 0 ≤ k2 ∧ k2 < 4) (hb_i1 : inB i1) (hb_j1 : inB j1) (hb_m1 : inB m1) (hSs : ∀ i, -1 ≤ Ss i ∧ Ss i ≤ 60) (hSl : ∀ i, 0 ≤ Sl i ∧ Sl i ≤ 2) (hSh : ∀ i, inB (Sh i)) (hok : ¬ (0 ≤ (Ss (Int.toNat k)) ∧ 0 ≤ (Ss (Int.toNat k2)) ∧ (Sl (Int.toNat k)) = (Sl (Int.toNat k2)) ∧ 0 ≤ m1 ∧ 0 ≤ i1 ∧ i1 + m1 ≤ (Ss (Int.toNat k)) ∧ 0 ≤ j1 ∧ j1 + m1 ≤ (Ss (Int.toNat k2)))) : gM l yX6_copy wsX6_copy (gr 2 0 0) X [(h0, .inr (6, [.int (iI ft), .int (iI sc), .ref u2, .ref u3, .ref u4, .ref u5, .ref u6, .ref u7, .ref u8, .int (iI rm), .int (iI wc), .ref u11, .int (iI sh), .int (iI tq), .ref u14, .int (iI cnt), .ref u16, .int (iI gf), .int (iI gs), .int (iI rc), .ref u20, .ref u21, .ref u22, .ref u23, .ref u24, .int (iI tc)])), (u21, .inl (X.2.1.1, 4, .inl (iF Ss))), (u22, .inl (X.2.1.1, 4, .inl (iF Sl))), (u23, .inl (X.2.1.1, 240, .inl (iF Sh)))] [.ref h0, .int (iI k), .int (iI i1), .int (iI k2), .int (iI j1), .int (iI m1)] (gQi X (Y := Unit) (fun _ => True) (fun _ => (if (Ss (Int.toNat k)) < 0 ∨ (Ss (Int.toNat k2)) < 0 then -11 else if ¬ (Sl (Int.toNat k)) = (Sl (Int.toNat k2)) then -12 else -13)) (fun _ => [(h0, .inr (6, [.int (iI (if (Ss (Int.toNat k)) < 0 ∨ (Ss (Int.toNat k2)) < 0 then 1 else if ¬ (Sl (Int.toNat k)) = (Sl (Int.toNat k2)) then 2 else 3)), .int (iI sc), .ref u2, .ref u3, .ref u4, .ref u5, .ref u6, .ref u7, .ref u8, .int (iI rm), .int (iI wc), .ref u11, .int (iI sh), .int (iI tq), .ref u14, .int (iI cnt), .ref u16, .int (iI gf), .int (iI gs), .int (iI rc), .ref u20, .ref u21, .ref u22, .ref u23, .ref u24, .int (iI tc)])), (u21, .inl (X.2.1.1, 4, .inl (iF Ss))), (u22, .inl (X.2.1.1, 4, .inl (iF Sl))), (u23, .inl (X.2.1.1, 240, .inl (iF Sh)))])) 0 0 := by
  refine g_start2 (lo := [(0, .ref h0), (1, .int (iI k)), (2, .int (iI i1)), (3, .int (iI k2)), (4, .int (iI j1)), (5, .int (iI m1))]) (by decide +kernel) rfl rfl (Nat.le_of_ble_eq_true rfl) (fun p e s m args below meth c A C => ?_)
  have qs1 := hSs (Int.toNat k)
  have ql1 := hSl (Int.toNat k)
  have qs2 := hSs (Int.toNat k2)
  have ql2 := hSl (Int.toNat k2)
  refine r_iload_n C dX6_copy_0 1 rfl ?_
  refine g_S_i (ws2 := (fun _ => [(h0, .inr (6, [.int (iI ft), .int (iI sc), .ref u2, .ref u3, .ref u4, .ref u5, .ref u6, .ref u7, .ref u8, .int (iI rm), .int (iI wc), .ref u11, .int (iI sh), .int (iI tq), .ref u14, .int (iI cnt), .ref u16, .int (iI gf), .int (iI gs), .int (iI rc), .ref u20, .ref u21, .ref u22, .ref u23, .ref u24, .int (iI tc)])), (u21, .inl (X.2.1.1, 4, .inl (iF Ss))), (u22, .inl (X.2.1.1, 4, .inl (iF Sl))), (u23, .inl (X.2.1.1, 240, .inl (iF Sh)))])) (As := [.int (iI k)]) C (c_X6_noSheet l X k (by first | assumption | omega)) gX6_copy_X6_noSheet rfl rfl rfl hd_S_X6_noSheet_X6_copy (by decide) dX6_copy_1 [] [0, 1, 2, 3] [0, 1, 2, 3] rfl rfl rfl rfl (by decide) rfl rfl rfl (Nat.le_of_ble_eq_true rfl) (by decide) (fun _ => rfl) (fun _ hy_ => ?_)
  clear hy_
  refine r_ite (fun h_1 => absurd h_1 (by omega)) (fun h_1 => ?_)
  refine r_if_ne (tgt := 14) C dX6_copy_4 (by decide) (by decide) (fun h_2 => absurd h_2 (by decide)) (fun h_2 => ?_)
  refine r_iload_n C dX6_copy_7 3 rfl ?_
  refine g_S_i (ws2 := (fun _ => [(h0, .inr (6, [.int (iI ft), .int (iI sc), .ref u2, .ref u3, .ref u4, .ref u5, .ref u6, .ref u7, .ref u8, .int (iI rm), .int (iI wc), .ref u11, .int (iI sh), .int (iI tq), .ref u14, .int (iI cnt), .ref u16, .int (iI gf), .int (iI gs), .int (iI rc), .ref u20, .ref u21, .ref u22, .ref u23, .ref u24, .int (iI tc)])), (u21, .inl (X.2.1.1, 4, .inl (iF Ss))), (u22, .inl (X.2.1.1, 4, .inl (iF Sl))), (u23, .inl (X.2.1.1, 240, .inl (iF Sh)))])) (As := [.int (iI k2)]) C (c_X6_noSheet l X k2 (by first | assumption | omega)) gX6_copy_X6_noSheet rfl rfl rfl hd_S_X6_noSheet_X6_copy (by decide) dX6_copy_8 [] [0, 1, 2, 3] [0, 1, 2, 3] rfl rfl rfl rfl (by decide) rfl rfl rfl (Nat.le_of_ble_eq_true rfl) (by decide) (fun _ => rfl) (fun _ hy_ => ?_)
  clear hy_
  refine r_ite (fun h_3 => absurd h_3 (by omega)) (fun h_3 => ?_)
  refine r_if_eq (tgt := 20) C dX6_copy_11 (by decide) (by decide) (fun h_4 => ?_) (fun h_4 => absurd h_4 (by decide))
  refine r_aload_n C dX6_copy_20 0 rfl ?_
  refine gf_6_21 C hi_X6_copy_6 kw_X6_copy_0 dX6_copy_21 0 rfl rfl ?_
  refine r_iload_n C dX6_copy_24 1 rfl ?_
  refine r_iald C dX6_copy_25 1 rfl (by omega) (by decide) ?_
  refine r_if_lt (tgt := 38) C dX6_copy_26 (by decide) (by have := hSs (Int.toNat k); omega) (fun h_5 => ?_) (fun h_5 => ?_)
  · skip
    refine r_aload_n C dX6_copy_38 0 rfl ?_
    refine r_iconst C dX6_copy_39 ?_
    refine g_V_i (ws2 := (fun _ => [(h0, .inr (6, [.int (iI 1), .int (iI sc), .ref u2, .ref u3, .ref u4, .ref u5, .ref u6, .ref u7, .ref u8, .int (iI rm), .int (iI wc), .ref u11, .int (iI sh), .int (iI tq), .ref u14, .int (iI cnt), .ref u16, .int (iI gf), .int (iI gs), .int (iI rc), .ref u20, .ref u21, .ref u22, .ref u23, .ref u24, .int (iI tc)])), (u21, .inl (X.2.1.1, 4, .inl (iF Ss))), (u22, .inl (X.2.1.1, 4, .inl (iF Sl))), (u23, .inl (X.2.1.1, 240, .inl (iF Sh)))])) (As := [.int (iI 1)]) C (c_X6_failed l X h0 u2 u3 u4 u5 u6 u7 u8 u11 u14 u16 u20 u21 u22 u23 u24 ft sc rm wc sh tq cnt gf gs rc tc 1 ) gX6_copy_X6_failed rfl rfl rfl hd_V_X6_failed_X6_copy (by decide) dX6_copy_40 [0] [1, 2, 3] [3, 0, 1, 2] rfl rfl rfl rfl (by decide) rfl 0 6 rfl rfl rfl rfl (Nat.le_of_ble_eq_true rfl) (by decide) (fun _ => rfl) (fun _ hy_ => ?_)
    clear hy_
    exact g_ret_i C rfl dX6_copy_43 () trivial (by (repeat' split) <;> first | rfl | omega) [0, 1, 2, 3] rfl (by (repeat' split) <;> first | rfl | omega)
  · skip
    refine r_aload_n C dX6_copy_29 0 rfl ?_
    refine gf_6_21 C hi_X6_copy_6 kw_X6_copy_0 dX6_copy_30 0 rfl rfl ?_
    refine r_iload_n C dX6_copy_33 3 rfl ?_
    refine r_iald C dX6_copy_34 1 rfl (by omega) (by decide) ?_
    refine r_if_ge (tgt := 44) C dX6_copy_35 (by decide) (by have := hSs (Int.toNat k2); omega) (fun h_6 => ?_) (fun h_6 => ?_)
    · skip
      refine r_aload_n C dX6_copy_44 0 rfl ?_
      refine gf_6_22 C hi_X6_copy_6 kw_X6_copy_1 dX6_copy_45 0 rfl rfl ?_
      refine r_iload_n C dX6_copy_48 1 rfl ?_
      refine r_iald C dX6_copy_49 2 rfl (by omega) (by decide) ?_
      refine r_aload_n C dX6_copy_50 0 rfl ?_
      refine gf_6_22 C hi_X6_copy_6 kw_X6_copy_1 dX6_copy_51 0 rfl rfl ?_
      refine r_iload_n C dX6_copy_54 3 rfl ?_
      refine r_iald C dX6_copy_55 2 rfl (by omega) (by decide) ?_
      refine r_icmp_eq (tgt := 65) C dX6_copy_56 (by decide) (by have := hSl (Int.toNat k); omega) (by have := hSl (Int.toNat k2); omega) (fun h_7 => ?_) (fun h_7 => ?_)
      · skip
        refine r_iload_n C dX6_copy_65 2 rfl ?_
        refine r_iload C dX6_copy_66 5 rfl ?_
        refine r_i2l C dX6_copy_68 (by omega) ?_
        refine r_aload_n C dX6_copy_69 0 rfl ?_
        refine gf_6_21 C hi_X6_copy_6 kw_X6_copy_0 dX6_copy_70 0 rfl rfl ?_
        refine r_iload_n C dX6_copy_73 1 rfl ?_
        refine r_iald C dX6_copy_74 1 rfl (by omega) (by decide) ?_
        refine g_S_i (ws2 := (fun _ => [(h0, .inr (6, [.int (iI ft), .int (iI sc), .ref u2, .ref u3, .ref u4, .ref u5, .ref u6, .ref u7, .ref u8, .int (iI rm), .int (iI wc), .ref u11, .int (iI sh), .int (iI tq), .ref u14, .int (iI cnt), .ref u16, .int (iI gf), .int (iI gs), .int (iI rc), .ref u20, .ref u21, .ref u22, .ref u23, .ref u24, .int (iI tc)])), (u21, .inl (X.2.1.1, 4, .inl (iF Ss))), (u22, .inl (X.2.1.1, 4, .inl (iF Sl))), (u23, .inl (X.2.1.1, 240, .inl (iF Sh)))])) (As := [.int (iI i1), .long (lI m1), .int (iI (Ss (Int.toNat k)))]) C (c_X6_isBeyond l X i1 m1 (Ss (Int.toNat k)) (by first | assumption | omega) (by first | assumption | omega) (by first | assumption | have := hSs (Int.toNat k); omega)) gX6_copy_X6_isBeyond rfl rfl rfl hd_S_X6_isBeyond_X6_copy (by decide) dX6_copy_75 [] [0, 1, 2, 3] [0, 1, 2, 3] rfl rfl rfl rfl (by decide) rfl rfl rfl (Nat.le_of_ble_eq_true rfl) (by decide) (fun _ => rfl) (fun _ hy_ => ?_)
        clear hy_
        refine r_ite (fun h_8 => ?_) (fun h_8 => ?_)
        · skip
          refine r_if_ne (tgt := 98) C dX6_copy_78 (by decide) (by decide) (fun h_9 => ?_) (fun h_9 => absurd h_9 (by decide))
          refine r_aload_n C dX6_copy_98 0 rfl ?_
          refine r_iconst C dX6_copy_99 ?_
          refine g_V_i (ws2 := (fun _ => [(h0, .inr (6, [.int (iI 3), .int (iI sc), .ref u2, .ref u3, .ref u4, .ref u5, .ref u6, .ref u7, .ref u8, .int (iI rm), .int (iI wc), .ref u11, .int (iI sh), .int (iI tq), .ref u14, .int (iI cnt), .ref u16, .int (iI gf), .int (iI gs), .int (iI rc), .ref u20, .ref u21, .ref u22, .ref u23, .ref u24, .int (iI tc)])), (u21, .inl (X.2.1.1, 4, .inl (iF Ss))), (u22, .inl (X.2.1.1, 4, .inl (iF Sl))), (u23, .inl (X.2.1.1, 240, .inl (iF Sh)))])) (As := [.int (iI 3)]) C (c_X6_failed l X h0 u2 u3 u4 u5 u6 u7 u8 u11 u14 u16 u20 u21 u22 u23 u24 ft sc rm wc sh tq cnt gf gs rc tc 3 ) gX6_copy_X6_failed rfl rfl rfl hd_V_X6_failed_X6_copy (by decide) dX6_copy_100 [0] [1, 2, 3] [3, 0, 1, 2] rfl rfl rfl rfl (by decide) rfl 0 6 rfl rfl rfl rfl (Nat.le_of_ble_eq_true rfl) (by decide) (fun _ => rfl) (fun _ hy_ => ?_)
          clear hy_
          exact g_ret_i C rfl dX6_copy_103 () trivial (by (repeat' split) <;> first | rfl | omega) [0, 1, 2, 3] rfl (by (repeat' split) <;> first | rfl | omega)
        · skip
          refine r_if_ne (tgt := 98) C dX6_copy_78 (by decide) (by decide) (fun h_10 => absurd h_10 (by decide)) (fun h_10 => ?_)
          refine r_iload C dX6_copy_81 4 rfl ?_
          refine r_iload C dX6_copy_83 5 rfl ?_
          refine r_i2l C dX6_copy_85 (by omega) ?_
          refine r_aload_n C dX6_copy_86 0 rfl ?_
          refine gf_6_21 C hi_X6_copy_6 kw_X6_copy_0 dX6_copy_87 0 rfl rfl ?_
          refine r_iload_n C dX6_copy_90 3 rfl ?_
          refine r_iald C dX6_copy_91 1 rfl (by omega) (by decide) ?_
          refine g_S_i (ws2 := (fun _ => [(h0, .inr (6, [.int (iI ft), .int (iI sc), .ref u2, .ref u3, .ref u4, .ref u5, .ref u6, .ref u7, .ref u8, .int (iI rm), .int (iI wc), .ref u11, .int (iI sh), .int (iI tq), .ref u14, .int (iI cnt), .ref u16, .int (iI gf), .int (iI gs), .int (iI rc), .ref u20, .ref u21, .ref u22, .ref u23, .ref u24, .int (iI tc)])), (u21, .inl (X.2.1.1, 4, .inl (iF Ss))), (u22, .inl (X.2.1.1, 4, .inl (iF Sl))), (u23, .inl (X.2.1.1, 240, .inl (iF Sh)))])) (As := [.int (iI j1), .long (lI m1), .int (iI (Ss (Int.toNat k2)))]) C (c_X6_isBeyond l X j1 m1 (Ss (Int.toNat k2)) (by first | assumption | omega) (by first | assumption | omega) (by first | assumption | have := hSs (Int.toNat k2); omega)) gX6_copy_X6_isBeyond rfl rfl rfl hd_S_X6_isBeyond_X6_copy (by decide) dX6_copy_92 [] [0, 1, 2, 3] [0, 1, 2, 3] rfl rfl rfl rfl (by decide) rfl rfl rfl (Nat.le_of_ble_eq_true rfl) (by decide) (fun _ => rfl) (fun _ hy_ => ?_)
          clear hy_
          refine r_ite (fun h_11 => ?_) (fun h_11 => absurd h_11 (by omega))
          refine r_if_eq (tgt := 104) C dX6_copy_95 (by decide) (by decide) (fun h_12 => absurd h_12 (by decide)) (fun h_12 => ?_)
          refine r_aload_n C dX6_copy_98 0 rfl ?_
          refine r_iconst C dX6_copy_99 ?_
          refine g_V_i (ws2 := (fun _ => [(h0, .inr (6, [.int (iI 3), .int (iI sc), .ref u2, .ref u3, .ref u4, .ref u5, .ref u6, .ref u7, .ref u8, .int (iI rm), .int (iI wc), .ref u11, .int (iI sh), .int (iI tq), .ref u14, .int (iI cnt), .ref u16, .int (iI gf), .int (iI gs), .int (iI rc), .ref u20, .ref u21, .ref u22, .ref u23, .ref u24, .int (iI tc)])), (u21, .inl (X.2.1.1, 4, .inl (iF Ss))), (u22, .inl (X.2.1.1, 4, .inl (iF Sl))), (u23, .inl (X.2.1.1, 240, .inl (iF Sh)))])) (As := [.int (iI 3)]) C (c_X6_failed l X h0 u2 u3 u4 u5 u6 u7 u8 u11 u14 u16 u20 u21 u22 u23 u24 ft sc rm wc sh tq cnt gf gs rc tc 3 ) gX6_copy_X6_failed rfl rfl rfl hd_V_X6_failed_X6_copy (by decide) dX6_copy_100 [0] [1, 2, 3] [3, 0, 1, 2] rfl rfl rfl rfl (by decide) rfl 0 6 rfl rfl rfl rfl (Nat.le_of_ble_eq_true rfl) (by decide) (fun _ => rfl) (fun _ hy_ => ?_)
          clear hy_
          exact g_ret_i C rfl dX6_copy_103 () trivial (by (repeat' split) <;> first | rfl | omega) [0, 1, 2, 3] rfl (by (repeat' split) <;> first | rfl | omega)
      · skip
        refine r_aload_n C dX6_copy_59 0 rfl ?_
        refine r_iconst C dX6_copy_60 ?_
        refine g_V_i (ws2 := (fun _ => [(h0, .inr (6, [.int (iI 2), .int (iI sc), .ref u2, .ref u3, .ref u4, .ref u5, .ref u6, .ref u7, .ref u8, .int (iI rm), .int (iI wc), .ref u11, .int (iI sh), .int (iI tq), .ref u14, .int (iI cnt), .ref u16, .int (iI gf), .int (iI gs), .int (iI rc), .ref u20, .ref u21, .ref u22, .ref u23, .ref u24, .int (iI tc)])), (u21, .inl (X.2.1.1, 4, .inl (iF Ss))), (u22, .inl (X.2.1.1, 4, .inl (iF Sl))), (u23, .inl (X.2.1.1, 240, .inl (iF Sh)))])) (As := [.int (iI 2)]) C (c_X6_failed l X h0 u2 u3 u4 u5 u6 u7 u8 u11 u14 u16 u20 u21 u22 u23 u24 ft sc rm wc sh tq cnt gf gs rc tc 2 ) gX6_copy_X6_failed rfl rfl rfl hd_V_X6_failed_X6_copy (by decide) dX6_copy_61 [0] [1, 2, 3] [3, 0, 1, 2] rfl rfl rfl rfl (by decide) rfl 0 6 rfl rfl rfl rfl (Nat.le_of_ble_eq_true rfl) (by decide) (fun _ => rfl) (fun _ hy_ => ?_)
        clear hy_
        exact g_ret_i C rfl dX6_copy_64 () trivial (by (repeat' split) <;> first | rfl | omega) [0, 1, 2, 3] rfl (by (repeat' split) <;> first | rfl | omega)
    · skip
      refine r_aload_n C dX6_copy_38 0 rfl ?_
      refine r_iconst C dX6_copy_39 ?_
      refine g_V_i (ws2 := (fun _ => [(h0, .inr (6, [.int (iI 1), .int (iI sc), .ref u2, .ref u3, .ref u4, .ref u5, .ref u6, .ref u7, .ref u8, .int (iI rm), .int (iI wc), .ref u11, .int (iI sh), .int (iI tq), .ref u14, .int (iI cnt), .ref u16, .int (iI gf), .int (iI gs), .int (iI rc), .ref u20, .ref u21, .ref u22, .ref u23, .ref u24, .int (iI tc)])), (u21, .inl (X.2.1.1, 4, .inl (iF Ss))), (u22, .inl (X.2.1.1, 4, .inl (iF Sl))), (u23, .inl (X.2.1.1, 240, .inl (iF Sh)))])) (As := [.int (iI 1)]) C (c_X6_failed l X h0 u2 u3 u4 u5 u6 u7 u8 u11 u14 u16 u20 u21 u22 u23 u24 ft sc rm wc sh tq cnt gf gs rc tc 1 ) gX6_copy_X6_failed rfl rfl rfl hd_V_X6_failed_X6_copy (by decide) dX6_copy_40 [0] [1, 2, 3] [3, 0, 1, 2] rfl rfl rfl rfl (by decide) rfl 0 6 rfl rfl rfl rfl (Nat.le_of_ble_eq_true rfl) (by decide) (fun _ => rfl) (fun _ hy_ => ?_)
      clear hy_
      exact g_ret_i C rfl dX6_copy_43 () trivial (by (repeat' split) <;> first | rfl | omega) [0, 1, 2, 3] rfl (by (repeat' split) <;> first | rfl | omega)

set_option maxRecDepth 20000 in
theorem hd_V_X6_refused_X6_copy : yX6_refused.cls = yX6_refused.cls ∧ yX6_refused.cls ≠ "java/lang/invoke/MethodHandle" ∧ yX6_refused.cls ≠ "java/lang/invoke/VarHandle" ∧ (parseMethodDescriptor yX6_refused.desc).map (fun d => d.parameters.length) = some 1 := by decide +kernel
set_option maxRecDepth 20000 in
theorem kw_X6_copy_3 : Cond.fieldLink RX6 49 "SkipStonesModel" "sheet" "[I" ∈ wsX6_copy := List.mem_of_getElem? (i := 4) rfl
set_option maxRecDepth 20000 in
theorem kw_X6_copy_2 : Cond.fieldLink RX6 52 "SkipStonesModel" "hands" "[I" ∈ wsX6_copy := List.mem_of_getElem? (i := 3) rfl
set_option maxHeartbeats 4000000 in
set_option maxRecDepth 100000 in
theorem c_X6_copy_ok (l : Launch) (X : gX) (h0 : Nat) (u2 : Nat) (u3 : Nat) (u4 : Nat) (u5 : Nat) (u6 : Nat) (u7 : Nat) (u8 : Nat) (u11 : Nat) (u14 : Nat) (u16 : Nat) (u20 : Nat) (u21 : Nat) (u22 : Nat) (u23 : Nat) (u24 : Nat) (ft : Int) (sc : Int) (rm : Int) (wc : Int) (sh : Int) (tq : Int) (cnt : Int) (gf : Int) (gs : Int) (rc : Int) (tc : Int) (Ss : Nat → Int) (Sl : Nat → Int) (Sh : Nat → Int) (Hd : Nat → Int) (k : Int) (i1 : Int) (k2 : Int) (j1 : Int) (m1 : Int) (hx : 0 ≤ k ∧ k < 4) (hx2 : 0 ≤ k2 ∧ k2 < 4) (hb_i1 : inB i1) (hb_j1 : inB j1) (hb_m1 : inB m1) (hSs : ∀ i, -1 ≤ Ss i ∧ Ss i ≤ 60) (hSl : ∀ i, 0 ≤ Sl i ∧ Sl i ≤ 2) (hSh : ∀ i, inB (Sh i)) (hok : 0 ≤ (Ss (Int.toNat k)) ∧ 0 ≤ (Ss (Int.toNat k2)) ∧ (Sl (Int.toNat k)) = (Sl (Int.toNat k2)) ∧ 0 ≤ m1 ∧ 0 ≤ i1 ∧ i1 + m1 ≤ (Ss (Int.toNat k)) ∧ 0 ≤ j1 ∧ j1 + m1 ≤ (Ss (Int.toNat k2))) : gM l yX6_copy wsX6_copy (gr 2 0 0) X [(h0, .inr (6, [.int (iI ft), .int (iI sc), .ref u2, .ref u3, .ref u4, .ref u5, .ref u6, .ref u7, .ref u8, .int (iI rm), .int (iI wc), .ref u11, .int (iI sh), .int (iI tq), .ref u14, .int (iI cnt), .ref u16, .int (iI gf), .int (iI gs), .int (iI rc), .ref u20, .ref u21, .ref u22, .ref u23, .ref u24, .int (iI tc)])), (u21, .inl (X.2.1.1, 4, .inl (iF Ss))), (u22, .inl (X.2.1.1, 4, .inl (iF Sl))), (u23, .inl (X.2.1.1, 240, .inl (iF Sh))), (u24, .inl (X.2.1.1, 60, .inl (iF Hd)))] [.ref h0, .int (iI k), .int (iI i1), .int (iI k2), .int (iI j1), .int (iI m1)] (gQi X (Y := Unit) (fun _ => True) (fun _ => m1) (fun _ => [(h0, .inr (6, [.int (iI 0), .int (iI sc), .ref u2, .ref u3, .ref u4, .ref u5, .ref u6, .ref u7, .ref u8, .int (iI rm), .int (iI wc), .ref u11, .int (iI sh), .int (iI tq), .ref u14, .int (iI cnt), .ref u16, .int (iI gf), .int (iI gs), .int (iI rc), .ref u20, .ref u21, .ref u22, .ref u23, .ref u24, .int (iI tc)])), (u21, .inl (X.2.1.1, 4, .inl (iF Ss))), (u22, .inl (X.2.1.1, 4, .inl (iF Sl))), (u23, .inl (X.2.1.1, 240, .inl (iF (ptT Sh (tkI Hd Sh (60 * k + i1) m1) (60 * k2 + j1) m1)))), (u24, .inl (X.2.1.1, 60, .inl (iF (tkI Hd Sh (60 * k + i1) m1))))])) 0 0 := by
  refine g_start2 (lo := [(0, .ref h0), (1, .int (iI k)), (2, .int (iI i1)), (3, .int (iI k2)), (4, .int (iI j1)), (5, .int (iI m1))]) (by decide +kernel) rfl rfl (Nat.le_of_ble_eq_true rfl) (fun p e s m args below meth c A C => ?_)
  have qs1 := hSs (Int.toNat k)
  have ql1 := hSl (Int.toNat k)
  have qs2 := hSs (Int.toNat k2)
  have ql2 := hSl (Int.toNat k2)
  refine r_iload_n C dX6_copy_0 1 rfl ?_
  refine g_S_i (ws2 := (fun _ => [(h0, .inr (6, [.int (iI ft), .int (iI sc), .ref u2, .ref u3, .ref u4, .ref u5, .ref u6, .ref u7, .ref u8, .int (iI rm), .int (iI wc), .ref u11, .int (iI sh), .int (iI tq), .ref u14, .int (iI cnt), .ref u16, .int (iI gf), .int (iI gs), .int (iI rc), .ref u20, .ref u21, .ref u22, .ref u23, .ref u24, .int (iI tc)])), (u21, .inl (X.2.1.1, 4, .inl (iF Ss))), (u22, .inl (X.2.1.1, 4, .inl (iF Sl))), (u23, .inl (X.2.1.1, 240, .inl (iF Sh))), (u24, .inl (X.2.1.1, 60, .inl (iF Hd)))])) (As := [.int (iI k)]) C (c_X6_noSheet l X k (by first | assumption | omega)) gX6_copy_X6_noSheet rfl rfl rfl hd_S_X6_noSheet_X6_copy (by decide) dX6_copy_1 [] [0, 1, 2, 3, 4] [0, 1, 2, 3, 4] rfl rfl rfl rfl (by decide) rfl rfl rfl (Nat.le_of_ble_eq_true rfl) (by decide) (fun _ => rfl) (fun _ hy_ => ?_)
  clear hy_
  refine r_ite (fun h_1 => absurd h_1 (by omega)) (fun h_1 => ?_)
  refine r_if_ne (tgt := 14) C dX6_copy_4 (by decide) (by decide) (fun h_2 => absurd h_2 (by decide)) (fun h_2 => ?_)
  refine r_iload_n C dX6_copy_7 3 rfl ?_
  refine g_S_i (ws2 := (fun _ => [(h0, .inr (6, [.int (iI ft), .int (iI sc), .ref u2, .ref u3, .ref u4, .ref u5, .ref u6, .ref u7, .ref u8, .int (iI rm), .int (iI wc), .ref u11, .int (iI sh), .int (iI tq), .ref u14, .int (iI cnt), .ref u16, .int (iI gf), .int (iI gs), .int (iI rc), .ref u20, .ref u21, .ref u22, .ref u23, .ref u24, .int (iI tc)])), (u21, .inl (X.2.1.1, 4, .inl (iF Ss))), (u22, .inl (X.2.1.1, 4, .inl (iF Sl))), (u23, .inl (X.2.1.1, 240, .inl (iF Sh))), (u24, .inl (X.2.1.1, 60, .inl (iF Hd)))])) (As := [.int (iI k2)]) C (c_X6_noSheet l X k2 (by first | assumption | omega)) gX6_copy_X6_noSheet rfl rfl rfl hd_S_X6_noSheet_X6_copy (by decide) dX6_copy_8 [] [0, 1, 2, 3, 4] [0, 1, 2, 3, 4] rfl rfl rfl rfl (by decide) rfl rfl rfl (Nat.le_of_ble_eq_true rfl) (by decide) (fun _ => rfl) (fun _ hy_ => ?_)
  clear hy_
  refine r_ite (fun h_3 => absurd h_3 (by omega)) (fun h_3 => ?_)
  refine r_if_eq (tgt := 20) C dX6_copy_11 (by decide) (by decide) (fun h_4 => ?_) (fun h_4 => absurd h_4 (by decide))
  refine r_aload_n C dX6_copy_20 0 rfl ?_
  refine gf_6_21 C hi_X6_copy_6 kw_X6_copy_0 dX6_copy_21 0 rfl rfl ?_
  refine r_iload_n C dX6_copy_24 1 rfl ?_
  refine r_iald C dX6_copy_25 1 rfl (by omega) (by decide) ?_
  refine r_if_lt (tgt := 38) C dX6_copy_26 (by decide) (by have := hSs (Int.toNat k); omega) (fun h_5 => absurd h_5 (by omega)) (fun h_5 => ?_)
  refine r_aload_n C dX6_copy_29 0 rfl ?_
  refine gf_6_21 C hi_X6_copy_6 kw_X6_copy_0 dX6_copy_30 0 rfl rfl ?_
  refine r_iload_n C dX6_copy_33 3 rfl ?_
  refine r_iald C dX6_copy_34 1 rfl (by omega) (by decide) ?_
  refine r_if_ge (tgt := 44) C dX6_copy_35 (by decide) (by have := hSs (Int.toNat k2); omega) (fun h_6 => ?_) (fun h_6 => absurd h_6 (by omega))
  refine r_aload_n C dX6_copy_44 0 rfl ?_
  refine gf_6_22 C hi_X6_copy_6 kw_X6_copy_1 dX6_copy_45 0 rfl rfl ?_
  refine r_iload_n C dX6_copy_48 1 rfl ?_
  refine r_iald C dX6_copy_49 2 rfl (by omega) (by decide) ?_
  refine r_aload_n C dX6_copy_50 0 rfl ?_
  refine gf_6_22 C hi_X6_copy_6 kw_X6_copy_1 dX6_copy_51 0 rfl rfl ?_
  refine r_iload_n C dX6_copy_54 3 rfl ?_
  refine r_iald C dX6_copy_55 2 rfl (by omega) (by decide) ?_
  refine r_icmp_eq (tgt := 65) C dX6_copy_56 (by decide) (by have := hSl (Int.toNat k); omega) (by have := hSl (Int.toNat k2); omega) (fun h_7 => ?_) (fun h_7 => absurd h_7 (by omega))
  refine r_iload_n C dX6_copy_65 2 rfl ?_
  refine r_iload C dX6_copy_66 5 rfl ?_
  refine r_i2l C dX6_copy_68 (by omega) ?_
  refine r_aload_n C dX6_copy_69 0 rfl ?_
  refine gf_6_21 C hi_X6_copy_6 kw_X6_copy_0 dX6_copy_70 0 rfl rfl ?_
  refine r_iload_n C dX6_copy_73 1 rfl ?_
  refine r_iald C dX6_copy_74 1 rfl (by omega) (by decide) ?_
  refine g_S_i (ws2 := (fun _ => [(h0, .inr (6, [.int (iI ft), .int (iI sc), .ref u2, .ref u3, .ref u4, .ref u5, .ref u6, .ref u7, .ref u8, .int (iI rm), .int (iI wc), .ref u11, .int (iI sh), .int (iI tq), .ref u14, .int (iI cnt), .ref u16, .int (iI gf), .int (iI gs), .int (iI rc), .ref u20, .ref u21, .ref u22, .ref u23, .ref u24, .int (iI tc)])), (u21, .inl (X.2.1.1, 4, .inl (iF Ss))), (u22, .inl (X.2.1.1, 4, .inl (iF Sl))), (u23, .inl (X.2.1.1, 240, .inl (iF Sh))), (u24, .inl (X.2.1.1, 60, .inl (iF Hd)))])) (As := [.int (iI i1), .long (lI m1), .int (iI (Ss (Int.toNat k)))]) C (c_X6_isBeyond l X i1 m1 (Ss (Int.toNat k)) (by first | assumption | omega) (by first | assumption | omega) (by first | assumption | have := hSs (Int.toNat k); omega)) gX6_copy_X6_isBeyond rfl rfl rfl hd_S_X6_isBeyond_X6_copy (by decide) dX6_copy_75 [] [0, 1, 2, 3, 4] [0, 1, 2, 3, 4] rfl rfl rfl rfl (by decide) rfl rfl rfl (Nat.le_of_ble_eq_true rfl) (by decide) (fun _ => rfl) (fun _ hy_ => ?_)
  clear hy_
  refine r_ite (fun h_8 => absurd h_8 (by omega)) (fun h_8 => ?_)
  refine r_if_ne (tgt := 98) C dX6_copy_78 (by decide) (by decide) (fun h_9 => absurd h_9 (by decide)) (fun h_9 => ?_)
  refine r_iload C dX6_copy_81 4 rfl ?_
  refine r_iload C dX6_copy_83 5 rfl ?_
  refine r_i2l C dX6_copy_85 (by omega) ?_
  refine r_aload_n C dX6_copy_86 0 rfl ?_
  refine gf_6_21 C hi_X6_copy_6 kw_X6_copy_0 dX6_copy_87 0 rfl rfl ?_
  refine r_iload_n C dX6_copy_90 3 rfl ?_
  refine r_iald C dX6_copy_91 1 rfl (by omega) (by decide) ?_
  refine g_S_i (ws2 := (fun _ => [(h0, .inr (6, [.int (iI ft), .int (iI sc), .ref u2, .ref u3, .ref u4, .ref u5, .ref u6, .ref u7, .ref u8, .int (iI rm), .int (iI wc), .ref u11, .int (iI sh), .int (iI tq), .ref u14, .int (iI cnt), .ref u16, .int (iI gf), .int (iI gs), .int (iI rc), .ref u20, .ref u21, .ref u22, .ref u23, .ref u24, .int (iI tc)])), (u21, .inl (X.2.1.1, 4, .inl (iF Ss))), (u22, .inl (X.2.1.1, 4, .inl (iF Sl))), (u23, .inl (X.2.1.1, 240, .inl (iF Sh))), (u24, .inl (X.2.1.1, 60, .inl (iF Hd)))])) (As := [.int (iI j1), .long (lI m1), .int (iI (Ss (Int.toNat k2)))]) C (c_X6_isBeyond l X j1 m1 (Ss (Int.toNat k2)) (by first | assumption | omega) (by first | assumption | omega) (by first | assumption | have := hSs (Int.toNat k2); omega)) gX6_copy_X6_isBeyond rfl rfl rfl hd_S_X6_isBeyond_X6_copy (by decide) dX6_copy_92 [] [0, 1, 2, 3, 4] [0, 1, 2, 3, 4] rfl rfl rfl rfl (by decide) rfl rfl rfl (Nat.le_of_ble_eq_true rfl) (by decide) (fun _ => rfl) (fun _ hy_ => ?_)
  clear hy_
  refine r_ite (fun h_10 => absurd h_10 (by omega)) (fun h_10 => ?_)
  refine r_if_eq (tgt := 104) C dX6_copy_95 (by decide) (by decide) (fun h_11 => ?_) (fun h_11 => absurd h_11 (by decide))
  refine r_iconst C dX6_copy_104 ?_
  refine r_istore (lo2 := [(6, .int (iI 0)), (0, .ref h0), (1, .int (iI k)), (2, .int (iI i1)), (3, .int (iI k2)), (4, .int (iI j1)), (5, .int (iI m1))]) C dX6_copy_105 (by decide) rfl ?_
  have L107 : ∀ (fu107 : Nat) (c1 : Int) (G : Nat → Int), (0 ≤ c1 ∧ c1 ≤ m1) → (G = tkI Hd Sh (60 * k + i1) c1) → (m1 - c1).toNat < fu107 → gW p l e (gr 2 0 0) s m args below meth c X A 7 (MQ below ((gQi X (Y := Unit) (fun _ => True) (fun _ => m1) (fun _ => [(h0, .inr (6, [.int (iI 0), .int (iI sc), .ref u2, .ref u3, .ref u4, .ref u5, .ref u6, .ref u7, .ref u8, .int (iI rm), .int (iI wc), .ref u11, .int (iI sh), .int (iI tq), .ref u14, .int (iI cnt), .ref u16, .int (iI gf), .int (iI gs), .int (iI rc), .ref u20, .ref u21, .ref u22, .ref u23, .ref u24, .int (iI tc)])), (u21, .inl (X.2.1.1, 4, .inl (iF Ss))), (u22, .inl (X.2.1.1, 4, .inl (iF Sl))), (u23, .inl (X.2.1.1, 240, .inl (iF (ptT Sh (tkI Hd Sh (60 * k + i1) m1) (60 * k2 + j1) m1)))), (u24, .inl (X.2.1.1, 60, .inl (iF (tkI Hd Sh (60 * k + i1) m1))))])) A) args s 0 0 A) 0 0 [(h0, .inr (6, [.int (iI ft), .int (iI sc), .ref u2, .ref u3, .ref u4, .ref u5, .ref u6, .ref u7, .ref u8, .int (iI rm), .int (iI wc), .ref u11, .int (iI sh), .int (iI tq), .ref u14, .int (iI cnt), .ref u16, .int (iI gf), .int (iI gs), .int (iI rc), .ref u20, .ref u21, .ref u22, .ref u23, .ref u24, .int (iI tc)])), (u21, .inl (X.2.1.1, 4, .inl (iF Ss))), (u22, .inl (X.2.1.1, 4, .inl (iF Sl))), (u23, .inl (X.2.1.1, 240, .inl (iF Sh))), (u24, .inl (X.2.1.1, 60, .inl (iF G)))] 107 [(0, .ref h0), (1, .int (iI k)), (2, .int (iI i1)), (3, .int (iI k2)), (4, .int (iI j1)), (5, .int (iI m1)), (6, .int (iI c1))] [] := by
    intro fu107
    induction fu107 with
    | zero => intro c1 G ic iG hm107; exact absurd hm107 (Nat.not_lt_zero _)
    | succ fu107 ih107 =>
      intro c1 G ic iG hm107
      refine r_iload C dX6_copy_107 6 rfl ?_
      refine r_iload C dX6_copy_109 5 rfl ?_
      refine r_icmp_ge (tgt := 141) C dX6_copy_111 (by decide) (by omega) (by omega) (fun h_12 => ?_) (fun h_12 => ?_)
      · skip
        refine r_iconst C dX6_copy_141 ?_
        refine r_istore (lo2 := [(6, .int (iI 0)), (0, .ref h0), (1, .int (iI k)), (2, .int (iI i1)), (3, .int (iI k2)), (4, .int (iI j1)), (5, .int (iI m1))]) C dX6_copy_142 (by decide) rfl ?_
        have L144 : ∀ (fu144 : Nat) (c2 : Int) (G2 : Nat → Int), (0 ≤ c2 ∧ c2 ≤ m1) → (G2 = ptT Sh G (60 * k2 + j1) c2) → (m1 - c2).toNat < fu144 → gW p l e (gr 2 0 0) s m args below meth c X A 7 (MQ below ((gQi X (Y := Unit) (fun _ => True) (fun _ => m1) (fun _ => [(h0, .inr (6, [.int (iI 0), .int (iI sc), .ref u2, .ref u3, .ref u4, .ref u5, .ref u6, .ref u7, .ref u8, .int (iI rm), .int (iI wc), .ref u11, .int (iI sh), .int (iI tq), .ref u14, .int (iI cnt), .ref u16, .int (iI gf), .int (iI gs), .int (iI rc), .ref u20, .ref u21, .ref u22, .ref u23, .ref u24, .int (iI tc)])), (u21, .inl (X.2.1.1, 4, .inl (iF Ss))), (u22, .inl (X.2.1.1, 4, .inl (iF Sl))), (u23, .inl (X.2.1.1, 240, .inl (iF (ptT Sh (tkI Hd Sh (60 * k + i1) m1) (60 * k2 + j1) m1)))), (u24, .inl (X.2.1.1, 60, .inl (iF (tkI Hd Sh (60 * k + i1) m1))))])) A) args s 0 0 A) 0 0 [(h0, .inr (6, [.int (iI ft), .int (iI sc), .ref u2, .ref u3, .ref u4, .ref u5, .ref u6, .ref u7, .ref u8, .int (iI rm), .int (iI wc), .ref u11, .int (iI sh), .int (iI tq), .ref u14, .int (iI cnt), .ref u16, .int (iI gf), .int (iI gs), .int (iI rc), .ref u20, .ref u21, .ref u22, .ref u23, .ref u24, .int (iI tc)])), (u21, .inl (X.2.1.1, 4, .inl (iF Ss))), (u22, .inl (X.2.1.1, 4, .inl (iF Sl))), (u23, .inl (X.2.1.1, 240, .inl (iF G2))), (u24, .inl (X.2.1.1, 60, .inl (iF G)))] 144 [(0, .ref h0), (1, .int (iI k)), (2, .int (iI i1)), (3, .int (iI k2)), (4, .int (iI j1)), (5, .int (iI m1)), (6, .int (iI c2))] [] := by
          intro fu144
          induction fu144 with
          | zero => intro c2 G2 ic2 iG2 hm144; exact absurd hm144 (Nat.not_lt_zero _)
          | succ fu144 ih144 =>
            intro c2 G2 ic2 iG2 hm144
            refine r_iload C dX6_copy_144 6 rfl ?_
            refine r_iload C dX6_copy_146 5 rfl ?_
            refine r_icmp_ge (tgt := 179) C dX6_copy_148 (by decide) (by omega) (by omega) (fun h_13 => ?_) (fun h_13 => ?_)
            · skip
              refine r_aload_n C dX6_copy_179 0 rfl ?_
              refine r_iload C dX6_copy_180 5 rfl ?_
              refine g_V_i (ws2 := (fun _ => [(h0, .inr (6, [.int (iI 0), .int (iI sc), .ref u2, .ref u3, .ref u4, .ref u5, .ref u6, .ref u7, .ref u8, .int (iI rm), .int (iI wc), .ref u11, .int (iI sh), .int (iI tq), .ref u14, .int (iI cnt), .ref u16, .int (iI gf), .int (iI gs), .int (iI rc), .ref u20, .ref u21, .ref u22, .ref u23, .ref u24, .int (iI tc)])), (u21, .inl (X.2.1.1, 4, .inl (iF Ss))), (u22, .inl (X.2.1.1, 4, .inl (iF Sl))), (u23, .inl (X.2.1.1, 240, .inl (iF G2))), (u24, .inl (X.2.1.1, 60, .inl (iF G)))])) (As := [.int (iI m1)]) C (c_X6_refused l X h0 u2 u3 u4 u5 u6 u7 u8 u11 u14 u16 u20 u21 u22 u23 u24 ft sc rm wc sh tq cnt gf gs rc tc m1 ) gX6_copy_X6_refused rfl rfl rfl hd_V_X6_refused_X6_copy (by decide) dX6_copy_182 [0] [1, 2, 3, 4] [4, 0, 1, 2, 3] rfl rfl rfl rfl (by decide) rfl 0 6 rfl rfl rfl rfl (Nat.le_of_ble_eq_true rfl) (by decide) (fun _ => rfl) (fun _ hy_ => ?_)
              clear hy_
              exact g_ret_i C rfl dX6_copy_185 () trivial (by (repeat' split) <;> first | rfl | omega) [0, 1, 2, 3, 4] rfl (by rw [iG2, iG, show c1 = m1 by omega, show c2 = m1 by omega] <;> rfl)
            · skip
              refine r_aload_n C dX6_copy_151 0 rfl ?_
              refine gf_6_23 C hi_X6_copy_6 kw_X6_copy_3 dX6_copy_152 0 rfl rfl ?_
              refine r_bipush C dX6_copy_155 (by decide) ?_
              refine r_iload_n C dX6_copy_157 3 rfl ?_
              refine r_imul C dX6_copy_158 ?_
              refine r_iload C dX6_copy_159 4 rfl ?_
              refine r_iadd C dX6_copy_161 ?_
              refine r_iload C dX6_copy_162 6 rfl ?_
              refine r_iadd C dX6_copy_164 ?_
              refine r_aload_n C dX6_copy_165 0 rfl ?_
              refine gf_6_24 C hi_X6_copy_6 kw_X6_copy_2 dX6_copy_166 0 rfl rfl ?_
              refine r_iload C dX6_copy_169 6 rfl ?_
              refine r_iald C dX6_copy_171 4 rfl (by omega) (by decide) ?_
              refine r_iast (ws2 := [(h0, .inr (6, [.int (iI ft), .int (iI sc), .ref u2, .ref u3, .ref u4, .ref u5, .ref u6, .ref u7, .ref u8, .int (iI rm), .int (iI wc), .ref u11, .int (iI sh), .int (iI tq), .ref u14, .int (iI cnt), .ref u16, .int (iI gf), .int (iI gs), .int (iI rc), .ref u20, .ref u21, .ref u22, .ref u23, .ref u24, .int (iI tc)])), (u21, .inl (X.2.1.1, 4, .inl (iF Ss))), (u22, .inl (X.2.1.1, 4, .inl (iF Sl))), (u23, .inl (X.2.1.1, 240, .inl (iF (updI G2 (Int.toNat (((60 * k2) + j1) + c2)) (G (Int.toNat c2)))))), (u24, .inl (X.2.1.1, 60, .inl (iF G)))]) C dX6_copy_172 3 rfl (by omega) (by decide) rfl ?_
              refine r_iinc (lo2 := [(6, .int (iI (c2 + 1))), (0, .ref h0), (1, .int (iI k)), (2, .int (iI i1)), (3, .int (iI k2)), (4, .int (iI j1)), (5, .int (iI m1))]) C dX6_copy_173 6 rfl (by decide) rfl ?_
              refine r_goto (tgt := 144) C dX6_copy_176 (by decide) ?_
              refine r_lo [1, 2, 3, 4, 5, 6, 0] (lo2 := [(0, .ref h0), (1, .int (iI k)), (2, .int (iI i1)), (3, .int (iI k2)), (4, .int (iI j1)), (5, .int (iI m1)), (6, .int (iI (c2 + 1)))]) rfl ?_
              exact ih144 (c2 + 1) (updI G2 (Int.toNat (((60 * k2) + j1) + c2)) (G (Int.toNat c2))) (by omega) (by rw [iG2]; exact ptT_go (by omega) (by omega)) (by omega)
        refine r_lo [1, 2, 3, 4, 5, 6, 0] (lo2 := [(0, .ref h0), (1, .int (iI k)), (2, .int (iI i1)), (3, .int (iI k2)), (4, .int (iI j1)), (5, .int (iI m1)), (6, .int (iI 0))]) rfl ?_
        exact L144 ((m1 - (0 : Int)).toNat + 1) 0 Sh (by omega) (ptT_0 _ _ _) (Nat.lt_succ_self _)
      · skip
        refine r_aload_n C dX6_copy_114 0 rfl ?_
        refine gf_6_24 C hi_X6_copy_6 kw_X6_copy_2 dX6_copy_115 0 rfl rfl ?_
        refine r_iload C dX6_copy_118 6 rfl ?_
        refine r_aload_n C dX6_copy_120 0 rfl ?_
        refine gf_6_23 C hi_X6_copy_6 kw_X6_copy_3 dX6_copy_121 0 rfl rfl ?_
        refine r_bipush C dX6_copy_124 (by decide) ?_
        refine r_iload_n C dX6_copy_126 1 rfl ?_
        refine r_imul C dX6_copy_127 ?_
        refine r_iload_n C dX6_copy_128 2 rfl ?_
        refine r_iadd C dX6_copy_129 ?_
        refine r_iload C dX6_copy_130 6 rfl ?_
        refine r_iadd C dX6_copy_132 ?_
        refine r_iald C dX6_copy_133 3 rfl (by omega) (by decide) ?_
        refine r_iast (ws2 := [(h0, .inr (6, [.int (iI ft), .int (iI sc), .ref u2, .ref u3, .ref u4, .ref u5, .ref u6, .ref u7, .ref u8, .int (iI rm), .int (iI wc), .ref u11, .int (iI sh), .int (iI tq), .ref u14, .int (iI cnt), .ref u16, .int (iI gf), .int (iI gs), .int (iI rc), .ref u20, .ref u21, .ref u22, .ref u23, .ref u24, .int (iI tc)])), (u21, .inl (X.2.1.1, 4, .inl (iF Ss))), (u22, .inl (X.2.1.1, 4, .inl (iF Sl))), (u23, .inl (X.2.1.1, 240, .inl (iF Sh))), (u24, .inl (X.2.1.1, 60, .inl (iF (updI G (Int.toNat c1) (Sh (Int.toNat (((60 * k) + i1) + c1)))))))]) C dX6_copy_134 4 rfl (by omega) (by decide) rfl ?_
        refine r_iinc (lo2 := [(6, .int (iI (c1 + 1))), (0, .ref h0), (1, .int (iI k)), (2, .int (iI i1)), (3, .int (iI k2)), (4, .int (iI j1)), (5, .int (iI m1))]) C dX6_copy_135 6 rfl (by decide) rfl ?_
        refine r_goto (tgt := 107) C dX6_copy_138 (by decide) ?_
        refine r_lo [1, 2, 3, 4, 5, 6, 0] (lo2 := [(0, .ref h0), (1, .int (iI k)), (2, .int (iI i1)), (3, .int (iI k2)), (4, .int (iI j1)), (5, .int (iI m1)), (6, .int (iI (c1 + 1)))]) rfl ?_
        exact ih107 (c1 + 1) (updI G (Int.toNat c1) (Sh (Int.toNat (((60 * k) + i1) + c1)))) (by omega) (by rw [iG]; exact tkI_go (by omega)) (by omega)
  refine r_lo [1, 2, 3, 4, 5, 6, 0] (lo2 := [(0, .ref h0), (1, .int (iI k)), (2, .int (iI i1)), (3, .int (iI k2)), (4, .int (iI j1)), (5, .int (iI m1)), (6, .int (iI 0))]) rfl ?_
  exact L107 ((m1 - (0 : Int)).toNat + 1) 0 Hd (by omega) (tkI_0 _ _ _).symm (Nat.lt_succ_self _)

set_option maxHeartbeats 4000000 in
set_option maxRecDepth 100000 in
theorem c_X6_copy_out (l : Launch) (X : gX) (h0 : Nat) (u2 : Nat) (u3 : Nat) (u4 : Nat) (u5 : Nat) (u6 : Nat) (u7 : Nat) (u8 : Nat) (u11 : Nat) (u14 : Nat) (u16 : Nat) (u20 : Nat) (u21 : Nat) (u22 : Nat) (u23 : Nat) (u24 : Nat) (ft : Int) (sc : Int) (rm : Int) (wc : Int) (sh : Int) (tq : Int) (cnt : Int) (gf : Int) (gs : Int) (rc : Int) (tc : Int) (k : Int) (i1 : Int) (k2 : Int) (j1 : Int) (m1 : Int) (hx : ¬ ((0 ≤ k ∧ k < 4) ∧ (0 ≤ k2 ∧ k2 < 4))) (hb_k : inB k) (hb_k2 : inB k2) : gM l yX6_copy wsX6_copy (gr 2 0 0) X [(h0, .inr (6, [.int (iI ft), .int (iI sc), .ref u2, .ref u3, .ref u4, .ref u5, .ref u6, .ref u7, .ref u8, .int (iI rm), .int (iI wc), .ref u11, .int (iI sh), .int (iI tq), .ref u14, .int (iI cnt), .ref u16, .int (iI gf), .int (iI gs), .int (iI rc), .ref u20, .ref u21, .ref u22, .ref u23, .ref u24, .int (iI tc)]))] [.ref h0, .int (iI k), .int (iI i1), .int (iI k2), .int (iI j1), .int (iI m1)] (gQi X (Y := Unit) (fun _ => True) (fun _ => -1) (fun _ => [(h0, .inr (6, [.int (iI 0), .int (iI sc), .ref u2, .ref u3, .ref u4, .ref u5, .ref u6, .ref u7, .ref u8, .int (iI rm), .int (iI wc), .ref u11, .int (iI sh), .int (iI tq), .ref u14, .int (iI cnt), .ref u16, .int (iI gf), .int (iI gs), .int (iI rc), .ref u20, .ref u21, .ref u22, .ref u23, .ref u24, .int (iI tc)]))])) 0 0 := by
  refine g_start2 (lo := [(0, .ref h0), (1, .int (iI k)), (2, .int (iI i1)), (3, .int (iI k2)), (4, .int (iI j1)), (5, .int (iI m1))]) (by decide +kernel) rfl rfl (Nat.le_of_ble_eq_true rfl) (fun p e s m args below meth c A C => ?_)
  refine r_iload_n C dX6_copy_0 1 rfl ?_
  refine g_S_i (ws2 := (fun _ => [(h0, .inr (6, [.int (iI ft), .int (iI sc), .ref u2, .ref u3, .ref u4, .ref u5, .ref u6, .ref u7, .ref u8, .int (iI rm), .int (iI wc), .ref u11, .int (iI sh), .int (iI tq), .ref u14, .int (iI cnt), .ref u16, .int (iI gf), .int (iI gs), .int (iI rc), .ref u20, .ref u21, .ref u22, .ref u23, .ref u24, .int (iI tc)]))])) (As := [.int (iI k)]) C (c_X6_noSheet l X k (by first | assumption | omega)) gX6_copy_X6_noSheet rfl rfl rfl hd_S_X6_noSheet_X6_copy (by decide) dX6_copy_1 [] [0] [0] rfl rfl rfl rfl (by decide) rfl rfl rfl (Nat.le_of_ble_eq_true rfl) (by decide) (fun _ => rfl) (fun _ hy_ => ?_)
  clear hy_
  refine r_ite (fun h_1 => ?_) (fun h_1 => ?_)
  · skip
    refine r_if_ne (tgt := 14) C dX6_copy_4 (by decide) (by decide) (fun h_2 => ?_) (fun h_2 => absurd h_2 (by decide))
    refine r_aload_n C dX6_copy_14 0 rfl ?_
    refine r_iconst C dX6_copy_15 ?_
    refine g_V_i (ws2 := (fun _ => [(h0, .inr (6, [.int (iI 0), .int (iI sc), .ref u2, .ref u3, .ref u4, .ref u5, .ref u6, .ref u7, .ref u8, .int (iI rm), .int (iI wc), .ref u11, .int (iI sh), .int (iI tq), .ref u14, .int (iI cnt), .ref u16, .int (iI gf), .int (iI gs), .int (iI rc), .ref u20, .ref u21, .ref u22, .ref u23, .ref u24, .int (iI tc)]))])) (As := [.int (iI (-1))]) C (c_X6_refused l X h0 u2 u3 u4 u5 u6 u7 u8 u11 u14 u16 u20 u21 u22 u23 u24 ft sc rm wc sh tq cnt gf gs rc tc (-1) ) gX6_copy_X6_refused rfl rfl rfl hd_V_X6_refused_X6_copy (by decide) dX6_copy_16 [0] [] [0] rfl rfl rfl rfl (by decide) rfl 0 6 rfl rfl rfl rfl (Nat.le_of_ble_eq_true rfl) (by decide) (fun _ => rfl) (fun _ hy_ => ?_)
    clear hy_
    exact g_ret_i C rfl dX6_copy_19 () trivial (by (repeat' split) <;> first | rfl | omega) [0] rfl (by (repeat' split) <;> first | rfl | omega)
  · skip
    refine r_if_ne (tgt := 14) C dX6_copy_4 (by decide) (by decide) (fun h_3 => absurd h_3 (by decide)) (fun h_3 => ?_)
    refine r_iload_n C dX6_copy_7 3 rfl ?_
    refine g_S_i (ws2 := (fun _ => [(h0, .inr (6, [.int (iI ft), .int (iI sc), .ref u2, .ref u3, .ref u4, .ref u5, .ref u6, .ref u7, .ref u8, .int (iI rm), .int (iI wc), .ref u11, .int (iI sh), .int (iI tq), .ref u14, .int (iI cnt), .ref u16, .int (iI gf), .int (iI gs), .int (iI rc), .ref u20, .ref u21, .ref u22, .ref u23, .ref u24, .int (iI tc)]))])) (As := [.int (iI k2)]) C (c_X6_noSheet l X k2 (by first | assumption | omega)) gX6_copy_X6_noSheet rfl rfl rfl hd_S_X6_noSheet_X6_copy (by decide) dX6_copy_8 [] [0] [0] rfl rfl rfl rfl (by decide) rfl rfl rfl (Nat.le_of_ble_eq_true rfl) (by decide) (fun _ => rfl) (fun _ hy_ => ?_)
    clear hy_
    refine r_ite (fun h_4 => ?_) (fun h_4 => absurd h_4 (by omega))
    refine r_if_eq (tgt := 20) C dX6_copy_11 (by decide) (by decide) (fun h_5 => absurd h_5 (by decide)) (fun h_5 => ?_)
    refine r_aload_n C dX6_copy_14 0 rfl ?_
    refine r_iconst C dX6_copy_15 ?_
    refine g_V_i (ws2 := (fun _ => [(h0, .inr (6, [.int (iI 0), .int (iI sc), .ref u2, .ref u3, .ref u4, .ref u5, .ref u6, .ref u7, .ref u8, .int (iI rm), .int (iI wc), .ref u11, .int (iI sh), .int (iI tq), .ref u14, .int (iI cnt), .ref u16, .int (iI gf), .int (iI gs), .int (iI rc), .ref u20, .ref u21, .ref u22, .ref u23, .ref u24, .int (iI tc)]))])) (As := [.int (iI (-1))]) C (c_X6_refused l X h0 u2 u3 u4 u5 u6 u7 u8 u11 u14 u16 u20 u21 u22 u23 u24 ft sc rm wc sh tq cnt gf gs rc tc (-1) ) gX6_copy_X6_refused rfl rfl rfl hd_V_X6_refused_X6_copy (by decide) dX6_copy_16 [0] [] [0] rfl rfl rfl rfl (by decide) rfl 0 6 rfl rfl rfl rfl (Nat.le_of_ble_eq_true rfl) (by decide) (fun _ => rfl) (fun _ hy_ => ?_)
    clear hy_
    exact g_ret_i C rfl dX6_copy_19 () trivial (by (repeat' split) <;> first | rfl | omega) [0] rfl (by (repeat' split) <;> first | rfl | omega)
end M15
