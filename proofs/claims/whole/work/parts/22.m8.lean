section M8
set_option maxRecDepth 20000 in
theorem kw_X5_sheet_0 : Cond.fieldLink RX5 67 "SkipStones" "lastFault" "I" ∈ wsX5_sheet := List.mem_of_getElem? (i := 1) rfl
set_option maxRecDepth 20000 in
theorem hd_V_X5_sheetAt_X5_sheet : yX5_sheetAt.cls = yX5_sheetAt.cls ∧ yX5_sheetAt.cls ≠ "java/lang/invoke/MethodHandle" ∧ yX5_sheetAt.cls ≠ "java/lang/invoke/VarHandle" ∧ (parseMethodDescriptor yX5_sheetAt.desc).map (fun d => d.parameters.length) = some 1 := by decide +kernel
set_option maxRecDepth 20000 in
theorem hd_S_X5_isLane_X5_sheet : yX5_isLane.cls ≠ "java/lang/invoke/MethodHandle" ∧ yX5_isLane.cls ≠ "java/lang/invoke/VarHandle" ∧ (parseMethodDescriptor yX5_isLane.desc).map (fun d => d.parameters.length) = some 1 := by decide +kernel
set_option maxRecDepth 20000 in
theorem hd_V_X5_faulted_X5_sheet : yX5_faulted.cls = yX5_faulted.cls ∧ yX5_faulted.cls ≠ "java/lang/invoke/MethodHandle" ∧ yX5_faulted.cls ≠ "java/lang/invoke/VarHandle" ∧ (parseMethodDescriptor yX5_faulted.desc).map (fun d => d.parameters.length) = some 1 := by decide +kernel
set_option maxRecDepth 20000 in
theorem hi_X5_sheet_5 : ∀ w ∈ wsX50, w ∈ wsX5_sheet := fun _ h => List.mem_cons_of_mem _ (List.mem_append_left _ (List.mem_append_right _ h))
set_option maxHeartbeats 4000000 in
set_option maxRecDepth 100000 in
theorem c_X5_sheet_no (l : Launch) (X : gX) (h0 : Nat) (s1 : Nat) (w0 : Nat) (t0 : Nat) (k0 : Nat) (r0 : Nat) (rp : Nat) (sh1 : Nat) (sc : Int) (gf : Int) (gs : Int) (rc : Int) (tc : Int) (ft : Int) (shf : Nat → Option Nat) (sa : Nat) (sb : Nat) (so : Int) (la : Int) (ln : Int) (Fs : Nat → Int) (k : Int) (w : Int) (m1 : Int) (hx : 0 ≤ k ∧ k < 4) (hsf : shf (Int.toNat k) = some sa) (hso : so = 0 ∨ so = 1) (hla : 0 ≤ la ∧ la ≤ 2) (hln : 0 ≤ ln ∧ ln ≤ 60) (hFs : ∀ i, inB (Fs i)) (hb_w : inB w) (hb_m1 : inB m1) (hok : ¬ (0 ≤ w ∧ w ≤ 2 ∧ m1 ≤ 60 ∧ 0 ≤ m1)) : gM l yX5_sheet wsX5_sheet (gr 2 0 0) X [(h0, .inr (5, [.ref s1, .int (iI sc), .ref w0, .ref t0, .ref k0, .ref r0, .int (iI gf), .int (iI gs), .ref rp, .int (iI rc), .ref sh1, .int (iI tc), .int (iI ft)])), (sh1, .inl (X.2.1.2.2, 4, .inr (.inr (.inr (.inr shf))))), (sa, .inr (2, [.ref sb, .int (iI so), .int (iI la), .int (iI ln)])), (sb, .inl (X.2.1.1, 60, .inl (iF Fs)))] [.ref h0, .int (iI k), .int (iI w), .int (iI m1)] (gQi X (Y := Unit) (fun _ => True) (fun _ => (if 0 ≤ w ∧ w ≤ 2 ∧ m1 ≤ 60 then -14 else -2)) (fun _ => [(h0, .inr (5, [.ref s1, .int (iI sc), .ref w0, .ref t0, .ref k0, .ref r0, .int (iI gf), .int (iI gs), .ref rp, .int (iI rc), .ref sh1, .int (iI tc), .int (iI (if 0 ≤ w ∧ w ≤ 2 ∧ m1 ≤ 60 then 4 else 0))])), (sh1, .inl (X.2.1.2.2, 4, .inr (.inr (.inr (.inr shf))))), (sa, .inr (2, [.ref sb, .int (iI so), .int (iI la), .int (iI ln)])), (sb, .inl (X.2.1.1, 60, .inl (iF Fs)))])) 0 0 := by
  refine g_start2 (lo := [(0, .ref h0), (1, .int (iI k)), (2, .int (iI w)), (3, .int (iI m1))]) (by decide +kernel) rfl rfl (Nat.le_of_ble_eq_true rfl) (fun p e s m args below meth c A C => ?_)
  refine r_aload_n C dX5_sheet_0 0 rfl ?_
  refine r_iconst C dX5_sheet_1 ?_
  refine pf_5_12 (ws2 := [(h0, .inr (5, [.ref s1, .int (iI sc), .ref w0, .ref t0, .ref k0, .ref r0, .int (iI gf), .int (iI gs), .ref rp, .int (iI rc), .ref sh1, .int (iI tc), .int (iI 0)])), (sh1, .inl (X.2.1.2.2, 4, .inr (.inr (.inr (.inr shf))))), (sa, .inr (2, [.ref sb, .int (iI so), .int (iI la), .int (iI ln)])), (sb, .inl (X.2.1.1, 60, .inl (iF Fs)))]) C hi_X5_sheet_5 kw_X5_sheet_0 dX5_sheet_2 0 rfl rfl rfl (Nat.le_of_ble_eq_true rfl) rfl ?_
  refine r_aload_n C dX5_sheet_5 0 rfl ?_
  refine r_iload_n C dX5_sheet_6 1 rfl ?_
  refine g_V_q (ws2 := (fun _ => [(h0, .inr (5, [.ref s1, .int (iI sc), .ref w0, .ref t0, .ref k0, .ref r0, .int (iI gf), .int (iI gs), .ref rp, .int (iI rc), .ref sh1, .int (iI tc), .int (iI 0)])), (sh1, .inl (X.2.1.2.2, 4, .inr (.inr (.inr (.inr shf))))), (sa, .inr (2, [.ref sb, .int (iI so), .int (iI la), .int (iI ln)])), (sb, .inl (X.2.1.1, 60, .inl (iF Fs)))])) (As := [.int (iI k)]) C (c_X5_sheetAt_in l X h0 s1 w0 t0 k0 r0 rp sh1 sc gf gs rc tc 0 shf sa k (by first | assumption | omega) (by first | assumption | omega)) gX5_sheet_X5_sheetAt rfl rfl rfl hd_V_X5_sheetAt_X5_sheet (by decide) dX5_sheet_7 [0, 1] [2, 3] [2, 3, 0, 1] rfl rfl rfl rfl (by decide) rfl 0 5 rfl rfl rfl rfl (Nat.le_of_ble_eq_true rfl) (by decide) (fun _ => rfl) (fun _ hy_ => ?_)
  clear hy_
  refine r_astore (lo2 := [(4, .ref sa), (0, .ref h0), (1, .int (iI k)), (2, .int (iI w)), (3, .int (iI m1))]) C dX5_sheet_10 (by decide) rfl ?_
  refine r_aload C dX5_sheet_12 0 rfl ?_
  refine r_ifnonnull (tgt := 19) C dX5_sheet_14 (by decide) ?_
  refine r_iload_n C dX5_sheet_19 3 rfl ?_
  refine g_S_i (ws2 := (fun _ => [(h0, .inr (5, [.ref s1, .int (iI sc), .ref w0, .ref t0, .ref k0, .ref r0, .int (iI gf), .int (iI gs), .ref rp, .int (iI rc), .ref sh1, .int (iI tc), .int (iI 0)])), (sh1, .inl (X.2.1.2.2, 4, .inr (.inr (.inr (.inr shf))))), (sa, .inr (2, [.ref sb, .int (iI so), .int (iI la), .int (iI ln)])), (sb, .inl (X.2.1.1, 60, .inl (iF Fs)))])) (As := [.int (iI w)]) C (c_X5_isLane l X w (by first | assumption | omega)) gX5_sheet_X5_isLane rfl rfl rfl hd_S_X5_isLane_X5_sheet (by decide) dX5_sheet_20 [] [0, 1, 2, 3] [0, 1, 2, 3] rfl rfl rfl rfl (by decide) rfl rfl rfl (Nat.le_of_ble_eq_true rfl) (by decide) (fun _ => rfl) (fun _ hy_ => ?_)
  clear hy_
  refine r_ite (fun h_1 => ?_) (fun h_1 => ?_)
  · skip
    refine r_if_eq (tgt := 32) C dX5_sheet_23 (by decide) (by decide) (fun h_2 => absurd h_2 (by decide)) (fun h_2 => ?_)
    refine r_iload_n C dX5_sheet_26 4 rfl ?_
    refine r_bipush C dX5_sheet_27 (by decide) ?_
    refine r_icmp_le (tgt := 35) C dX5_sheet_29 (by decide) (by omega) (by decide) (fun h_3 => ?_) (fun h_3 => ?_)
    · skip
      refine r_iload_n C dX5_sheet_35 4 rfl ?_
      refine r_if_ge (tgt := 45) C dX5_sheet_36 (by decide) (by omega) (fun h_4 => absurd h_4 (by omega)) (fun h_4 => ?_)
      refine r_aload_n C dX5_sheet_39 1 rfl ?_
      refine r_iconst C dX5_sheet_40 ?_
      refine g_V_i (ws2 := (fun _ => [(h0, .inr (5, [.ref s1, .int (iI sc), .ref w0, .ref t0, .ref k0, .ref r0, .int (iI gf), .int (iI gs), .ref rp, .int (iI rc), .ref sh1, .int (iI tc), .int (iI 4)])), (sh1, .inl (X.2.1.2.2, 4, .inr (.inr (.inr (.inr shf))))), (sa, .inr (2, [.ref sb, .int (iI so), .int (iI la), .int (iI ln)])), (sb, .inl (X.2.1.1, 60, .inl (iF Fs)))])) (As := [.int (iI 4)]) C (c_X5_faulted l X h0 s1 w0 t0 k0 r0 rp sh1 sc gf gs rc tc 0 4 ) gX5_sheet_X5_faulted rfl rfl rfl hd_V_X5_faulted_X5_sheet (by decide) dX5_sheet_41 [0] [1, 2, 3] [3, 0, 1, 2] rfl rfl rfl rfl (by decide) rfl 0 5 rfl rfl rfl rfl (Nat.le_of_ble_eq_true rfl) (by decide) (fun _ => rfl) (fun _ hy_ => ?_)
      clear hy_
      exact g_ret_i C rfl dX5_sheet_44 () trivial (by (repeat' split) <;> first | rfl | omega) [0, 1, 2, 3] rfl (by (repeat' split) <;> first | rfl | omega)
    · skip
      refine r_bipush C dX5_sheet_32 (by decide) ?_
      exact g_ret_i C rfl dX5_sheet_34 () trivial (by (repeat' split) <;> first | rfl | omega) [0, 1, 2, 3] rfl (by (repeat' split) <;> first | rfl | omega)
  · skip
    refine r_if_eq (tgt := 32) C dX5_sheet_23 (by decide) (by decide) (fun h_5 => ?_) (fun h_5 => absurd h_5 (by decide))
    refine r_bipush C dX5_sheet_32 (by decide) ?_
    exact g_ret_i C rfl dX5_sheet_34 () trivial (by (repeat' split) <;> first | rfl | omega) [0, 1, 2, 3] rfl (by (repeat' split) <;> first | rfl | omega)

set_option maxRecDepth 20000 in
theorem hd_V_X2_renew_X5_sheet : yX2_renew.cls = yX2_renew.cls ∧ yX2_renew.cls ≠ "java/lang/invoke/MethodHandle" ∧ yX2_renew.cls ≠ "java/lang/invoke/VarHandle" ∧ (parseMethodDescriptor yX2_renew.desc).map (fun d => d.parameters.length) = some 2 := by decide +kernel
set_option maxHeartbeats 4000000 in
set_option maxRecDepth 100000 in
theorem c_X5_sheet_ok (l : Launch) (X : gX) (h0 : Nat) (s1 : Nat) (w0 : Nat) (t0 : Nat) (k0 : Nat) (r0 : Nat) (rp : Nat) (sh1 : Nat) (sc : Int) (gf : Int) (gs : Int) (rc : Int) (tc : Int) (ft : Int) (shf : Nat → Option Nat) (sa : Nat) (sb : Nat) (so : Int) (la : Int) (ln : Int) (Fs : Nat → Int) (k : Int) (w : Int) (m1 : Int) (hx : 0 ≤ k ∧ k < 4) (hsf : shf (Int.toNat k) = some sa) (hso : so = 0 ∨ so = 1) (hla : 0 ≤ la ∧ la ≤ 2) (hln : 0 ≤ ln ∧ ln ≤ 60) (hFs : ∀ i, inB (Fs i)) (hb_w : inB w) (hb_m1 : inB m1) (hok : 0 ≤ w ∧ w ≤ 2 ∧ m1 ≤ 60 ∧ 0 ≤ m1) : gM l yX5_sheet wsX5_sheet (gr 2 0 0) X [(h0, .inr (5, [.ref s1, .int (iI sc), .ref w0, .ref t0, .ref k0, .ref r0, .int (iI gf), .int (iI gs), .ref rp, .int (iI rc), .ref sh1, .int (iI tc), .int (iI ft)])), (sh1, .inl (X.2.1.2.2, 4, .inr (.inr (.inr (.inr shf))))), (sa, .inr (2, [.ref sb, .int (iI so), .int (iI la), .int (iI ln)])), (sb, .inl (X.2.1.1, 60, .inl (iF Fs)))] [.ref h0, .int (iI k), .int (iI w), .int (iI m1)] (gQi X (Y := Unit) (fun _ => True) (fun _ => 1) (fun _ => [(h0, .inr (5, [.ref s1, .int (iI sc), .ref w0, .ref t0, .ref k0, .ref r0, .int (iI gf), .int (iI gs), .ref rp, .int (iI rc), .ref sh1, .int (iI tc), .int (iI 0)])), (sh1, .inl (X.2.1.2.2, 4, .inr (.inr (.inr (.inr shf))))), (sa, .inr (2, [.ref sb, .int (iI 1), .int (iI w), .int (iI m1)])), (sb, .inl (X.2.1.1, 60, .inl (iF (fillI Fs 60 0))))])) 0 0 := by
  refine g_start2 (lo := [(0, .ref h0), (1, .int (iI k)), (2, .int (iI w)), (3, .int (iI m1))]) (by decide +kernel) rfl rfl (Nat.le_of_ble_eq_true rfl) (fun p e s m args below meth c A C => ?_)
  refine r_aload_n C dX5_sheet_0 0 rfl ?_
  refine r_iconst C dX5_sheet_1 ?_
  refine pf_5_12 (ws2 := [(h0, .inr (5, [.ref s1, .int (iI sc), .ref w0, .ref t0, .ref k0, .ref r0, .int (iI gf), .int (iI gs), .ref rp, .int (iI rc), .ref sh1, .int (iI tc), .int (iI 0)])), (sh1, .inl (X.2.1.2.2, 4, .inr (.inr (.inr (.inr shf))))), (sa, .inr (2, [.ref sb, .int (iI so), .int (iI la), .int (iI ln)])), (sb, .inl (X.2.1.1, 60, .inl (iF Fs)))]) C hi_X5_sheet_5 kw_X5_sheet_0 dX5_sheet_2 0 rfl rfl rfl (Nat.le_of_ble_eq_true rfl) rfl ?_
  refine r_aload_n C dX5_sheet_5 0 rfl ?_
  refine r_iload_n C dX5_sheet_6 1 rfl ?_
  refine g_V_q (ws2 := (fun _ => [(h0, .inr (5, [.ref s1, .int (iI sc), .ref w0, .ref t0, .ref k0, .ref r0, .int (iI gf), .int (iI gs), .ref rp, .int (iI rc), .ref sh1, .int (iI tc), .int (iI 0)])), (sh1, .inl (X.2.1.2.2, 4, .inr (.inr (.inr (.inr shf))))), (sa, .inr (2, [.ref sb, .int (iI so), .int (iI la), .int (iI ln)])), (sb, .inl (X.2.1.1, 60, .inl (iF Fs)))])) (As := [.int (iI k)]) C (c_X5_sheetAt_in l X h0 s1 w0 t0 k0 r0 rp sh1 sc gf gs rc tc 0 shf sa k (by first | assumption | omega) (by first | assumption | omega)) gX5_sheet_X5_sheetAt rfl rfl rfl hd_V_X5_sheetAt_X5_sheet (by decide) dX5_sheet_7 [0, 1] [2, 3] [2, 3, 0, 1] rfl rfl rfl rfl (by decide) rfl 0 5 rfl rfl rfl rfl (Nat.le_of_ble_eq_true rfl) (by decide) (fun _ => rfl) (fun _ hy_ => ?_)
  clear hy_
  refine r_astore (lo2 := [(4, .ref sa), (0, .ref h0), (1, .int (iI k)), (2, .int (iI w)), (3, .int (iI m1))]) C dX5_sheet_10 (by decide) rfl ?_
  refine r_aload C dX5_sheet_12 0 rfl ?_
  refine r_ifnonnull (tgt := 19) C dX5_sheet_14 (by decide) ?_
  refine r_iload_n C dX5_sheet_19 3 rfl ?_
  refine g_S_i (ws2 := (fun _ => [(h0, .inr (5, [.ref s1, .int (iI sc), .ref w0, .ref t0, .ref k0, .ref r0, .int (iI gf), .int (iI gs), .ref rp, .int (iI rc), .ref sh1, .int (iI tc), .int (iI 0)])), (sh1, .inl (X.2.1.2.2, 4, .inr (.inr (.inr (.inr shf))))), (sa, .inr (2, [.ref sb, .int (iI so), .int (iI la), .int (iI ln)])), (sb, .inl (X.2.1.1, 60, .inl (iF Fs)))])) (As := [.int (iI w)]) C (c_X5_isLane l X w (by first | assumption | omega)) gX5_sheet_X5_isLane rfl rfl rfl hd_S_X5_isLane_X5_sheet (by decide) dX5_sheet_20 [] [0, 1, 2, 3] [0, 1, 2, 3] rfl rfl rfl rfl (by decide) rfl rfl rfl (Nat.le_of_ble_eq_true rfl) (by decide) (fun _ => rfl) (fun _ hy_ => ?_)
  clear hy_
  refine r_ite (fun h_1 => ?_) (fun h_1 => absurd h_1 (by omega))
  refine r_if_eq (tgt := 32) C dX5_sheet_23 (by decide) (by decide) (fun h_2 => absurd h_2 (by decide)) (fun h_2 => ?_)
  refine r_iload_n C dX5_sheet_26 4 rfl ?_
  refine r_bipush C dX5_sheet_27 (by decide) ?_
  refine r_icmp_le (tgt := 35) C dX5_sheet_29 (by decide) (by omega) (by decide) (fun h_3 => ?_) (fun h_3 => absurd h_3 (by omega))
  refine r_iload_n C dX5_sheet_35 4 rfl ?_
  refine r_if_ge (tgt := 45) C dX5_sheet_36 (by decide) (by omega) (fun h_4 => ?_) (fun h_4 => absurd h_4 (by omega))
  refine r_aload C dX5_sheet_45 0 rfl ?_
  refine r_iload_n C dX5_sheet_47 3 rfl ?_
  refine r_iload_n C dX5_sheet_48 4 rfl ?_
  refine g_V_v (ws2 := (fun _ => [(h0, .inr (5, [.ref s1, .int (iI sc), .ref w0, .ref t0, .ref k0, .ref r0, .int (iI gf), .int (iI gs), .ref rp, .int (iI rc), .ref sh1, .int (iI tc), .int (iI 0)])), (sh1, .inl (X.2.1.2.2, 4, .inr (.inr (.inr (.inr shf))))), (sa, .inr (2, [.ref sb, .int (iI 1), .int (iI w), .int (iI m1)])), (sb, .inl (X.2.1.1, 60, .inl (iF (fillI Fs 60 0))))])) (As := [.int (iI w), .int (iI m1)]) C (c_X2_renew l X sa sb so la ln Fs w m1 ) gX5_sheet_X2_renew rfl rfl rfl hd_V_X2_renew_X5_sheet (by decide) dX5_sheet_49 [2, 3] [0, 1] [0, 1, 2, 3] rfl rfl rfl rfl (by decide) rfl 2 2 rfl rfl rfl rfl (Nat.le_of_ble_eq_true rfl) (by decide) (fun _ => rfl) (fun _ hy_ => ?_)
  clear hy_
  refine r_iconst C dX5_sheet_52 ?_
  exact g_ret_i C rfl dX5_sheet_53 () trivial (by (repeat' split) <;> first | rfl | omega) [0, 1, 2, 3] rfl (by (repeat' split) <;> first | rfl | omega)

set_option maxHeartbeats 4000000 in
set_option maxRecDepth 100000 in
theorem c_X5_sheet_out (l : Launch) (X : gX) (h0 : Nat) (s1 : Nat) (w0 : Nat) (t0 : Nat) (k0 : Nat) (r0 : Nat) (rp : Nat) (sh1 : Nat) (sc : Int) (gf : Int) (gs : Int) (rc : Int) (tc : Int) (ft : Int) (shf : Nat → Option Nat) (k : Int) (w : Int) (m1 : Int) (hx : ¬ (0 ≤ k ∧ k < 4)) (hbk : inB k) : gM l yX5_sheet wsX5_sheet (gr 2 0 0) X [(h0, .inr (5, [.ref s1, .int (iI sc), .ref w0, .ref t0, .ref k0, .ref r0, .int (iI gf), .int (iI gs), .ref rp, .int (iI rc), .ref sh1, .int (iI tc), .int (iI ft)])), (sh1, .inl (X.2.1.2.2, 4, .inr (.inr (.inr (.inr shf)))))] [.ref h0, .int (iI k), .int (iI w), .int (iI m1)] (gQi X (Y := Unit) (fun _ => True) (fun _ => -1) (fun _ => [(h0, .inr (5, [.ref s1, .int (iI sc), .ref w0, .ref t0, .ref k0, .ref r0, .int (iI gf), .int (iI gs), .ref rp, .int (iI rc), .ref sh1, .int (iI tc), .int (iI 0)])), (sh1, .inl (X.2.1.2.2, 4, .inr (.inr (.inr (.inr shf)))))])) 0 0 := by
  refine g_start2 (lo := [(0, .ref h0), (1, .int (iI k)), (2, .int (iI w)), (3, .int (iI m1))]) (by decide +kernel) rfl rfl (Nat.le_of_ble_eq_true rfl) (fun p e s m args below meth c A C => ?_)
  refine r_aload_n C dX5_sheet_0 0 rfl ?_
  refine r_iconst C dX5_sheet_1 ?_
  refine pf_5_12 (ws2 := [(h0, .inr (5, [.ref s1, .int (iI sc), .ref w0, .ref t0, .ref k0, .ref r0, .int (iI gf), .int (iI gs), .ref rp, .int (iI rc), .ref sh1, .int (iI tc), .int (iI 0)])), (sh1, .inl (X.2.1.2.2, 4, .inr (.inr (.inr (.inr shf)))))]) C hi_X5_sheet_5 kw_X5_sheet_0 dX5_sheet_2 0 rfl rfl rfl (Nat.le_of_ble_eq_true rfl) rfl ?_
  refine r_aload_n C dX5_sheet_5 0 rfl ?_
  refine r_iload_n C dX5_sheet_6 1 rfl ?_
  refine g_V_q (ws2 := (fun _ => [(h0, .inr (5, [.ref s1, .int (iI sc), .ref w0, .ref t0, .ref k0, .ref r0, .int (iI gf), .int (iI gs), .ref rp, .int (iI rc), .ref sh1, .int (iI tc), .int (iI 0)])), (sh1, .inl (X.2.1.2.2, 4, .inr (.inr (.inr (.inr shf)))))])) (As := [.int (iI k)]) C (c_X5_sheetAt_out l X h0 s1 w0 t0 k0 r0 rp sh1 sc gf gs rc tc 0 shf k (by first | assumption | omega) (by first | assumption | omega)) gX5_sheet_X5_sheetAt rfl rfl rfl hd_V_X5_sheetAt_X5_sheet (by decide) dX5_sheet_7 [0, 1] [] [0, 1] rfl rfl rfl rfl (by decide) rfl 0 5 rfl rfl rfl rfl (Nat.le_of_ble_eq_true rfl) (by decide) (fun _ => rfl) (fun _ hy_ => ?_)
  clear hy_
  refine r_astoreN (lo2 := [(4, .null), (0, .ref h0), (1, .int (iI k)), (2, .int (iI w)), (3, .int (iI m1))]) C dX5_sheet_10 (by decide) rfl ?_
  refine r_aloadN C dX5_sheet_12 0 rfl ?_
  refine r_ifnonnullN C dX5_sheet_14 ?_
  refine r_iconst C dX5_sheet_17 ?_
  exact g_ret_i C rfl dX5_sheet_18 () trivial (by (repeat' split) <;> first | rfl | omega) [0, 1] rfl (by (repeat' split) <;> first | rfl | omega)

set_option maxRecDepth 20000 in
theorem hd_V_X5_sheetAt_X5_lose : yX5_sheetAt.cls = yX5_sheetAt.cls ∧ yX5_sheetAt.cls ≠ "java/lang/invoke/MethodHandle" ∧ yX5_sheetAt.cls ≠ "java/lang/invoke/VarHandle" ∧ (parseMethodDescriptor yX5_sheetAt.desc).map (fun d => d.parameters.length) = some 1 := by decide +kernel
set_option maxRecDepth 20000 in
theorem kw_X5_lose_0 : Cond.fieldLink RX5 239 "SkipStones$Sheet" "something" "Z" ∈ wsX5_lose := List.mem_of_getElem? (i := 1) rfl
set_option maxRecDepth 20000 in
theorem hi_X5_lose_2 : ∀ w ∈ wsX20, w ∈ wsX5_lose := fun _ h => List.mem_cons_of_mem _ (List.mem_append_left _ (List.mem_append_right _ h))
set_option maxHeartbeats 4000000 in
set_option maxRecDepth 100000 in
theorem c_X5_lose_in (l : Launch) (X : gX) (h0 : Nat) (s1 : Nat) (w0 : Nat) (t0 : Nat) (k0 : Nat) (r0 : Nat) (rp : Nat) (sh1 : Nat) (sc : Int) (gf : Int) (gs : Int) (rc : Int) (tc : Int) (ft : Int) (shf : Nat → Option Nat) (sa : Nat) (sb : Nat) (so : Int) (la : Int) (ln : Int) (Fs : Nat → Int) (k : Int) (hx : 0 ≤ k ∧ k < 4) (hsf : shf (Int.toNat k) = some sa) (hso : so = 0 ∨ so = 1) (hla : 0 ≤ la ∧ la ≤ 2) (hln : 0 ≤ ln ∧ ln ≤ 60) (hFs : ∀ i, inB (Fs i)) : gM l yX5_lose wsX5_lose (gr 1 0 0) X [(h0, .inr (5, [.ref s1, .int (iI sc), .ref w0, .ref t0, .ref k0, .ref r0, .int (iI gf), .int (iI gs), .ref rp, .int (iI rc), .ref sh1, .int (iI tc), .int (iI ft)])), (sh1, .inl (X.2.1.2.2, 4, .inr (.inr (.inr (.inr shf))))), (sa, .inr (2, [.ref sb, .int (iI so), .int (iI la), .int (iI ln)])), (sb, .inl (X.2.1.1, 60, .inl (iF Fs)))] [.ref h0, .int (iI k)] (gQi X (Y := Unit) (fun _ => True) (fun _ => (if so = 0 then 0 else 1)) (fun _ => [(h0, .inr (5, [.ref s1, .int (iI sc), .ref w0, .ref t0, .ref k0, .ref r0, .int (iI gf), .int (iI gs), .ref rp, .int (iI rc), .ref sh1, .int (iI tc), .int (iI ft)])), (sh1, .inl (X.2.1.2.2, 4, .inr (.inr (.inr (.inr shf))))), (sa, .inr (2, [.ref sb, .int (iI 0), .int (iI la), .int (iI ln)])), (sb, .inl (X.2.1.1, 60, .inl (iF Fs)))])) 0 0 := by
  refine g_start2 (lo := [(0, .ref h0), (1, .int (iI k))]) (by decide +kernel) rfl rfl (Nat.le_of_ble_eq_true rfl) (fun p e s m args below meth c A C => ?_)
  refine r_aload_n C dX5_lose_0 0 rfl ?_
  refine r_iload_n C dX5_lose_1 1 rfl ?_
  refine g_V_q (ws2 := (fun _ => [(h0, .inr (5, [.ref s1, .int (iI sc), .ref w0, .ref t0, .ref k0, .ref r0, .int (iI gf), .int (iI gs), .ref rp, .int (iI rc), .ref sh1, .int (iI tc), .int (iI ft)])), (sh1, .inl (X.2.1.2.2, 4, .inr (.inr (.inr (.inr shf))))), (sa, .inr (2, [.ref sb, .int (iI so), .int (iI la), .int (iI ln)])), (sb, .inl (X.2.1.1, 60, .inl (iF Fs)))])) (As := [.int (iI k)]) C (c_X5_sheetAt_in l X h0 s1 w0 t0 k0 r0 rp sh1 sc gf gs rc tc ft shf sa k (by first | assumption | omega) (by first | assumption | omega)) gX5_lose_X5_sheetAt rfl rfl rfl hd_V_X5_sheetAt_X5_lose (by decide) dX5_lose_2 [0, 1] [2, 3] [2, 3, 0, 1] rfl rfl rfl rfl (by decide) rfl 0 5 rfl rfl rfl rfl (Nat.le_of_ble_eq_true rfl) (by decide) (fun _ => rfl) (fun _ hy_ => ?_)
  clear hy_
  refine r_astore_n (lo2 := [(2, .ref sa), (0, .ref h0), (1, .int (iI k))]) C dX5_lose_5 rfl (by decide) rfl ?_
  refine r_aload_n C dX5_lose_6 0 rfl ?_
  refine r_ifnonnull (tgt := 12) C dX5_lose_7 (by decide) ?_
  refine r_aload_n C dX5_lose_12 0 rfl ?_
  refine gf_2_1 C hi_X5_lose_2 kw_X5_lose_0 dX5_lose_13 2 rfl rfl ?_
  refine r_if_ne (tgt := 21) C dX5_lose_16 (by decide) (by omega) (fun h_1 => ?_) (fun h_1 => ?_)
  · skip
    refine r_aload_n C dX5_lose_21 0 rfl ?_
    refine r_iconst C dX5_lose_22 ?_
    refine pf_2_1 (ws2 := [(h0, .inr (5, [.ref s1, .int (iI sc), .ref w0, .ref t0, .ref k0, .ref r0, .int (iI gf), .int (iI gs), .ref rp, .int (iI rc), .ref sh1, .int (iI tc), .int (iI ft)])), (sh1, .inl (X.2.1.2.2, 4, .inr (.inr (.inr (.inr shf))))), (sa, .inr (2, [.ref sb, .int (iI 0), .int (iI la), .int (iI ln)])), (sb, .inl (X.2.1.1, 60, .inl (iF Fs)))]) C hi_X5_lose_2 kw_X5_lose_0 dX5_lose_23 2 rfl rfl rfl (Nat.le_of_ble_eq_true rfl) rfl ?_
    refine r_iconst C dX5_lose_26 ?_
    exact g_ret_i C rfl dX5_lose_27 () trivial (by (repeat' split) <;> first | rfl | omega) [0, 1, 2, 3] rfl (by first | rfl | (rw [show so = 0 by omega] <;> rfl))
  · skip
    refine r_iconst C dX5_lose_19 ?_
    exact g_ret_i C rfl dX5_lose_20 () trivial (by (repeat' split) <;> first | rfl | omega) [0, 1, 2, 3] rfl (by first | rfl | (rw [show so = 0 by omega] <;> rfl))

set_option maxHeartbeats 4000000 in
set_option maxRecDepth 100000 in
theorem c_X5_lose_out (l : Launch) (X : gX) (h0 : Nat) (s1 : Nat) (w0 : Nat) (t0 : Nat) (k0 : Nat) (r0 : Nat) (rp : Nat) (sh1 : Nat) (sc : Int) (gf : Int) (gs : Int) (rc : Int) (tc : Int) (ft : Int) (shf : Nat → Option Nat) (k : Int) (hx : ¬ (0 ≤ k ∧ k < 4)) (hbk : inB k) : gM l yX5_lose wsX5_lose (gr 1 0 0) X [(h0, .inr (5, [.ref s1, .int (iI sc), .ref w0, .ref t0, .ref k0, .ref r0, .int (iI gf), .int (iI gs), .ref rp, .int (iI rc), .ref sh1, .int (iI tc), .int (iI ft)])), (sh1, .inl (X.2.1.2.2, 4, .inr (.inr (.inr (.inr shf)))))] [.ref h0, .int (iI k)] (gQi X (Y := Unit) (fun _ => True) (fun _ => -1) (fun _ => [(h0, .inr (5, [.ref s1, .int (iI sc), .ref w0, .ref t0, .ref k0, .ref r0, .int (iI gf), .int (iI gs), .ref rp, .int (iI rc), .ref sh1, .int (iI tc), .int (iI ft)])), (sh1, .inl (X.2.1.2.2, 4, .inr (.inr (.inr (.inr shf)))))])) 0 0 := by
  refine g_start2 (lo := [(0, .ref h0), (1, .int (iI k))]) (by decide +kernel) rfl rfl (Nat.le_of_ble_eq_true rfl) (fun p e s m args below meth c A C => ?_)
  refine r_aload_n C dX5_lose_0 0 rfl ?_
  refine r_iload_n C dX5_lose_1 1 rfl ?_
  refine g_V_q (ws2 := (fun _ => [(h0, .inr (5, [.ref s1, .int (iI sc), .ref w0, .ref t0, .ref k0, .ref r0, .int (iI gf), .int (iI gs), .ref rp, .int (iI rc), .ref sh1, .int (iI tc), .int (iI ft)])), (sh1, .inl (X.2.1.2.2, 4, .inr (.inr (.inr (.inr shf)))))])) (As := [.int (iI k)]) C (c_X5_sheetAt_out l X h0 s1 w0 t0 k0 r0 rp sh1 sc gf gs rc tc ft shf k (by first | assumption | omega) (by first | assumption | omega)) gX5_lose_X5_sheetAt rfl rfl rfl hd_V_X5_sheetAt_X5_lose (by decide) dX5_lose_2 [0, 1] [] [0, 1] rfl rfl rfl rfl (by decide) rfl 0 5 rfl rfl rfl rfl (Nat.le_of_ble_eq_true rfl) (by decide) (fun _ => rfl) (fun _ hy_ => ?_)
  clear hy_
  refine r_astore_nN (lo2 := [(2, .null), (0, .ref h0), (1, .int (iI k))]) C dX5_lose_5 rfl (by decide) rfl ?_
  refine r_aload_nN C dX5_lose_6 0 rfl ?_
  refine r_ifnonnullN C dX5_lose_7 ?_
  refine r_iconst C dX5_lose_10 ?_
  exact g_ret_i C rfl dX5_lose_11 () trivial (by (repeat' split) <;> first | rfl | omega) [0, 1] rfl (by (repeat' split) <;> first | rfl | omega)

set_option maxRecDepth 20000 in
theorem kw_X5_put_0 : Cond.fieldLink RX5 67 "SkipStones" "lastFault" "I" ∈ wsX5_put := List.mem_of_getElem? (i := 1) rfl
set_option maxRecDepth 20000 in
theorem hd_V_X5_sheetAt_X5_put : yX5_sheetAt.cls = yX5_sheetAt.cls ∧ yX5_sheetAt.cls ≠ "java/lang/invoke/MethodHandle" ∧ yX5_sheetAt.cls ≠ "java/lang/invoke/VarHandle" ∧ (parseMethodDescriptor yX5_sheetAt.desc).map (fun d => d.parameters.length) = some 1 := by decide +kernel
set_option maxRecDepth 20000 in
theorem kw_X5_put_1 : Cond.fieldLink RX5 239 "SkipStones$Sheet" "something" "Z" ∈ wsX5_put := List.mem_of_getElem? (i := 2) rfl
set_option maxRecDepth 20000 in
theorem hd_V_X2_has_X5_put : yX2_has.cls = yX2_has.cls ∧ yX2_has.cls ≠ "java/lang/invoke/MethodHandle" ∧ yX2_has.cls ≠ "java/lang/invoke/VarHandle" ∧ (parseMethodDescriptor yX2_has.desc).map (fun d => d.parameters.length) = some 1 := by decide +kernel
set_option maxRecDepth 20000 in
theorem hd_V_X5_faulted_X5_put : yX5_faulted.cls = yX5_faulted.cls ∧ yX5_faulted.cls ≠ "java/lang/invoke/MethodHandle" ∧ yX5_faulted.cls ≠ "java/lang/invoke/VarHandle" ∧ (parseMethodDescriptor yX5_faulted.desc).map (fun d => d.parameters.length) = some 1 := by decide +kernel
set_option maxRecDepth 20000 in
theorem hi_X5_put_5 : ∀ w ∈ wsX50, w ∈ wsX5_put := fun _ h => List.mem_cons_of_mem _ (List.mem_append_left _ (List.mem_append_right _ h))
set_option maxRecDepth 20000 in
theorem hi_X5_put_2 : ∀ w ∈ wsX20, w ∈ wsX5_put := fun _ h => List.mem_cons_of_mem _ (List.mem_append_right _ h)
set_option maxHeartbeats 4000000 in
set_option maxRecDepth 100000 in
theorem c_X5_put_no (l : Launch) (X : gX) (h0 : Nat) (s1 : Nat) (w0 : Nat) (t0 : Nat) (k0 : Nat) (r0 : Nat) (rp : Nat) (sh1 : Nat) (sc : Int) (gf : Int) (gs : Int) (rc : Int) (tc : Int) (ft : Int) (shf : Nat → Option Nat) (sa : Nat) (sb : Nat) (so : Int) (la : Int) (ln : Int) (Fs : Nat → Int) (k : Int) (i1 : Int) (v : Int) (hx : 0 ≤ k ∧ k < 4) (hsf : shf (Int.toNat k) = some sa) (hso : so = 0 ∨ so = 1) (hla : 0 ≤ la ∧ la ≤ 2) (hln : 0 ≤ ln ∧ ln ≤ 60) (hFs : ∀ i, inB (Fs i)) (hb_i1 : inB i1) (hb_v : inB v) (hok : ¬ (¬ so = 0 ∧ 0 ≤ i1 ∧ i1 < ln)) : gM l yX5_put wsX5_put (gr 2 0 0) X [(h0, .inr (5, [.ref s1, .int (iI sc), .ref w0, .ref t0, .ref k0, .ref r0, .int (iI gf), .int (iI gs), .ref rp, .int (iI rc), .ref sh1, .int (iI tc), .int (iI ft)])), (sh1, .inl (X.2.1.2.2, 4, .inr (.inr (.inr (.inr shf))))), (sa, .inr (2, [.ref sb, .int (iI so), .int (iI la), .int (iI ln)])), (sb, .inl (X.2.1.1, 60, .inl (iF Fs)))] [.ref h0, .int (iI k), .int (iI i1), .int (iI v)] (gQi X (Y := Unit) (fun _ => True) (fun _ => (if so = 0 then -11 else -13)) (fun _ => [(h0, .inr (5, [.ref s1, .int (iI sc), .ref w0, .ref t0, .ref k0, .ref r0, .int (iI gf), .int (iI gs), .ref rp, .int (iI rc), .ref sh1, .int (iI tc), .int (iI (if so = 0 then 1 else 3))])), (sh1, .inl (X.2.1.2.2, 4, .inr (.inr (.inr (.inr shf))))), (sa, .inr (2, [.ref sb, .int (iI so), .int (iI la), .int (iI ln)])), (sb, .inl (X.2.1.1, 60, .inl (iF Fs)))])) 0 0 := by
  refine g_start2 (lo := [(0, .ref h0), (1, .int (iI k)), (2, .int (iI i1)), (3, .int (iI v))]) (by decide +kernel) rfl rfl (Nat.le_of_ble_eq_true rfl) (fun p e s m args below meth c A C => ?_)
  refine r_aload_n C dX5_put_0 0 rfl ?_
  refine r_iconst C dX5_put_1 ?_
  refine pf_5_12 (ws2 := [(h0, .inr (5, [.ref s1, .int (iI sc), .ref w0, .ref t0, .ref k0, .ref r0, .int (iI gf), .int (iI gs), .ref rp, .int (iI rc), .ref sh1, .int (iI tc), .int (iI 0)])), (sh1, .inl (X.2.1.2.2, 4, .inr (.inr (.inr (.inr shf))))), (sa, .inr (2, [.ref sb, .int (iI so), .int (iI la), .int (iI ln)])), (sb, .inl (X.2.1.1, 60, .inl (iF Fs)))]) C hi_X5_put_5 kw_X5_put_0 dX5_put_2 0 rfl rfl rfl (Nat.le_of_ble_eq_true rfl) rfl ?_
  refine r_aload_n C dX5_put_5 0 rfl ?_
  refine r_iload_n C dX5_put_6 1 rfl ?_
  refine g_V_q (ws2 := (fun _ => [(h0, .inr (5, [.ref s1, .int (iI sc), .ref w0, .ref t0, .ref k0, .ref r0, .int (iI gf), .int (iI gs), .ref rp, .int (iI rc), .ref sh1, .int (iI tc), .int (iI 0)])), (sh1, .inl (X.2.1.2.2, 4, .inr (.inr (.inr (.inr shf))))), (sa, .inr (2, [.ref sb, .int (iI so), .int (iI la), .int (iI ln)])), (sb, .inl (X.2.1.1, 60, .inl (iF Fs)))])) (As := [.int (iI k)]) C (c_X5_sheetAt_in l X h0 s1 w0 t0 k0 r0 rp sh1 sc gf gs rc tc 0 shf sa k (by first | assumption | omega) (by first | assumption | omega)) gX5_put_X5_sheetAt rfl rfl rfl hd_V_X5_sheetAt_X5_put (by decide) dX5_put_7 [0, 1] [2, 3] [2, 3, 0, 1] rfl rfl rfl rfl (by decide) rfl 0 5 rfl rfl rfl rfl (Nat.le_of_ble_eq_true rfl) (by decide) (fun _ => rfl) (fun _ hy_ => ?_)
  clear hy_
  refine r_astore (lo2 := [(4, .ref sa), (0, .ref h0), (1, .int (iI k)), (2, .int (iI i1)), (3, .int (iI v))]) C dX5_put_10 (by decide) rfl ?_
  refine r_aload C dX5_put_12 0 rfl ?_
  refine r_ifnonnull (tgt := 19) C dX5_put_14 (by decide) ?_
  refine r_aload C dX5_put_19 0 rfl ?_
  refine gf_2_1 C hi_X5_put_2 kw_X5_put_1 dX5_put_21 2 rfl rfl ?_
  refine r_if_ne (tgt := 33) C dX5_put_24 (by decide) (by omega) (fun h_1 => ?_) (fun h_1 => ?_)
  · skip
    refine r_aload C dX5_put_33 0 rfl ?_
    refine r_iload_n C dX5_put_35 3 rfl ?_
    refine g_V_i (ws2 := (fun _ => [(h0, .inr (5, [.ref s1, .int (iI sc), .ref w0, .ref t0, .ref k0, .ref r0, .int (iI gf), .int (iI gs), .ref rp, .int (iI rc), .ref sh1, .int (iI tc), .int (iI 0)])), (sh1, .inl (X.2.1.2.2, 4, .inr (.inr (.inr (.inr shf))))), (sa, .inr (2, [.ref sb, .int (iI so), .int (iI la), .int (iI ln)])), (sb, .inl (X.2.1.1, 60, .inl (iF Fs)))])) (As := [.int (iI i1)]) C (c_X2_has l X sa sb so la ln Fs i1 (by first | assumption | omega) (by first | assumption | omega)) gX5_put_X2_has rfl rfl rfl hd_V_X2_has_X5_put (by decide) dX5_put_36 [2, 3] [0, 1] [0, 1, 2, 3] rfl rfl rfl rfl (by decide) rfl 2 2 rfl rfl rfl rfl (Nat.le_of_ble_eq_true rfl) (by decide) (fun _ => rfl) (fun _ hy_ => ?_)
    clear hy_
    refine r_ite (fun h_2 => absurd h_2 (by omega)) (fun h_2 => ?_)
    refine r_if_ne (tgt := 48) C dX5_put_39 (by decide) (by decide) (fun h_3 => absurd h_3 (by decide)) (fun h_3 => ?_)
    refine r_aload_n C dX5_put_42 1 rfl ?_
    refine r_iconst C dX5_put_43 ?_
    refine g_V_i (ws2 := (fun _ => [(h0, .inr (5, [.ref s1, .int (iI sc), .ref w0, .ref t0, .ref k0, .ref r0, .int (iI gf), .int (iI gs), .ref rp, .int (iI rc), .ref sh1, .int (iI tc), .int (iI 3)])), (sh1, .inl (X.2.1.2.2, 4, .inr (.inr (.inr (.inr shf))))), (sa, .inr (2, [.ref sb, .int (iI so), .int (iI la), .int (iI ln)])), (sb, .inl (X.2.1.1, 60, .inl (iF Fs)))])) (As := [.int (iI 3)]) C (c_X5_faulted l X h0 s1 w0 t0 k0 r0 rp sh1 sc gf gs rc tc 0 3 ) gX5_put_X5_faulted rfl rfl rfl hd_V_X5_faulted_X5_put (by decide) dX5_put_44 [0] [1, 2, 3] [3, 0, 1, 2] rfl rfl rfl rfl (by decide) rfl 0 5 rfl rfl rfl rfl (Nat.le_of_ble_eq_true rfl) (by decide) (fun _ => rfl) (fun _ hy_ => ?_)
    clear hy_
    exact g_ret_i C rfl dX5_put_47 () trivial (by (repeat' split) <;> first | rfl | omega) [0, 1, 2, 3] rfl (by (repeat' split) <;> first | rfl | omega)
  · skip
    refine r_aload_n C dX5_put_27 1 rfl ?_
    refine r_iconst C dX5_put_28 ?_
    refine g_V_i (ws2 := (fun _ => [(h0, .inr (5, [.ref s1, .int (iI sc), .ref w0, .ref t0, .ref k0, .ref r0, .int (iI gf), .int (iI gs), .ref rp, .int (iI rc), .ref sh1, .int (iI tc), .int (iI 1)])), (sh1, .inl (X.2.1.2.2, 4, .inr (.inr (.inr (.inr shf))))), (sa, .inr (2, [.ref sb, .int (iI so), .int (iI la), .int (iI ln)])), (sb, .inl (X.2.1.1, 60, .inl (iF Fs)))])) (As := [.int (iI 1)]) C (c_X5_faulted l X h0 s1 w0 t0 k0 r0 rp sh1 sc gf gs rc tc 0 1 ) gX5_put_X5_faulted rfl rfl rfl hd_V_X5_faulted_X5_put (by decide) dX5_put_29 [0] [1, 2, 3] [3, 0, 1, 2] rfl rfl rfl rfl (by decide) rfl 0 5 rfl rfl rfl rfl (Nat.le_of_ble_eq_true rfl) (by decide) (fun _ => rfl) (fun _ hy_ => ?_)
    clear hy_
    exact g_ret_i C rfl dX5_put_32 () trivial (by (repeat' split) <;> first | rfl | omega) [0, 1, 2, 3] rfl (by (repeat' split) <;> first | rfl | omega)

set_option maxRecDepth 20000 in
theorem hd_V_X2_write_X5_put : yX2_write.cls = yX2_write.cls ∧ yX2_write.cls ≠ "java/lang/invoke/MethodHandle" ∧ yX2_write.cls ≠ "java/lang/invoke/VarHandle" ∧ (parseMethodDescriptor yX2_write.desc).map (fun d => d.parameters.length) = some 2 := by decide +kernel
set_option maxHeartbeats 4000000 in
set_option maxRecDepth 100000 in
theorem c_X5_put_ok (l : Launch) (X : gX) (h0 : Nat) (s1 : Nat) (w0 : Nat) (t0 : Nat) (k0 : Nat) (r0 : Nat) (rp : Nat) (sh1 : Nat) (sc : Int) (gf : Int) (gs : Int) (rc : Int) (tc : Int) (ft : Int) (shf : Nat → Option Nat) (sa : Nat) (sb : Nat) (so : Int) (la : Int) (ln : Int) (Fs : Nat → Int) (k : Int) (i1 : Int) (v : Int) (hx : 0 ≤ k ∧ k < 4) (hsf : shf (Int.toNat k) = some sa) (hso : so = 0 ∨ so = 1) (hla : 0 ≤ la ∧ la ≤ 2) (hln : 0 ≤ ln ∧ ln ≤ 60) (hFs : ∀ i, inB (Fs i)) (hb_i1 : inB i1) (hb_v : inB v) (hok : ¬ so = 0 ∧ 0 ≤ i1 ∧ i1 < ln) : gM l yX5_put wsX5_put (gr 2 0 0) X [(h0, .inr (5, [.ref s1, .int (iI sc), .ref w0, .ref t0, .ref k0, .ref r0, .int (iI gf), .int (iI gs), .ref rp, .int (iI rc), .ref sh1, .int (iI tc), .int (iI ft)])), (sh1, .inl (X.2.1.2.2, 4, .inr (.inr (.inr (.inr shf))))), (sa, .inr (2, [.ref sb, .int (iI so), .int (iI la), .int (iI ln)])), (sb, .inl (X.2.1.1, 60, .inl (iF Fs)))] [.ref h0, .int (iI k), .int (iI i1), .int (iI v)] (gQi X (Y := Unit) (fun _ => True) (fun _ => 1) (fun _ => [(h0, .inr (5, [.ref s1, .int (iI sc), .ref w0, .ref t0, .ref k0, .ref r0, .int (iI gf), .int (iI gs), .ref rp, .int (iI rc), .ref sh1, .int (iI tc), .int (iI 0)])), (sh1, .inl (X.2.1.2.2, 4, .inr (.inr (.inr (.inr shf))))), (sa, .inr (2, [.ref sb, .int (iI so), .int (iI la), .int (iI ln)])), (sb, .inl (X.2.1.1, 60, .inl (iF (updI Fs (Int.toNat i1) (cutL la v)))))])) 0 0 := by
  refine g_start2 (lo := [(0, .ref h0), (1, .int (iI k)), (2, .int (iI i1)), (3, .int (iI v))]) (by decide +kernel) rfl rfl (Nat.le_of_ble_eq_true rfl) (fun p e s m args below meth c A C => ?_)
  refine r_aload_n C dX5_put_0 0 rfl ?_
  refine r_iconst C dX5_put_1 ?_
  refine pf_5_12 (ws2 := [(h0, .inr (5, [.ref s1, .int (iI sc), .ref w0, .ref t0, .ref k0, .ref r0, .int (iI gf), .int (iI gs), .ref rp, .int (iI rc), .ref sh1, .int (iI tc), .int (iI 0)])), (sh1, .inl (X.2.1.2.2, 4, .inr (.inr (.inr (.inr shf))))), (sa, .inr (2, [.ref sb, .int (iI so), .int (iI la), .int (iI ln)])), (sb, .inl (X.2.1.1, 60, .inl (iF Fs)))]) C hi_X5_put_5 kw_X5_put_0 dX5_put_2 0 rfl rfl rfl (Nat.le_of_ble_eq_true rfl) rfl ?_
  refine r_aload_n C dX5_put_5 0 rfl ?_
  refine r_iload_n C dX5_put_6 1 rfl ?_
  refine g_V_q (ws2 := (fun _ => [(h0, .inr (5, [.ref s1, .int (iI sc), .ref w0, .ref t0, .ref k0, .ref r0, .int (iI gf), .int (iI gs), .ref rp, .int (iI rc), .ref sh1, .int (iI tc), .int (iI 0)])), (sh1, .inl (X.2.1.2.2, 4, .inr (.inr (.inr (.inr shf))))), (sa, .inr (2, [.ref sb, .int (iI so), .int (iI la), .int (iI ln)])), (sb, .inl (X.2.1.1, 60, .inl (iF Fs)))])) (As := [.int (iI k)]) C (c_X5_sheetAt_in l X h0 s1 w0 t0 k0 r0 rp sh1 sc gf gs rc tc 0 shf sa k (by first | assumption | omega) (by first | assumption | omega)) gX5_put_X5_sheetAt rfl rfl rfl hd_V_X5_sheetAt_X5_put (by decide) dX5_put_7 [0, 1] [2, 3] [2, 3, 0, 1] rfl rfl rfl rfl (by decide) rfl 0 5 rfl rfl rfl rfl (Nat.le_of_ble_eq_true rfl) (by decide) (fun _ => rfl) (fun _ hy_ => ?_)
  clear hy_
  refine r_astore (lo2 := [(4, .ref sa), (0, .ref h0), (1, .int (iI k)), (2, .int (iI i1)), (3, .int (iI v))]) C dX5_put_10 (by decide) rfl ?_
  refine r_aload C dX5_put_12 0 rfl ?_
  refine r_ifnonnull (tgt := 19) C dX5_put_14 (by decide) ?_
  refine r_aload C dX5_put_19 0 rfl ?_
  refine gf_2_1 C hi_X5_put_2 kw_X5_put_1 dX5_put_21 2 rfl rfl ?_
  refine r_if_ne (tgt := 33) C dX5_put_24 (by decide) (by omega) (fun h_1 => ?_) (fun h_1 => absurd h_1 (by omega))
  refine r_aload C dX5_put_33 0 rfl ?_
  refine r_iload_n C dX5_put_35 3 rfl ?_
  refine g_V_i (ws2 := (fun _ => [(h0, .inr (5, [.ref s1, .int (iI sc), .ref w0, .ref t0, .ref k0, .ref r0, .int (iI gf), .int (iI gs), .ref rp, .int (iI rc), .ref sh1, .int (iI tc), .int (iI 0)])), (sh1, .inl (X.2.1.2.2, 4, .inr (.inr (.inr (.inr shf))))), (sa, .inr (2, [.ref sb, .int (iI so), .int (iI la), .int (iI ln)])), (sb, .inl (X.2.1.1, 60, .inl (iF Fs)))])) (As := [.int (iI i1)]) C (c_X2_has l X sa sb so la ln Fs i1 (by first | assumption | omega) (by first | assumption | omega)) gX5_put_X2_has rfl rfl rfl hd_V_X2_has_X5_put (by decide) dX5_put_36 [2, 3] [0, 1] [0, 1, 2, 3] rfl rfl rfl rfl (by decide) rfl 2 2 rfl rfl rfl rfl (Nat.le_of_ble_eq_true rfl) (by decide) (fun _ => rfl) (fun _ hy_ => ?_)
  clear hy_
  refine r_ite (fun h_2 => ?_) (fun h_2 => absurd h_2 (by omega))
  refine r_if_ne (tgt := 48) C dX5_put_39 (by decide) (by decide) (fun h_3 => ?_) (fun h_3 => absurd h_3 (by decide))
  refine r_aload C dX5_put_48 0 rfl ?_
  refine r_iload_n C dX5_put_50 3 rfl ?_
  refine r_iload_n C dX5_put_51 4 rfl ?_
  refine g_V_v (ws2 := (fun _ => [(h0, .inr (5, [.ref s1, .int (iI sc), .ref w0, .ref t0, .ref k0, .ref r0, .int (iI gf), .int (iI gs), .ref rp, .int (iI rc), .ref sh1, .int (iI tc), .int (iI 0)])), (sh1, .inl (X.2.1.2.2, 4, .inr (.inr (.inr (.inr shf))))), (sa, .inr (2, [.ref sb, .int (iI so), .int (iI la), .int (iI ln)])), (sb, .inl (X.2.1.1, 60, .inl (iF (updI Fs (Int.toNat i1) (cutL la v)))))])) (As := [.int (iI i1), .int (iI v)]) C (c_X2_write l X sa sb so la ln Fs i1 v (by first | assumption | omega) (by first | assumption | omega)) gX5_put_X2_write rfl rfl rfl hd_V_X2_write_X5_put (by decide) dX5_put_52 [2, 3] [0, 1] [0, 1, 2, 3] rfl rfl rfl rfl (by decide) rfl 2 2 rfl rfl rfl rfl (Nat.le_of_ble_eq_true rfl) (by decide) (fun _ => rfl) (fun _ hy_ => ?_)
  clear hy_
  refine r_iconst C dX5_put_55 ?_
  exact g_ret_i C rfl dX5_put_56 () trivial (by (repeat' split) <;> first | rfl | omega) [0, 1, 2, 3] rfl (by (repeat' split) <;> first | rfl | omega)

set_option maxHeartbeats 4000000 in
set_option maxRecDepth 100000 in
theorem c_X5_put_out (l : Launch) (X : gX) (h0 : Nat) (s1 : Nat) (w0 : Nat) (t0 : Nat) (k0 : Nat) (r0 : Nat) (rp : Nat) (sh1 : Nat) (sc : Int) (gf : Int) (gs : Int) (rc : Int) (tc : Int) (ft : Int) (shf : Nat → Option Nat) (k : Int) (i1 : Int) (v : Int) (hx : ¬ (0 ≤ k ∧ k < 4)) (hbk : inB k) : gM l yX5_put wsX5_put (gr 2 0 0) X [(h0, .inr (5, [.ref s1, .int (iI sc), .ref w0, .ref t0, .ref k0, .ref r0, .int (iI gf), .int (iI gs), .ref rp, .int (iI rc), .ref sh1, .int (iI tc), .int (iI ft)])), (sh1, .inl (X.2.1.2.2, 4, .inr (.inr (.inr (.inr shf)))))] [.ref h0, .int (iI k), .int (iI i1), .int (iI v)] (gQi X (Y := Unit) (fun _ => True) (fun _ => -1) (fun _ => [(h0, .inr (5, [.ref s1, .int (iI sc), .ref w0, .ref t0, .ref k0, .ref r0, .int (iI gf), .int (iI gs), .ref rp, .int (iI rc), .ref sh1, .int (iI tc), .int (iI 0)])), (sh1, .inl (X.2.1.2.2, 4, .inr (.inr (.inr (.inr shf)))))])) 0 0 := by
  refine g_start2 (lo := [(0, .ref h0), (1, .int (iI k)), (2, .int (iI i1)), (3, .int (iI v))]) (by decide +kernel) rfl rfl (Nat.le_of_ble_eq_true rfl) (fun p e s m args below meth c A C => ?_)
  refine r_aload_n C dX5_put_0 0 rfl ?_
  refine r_iconst C dX5_put_1 ?_
  refine pf_5_12 (ws2 := [(h0, .inr (5, [.ref s1, .int (iI sc), .ref w0, .ref t0, .ref k0, .ref r0, .int (iI gf), .int (iI gs), .ref rp, .int (iI rc), .ref sh1, .int (iI tc), .int (iI 0)])), (sh1, .inl (X.2.1.2.2, 4, .inr (.inr (.inr (.inr shf)))))]) C hi_X5_put_5 kw_X5_put_0 dX5_put_2 0 rfl rfl rfl (Nat.le_of_ble_eq_true rfl) rfl ?_
  refine r_aload_n C dX5_put_5 0 rfl ?_
  refine r_iload_n C dX5_put_6 1 rfl ?_
  refine g_V_q (ws2 := (fun _ => [(h0, .inr (5, [.ref s1, .int (iI sc), .ref w0, .ref t0, .ref k0, .ref r0, .int (iI gf), .int (iI gs), .ref rp, .int (iI rc), .ref sh1, .int (iI tc), .int (iI 0)])), (sh1, .inl (X.2.1.2.2, 4, .inr (.inr (.inr (.inr shf)))))])) (As := [.int (iI k)]) C (c_X5_sheetAt_out l X h0 s1 w0 t0 k0 r0 rp sh1 sc gf gs rc tc 0 shf k (by first | assumption | omega) (by first | assumption | omega)) gX5_put_X5_sheetAt rfl rfl rfl hd_V_X5_sheetAt_X5_put (by decide) dX5_put_7 [0, 1] [] [0, 1] rfl rfl rfl rfl (by decide) rfl 0 5 rfl rfl rfl rfl (Nat.le_of_ble_eq_true rfl) (by decide) (fun _ => rfl) (fun _ hy_ => ?_)
  clear hy_
  refine r_astoreN (lo2 := [(4, .null), (0, .ref h0), (1, .int (iI k)), (2, .int (iI i1)), (3, .int (iI v))]) C dX5_put_10 (by decide) rfl ?_
  refine r_aloadN C dX5_put_12 0 rfl ?_
  refine r_ifnonnullN C dX5_put_14 ?_
  refine r_iconst C dX5_put_17 ?_
  exact g_ret_i C rfl dX5_put_18 () trivial (by (repeat' split) <;> first | rfl | omega) [0, 1] rfl (by (repeat' split) <;> first | rfl | omega)

set_option maxRecDepth 20000 in
theorem kw_X5_cell_0 : Cond.fieldLink RX5 67 "SkipStones" "lastFault" "I" ∈ wsX5_cell := List.mem_of_getElem? (i := 1) rfl
set_option maxRecDepth 20000 in
theorem hd_V_X5_sheetAt_X5_cell : yX5_sheetAt.cls = yX5_sheetAt.cls ∧ yX5_sheetAt.cls ≠ "java/lang/invoke/MethodHandle" ∧ yX5_sheetAt.cls ≠ "java/lang/invoke/VarHandle" ∧ (parseMethodDescriptor yX5_sheetAt.desc).map (fun d => d.parameters.length) = some 1 := by decide +kernel
set_option maxRecDepth 20000 in
theorem hd_S_X5_isLane_X5_cell : yX5_isLane.cls ≠ "java/lang/invoke/MethodHandle" ∧ yX5_isLane.cls ≠ "java/lang/invoke/VarHandle" ∧ (parseMethodDescriptor yX5_isLane.desc).map (fun d => d.parameters.length) = some 1 := by decide +kernel
set_option maxRecDepth 20000 in
theorem hd_V_X2_faultAs_X5_cell : yX2_faultAs.cls = yX2_faultAs.cls ∧ yX2_faultAs.cls ≠ "java/lang/invoke/MethodHandle" ∧ yX2_faultAs.cls ≠ "java/lang/invoke/VarHandle" ∧ (parseMethodDescriptor yX2_faultAs.desc).map (fun d => d.parameters.length) = some 1 := by decide +kernel
set_option maxRecDepth 20000 in
theorem kw_X5_cell_1 : Cond.constantLong RX5 196 (-9223372036854775808) ∈ wsX5_cell := List.mem_of_getElem? (i := 2) rfl
set_option maxRecDepth 20000 in
theorem hd_V_X2_has_X5_cell : yX2_has.cls = yX2_has.cls ∧ yX2_has.cls ≠ "java/lang/invoke/MethodHandle" ∧ yX2_has.cls ≠ "java/lang/invoke/VarHandle" ∧ (parseMethodDescriptor yX2_has.desc).map (fun d => d.parameters.length) = some 1 := by decide +kernel
set_option maxRecDepth 20000 in
theorem hi_X5_cell_5 : ∀ w ∈ wsX50, w ∈ wsX5_cell := fun _ h => List.mem_cons_of_mem _ (List.mem_append_left _ (List.mem_append_right _ h))
set_option maxHeartbeats 4000000 in
set_option maxRecDepth 100000 in
theorem c_X5_cell_no (l : Launch) (X : gX) (h0 : Nat) (s1 : Nat) (w0 : Nat) (t0 : Nat) (k0 : Nat) (r0 : Nat) (rp : Nat) (sh1 : Nat) (sc : Int) (gf : Int) (gs : Int) (rc : Int) (tc : Int) (ft : Int) (shf : Nat → Option Nat) (sa : Nat) (sb : Nat) (so : Int) (la : Int) (ln : Int) (Fs : Nat → Int) (k : Int) (i1 : Int) (w : Int) (hx : 0 ≤ k ∧ k < 4) (hsf : shf (Int.toNat k) = some sa) (hso : so = 0 ∨ so = 1) (hla : 0 ≤ la ∧ la ≤ 2) (hln : 0 ≤ ln ∧ ln ≤ 60) (hFs : ∀ i, inB (Fs i)) (hb_i1 : inB i1) (hb_w : inB w) (hok : ¬ (0 ≤ w ∧ w ≤ 2 ∧ ¬ so = 0 ∧ la = w ∧ 0 ≤ i1 ∧ i1 < ln)) : gM l yX5_cell wsX5_cell (gr 2 0 0) X [(h0, .inr (5, [.ref s1, .int (iI sc), .ref w0, .ref t0, .ref k0, .ref r0, .int (iI gf), .int (iI gs), .ref rp, .int (iI rc), .ref sh1, .int (iI tc), .int (iI ft)])), (sh1, .inl (X.2.1.2.2, 4, .inr (.inr (.inr (.inr shf))))), (sa, .inr (2, [.ref sb, .int (iI so), .int (iI la), .int (iI ln)])), (sb, .inl (X.2.1.1, 60, .inl (iF Fs)))] [.ref h0, .int (iI k), .int (iI i1), .int (iI w)] (gQl X (Y := Unit) (fun _ => True) (fun _ => -9223372036854775808) (fun _ => [(h0, .inr (5, [.ref s1, .int (iI sc), .ref w0, .ref t0, .ref k0, .ref r0, .int (iI gf), .int (iI gs), .ref rp, .int (iI rc), .ref sh1, .int (iI tc), .int (iI (if ¬ (0 ≤ w ∧ w ≤ 2) then 0 else if so = 0 then 1 else if ¬ la = w then 2 else 3))])), (sh1, .inl (X.2.1.2.2, 4, .inr (.inr (.inr (.inr shf))))), (sa, .inr (2, [.ref sb, .int (iI so), .int (iI la), .int (iI ln)])), (sb, .inl (X.2.1.1, 60, .inl (iF Fs)))])) 0 0 := by
  refine g_start2 (lo := [(0, .ref h0), (1, .int (iI k)), (2, .int (iI i1)), (3, .int (iI w))]) (by decide +kernel) rfl rfl (Nat.le_of_ble_eq_true rfl) (fun p e s m args below meth c A C => ?_)
  refine r_aload_n C dX5_cell_0 0 rfl ?_
  refine r_iconst C dX5_cell_1 ?_
  refine pf_5_12 (ws2 := [(h0, .inr (5, [.ref s1, .int (iI sc), .ref w0, .ref t0, .ref k0, .ref r0, .int (iI gf), .int (iI gs), .ref rp, .int (iI rc), .ref sh1, .int (iI tc), .int (iI 0)])), (sh1, .inl (X.2.1.2.2, 4, .inr (.inr (.inr (.inr shf))))), (sa, .inr (2, [.ref sb, .int (iI so), .int (iI la), .int (iI ln)])), (sb, .inl (X.2.1.1, 60, .inl (iF Fs)))]) C hi_X5_cell_5 kw_X5_cell_0 dX5_cell_2 0 rfl rfl rfl (Nat.le_of_ble_eq_true rfl) rfl ?_
  refine r_aload_n C dX5_cell_5 0 rfl ?_
  refine r_iload_n C dX5_cell_6 1 rfl ?_
  refine g_V_q (ws2 := (fun _ => [(h0, .inr (5, [.ref s1, .int (iI sc), .ref w0, .ref t0, .ref k0, .ref r0, .int (iI gf), .int (iI gs), .ref rp, .int (iI rc), .ref sh1, .int (iI tc), .int (iI 0)])), (sh1, .inl (X.2.1.2.2, 4, .inr (.inr (.inr (.inr shf))))), (sa, .inr (2, [.ref sb, .int (iI so), .int (iI la), .int (iI ln)])), (sb, .inl (X.2.1.1, 60, .inl (iF Fs)))])) (As := [.int (iI k)]) C (c_X5_sheetAt_in l X h0 s1 w0 t0 k0 r0 rp sh1 sc gf gs rc tc 0 shf sa k (by first | assumption | omega) (by first | assumption | omega)) gX5_cell_X5_sheetAt rfl rfl rfl hd_V_X5_sheetAt_X5_cell (by decide) dX5_cell_7 [0, 1] [2, 3] [2, 3, 0, 1] rfl rfl rfl rfl (by decide) rfl 0 5 rfl rfl rfl rfl (Nat.le_of_ble_eq_true rfl) (by decide) (fun _ => rfl) (fun _ hy_ => ?_)
  clear hy_
  refine r_astore (lo2 := [(4, .ref sa), (0, .ref h0), (1, .int (iI k)), (2, .int (iI i1)), (3, .int (iI w))]) C dX5_cell_10 (by decide) rfl ?_
  refine r_aload C dX5_cell_12 0 rfl ?_
  refine r_ifnull C dX5_cell_14 ?_
  refine r_iload_n C dX5_cell_17 4 rfl ?_
  refine g_S_i (ws2 := (fun _ => [(h0, .inr (5, [.ref s1, .int (iI sc), .ref w0, .ref t0, .ref k0, .ref r0, .int (iI gf), .int (iI gs), .ref rp, .int (iI rc), .ref sh1, .int (iI tc), .int (iI 0)])), (sh1, .inl (X.2.1.2.2, 4, .inr (.inr (.inr (.inr shf))))), (sa, .inr (2, [.ref sb, .int (iI so), .int (iI la), .int (iI ln)])), (sb, .inl (X.2.1.1, 60, .inl (iF Fs)))])) (As := [.int (iI w)]) C (c_X5_isLane l X w (by first | assumption | omega)) gX5_cell_X5_isLane rfl rfl rfl hd_S_X5_isLane_X5_cell (by decide) dX5_cell_18 [] [0, 1, 2, 3] [0, 1, 2, 3] rfl rfl rfl rfl (by decide) rfl rfl rfl (Nat.le_of_ble_eq_true rfl) (by decide) (fun _ => rfl) (fun _ hy_ => ?_)
  clear hy_
  refine r_ite (fun h_1 => ?_) (fun h_1 => ?_)
  · skip
    refine r_if_ne (tgt := 28) C dX5_cell_21 (by decide) (by decide) (fun h_2 => ?_) (fun h_2 => absurd h_2 (by decide))
    refine r_aload_n C dX5_cell_28 1 rfl ?_
    refine r_aload C dX5_cell_29 0 rfl ?_
    refine r_iload_n C dX5_cell_31 4 rfl ?_
    by_cases k_3 : so = 0
    · skip
      refine g_V_i (ws2 := (fun _ => [(h0, .inr (5, [.ref s1, .int (iI sc), .ref w0, .ref t0, .ref k0, .ref r0, .int (iI gf), .int (iI gs), .ref rp, .int (iI rc), .ref sh1, .int (iI tc), .int (iI 0)])), (sh1, .inl (X.2.1.2.2, 4, .inr (.inr (.inr (.inr shf))))), (sa, .inr (2, [.ref sb, .int (iI so), .int (iI la), .int (iI ln)])), (sb, .inl (X.2.1.1, 60, .inl (iF Fs)))])) (As := [.int (iI w)]) C (c_X2_faultAs_1 l X sa sb so la ln Fs w (by first | assumption | omega) (by first | assumption | omega) (by first | assumption | omega) (by first | assumption | omega)) gX5_cell_X2_faultAs rfl rfl rfl hd_V_X2_faultAs_X5_cell (by decide) dX5_cell_32 [2, 3] [0, 1] [0, 1, 2, 3] rfl rfl rfl rfl (by decide) rfl 2 2 rfl rfl rfl rfl (Nat.le_of_ble_eq_true rfl) (by decide) (fun _ => rfl) (fun _ hy_ => ?_)
      clear hy_
      refine pf_5_12 (ws2 := [(h0, .inr (5, [.ref s1, .int (iI sc), .ref w0, .ref t0, .ref k0, .ref r0, .int (iI gf), .int (iI gs), .ref rp, .int (iI rc), .ref sh1, .int (iI tc), .int (iI 1)])), (sh1, .inl (X.2.1.2.2, 4, .inr (.inr (.inr (.inr shf))))), (sa, .inr (2, [.ref sb, .int (iI so), .int (iI la), .int (iI ln)])), (sb, .inl (X.2.1.1, 60, .inl (iF Fs)))]) C hi_X5_cell_5 kw_X5_cell_0 dX5_cell_35 0 rfl rfl rfl (Nat.le_of_ble_eq_true rfl) rfl ?_
      refine r_aload_n C dX5_cell_38 1 rfl ?_
      refine gf_5_12 C hi_X5_cell_5 kw_X5_cell_0 dX5_cell_39 0 rfl rfl ?_
      refine r_if_ne (tgt := 59) C dX5_cell_42 (by decide) (by decide) (fun h_4 => ?_) (fun h_4 => absurd h_4 (by decide))
      refine r_aload_n C dX5_cell_59 1 rfl ?_
      refine gf_5_12 C hi_X5_cell_5 kw_X5_cell_0 dX5_cell_60 0 rfl rfl ?_
      refine r_if_ne (tgt := 76) C dX5_cell_63 (by decide) (by decide) (fun h_5 => ?_) (fun h_5 => absurd h_5 (by decide))
      refine r_ldc2 (z := -9223372036854775808) C dX5_cell_76 kw_X5_cell_1 rfl ?_
      exact g_ret_l C rfl dX5_cell_79 () trivial (by (repeat' split) <;> first | rfl | omega) [0, 1, 2, 3] rfl (by (repeat' split) <;> first | rfl | omega)
    by_cases k_6 : la = w
    · skip
      refine g_V_i (ws2 := (fun _ => [(h0, .inr (5, [.ref s1, .int (iI sc), .ref w0, .ref t0, .ref k0, .ref r0, .int (iI gf), .int (iI gs), .ref rp, .int (iI rc), .ref sh1, .int (iI tc), .int (iI 0)])), (sh1, .inl (X.2.1.2.2, 4, .inr (.inr (.inr (.inr shf))))), (sa, .inr (2, [.ref sb, .int (iI so), .int (iI la), .int (iI ln)])), (sb, .inl (X.2.1.1, 60, .inl (iF Fs)))])) (As := [.int (iI w)]) C (c_X2_faultAs_0 l X sa sb so la ln Fs w (by first | assumption | omega) (by first | assumption | omega) (by first | assumption | omega) (by first | assumption | omega)) gX5_cell_X2_faultAs rfl rfl rfl hd_V_X2_faultAs_X5_cell (by decide) dX5_cell_32 [2, 3] [0, 1] [0, 1, 2, 3] rfl rfl rfl rfl (by decide) rfl 2 2 rfl rfl rfl rfl (Nat.le_of_ble_eq_true rfl) (by decide) (fun _ => rfl) (fun _ hy_ => ?_)
      clear hy_
      refine pf_5_12 (ws2 := [(h0, .inr (5, [.ref s1, .int (iI sc), .ref w0, .ref t0, .ref k0, .ref r0, .int (iI gf), .int (iI gs), .ref rp, .int (iI rc), .ref sh1, .int (iI tc), .int (iI 0)])), (sh1, .inl (X.2.1.2.2, 4, .inr (.inr (.inr (.inr shf))))), (sa, .inr (2, [.ref sb, .int (iI so), .int (iI la), .int (iI ln)])), (sb, .inl (X.2.1.1, 60, .inl (iF Fs)))]) C hi_X5_cell_5 kw_X5_cell_0 dX5_cell_35 0 rfl rfl rfl (Nat.le_of_ble_eq_true rfl) rfl ?_
      refine r_aload_n C dX5_cell_38 1 rfl ?_
      refine gf_5_12 C hi_X5_cell_5 kw_X5_cell_0 dX5_cell_39 0 rfl rfl ?_
      refine r_if_ne (tgt := 59) C dX5_cell_42 (by decide) (by decide) (fun h_7 => absurd h_7 (by decide)) (fun h_7 => ?_)
      refine r_aload C dX5_cell_45 0 rfl ?_
      refine r_iload_n C dX5_cell_47 3 rfl ?_
      refine g_V_i (ws2 := (fun _ => [(h0, .inr (5, [.ref s1, .int (iI sc), .ref w0, .ref t0, .ref k0, .ref r0, .int (iI gf), .int (iI gs), .ref rp, .int (iI rc), .ref sh1, .int (iI tc), .int (iI 0)])), (sh1, .inl (X.2.1.2.2, 4, .inr (.inr (.inr (.inr shf))))), (sa, .inr (2, [.ref sb, .int (iI so), .int (iI la), .int (iI ln)])), (sb, .inl (X.2.1.1, 60, .inl (iF Fs)))])) (As := [.int (iI i1)]) C (c_X2_has l X sa sb so la ln Fs i1 (by first | assumption | omega) (by first | assumption | omega)) gX5_cell_X2_has rfl rfl rfl hd_V_X2_has_X5_cell (by decide) dX5_cell_48 [2, 3] [0, 1] [0, 1, 2, 3] rfl rfl rfl rfl (by decide) rfl 2 2 rfl rfl rfl rfl (Nat.le_of_ble_eq_true rfl) (by decide) (fun _ => rfl) (fun _ hy_ => ?_)
      clear hy_
      refine r_ite (fun h_8 => absurd h_8 (by omega)) (fun h_8 => ?_)
      refine r_if_ne (tgt := 59) C dX5_cell_51 (by decide) (by decide) (fun h_9 => absurd h_9 (by decide)) (fun h_9 => ?_)
      refine r_aload_n C dX5_cell_54 1 rfl ?_
      refine r_iconst C dX5_cell_55 ?_
      refine pf_5_12 (ws2 := [(h0, .inr (5, [.ref s1, .int (iI sc), .ref w0, .ref t0, .ref k0, .ref r0, .int (iI gf), .int (iI gs), .ref rp, .int (iI rc), .ref sh1, .int (iI tc), .int (iI 3)])), (sh1, .inl (X.2.1.2.2, 4, .inr (.inr (.inr (.inr shf))))), (sa, .inr (2, [.ref sb, .int (iI so), .int (iI la), .int (iI ln)])), (sb, .inl (X.2.1.1, 60, .inl (iF Fs)))]) C hi_X5_cell_5 kw_X5_cell_0 dX5_cell_56 0 rfl rfl rfl (Nat.le_of_ble_eq_true rfl) rfl ?_
      refine r_aload_n C dX5_cell_59 1 rfl ?_
      refine gf_5_12 C hi_X5_cell_5 kw_X5_cell_0 dX5_cell_60 0 rfl rfl ?_
      refine r_if_ne (tgt := 76) C dX5_cell_63 (by decide) (by decide) (fun h_10 => ?_) (fun h_10 => absurd h_10 (by decide))
      refine r_ldc2 (z := -9223372036854775808) C dX5_cell_76 kw_X5_cell_1 rfl ?_
      exact g_ret_l C rfl dX5_cell_79 () trivial (by (repeat' split) <;> first | rfl | omega) [0, 1, 2, 3] rfl (by (repeat' split) <;> first | rfl | omega)
    refine g_V_i (ws2 := (fun _ => [(h0, .inr (5, [.ref s1, .int (iI sc), .ref w0, .ref t0, .ref k0, .ref r0, .int (iI gf), .int (iI gs), .ref rp, .int (iI rc), .ref sh1, .int (iI tc), .int (iI 0)])), (sh1, .inl (X.2.1.2.2, 4, .inr (.inr (.inr (.inr shf))))), (sa, .inr (2, [.ref sb, .int (iI so), .int (iI la), .int (iI ln)])), (sb, .inl (X.2.1.1, 60, .inl (iF Fs)))])) (As := [.int (iI w)]) C (c_X2_faultAs_2 l X sa sb so la ln Fs w (by first | assumption | omega) (by first | assumption | omega) (by first | assumption | omega) (by first | assumption | omega)) gX5_cell_X2_faultAs rfl rfl rfl hd_V_X2_faultAs_X5_cell (by decide) dX5_cell_32 [2, 3] [0, 1] [0, 1, 2, 3] rfl rfl rfl rfl (by decide) rfl 2 2 rfl rfl rfl rfl (Nat.le_of_ble_eq_true rfl) (by decide) (fun _ => rfl) (fun _ hy_ => ?_)
    clear hy_
    refine pf_5_12 (ws2 := [(h0, .inr (5, [.ref s1, .int (iI sc), .ref w0, .ref t0, .ref k0, .ref r0, .int (iI gf), .int (iI gs), .ref rp, .int (iI rc), .ref sh1, .int (iI tc), .int (iI 2)])), (sh1, .inl (X.2.1.2.2, 4, .inr (.inr (.inr (.inr shf))))), (sa, .inr (2, [.ref sb, .int (iI so), .int (iI la), .int (iI ln)])), (sb, .inl (X.2.1.1, 60, .inl (iF Fs)))]) C hi_X5_cell_5 kw_X5_cell_0 dX5_cell_35 0 rfl rfl rfl (Nat.le_of_ble_eq_true rfl) rfl ?_
    refine r_aload_n C dX5_cell_38 1 rfl ?_
    refine gf_5_12 C hi_X5_cell_5 kw_X5_cell_0 dX5_cell_39 0 rfl rfl ?_
    refine r_if_ne (tgt := 59) C dX5_cell_42 (by decide) (by decide) (fun h_11 => ?_) (fun h_11 => absurd h_11 (by decide))
    refine r_aload_n C dX5_cell_59 1 rfl ?_
    refine gf_5_12 C hi_X5_cell_5 kw_X5_cell_0 dX5_cell_60 0 rfl rfl ?_
    refine r_if_ne (tgt := 76) C dX5_cell_63 (by decide) (by decide) (fun h_12 => ?_) (fun h_12 => absurd h_12 (by decide))
    refine r_ldc2 (z := -9223372036854775808) C dX5_cell_76 kw_X5_cell_1 rfl ?_
    exact g_ret_l C rfl dX5_cell_79 () trivial (by (repeat' split) <;> first | rfl | omega) [0, 1, 2, 3] rfl (by (repeat' split) <;> first | rfl | omega)
  · skip
    refine r_if_ne (tgt := 28) C dX5_cell_21 (by decide) (by decide) (fun h_13 => absurd h_13 (by decide)) (fun h_13 => ?_)
    refine r_ldc2 (z := -9223372036854775808) C dX5_cell_24 kw_X5_cell_1 rfl ?_
    exact g_ret_l C rfl dX5_cell_27 () trivial (by (repeat' split) <;> first | rfl | omega) [0, 1, 2, 3] rfl (by (repeat' split) <;> first | rfl | omega)

set_option maxRecDepth 20000 in
theorem hd_V_X2_number_X5_cell : yX2_number.cls = yX2_number.cls ∧ yX2_number.cls ≠ "java/lang/invoke/MethodHandle" ∧ yX2_number.cls ≠ "java/lang/invoke/VarHandle" ∧ (parseMethodDescriptor yX2_number.desc).map (fun d => d.parameters.length) = some 1 := by decide +kernel
set_option maxHeartbeats 4000000 in
set_option maxRecDepth 100000 in
theorem c_X5_cell_ok (l : Launch) (X : gX) (h0 : Nat) (s1 : Nat) (w0 : Nat) (t0 : Nat) (k0 : Nat) (r0 : Nat) (rp : Nat) (sh1 : Nat) (sc : Int) (gf : Int) (gs : Int) (rc : Int) (tc : Int) (ft : Int) (shf : Nat → Option Nat) (sa : Nat) (sb : Nat) (so : Int) (la : Int) (ln : Int) (Fs : Nat → Int) (k : Int) (i1 : Int) (w : Int) (hx : 0 ≤ k ∧ k < 4) (hsf : shf (Int.toNat k) = some sa) (hso : so = 0 ∨ so = 1) (hla : 0 ≤ la ∧ la ≤ 2) (hln : 0 ≤ ln ∧ ln ≤ 60) (hFs : ∀ i, inB (Fs i)) (hb_i1 : inB i1) (hb_w : inB w) (hok : 0 ≤ w ∧ w ≤ 2 ∧ ¬ so = 0 ∧ la = w ∧ 0 ≤ i1 ∧ i1 < ln) : gM l yX5_cell wsX5_cell (gr 2 0 0) X [(h0, .inr (5, [.ref s1, .int (iI sc), .ref w0, .ref t0, .ref k0, .ref r0, .int (iI gf), .int (iI gs), .ref rp, .int (iI rc), .ref sh1, .int (iI tc), .int (iI ft)])), (sh1, .inl (X.2.1.2.2, 4, .inr (.inr (.inr (.inr shf))))), (sa, .inr (2, [.ref sb, .int (iI so), .int (iI la), .int (iI ln)])), (sb, .inl (X.2.1.1, 60, .inl (iF Fs)))] [.ref h0, .int (iI k), .int (iI i1), .int (iI w)] (gQl X (Y := Unit) (fun _ => True) (fun _ => (Fs (Int.toNat i1))) (fun _ => [(h0, .inr (5, [.ref s1, .int (iI sc), .ref w0, .ref t0, .ref k0, .ref r0, .int (iI gf), .int (iI gs), .ref rp, .int (iI rc), .ref sh1, .int (iI tc), .int (iI 0)])), (sh1, .inl (X.2.1.2.2, 4, .inr (.inr (.inr (.inr shf))))), (sa, .inr (2, [.ref sb, .int (iI so), .int (iI la), .int (iI ln)])), (sb, .inl (X.2.1.1, 60, .inl (iF Fs)))])) 0 0 := by
  refine g_start2 (lo := [(0, .ref h0), (1, .int (iI k)), (2, .int (iI i1)), (3, .int (iI w))]) (by decide +kernel) rfl rfl (Nat.le_of_ble_eq_true rfl) (fun p e s m args below meth c A C => ?_)
  refine r_aload_n C dX5_cell_0 0 rfl ?_
  refine r_iconst C dX5_cell_1 ?_
  refine pf_5_12 (ws2 := [(h0, .inr (5, [.ref s1, .int (iI sc), .ref w0, .ref t0, .ref k0, .ref r0, .int (iI gf), .int (iI gs), .ref rp, .int (iI rc), .ref sh1, .int (iI tc), .int (iI 0)])), (sh1, .inl (X.2.1.2.2, 4, .inr (.inr (.inr (.inr shf))))), (sa, .inr (2, [.ref sb, .int (iI so), .int (iI la), .int (iI ln)])), (sb, .inl (X.2.1.1, 60, .inl (iF Fs)))]) C hi_X5_cell_5 kw_X5_cell_0 dX5_cell_2 0 rfl rfl rfl (Nat.le_of_ble_eq_true rfl) rfl ?_
  refine r_aload_n C dX5_cell_5 0 rfl ?_
  refine r_iload_n C dX5_cell_6 1 rfl ?_
  refine g_V_q (ws2 := (fun _ => [(h0, .inr (5, [.ref s1, .int (iI sc), .ref w0, .ref t0, .ref k0, .ref r0, .int (iI gf), .int (iI gs), .ref rp, .int (iI rc), .ref sh1, .int (iI tc), .int (iI 0)])), (sh1, .inl (X.2.1.2.2, 4, .inr (.inr (.inr (.inr shf))))), (sa, .inr (2, [.ref sb, .int (iI so), .int (iI la), .int (iI ln)])), (sb, .inl (X.2.1.1, 60, .inl (iF Fs)))])) (As := [.int (iI k)]) C (c_X5_sheetAt_in l X h0 s1 w0 t0 k0 r0 rp sh1 sc gf gs rc tc 0 shf sa k (by first | assumption | omega) (by first | assumption | omega)) gX5_cell_X5_sheetAt rfl rfl rfl hd_V_X5_sheetAt_X5_cell (by decide) dX5_cell_7 [0, 1] [2, 3] [2, 3, 0, 1] rfl rfl rfl rfl (by decide) rfl 0 5 rfl rfl rfl rfl (Nat.le_of_ble_eq_true rfl) (by decide) (fun _ => rfl) (fun _ hy_ => ?_)
  clear hy_
  refine r_astore (lo2 := [(4, .ref sa), (0, .ref h0), (1, .int (iI k)), (2, .int (iI i1)), (3, .int (iI w))]) C dX5_cell_10 (by decide) rfl ?_
  refine r_aload C dX5_cell_12 0 rfl ?_
  refine r_ifnull C dX5_cell_14 ?_
  refine r_iload_n C dX5_cell_17 4 rfl ?_
  refine g_S_i (ws2 := (fun _ => [(h0, .inr (5, [.ref s1, .int (iI sc), .ref w0, .ref t0, .ref k0, .ref r0, .int (iI gf), .int (iI gs), .ref rp, .int (iI rc), .ref sh1, .int (iI tc), .int (iI 0)])), (sh1, .inl (X.2.1.2.2, 4, .inr (.inr (.inr (.inr shf))))), (sa, .inr (2, [.ref sb, .int (iI so), .int (iI la), .int (iI ln)])), (sb, .inl (X.2.1.1, 60, .inl (iF Fs)))])) (As := [.int (iI w)]) C (c_X5_isLane l X w (by first | assumption | omega)) gX5_cell_X5_isLane rfl rfl rfl hd_S_X5_isLane_X5_cell (by decide) dX5_cell_18 [] [0, 1, 2, 3] [0, 1, 2, 3] rfl rfl rfl rfl (by decide) rfl rfl rfl (Nat.le_of_ble_eq_true rfl) (by decide) (fun _ => rfl) (fun _ hy_ => ?_)
  clear hy_
  refine r_ite (fun h_1 => ?_) (fun h_1 => absurd h_1 (by omega))
  refine r_if_ne (tgt := 28) C dX5_cell_21 (by decide) (by decide) (fun h_2 => ?_) (fun h_2 => absurd h_2 (by decide))
  refine r_aload_n C dX5_cell_28 1 rfl ?_
  refine r_aload C dX5_cell_29 0 rfl ?_
  refine r_iload_n C dX5_cell_31 4 rfl ?_
  by_cases k_3 : so = 0
  · skip
    refine g_V_i (ws2 := (fun _ => [(h0, .inr (5, [.ref s1, .int (iI sc), .ref w0, .ref t0, .ref k0, .ref r0, .int (iI gf), .int (iI gs), .ref rp, .int (iI rc), .ref sh1, .int (iI tc), .int (iI 0)])), (sh1, .inl (X.2.1.2.2, 4, .inr (.inr (.inr (.inr shf))))), (sa, .inr (2, [.ref sb, .int (iI so), .int (iI la), .int (iI ln)])), (sb, .inl (X.2.1.1, 60, .inl (iF Fs)))])) (As := [.int (iI w)]) C (c_X2_faultAs_1 l X sa sb so la ln Fs w (by first | assumption | omega) (by first | assumption | omega) (by first | assumption | omega) (by first | assumption | omega)) gX5_cell_X2_faultAs rfl rfl rfl hd_V_X2_faultAs_X5_cell (by decide) dX5_cell_32 [2, 3] [0, 1] [0, 1, 2, 3] rfl rfl rfl rfl (by decide) rfl 2 2 rfl rfl rfl rfl (Nat.le_of_ble_eq_true rfl) (by decide) (fun _ => rfl) (fun _ hy_ => ?_)
    clear hy_
    refine pf_5_12 (ws2 := [(h0, .inr (5, [.ref s1, .int (iI sc), .ref w0, .ref t0, .ref k0, .ref r0, .int (iI gf), .int (iI gs), .ref rp, .int (iI rc), .ref sh1, .int (iI tc), .int (iI 1)])), (sh1, .inl (X.2.1.2.2, 4, .inr (.inr (.inr (.inr shf))))), (sa, .inr (2, [.ref sb, .int (iI so), .int (iI la), .int (iI ln)])), (sb, .inl (X.2.1.1, 60, .inl (iF Fs)))]) C hi_X5_cell_5 kw_X5_cell_0 dX5_cell_35 0 rfl rfl rfl (Nat.le_of_ble_eq_true rfl) rfl ?_
    refine r_aload_n C dX5_cell_38 1 rfl ?_
    refine gf_5_12 C hi_X5_cell_5 kw_X5_cell_0 dX5_cell_39 0 rfl rfl ?_
    exfalso; omega
  by_cases k_5 : la = w
  · skip
    refine g_V_i (ws2 := (fun _ => [(h0, .inr (5, [.ref s1, .int (iI sc), .ref w0, .ref t0, .ref k0, .ref r0, .int (iI gf), .int (iI gs), .ref rp, .int (iI rc), .ref sh1, .int (iI tc), .int (iI 0)])), (sh1, .inl (X.2.1.2.2, 4, .inr (.inr (.inr (.inr shf))))), (sa, .inr (2, [.ref sb, .int (iI so), .int (iI la), .int (iI ln)])), (sb, .inl (X.2.1.1, 60, .inl (iF Fs)))])) (As := [.int (iI w)]) C (c_X2_faultAs_0 l X sa sb so la ln Fs w (by first | assumption | omega) (by first | assumption | omega) (by first | assumption | omega) (by first | assumption | omega)) gX5_cell_X2_faultAs rfl rfl rfl hd_V_X2_faultAs_X5_cell (by decide) dX5_cell_32 [2, 3] [0, 1] [0, 1, 2, 3] rfl rfl rfl rfl (by decide) rfl 2 2 rfl rfl rfl rfl (Nat.le_of_ble_eq_true rfl) (by decide) (fun _ => rfl) (fun _ hy_ => ?_)
    clear hy_
    refine pf_5_12 (ws2 := [(h0, .inr (5, [.ref s1, .int (iI sc), .ref w0, .ref t0, .ref k0, .ref r0, .int (iI gf), .int (iI gs), .ref rp, .int (iI rc), .ref sh1, .int (iI tc), .int (iI 0)])), (sh1, .inl (X.2.1.2.2, 4, .inr (.inr (.inr (.inr shf))))), (sa, .inr (2, [.ref sb, .int (iI so), .int (iI la), .int (iI ln)])), (sb, .inl (X.2.1.1, 60, .inl (iF Fs)))]) C hi_X5_cell_5 kw_X5_cell_0 dX5_cell_35 0 rfl rfl rfl (Nat.le_of_ble_eq_true rfl) rfl ?_
    refine r_aload_n C dX5_cell_38 1 rfl ?_
    refine gf_5_12 C hi_X5_cell_5 kw_X5_cell_0 dX5_cell_39 0 rfl rfl ?_
    refine r_if_ne (tgt := 59) C dX5_cell_42 (by decide) (by decide) (fun h_6 => absurd h_6 (by decide)) (fun h_6 => ?_)
    refine r_aload C dX5_cell_45 0 rfl ?_
    refine r_iload_n C dX5_cell_47 3 rfl ?_
    refine g_V_i (ws2 := (fun _ => [(h0, .inr (5, [.ref s1, .int (iI sc), .ref w0, .ref t0, .ref k0, .ref r0, .int (iI gf), .int (iI gs), .ref rp, .int (iI rc), .ref sh1, .int (iI tc), .int (iI 0)])), (sh1, .inl (X.2.1.2.2, 4, .inr (.inr (.inr (.inr shf))))), (sa, .inr (2, [.ref sb, .int (iI so), .int (iI la), .int (iI ln)])), (sb, .inl (X.2.1.1, 60, .inl (iF Fs)))])) (As := [.int (iI i1)]) C (c_X2_has l X sa sb so la ln Fs i1 (by first | assumption | omega) (by first | assumption | omega)) gX5_cell_X2_has rfl rfl rfl hd_V_X2_has_X5_cell (by decide) dX5_cell_48 [2, 3] [0, 1] [0, 1, 2, 3] rfl rfl rfl rfl (by decide) rfl 2 2 rfl rfl rfl rfl (Nat.le_of_ble_eq_true rfl) (by decide) (fun _ => rfl) (fun _ hy_ => ?_)
    clear hy_
    refine r_ite (fun h_7 => ?_) (fun h_7 => absurd h_7 (by omega))
    refine r_if_ne (tgt := 59) C dX5_cell_51 (by decide) (by decide) (fun h_8 => ?_) (fun h_8 => absurd h_8 (by decide))
    refine r_aload_n C dX5_cell_59 1 rfl ?_
    refine gf_5_12 C hi_X5_cell_5 kw_X5_cell_0 dX5_cell_60 0 rfl rfl ?_
    refine r_if_ne (tgt := 76) C dX5_cell_63 (by decide) (by decide) (fun h_9 => absurd h_9 (by decide)) (fun h_9 => ?_)
    refine r_aload C dX5_cell_66 0 rfl ?_
    refine r_iload_n C dX5_cell_68 3 rfl ?_
    refine g_V_i (ws2 := (fun _ => [(h0, .inr (5, [.ref s1, .int (iI sc), .ref w0, .ref t0, .ref k0, .ref r0, .int (iI gf), .int (iI gs), .ref rp, .int (iI rc), .ref sh1, .int (iI tc), .int (iI 0)])), (sh1, .inl (X.2.1.2.2, 4, .inr (.inr (.inr (.inr shf))))), (sa, .inr (2, [.ref sb, .int (iI so), .int (iI la), .int (iI ln)])), (sb, .inl (X.2.1.1, 60, .inl (iF Fs)))])) (As := [.int (iI i1)]) C (c_X2_number l X sa sb so la ln Fs i1 (by first | assumption | omega) (by first | assumption | omega)) gX5_cell_X2_number rfl rfl rfl hd_V_X2_number_X5_cell (by decide) dX5_cell_69 [2, 3] [0, 1] [0, 1, 2, 3] rfl rfl rfl rfl (by decide) rfl 2 2 rfl rfl rfl rfl (Nat.le_of_ble_eq_true rfl) (by decide) (fun _ => rfl) (fun _ hy_ => ?_)
    clear hy_
    refine r_topi (z := (Fs (Int.toNat i1))) (if_pos (by omega)) ?_
    refine r_i2l C dX5_cell_72 (by have := hFs (Int.toNat i1); omega) ?_
    refine r_goto (tgt := 79) C dX5_cell_73 (by decide) ?_
    exact g_ret_l C rfl dX5_cell_79 () trivial (by (repeat' split) <;> first | rfl | omega) [0, 1, 2, 3] rfl (by (repeat' split) <;> first | rfl | omega)
  refine g_V_i (ws2 := (fun _ => [(h0, .inr (5, [.ref s1, .int (iI sc), .ref w0, .ref t0, .ref k0, .ref r0, .int (iI gf), .int (iI gs), .ref rp, .int (iI rc), .ref sh1, .int (iI tc), .int (iI 0)])), (sh1, .inl (X.2.1.2.2, 4, .inr (.inr (.inr (.inr shf))))), (sa, .inr (2, [.ref sb, .int (iI so), .int (iI la), .int (iI ln)])), (sb, .inl (X.2.1.1, 60, .inl (iF Fs)))])) (As := [.int (iI w)]) C (c_X2_faultAs_2 l X sa sb so la ln Fs w (by first | assumption | omega) (by first | assumption | omega) (by first | assumption | omega) (by first | assumption | omega)) gX5_cell_X2_faultAs rfl rfl rfl hd_V_X2_faultAs_X5_cell (by decide) dX5_cell_32 [2, 3] [0, 1] [0, 1, 2, 3] rfl rfl rfl rfl (by decide) rfl 2 2 rfl rfl rfl rfl (Nat.le_of_ble_eq_true rfl) (by decide) (fun _ => rfl) (fun _ hy_ => ?_)
  clear hy_
  refine pf_5_12 (ws2 := [(h0, .inr (5, [.ref s1, .int (iI sc), .ref w0, .ref t0, .ref k0, .ref r0, .int (iI gf), .int (iI gs), .ref rp, .int (iI rc), .ref sh1, .int (iI tc), .int (iI 2)])), (sh1, .inl (X.2.1.2.2, 4, .inr (.inr (.inr (.inr shf))))), (sa, .inr (2, [.ref sb, .int (iI so), .int (iI la), .int (iI ln)])), (sb, .inl (X.2.1.1, 60, .inl (iF Fs)))]) C hi_X5_cell_5 kw_X5_cell_0 dX5_cell_35 0 rfl rfl rfl (Nat.le_of_ble_eq_true rfl) rfl ?_
  refine r_aload_n C dX5_cell_38 1 rfl ?_
  refine gf_5_12 C hi_X5_cell_5 kw_X5_cell_0 dX5_cell_39 0 rfl rfl ?_
  exfalso; omega

set_option maxHeartbeats 4000000 in
set_option maxRecDepth 100000 in
theorem c_X5_cell_out (l : Launch) (X : gX) (h0 : Nat) (s1 : Nat) (w0 : Nat) (t0 : Nat) (k0 : Nat) (r0 : Nat) (rp : Nat) (sh1 : Nat) (sc : Int) (gf : Int) (gs : Int) (rc : Int) (tc : Int) (ft : Int) (shf : Nat → Option Nat) (k : Int) (i1 : Int) (w : Int) (hx : ¬ (0 ≤ k ∧ k < 4)) (hbk : inB k) : gM l yX5_cell wsX5_cell (gr 2 0 0) X [(h0, .inr (5, [.ref s1, .int (iI sc), .ref w0, .ref t0, .ref k0, .ref r0, .int (iI gf), .int (iI gs), .ref rp, .int (iI rc), .ref sh1, .int (iI tc), .int (iI ft)])), (sh1, .inl (X.2.1.2.2, 4, .inr (.inr (.inr (.inr shf)))))] [.ref h0, .int (iI k), .int (iI i1), .int (iI w)] (gQl X (Y := Unit) (fun _ => True) (fun _ => -9223372036854775808) (fun _ => [(h0, .inr (5, [.ref s1, .int (iI sc), .ref w0, .ref t0, .ref k0, .ref r0, .int (iI gf), .int (iI gs), .ref rp, .int (iI rc), .ref sh1, .int (iI tc), .int (iI 0)])), (sh1, .inl (X.2.1.2.2, 4, .inr (.inr (.inr (.inr shf)))))])) 0 0 := by
  refine g_start2 (lo := [(0, .ref h0), (1, .int (iI k)), (2, .int (iI i1)), (3, .int (iI w))]) (by decide +kernel) rfl rfl (Nat.le_of_ble_eq_true rfl) (fun p e s m args below meth c A C => ?_)
  refine r_aload_n C dX5_cell_0 0 rfl ?_
  refine r_iconst C dX5_cell_1 ?_
  refine pf_5_12 (ws2 := [(h0, .inr (5, [.ref s1, .int (iI sc), .ref w0, .ref t0, .ref k0, .ref r0, .int (iI gf), .int (iI gs), .ref rp, .int (iI rc), .ref sh1, .int (iI tc), .int (iI 0)])), (sh1, .inl (X.2.1.2.2, 4, .inr (.inr (.inr (.inr shf)))))]) C hi_X5_cell_5 kw_X5_cell_0 dX5_cell_2 0 rfl rfl rfl (Nat.le_of_ble_eq_true rfl) rfl ?_
  refine r_aload_n C dX5_cell_5 0 rfl ?_
  refine r_iload_n C dX5_cell_6 1 rfl ?_
  refine g_V_q (ws2 := (fun _ => [(h0, .inr (5, [.ref s1, .int (iI sc), .ref w0, .ref t0, .ref k0, .ref r0, .int (iI gf), .int (iI gs), .ref rp, .int (iI rc), .ref sh1, .int (iI tc), .int (iI 0)])), (sh1, .inl (X.2.1.2.2, 4, .inr (.inr (.inr (.inr shf)))))])) (As := [.int (iI k)]) C (c_X5_sheetAt_out l X h0 s1 w0 t0 k0 r0 rp sh1 sc gf gs rc tc 0 shf k (by first | assumption | omega) (by first | assumption | omega)) gX5_cell_X5_sheetAt rfl rfl rfl hd_V_X5_sheetAt_X5_cell (by decide) dX5_cell_7 [0, 1] [] [0, 1] rfl rfl rfl rfl (by decide) rfl 0 5 rfl rfl rfl rfl (Nat.le_of_ble_eq_true rfl) (by decide) (fun _ => rfl) (fun _ hy_ => ?_)
  clear hy_
  refine r_astoreN (lo2 := [(4, .null), (0, .ref h0), (1, .int (iI k)), (2, .int (iI i1)), (3, .int (iI w))]) C dX5_cell_10 (by decide) rfl ?_
  refine r_aloadN C dX5_cell_12 0 rfl ?_
  refine r_ifnullN (tgt := 24) C dX5_cell_14 (by decide) ?_
  refine r_ldc2 (z := -9223372036854775808) C dX5_cell_24 kw_X5_cell_1 rfl ?_
  exact g_ret_l C rfl dX5_cell_27 () trivial (by (repeat' split) <;> first | rfl | omega) [0, 1] rfl (by (repeat' split) <;> first | rfl | omega)

set_option maxRecDepth 20000 in
theorem kw_X5_copy_0 : Cond.fieldLink RX5 67 "SkipStones" "lastFault" "I" ∈ wsX5_copy := List.mem_of_getElem? (i := 1) rfl
set_option maxRecDepth 20000 in
theorem hd_V_X5_sheetAt_X5_copy : yX5_sheetAt.cls = yX5_sheetAt.cls ∧ yX5_sheetAt.cls ≠ "java/lang/invoke/MethodHandle" ∧ yX5_sheetAt.cls ≠ "java/lang/invoke/VarHandle" ∧ (parseMethodDescriptor yX5_sheetAt.desc).map (fun d => d.parameters.length) = some 1 := by decide +kernel
set_option maxRecDepth 20000 in
theorem kw_X5_copy_1 : Cond.fieldLink RX5 239 "SkipStones$Sheet" "something" "Z" ∈ wsX5_copy := List.mem_of_getElem? (i := 2) rfl
set_option maxRecDepth 20000 in
theorem hd_V_X5_faulted_X5_copy : yX5_faulted.cls = yX5_faulted.cls ∧ yX5_faulted.cls ≠ "java/lang/invoke/MethodHandle" ∧ yX5_faulted.cls ≠ "java/lang/invoke/VarHandle" ∧ (parseMethodDescriptor yX5_faulted.desc).map (fun d => d.parameters.length) = some 1 := by decide +kernel
set_option maxRecDepth 20000 in
theorem kw_X5_copy_2 : Cond.fieldLink RX5 255 "SkipStones$Sheet" "lane" "I" ∈ wsX5_copy := List.mem_of_getElem? (i := 3) rfl
set_option maxRecDepth 20000 in
theorem hd_V_X2_hasFrom_X5_copy : yX2_hasFrom.cls = yX2_hasFrom.cls ∧ yX2_hasFrom.cls ≠ "java/lang/invoke/MethodHandle" ∧ yX2_hasFrom.cls ≠ "java/lang/invoke/VarHandle" ∧ (parseMethodDescriptor yX2_hasFrom.desc).map (fun d => d.parameters.length) = some 2 := by decide +kernel
set_option maxRecDepth 20000 in
theorem kw_X5_copy_3 : Cond.fieldLink RX5 262 "SkipStones$Sheet" "cells" "[I" ∈ wsX5_copy := List.mem_of_getElem? (i := 4) rfl
set_option maxRecDepth 20000 in
theorem kw_X5_copy_4 : Cond.methodLink RX5 265 arraycopyName ∈ wsX5_copy := List.mem_of_getElem? (i := 5) rfl
set_option maxRecDepth 20000 in
theorem kw_X5_copy_5 : Cond.native arraycopyName ∈ wsX5_copy := List.mem_of_getElem? (i := 6) rfl
set_option maxRecDepth 20000 in
theorem kw_X5_copy_6 : Cond.static arraycopyName ∈ wsX5_copy := List.mem_of_getElem? (i := 7) rfl
set_option maxRecDepth 20000 in
theorem kw_X5_copy_7 : Cond.initialized "java/lang/System" ∈ wsX5_copy := List.mem_of_getElem? (i := 8) rfl
set_option maxRecDepth 20000 in
theorem hi_X5_copy_5 : ∀ w ∈ wsX50, w ∈ wsX5_copy := fun _ h => List.mem_cons_of_mem _ (List.mem_append_left _ (List.mem_append_right _ h))
set_option maxRecDepth 20000 in
theorem hi_X5_copy_2 : ∀ w ∈ wsX20, w ∈ wsX5_copy := fun _ h => List.mem_cons_of_mem _ (List.mem_append_right _ h)
set_option maxHeartbeats 4000000 in
set_option maxRecDepth 100000 in
theorem c_X5_copy_no (l : Launch) (X : gX) (h0 : Nat) (s1 : Nat) (w0 : Nat) (t0 : Nat) (k0 : Nat) (r0 : Nat) (rp : Nat) (sh1 : Nat) (sc : Int) (gf : Int) (gs : Int) (rc : Int) (tc : Int) (ft : Int) (shf : Nat → Option Nat) (sa : Nat) (sb : Nat) (so : Int) (la : Int) (ln : Int) (Fs : Nat → Int) (sa2 : Nat) (sb2 : Nat) (so2 : Int) (la2 : Int) (ln2 : Int) (Fs2 : Nat → Int) (k : Int) (i1 : Int) (k2 : Int) (j1 : Int) (m1 : Int) (hx : 0 ≤ k ∧ k < 4) (hsf : shf (Int.toNat k) = some sa) (hso : so = 0 ∨ so = 1) (hla : 0 ≤ la ∧ la ≤ 2) (hln : 0 ≤ ln ∧ ln ≤ 60) (hFs : ∀ i, inB (Fs i)) (hx2 : 0 ≤ k2 ∧ k2 < 4) (hsf2 : shf (Int.toNat k2) = some sa2) (hso2 : so2 = 0 ∨ so2 = 1) (hla2 : 0 ≤ la2 ∧ la2 ≤ 2) (hln2 : 0 ≤ ln2 ∧ ln2 ≤ 60) (hFs2 : ∀ i, inB (Fs2 i)) (hb_i1 : inB i1) (hb_j1 : inB j1) (hb_m1 : inB m1) (hok : ¬ (¬ so = 0 ∧ ¬ so2 = 0 ∧ la = la2 ∧ 0 ≤ m1 ∧ 0 ≤ i1 ∧ i1 + m1 ≤ ln ∧ 0 ≤ j1 ∧ j1 + m1 ≤ ln2)) : gM l yX5_copy wsX5_copy (gr 2 0 0) X [(h0, .inr (5, [.ref s1, .int (iI sc), .ref w0, .ref t0, .ref k0, .ref r0, .int (iI gf), .int (iI gs), .ref rp, .int (iI rc), .ref sh1, .int (iI tc), .int (iI ft)])), (sh1, .inl (X.2.1.2.2, 4, .inr (.inr (.inr (.inr shf))))), (sa, .inr (2, [.ref sb, .int (iI so), .int (iI la), .int (iI ln)])), (sb, .inl (X.2.1.1, 60, .inl (iF Fs))), (sa2, .inr (2, [.ref sb2, .int (iI so2), .int (iI la2), .int (iI ln2)])), (sb2, .inl (X.2.1.1, 60, .inl (iF Fs2)))] [.ref h0, .int (iI k), .int (iI i1), .int (iI k2), .int (iI j1), .int (iI m1)] (gQi X (Y := Unit) (fun _ => True) (fun _ => (if so = 0 ∨ so2 = 0 then -11 else if ¬ la = la2 then -12 else -13)) (fun _ => [(h0, .inr (5, [.ref s1, .int (iI sc), .ref w0, .ref t0, .ref k0, .ref r0, .int (iI gf), .int (iI gs), .ref rp, .int (iI rc), .ref sh1, .int (iI tc), .int (iI (if so = 0 ∨ so2 = 0 then 1 else if ¬ la = la2 then 2 else 3))])), (sh1, .inl (X.2.1.2.2, 4, .inr (.inr (.inr (.inr shf))))), (sa, .inr (2, [.ref sb, .int (iI so), .int (iI la), .int (iI ln)])), (sb, .inl (X.2.1.1, 60, .inl (iF Fs))), (sa2, .inr (2, [.ref sb2, .int (iI so2), .int (iI la2), .int (iI ln2)])), (sb2, .inl (X.2.1.1, 60, .inl (iF Fs2)))])) 0 0 := by
  refine g_start2 (lo := [(0, .ref h0), (1, .int (iI k)), (2, .int (iI i1)), (3, .int (iI k2)), (4, .int (iI j1)), (5, .int (iI m1))]) (by decide +kernel) rfl rfl (Nat.le_of_ble_eq_true rfl) (fun p e s m args below meth c A C => ?_)
  refine r_aload_n C dX5_copy_0 0 rfl ?_
  refine r_iconst C dX5_copy_1 ?_
  refine pf_5_12 (ws2 := [(h0, .inr (5, [.ref s1, .int (iI sc), .ref w0, .ref t0, .ref k0, .ref r0, .int (iI gf), .int (iI gs), .ref rp, .int (iI rc), .ref sh1, .int (iI tc), .int (iI 0)])), (sh1, .inl (X.2.1.2.2, 4, .inr (.inr (.inr (.inr shf))))), (sa, .inr (2, [.ref sb, .int (iI so), .int (iI la), .int (iI ln)])), (sb, .inl (X.2.1.1, 60, .inl (iF Fs))), (sa2, .inr (2, [.ref sb2, .int (iI so2), .int (iI la2), .int (iI ln2)])), (sb2, .inl (X.2.1.1, 60, .inl (iF Fs2)))]) C hi_X5_copy_5 kw_X5_copy_0 dX5_copy_2 0 rfl rfl rfl (Nat.le_of_ble_eq_true rfl) rfl ?_
  refine r_aload_n C dX5_copy_5 0 rfl ?_
  refine r_iload_n C dX5_copy_6 1 rfl ?_
  refine g_V_q (ws2 := (fun _ => [(h0, .inr (5, [.ref s1, .int (iI sc), .ref w0, .ref t0, .ref k0, .ref r0, .int (iI gf), .int (iI gs), .ref rp, .int (iI rc), .ref sh1, .int (iI tc), .int (iI 0)])), (sh1, .inl (X.2.1.2.2, 4, .inr (.inr (.inr (.inr shf))))), (sa, .inr (2, [.ref sb, .int (iI so), .int (iI la), .int (iI ln)])), (sb, .inl (X.2.1.1, 60, .inl (iF Fs))), (sa2, .inr (2, [.ref sb2, .int (iI so2), .int (iI la2), .int (iI ln2)])), (sb2, .inl (X.2.1.1, 60, .inl (iF Fs2)))])) (As := [.int (iI k)]) C (c_X5_sheetAt_in l X h0 s1 w0 t0 k0 r0 rp sh1 sc gf gs rc tc 0 shf sa k (by first | assumption | omega) (by first | assumption | omega)) gX5_copy_X5_sheetAt rfl rfl rfl hd_V_X5_sheetAt_X5_copy (by decide) dX5_copy_7 [0, 1] [2, 3, 4, 5] [4, 5, 0, 1, 2, 3] rfl rfl rfl rfl (by decide) rfl 0 5 rfl rfl rfl rfl (Nat.le_of_ble_eq_true rfl) (by decide) (fun _ => rfl) (fun _ hy_ => ?_)
  clear hy_
  refine r_astore (lo2 := [(6, .ref sa), (0, .ref h0), (1, .int (iI k)), (2, .int (iI i1)), (3, .int (iI k2)), (4, .int (iI j1)), (5, .int (iI m1))]) C dX5_copy_10 (by decide) rfl ?_
  refine r_aload_n C dX5_copy_12 1 rfl ?_
  refine r_iload_n C dX5_copy_13 4 rfl ?_
  refine g_V_q (ws2 := (fun _ => [(h0, .inr (5, [.ref s1, .int (iI sc), .ref w0, .ref t0, .ref k0, .ref r0, .int (iI gf), .int (iI gs), .ref rp, .int (iI rc), .ref sh1, .int (iI tc), .int (iI 0)])), (sh1, .inl (X.2.1.2.2, 4, .inr (.inr (.inr (.inr shf))))), (sa, .inr (2, [.ref sb, .int (iI so), .int (iI la), .int (iI ln)])), (sb, .inl (X.2.1.1, 60, .inl (iF Fs))), (sa2, .inr (2, [.ref sb2, .int (iI so2), .int (iI la2), .int (iI ln2)])), (sb2, .inl (X.2.1.1, 60, .inl (iF Fs2)))])) (As := [.int (iI k2)]) C (c_X5_sheetAt_in l X h0 s1 w0 t0 k0 r0 rp sh1 sc gf gs rc tc 0 shf sa2 k2 (by first | assumption | omega) hsf2) gX5_copy_X5_sheetAt rfl rfl rfl hd_V_X5_sheetAt_X5_copy (by decide) dX5_copy_14 [0, 1] [2, 3, 4, 5] [4, 5, 0, 1, 2, 3] rfl rfl rfl rfl (by decide) rfl 0 5 rfl rfl rfl rfl (Nat.le_of_ble_eq_true rfl) (by decide) (fun _ => rfl) (fun _ hy_ => ?_)
  clear hy_
  refine r_astore (lo2 := [(7, .ref sa2), (6, .ref sa), (0, .ref h0), (1, .int (iI k)), (2, .int (iI i1)), (3, .int (iI k2)), (4, .int (iI j1)), (5, .int (iI m1))]) C dX5_copy_17 (by decide) rfl ?_
  refine r_aload C dX5_copy_19 1 rfl ?_
  refine r_ifnull C dX5_copy_21 ?_
  refine r_aload C dX5_copy_24 0 rfl ?_
  refine r_ifnonnull (tgt := 31) C dX5_copy_26 (by decide) ?_
  refine r_aload C dX5_copy_31 1 rfl ?_
  refine gf_2_1 C hi_X5_copy_2 kw_X5_copy_1 dX5_copy_33 2 rfl rfl ?_
  refine r_if_eq (tgt := 47) C dX5_copy_36 (by decide) (by omega) (fun h_1 => ?_) (fun h_1 => ?_)
  · skip
    refine r_aload_n C dX5_copy_47 2 rfl ?_
    refine r_iconst C dX5_copy_48 ?_
    refine g_V_i (ws2 := (fun _ => [(h0, .inr (5, [.ref s1, .int (iI sc), .ref w0, .ref t0, .ref k0, .ref r0, .int (iI gf), .int (iI gs), .ref rp, .int (iI rc), .ref sh1, .int (iI tc), .int (iI 1)])), (sh1, .inl (X.2.1.2.2, 4, .inr (.inr (.inr (.inr shf))))), (sa, .inr (2, [.ref sb, .int (iI so), .int (iI la), .int (iI ln)])), (sb, .inl (X.2.1.1, 60, .inl (iF Fs))), (sa2, .inr (2, [.ref sb2, .int (iI so2), .int (iI la2), .int (iI ln2)])), (sb2, .inl (X.2.1.1, 60, .inl (iF Fs2)))])) (As := [.int (iI 1)]) C (c_X5_faulted l X h0 s1 w0 t0 k0 r0 rp sh1 sc gf gs rc tc 0 1 ) gX5_copy_X5_faulted rfl rfl rfl hd_V_X5_faulted_X5_copy (by decide) dX5_copy_49 [0] [1, 2, 3, 4, 5] [5, 0, 1, 2, 3, 4] rfl rfl rfl rfl (by decide) rfl 0 5 rfl rfl rfl rfl (Nat.le_of_ble_eq_true rfl) (by decide) (fun _ => rfl) (fun _ hy_ => ?_)
    clear hy_
    exact g_ret_i C rfl dX5_copy_52 () trivial (by (repeat' split) <;> first | rfl | omega) [0, 1, 2, 3, 4, 5] rfl (by (repeat' split) <;> first | rfl | omega)
  · skip
    refine r_aload C dX5_copy_39 0 rfl ?_
    refine gf_2_1 C hi_X5_copy_2 kw_X5_copy_1 dX5_copy_41 4 rfl rfl ?_
    refine r_if_ne (tgt := 53) C dX5_copy_44 (by decide) (by omega) (fun h_2 => ?_) (fun h_2 => ?_)
    · skip
      refine r_aload C dX5_copy_53 1 rfl ?_
      refine gf_2_2 C hi_X5_copy_2 kw_X5_copy_2 dX5_copy_55 2 rfl rfl ?_
      refine r_aload C dX5_copy_58 0 rfl ?_
      refine gf_2_2 C hi_X5_copy_2 kw_X5_copy_2 dX5_copy_60 4 rfl rfl ?_
      refine r_icmp_eq (tgt := 72) C dX5_copy_63 (by decide) (by omega) (by omega) (fun h_3 => ?_) (fun h_3 => ?_)
      · skip
        refine r_iload C dX5_copy_72 7 rfl ?_
        refine r_if_lt (tgt := 100) C dX5_copy_74 (by decide) (by omega) (fun h_4 => ?_) (fun h_4 => ?_)
        · skip
          refine r_aload_n C dX5_copy_100 2 rfl ?_
          refine r_iconst C dX5_copy_101 ?_
          refine g_V_i (ws2 := (fun _ => [(h0, .inr (5, [.ref s1, .int (iI sc), .ref w0, .ref t0, .ref k0, .ref r0, .int (iI gf), .int (iI gs), .ref rp, .int (iI rc), .ref sh1, .int (iI tc), .int (iI 3)])), (sh1, .inl (X.2.1.2.2, 4, .inr (.inr (.inr (.inr shf))))), (sa, .inr (2, [.ref sb, .int (iI so), .int (iI la), .int (iI ln)])), (sb, .inl (X.2.1.1, 60, .inl (iF Fs))), (sa2, .inr (2, [.ref sb2, .int (iI so2), .int (iI la2), .int (iI ln2)])), (sb2, .inl (X.2.1.1, 60, .inl (iF Fs2)))])) (As := [.int (iI 3)]) C (c_X5_faulted l X h0 s1 w0 t0 k0 r0 rp sh1 sc gf gs rc tc 0 3 ) gX5_copy_X5_faulted rfl rfl rfl hd_V_X5_faulted_X5_copy (by decide) dX5_copy_102 [0] [1, 2, 3, 4, 5] [5, 0, 1, 2, 3, 4] rfl rfl rfl rfl (by decide) rfl 0 5 rfl rfl rfl rfl (Nat.le_of_ble_eq_true rfl) (by decide) (fun _ => rfl) (fun _ hy_ => ?_)
          clear hy_
          exact g_ret_i C rfl dX5_copy_105 () trivial (by (repeat' split) <;> first | rfl | omega) [0, 1, 2, 3, 4, 5] rfl (by (repeat' split) <;> first | rfl | omega)
        · skip
          refine r_aload C dX5_copy_77 1 rfl ?_
          refine r_iload_n C dX5_copy_79 4 rfl ?_
          refine r_iload C dX5_copy_80 7 rfl ?_
          refine g_V_i (ws2 := (fun _ => [(h0, .inr (5, [.ref s1, .int (iI sc), .ref w0, .ref t0, .ref k0, .ref r0, .int (iI gf), .int (iI gs), .ref rp, .int (iI rc), .ref sh1, .int (iI tc), .int (iI 0)])), (sh1, .inl (X.2.1.2.2, 4, .inr (.inr (.inr (.inr shf))))), (sa, .inr (2, [.ref sb, .int (iI so), .int (iI la), .int (iI ln)])), (sb, .inl (X.2.1.1, 60, .inl (iF Fs))), (sa2, .inr (2, [.ref sb2, .int (iI so2), .int (iI la2), .int (iI ln2)])), (sb2, .inl (X.2.1.1, 60, .inl (iF Fs2)))])) (As := [.int (iI i1), .int (iI m1)]) C (c_X2_hasFrom l X sa sb so la ln Fs i1 m1 (by first | assumption | omega) (by first | assumption | omega) (by first | assumption | omega)) gX5_copy_X2_hasFrom rfl rfl rfl hd_V_X2_hasFrom_X5_copy (by decide) dX5_copy_82 [2, 3] [0, 1, 4, 5] [0, 1, 4, 5, 2, 3] rfl rfl rfl rfl (by decide) rfl 2 2 rfl rfl rfl rfl (Nat.le_of_ble_eq_true rfl) (by decide) (fun _ => rfl) (fun _ hy_ => ?_)
          clear hy_
          refine r_ite (fun h_5 => ?_) (fun h_5 => ?_)
          · skip
            refine r_if_eq (tgt := 100) C dX5_copy_85 (by decide) (by decide) (fun h_6 => absurd h_6 (by decide)) (fun h_6 => ?_)
            refine r_aload C dX5_copy_88 0 rfl ?_
            refine r_iload C dX5_copy_90 6 rfl ?_
            refine r_iload C dX5_copy_92 7 rfl ?_
            refine g_V_i (ws2 := (fun _ => [(h0, .inr (5, [.ref s1, .int (iI sc), .ref w0, .ref t0, .ref k0, .ref r0, .int (iI gf), .int (iI gs), .ref rp, .int (iI rc), .ref sh1, .int (iI tc), .int (iI 0)])), (sh1, .inl (X.2.1.2.2, 4, .inr (.inr (.inr (.inr shf))))), (sa, .inr (2, [.ref sb, .int (iI so), .int (iI la), .int (iI ln)])), (sb, .inl (X.2.1.1, 60, .inl (iF Fs))), (sa2, .inr (2, [.ref sb2, .int (iI so2), .int (iI la2), .int (iI ln2)])), (sb2, .inl (X.2.1.1, 60, .inl (iF Fs2)))])) (As := [.int (iI j1), .int (iI m1)]) C (c_X2_hasFrom l X sa2 sb2 so2 la2 ln2 Fs2 j1 m1 (by first | assumption | omega) (by first | assumption | omega) (by first | assumption | omega)) gX5_copy_X2_hasFrom rfl rfl rfl hd_V_X2_hasFrom_X5_copy (by decide) dX5_copy_94 [4, 5] [0, 1, 2, 3] [0, 1, 2, 3, 4, 5] rfl rfl rfl rfl (by decide) rfl 4 2 rfl rfl rfl rfl (Nat.le_of_ble_eq_true rfl) (by decide) (fun _ => rfl) (fun _ hy_ => ?_)
            clear hy_
            refine r_ite (fun h_7 => absurd h_7 (by omega)) (fun h_7 => ?_)
            refine r_if_ne (tgt := 106) C dX5_copy_97 (by decide) (by decide) (fun h_8 => ?_) (fun h_8 => ?_)
            · skip
              refine r_aload C dX5_copy_106 1 rfl ?_
              refine gf_2_0 C hi_X5_copy_2 kw_X5_copy_3 dX5_copy_108 2 rfl rfl ?_
              refine r_iload_n C dX5_copy_111 4 rfl ?_
              refine r_aload C dX5_copy_112 0 rfl ?_
              refine gf_2_0 C hi_X5_copy_2 kw_X5_copy_3 dX5_copy_114 4 rfl rfl ?_
              refine r_iload C dX5_copy_117 6 rfl ?_
              refine r_iload C dX5_copy_119 7 rfl ?_
              refine r_copyi (ws2 := [(h0, .inr (5, [.ref s1, .int (iI sc), .ref w0, .ref t0, .ref k0, .ref r0, .int (iI gf), .int (iI gs), .ref rp, .int (iI rc), .ref sh1, .int (iI tc), .int (iI 0)])), (sh1, .inl (X.2.1.2.2, 4, .inr (.inr (.inr (.inr shf))))), (sa, .inr (2, [.ref sb, .int (iI so), .int (iI la), .int (iI ln)])), (sb, .inl (X.2.1.1, 60, .inl (iF Fs))), (sa2, .inr (2, [.ref sb2, .int (iI so2), .int (iI la2), .int (iI ln2)])), (sb2, .inl (X.2.1.1, 60, .inl (iF (cpyI Fs Fs2 (Int.toNat i1) (Int.toNat j1) (Int.toNat m1)))))]) C kw_X5_copy_4 kw_X5_copy_5 kw_X5_copy_6 kw_X5_copy_7 dX5_copy_121 3 5 rfl rfl (by omega) (by decide) (Nat.le_of_ble_eq_true rfl) (Nat.le_of_ble_eq_true rfl) rfl ?_
              refine r_iload C dX5_copy_124 7 rfl ?_
              exact g_ret_i C rfl dX5_copy_126 () trivial (by (repeat' split) <;> first | rfl | omega) [0, 1, 2, 3, 4, 5] rfl (by (repeat' split) <;> first | rfl | omega)
            · skip
              refine r_aload_n C dX5_copy_100 2 rfl ?_
              refine r_iconst C dX5_copy_101 ?_
              refine g_V_i (ws2 := (fun _ => [(h0, .inr (5, [.ref s1, .int (iI sc), .ref w0, .ref t0, .ref k0, .ref r0, .int (iI gf), .int (iI gs), .ref rp, .int (iI rc), .ref sh1, .int (iI tc), .int (iI 3)])), (sh1, .inl (X.2.1.2.2, 4, .inr (.inr (.inr (.inr shf))))), (sa, .inr (2, [.ref sb, .int (iI so), .int (iI la), .int (iI ln)])), (sb, .inl (X.2.1.1, 60, .inl (iF Fs))), (sa2, .inr (2, [.ref sb2, .int (iI so2), .int (iI la2), .int (iI ln2)])), (sb2, .inl (X.2.1.1, 60, .inl (iF Fs2)))])) (As := [.int (iI 3)]) C (c_X5_faulted l X h0 s1 w0 t0 k0 r0 rp sh1 sc gf gs rc tc 0 3 ) gX5_copy_X5_faulted rfl rfl rfl hd_V_X5_faulted_X5_copy (by decide) dX5_copy_102 [0] [1, 2, 3, 4, 5] [5, 0, 1, 2, 3, 4] rfl rfl rfl rfl (by decide) rfl 0 5 rfl rfl rfl rfl (Nat.le_of_ble_eq_true rfl) (by decide) (fun _ => rfl) (fun _ hy_ => ?_)
              clear hy_
              exact g_ret_i C rfl dX5_copy_105 () trivial (by (repeat' split) <;> first | rfl | omega) [0, 1, 2, 3, 4, 5] rfl (by (repeat' split) <;> first | rfl | omega)
          · skip
            refine r_if_eq (tgt := 100) C dX5_copy_85 (by decide) (by decide) (fun h_9 => ?_) (fun h_9 => ?_)
            · skip
              refine r_aload_n C dX5_copy_100 2 rfl ?_
              refine r_iconst C dX5_copy_101 ?_
              refine g_V_i (ws2 := (fun _ => [(h0, .inr (5, [.ref s1, .int (iI sc), .ref w0, .ref t0, .ref k0, .ref r0, .int (iI gf), .int (iI gs), .ref rp, .int (iI rc), .ref sh1, .int (iI tc), .int (iI 3)])), (sh1, .inl (X.2.1.2.2, 4, .inr (.inr (.inr (.inr shf))))), (sa, .inr (2, [.ref sb, .int (iI so), .int (iI la), .int (iI ln)])), (sb, .inl (X.2.1.1, 60, .inl (iF Fs))), (sa2, .inr (2, [.ref sb2, .int (iI so2), .int (iI la2), .int (iI ln2)])), (sb2, .inl (X.2.1.1, 60, .inl (iF Fs2)))])) (As := [.int (iI 3)]) C (c_X5_faulted l X h0 s1 w0 t0 k0 r0 rp sh1 sc gf gs rc tc 0 3 ) gX5_copy_X5_faulted rfl rfl rfl hd_V_X5_faulted_X5_copy (by decide) dX5_copy_102 [0] [1, 2, 3, 4, 5] [5, 0, 1, 2, 3, 4] rfl rfl rfl rfl (by decide) rfl 0 5 rfl rfl rfl rfl (Nat.le_of_ble_eq_true rfl) (by decide) (fun _ => rfl) (fun _ hy_ => ?_)
              clear hy_
              exact g_ret_i C rfl dX5_copy_105 () trivial (by (repeat' split) <;> first | rfl | omega) [0, 1, 2, 3, 4, 5] rfl (by (repeat' split) <;> first | rfl | omega)
            · skip
              refine r_aload C dX5_copy_88 0 rfl ?_
              refine r_iload C dX5_copy_90 6 rfl ?_
              refine r_iload C dX5_copy_92 7 rfl ?_
              refine g_V_i (ws2 := (fun _ => [(h0, .inr (5, [.ref s1, .int (iI sc), .ref w0, .ref t0, .ref k0, .ref r0, .int (iI gf), .int (iI gs), .ref rp, .int (iI rc), .ref sh1, .int (iI tc), .int (iI 0)])), (sh1, .inl (X.2.1.2.2, 4, .inr (.inr (.inr (.inr shf))))), (sa, .inr (2, [.ref sb, .int (iI so), .int (iI la), .int (iI ln)])), (sb, .inl (X.2.1.1, 60, .inl (iF Fs))), (sa2, .inr (2, [.ref sb2, .int (iI so2), .int (iI la2), .int (iI ln2)])), (sb2, .inl (X.2.1.1, 60, .inl (iF Fs2)))])) (As := [.int (iI j1), .int (iI m1)]) C (c_X2_hasFrom l X sa2 sb2 so2 la2 ln2 Fs2 j1 m1 (by first | assumption | omega) (by first | assumption | omega) (by first | assumption | omega)) gX5_copy_X2_hasFrom rfl rfl rfl hd_V_X2_hasFrom_X5_copy (by decide) dX5_copy_94 [4, 5] [0, 1, 2, 3] [0, 1, 2, 3, 4, 5] rfl rfl rfl rfl (by decide) rfl 4 2 rfl rfl rfl rfl (Nat.le_of_ble_eq_true rfl) (by decide) (fun _ => rfl) (fun _ hy_ => ?_)
              clear hy_
              refine r_ite (fun h_10 => ?_) (fun h_10 => ?_)
              · skip
                refine r_if_ne (tgt := 106) C dX5_copy_97 (by decide) (by decide) (fun h_11 => ?_) (fun h_11 => absurd h_11 (by decide))
                refine r_aload C dX5_copy_106 1 rfl ?_
                refine gf_2_0 C hi_X5_copy_2 kw_X5_copy_3 dX5_copy_108 2 rfl rfl ?_
                refine r_iload_n C dX5_copy_111 4 rfl ?_
                refine r_aload C dX5_copy_112 0 rfl ?_
                refine gf_2_0 C hi_X5_copy_2 kw_X5_copy_3 dX5_copy_114 4 rfl rfl ?_
                refine r_iload C dX5_copy_117 6 rfl ?_
                refine r_iload C dX5_copy_119 7 rfl ?_
                refine r_copyi (ws2 := [(h0, .inr (5, [.ref s1, .int (iI sc), .ref w0, .ref t0, .ref k0, .ref r0, .int (iI gf), .int (iI gs), .ref rp, .int (iI rc), .ref sh1, .int (iI tc), .int (iI 0)])), (sh1, .inl (X.2.1.2.2, 4, .inr (.inr (.inr (.inr shf))))), (sa, .inr (2, [.ref sb, .int (iI so), .int (iI la), .int (iI ln)])), (sb, .inl (X.2.1.1, 60, .inl (iF Fs))), (sa2, .inr (2, [.ref sb2, .int (iI so2), .int (iI la2), .int (iI ln2)])), (sb2, .inl (X.2.1.1, 60, .inl (iF (cpyI Fs Fs2 (Int.toNat i1) (Int.toNat j1) (Int.toNat m1)))))]) C kw_X5_copy_4 kw_X5_copy_5 kw_X5_copy_6 kw_X5_copy_7 dX5_copy_121 3 5 rfl rfl (by omega) (by decide) (Nat.le_of_ble_eq_true rfl) (Nat.le_of_ble_eq_true rfl) rfl ?_
                refine r_iload C dX5_copy_124 7 rfl ?_
                exact g_ret_i C rfl dX5_copy_126 () trivial (by (repeat' split) <;> first | rfl | omega) [0, 1, 2, 3, 4, 5] rfl (by (repeat' split) <;> first | rfl | omega)
              · skip
                refine r_if_ne (tgt := 106) C dX5_copy_97 (by decide) (by decide) (fun h_12 => ?_) (fun h_12 => ?_)
                · skip
                  refine r_aload C dX5_copy_106 1 rfl ?_
                  refine gf_2_0 C hi_X5_copy_2 kw_X5_copy_3 dX5_copy_108 2 rfl rfl ?_
                  refine r_iload_n C dX5_copy_111 4 rfl ?_
                  refine r_aload C dX5_copy_112 0 rfl ?_
                  refine gf_2_0 C hi_X5_copy_2 kw_X5_copy_3 dX5_copy_114 4 rfl rfl ?_
                  refine r_iload C dX5_copy_117 6 rfl ?_
                  refine r_iload C dX5_copy_119 7 rfl ?_
                  refine r_copyi (ws2 := [(h0, .inr (5, [.ref s1, .int (iI sc), .ref w0, .ref t0, .ref k0, .ref r0, .int (iI gf), .int (iI gs), .ref rp, .int (iI rc), .ref sh1, .int (iI tc), .int (iI 0)])), (sh1, .inl (X.2.1.2.2, 4, .inr (.inr (.inr (.inr shf))))), (sa, .inr (2, [.ref sb, .int (iI so), .int (iI la), .int (iI ln)])), (sb, .inl (X.2.1.1, 60, .inl (iF Fs))), (sa2, .inr (2, [.ref sb2, .int (iI so2), .int (iI la2), .int (iI ln2)])), (sb2, .inl (X.2.1.1, 60, .inl (iF (cpyI Fs Fs2 (Int.toNat i1) (Int.toNat j1) (Int.toNat m1)))))]) C kw_X5_copy_4 kw_X5_copy_5 kw_X5_copy_6 kw_X5_copy_7 dX5_copy_121 3 5 rfl rfl (by omega) (by decide) (Nat.le_of_ble_eq_true rfl) (Nat.le_of_ble_eq_true rfl) rfl ?_
                  refine r_iload C dX5_copy_124 7 rfl ?_
                  exact g_ret_i C rfl dX5_copy_126 () trivial (by (repeat' split) <;> first | rfl | omega) [0, 1, 2, 3, 4, 5] rfl (by (repeat' split) <;> first | rfl | omega)
                · skip
                  refine r_aload_n C dX5_copy_100 2 rfl ?_
                  refine r_iconst C dX5_copy_101 ?_
                  refine g_V_i (ws2 := (fun _ => [(h0, .inr (5, [.ref s1, .int (iI sc), .ref w0, .ref t0, .ref k0, .ref r0, .int (iI gf), .int (iI gs), .ref rp, .int (iI rc), .ref sh1, .int (iI tc), .int (iI 3)])), (sh1, .inl (X.2.1.2.2, 4, .inr (.inr (.inr (.inr shf))))), (sa, .inr (2, [.ref sb, .int (iI so), .int (iI la), .int (iI ln)])), (sb, .inl (X.2.1.1, 60, .inl (iF Fs))), (sa2, .inr (2, [.ref sb2, .int (iI so2), .int (iI la2), .int (iI ln2)])), (sb2, .inl (X.2.1.1, 60, .inl (iF Fs2)))])) (As := [.int (iI 3)]) C (c_X5_faulted l X h0 s1 w0 t0 k0 r0 rp sh1 sc gf gs rc tc 0 3 ) gX5_copy_X5_faulted rfl rfl rfl hd_V_X5_faulted_X5_copy (by decide) dX5_copy_102 [0] [1, 2, 3, 4, 5] [5, 0, 1, 2, 3, 4] rfl rfl rfl rfl (by decide) rfl 0 5 rfl rfl rfl rfl (Nat.le_of_ble_eq_true rfl) (by decide) (fun _ => rfl) (fun _ hy_ => ?_)
                  clear hy_
                  exact g_ret_i C rfl dX5_copy_105 () trivial (by (repeat' split) <;> first | rfl | omega) [0, 1, 2, 3, 4, 5] rfl (by (repeat' split) <;> first | rfl | omega)
      · skip
        refine r_aload_n C dX5_copy_66 2 rfl ?_
        refine r_iconst C dX5_copy_67 ?_
        refine g_V_i (ws2 := (fun _ => [(h0, .inr (5, [.ref s1, .int (iI sc), .ref w0, .ref t0, .ref k0, .ref r0, .int (iI gf), .int (iI gs), .ref rp, .int (iI rc), .ref sh1, .int (iI tc), .int (iI 2)])), (sh1, .inl (X.2.1.2.2, 4, .inr (.inr (.inr (.inr shf))))), (sa, .inr (2, [.ref sb, .int (iI so), .int (iI la), .int (iI ln)])), (sb, .inl (X.2.1.1, 60, .inl (iF Fs))), (sa2, .inr (2, [.ref sb2, .int (iI so2), .int (iI la2), .int (iI ln2)])), (sb2, .inl (X.2.1.1, 60, .inl (iF Fs2)))])) (As := [.int (iI 2)]) C (c_X5_faulted l X h0 s1 w0 t0 k0 r0 rp sh1 sc gf gs rc tc 0 2 ) gX5_copy_X5_faulted rfl rfl rfl hd_V_X5_faulted_X5_copy (by decide) dX5_copy_68 [0] [1, 2, 3, 4, 5] [5, 0, 1, 2, 3, 4] rfl rfl rfl rfl (by decide) rfl 0 5 rfl rfl rfl rfl (Nat.le_of_ble_eq_true rfl) (by decide) (fun _ => rfl) (fun _ hy_ => ?_)
        clear hy_
        exact g_ret_i C rfl dX5_copy_71 () trivial (by (repeat' split) <;> first | rfl | omega) [0, 1, 2, 3, 4, 5] rfl (by (repeat' split) <;> first | rfl | omega)
    · skip
      refine r_aload_n C dX5_copy_47 2 rfl ?_
      refine r_iconst C dX5_copy_48 ?_
      refine g_V_i (ws2 := (fun _ => [(h0, .inr (5, [.ref s1, .int (iI sc), .ref w0, .ref t0, .ref k0, .ref r0, .int (iI gf), .int (iI gs), .ref rp, .int (iI rc), .ref sh1, .int (iI tc), .int (iI 1)])), (sh1, .inl (X.2.1.2.2, 4, .inr (.inr (.inr (.inr shf))))), (sa, .inr (2, [.ref sb, .int (iI so), .int (iI la), .int (iI ln)])), (sb, .inl (X.2.1.1, 60, .inl (iF Fs))), (sa2, .inr (2, [.ref sb2, .int (iI so2), .int (iI la2), .int (iI ln2)])), (sb2, .inl (X.2.1.1, 60, .inl (iF Fs2)))])) (As := [.int (iI 1)]) C (c_X5_faulted l X h0 s1 w0 t0 k0 r0 rp sh1 sc gf gs rc tc 0 1 ) gX5_copy_X5_faulted rfl rfl rfl hd_V_X5_faulted_X5_copy (by decide) dX5_copy_49 [0] [1, 2, 3, 4, 5] [5, 0, 1, 2, 3, 4] rfl rfl rfl rfl (by decide) rfl 0 5 rfl rfl rfl rfl (Nat.le_of_ble_eq_true rfl) (by decide) (fun _ => rfl) (fun _ hy_ => ?_)
      clear hy_
      exact g_ret_i C rfl dX5_copy_52 () trivial (by (repeat' split) <;> first | rfl | omega) [0, 1, 2, 3, 4, 5] rfl (by (repeat' split) <;> first | rfl | omega)

set_option maxHeartbeats 4000000 in
set_option maxRecDepth 100000 in
theorem c_X5_copy_ok (l : Launch) (X : gX) (h0 : Nat) (s1 : Nat) (w0 : Nat) (t0 : Nat) (k0 : Nat) (r0 : Nat) (rp : Nat) (sh1 : Nat) (sc : Int) (gf : Int) (gs : Int) (rc : Int) (tc : Int) (ft : Int) (shf : Nat → Option Nat) (sa : Nat) (sb : Nat) (so : Int) (la : Int) (ln : Int) (Fs : Nat → Int) (sa2 : Nat) (sb2 : Nat) (so2 : Int) (la2 : Int) (ln2 : Int) (Fs2 : Nat → Int) (k : Int) (i1 : Int) (k2 : Int) (j1 : Int) (m1 : Int) (hx : 0 ≤ k ∧ k < 4) (hsf : shf (Int.toNat k) = some sa) (hso : so = 0 ∨ so = 1) (hla : 0 ≤ la ∧ la ≤ 2) (hln : 0 ≤ ln ∧ ln ≤ 60) (hFs : ∀ i, inB (Fs i)) (hx2 : 0 ≤ k2 ∧ k2 < 4) (hsf2 : shf (Int.toNat k2) = some sa2) (hso2 : so2 = 0 ∨ so2 = 1) (hla2 : 0 ≤ la2 ∧ la2 ≤ 2) (hln2 : 0 ≤ ln2 ∧ ln2 ≤ 60) (hFs2 : ∀ i, inB (Fs2 i)) (hb_i1 : inB i1) (hb_j1 : inB j1) (hb_m1 : inB m1) (hok : ¬ so = 0 ∧ ¬ so2 = 0 ∧ la = la2 ∧ 0 ≤ m1 ∧ 0 ≤ i1 ∧ i1 + m1 ≤ ln ∧ 0 ≤ j1 ∧ j1 + m1 ≤ ln2) : gM l yX5_copy wsX5_copy (gr 2 0 0) X [(h0, .inr (5, [.ref s1, .int (iI sc), .ref w0, .ref t0, .ref k0, .ref r0, .int (iI gf), .int (iI gs), .ref rp, .int (iI rc), .ref sh1, .int (iI tc), .int (iI ft)])), (sh1, .inl (X.2.1.2.2, 4, .inr (.inr (.inr (.inr shf))))), (sa, .inr (2, [.ref sb, .int (iI so), .int (iI la), .int (iI ln)])), (sb, .inl (X.2.1.1, 60, .inl (iF Fs))), (sa2, .inr (2, [.ref sb2, .int (iI so2), .int (iI la2), .int (iI ln2)])), (sb2, .inl (X.2.1.1, 60, .inl (iF Fs2)))] [.ref h0, .int (iI k), .int (iI i1), .int (iI k2), .int (iI j1), .int (iI m1)] (gQi X (Y := Unit) (fun _ => True) (fun _ => m1) (fun _ => [(h0, .inr (5, [.ref s1, .int (iI sc), .ref w0, .ref t0, .ref k0, .ref r0, .int (iI gf), .int (iI gs), .ref rp, .int (iI rc), .ref sh1, .int (iI tc), .int (iI 0)])), (sh1, .inl (X.2.1.2.2, 4, .inr (.inr (.inr (.inr shf))))), (sa, .inr (2, [.ref sb, .int (iI so), .int (iI la), .int (iI ln)])), (sb, .inl (X.2.1.1, 60, .inl (iF Fs))), (sa2, .inr (2, [.ref sb2, .int (iI so2), .int (iI la2), .int (iI ln2)])), (sb2, .inl (X.2.1.1, 60, .inl (iF (cpyI Fs Fs2 (Int.toNat i1) (Int.toNat j1) (Int.toNat m1)))))])) 0 0 := by
  refine g_start2 (lo := [(0, .ref h0), (1, .int (iI k)), (2, .int (iI i1)), (3, .int (iI k2)), (4, .int (iI j1)), (5, .int (iI m1))]) (by decide +kernel) rfl rfl (Nat.le_of_ble_eq_true rfl) (fun p e s m args below meth c A C => ?_)
  refine r_aload_n C dX5_copy_0 0 rfl ?_
  refine r_iconst C dX5_copy_1 ?_
  refine pf_5_12 (ws2 := [(h0, .inr (5, [.ref s1, .int (iI sc), .ref w0, .ref t0, .ref k0, .ref r0, .int (iI gf), .int (iI gs), .ref rp, .int (iI rc), .ref sh1, .int (iI tc), .int (iI 0)])), (sh1, .inl (X.2.1.2.2, 4, .inr (.inr (.inr (.inr shf))))), (sa, .inr (2, [.ref sb, .int (iI so), .int (iI la), .int (iI ln)])), (sb, .inl (X.2.1.1, 60, .inl (iF Fs))), (sa2, .inr (2, [.ref sb2, .int (iI so2), .int (iI la2), .int (iI ln2)])), (sb2, .inl (X.2.1.1, 60, .inl (iF Fs2)))]) C hi_X5_copy_5 kw_X5_copy_0 dX5_copy_2 0 rfl rfl rfl (Nat.le_of_ble_eq_true rfl) rfl ?_
  refine r_aload_n C dX5_copy_5 0 rfl ?_
  refine r_iload_n C dX5_copy_6 1 rfl ?_
  refine g_V_q (ws2 := (fun _ => [(h0, .inr (5, [.ref s1, .int (iI sc), .ref w0, .ref t0, .ref k0, .ref r0, .int (iI gf), .int (iI gs), .ref rp, .int (iI rc), .ref sh1, .int (iI tc), .int (iI 0)])), (sh1, .inl (X.2.1.2.2, 4, .inr (.inr (.inr (.inr shf))))), (sa, .inr (2, [.ref sb, .int (iI so), .int (iI la), .int (iI ln)])), (sb, .inl (X.2.1.1, 60, .inl (iF Fs))), (sa2, .inr (2, [.ref sb2, .int (iI so2), .int (iI la2), .int (iI ln2)])), (sb2, .inl (X.2.1.1, 60, .inl (iF Fs2)))])) (As := [.int (iI k)]) C (c_X5_sheetAt_in l X h0 s1 w0 t0 k0 r0 rp sh1 sc gf gs rc tc 0 shf sa k (by first | assumption | omega) (by first | assumption | omega)) gX5_copy_X5_sheetAt rfl rfl rfl hd_V_X5_sheetAt_X5_copy (by decide) dX5_copy_7 [0, 1] [2, 3, 4, 5] [4, 5, 0, 1, 2, 3] rfl rfl rfl rfl (by decide) rfl 0 5 rfl rfl rfl rfl (Nat.le_of_ble_eq_true rfl) (by decide) (fun _ => rfl) (fun _ hy_ => ?_)
  clear hy_
  refine r_astore (lo2 := [(6, .ref sa), (0, .ref h0), (1, .int (iI k)), (2, .int (iI i1)), (3, .int (iI k2)), (4, .int (iI j1)), (5, .int (iI m1))]) C dX5_copy_10 (by decide) rfl ?_
  refine r_aload_n C dX5_copy_12 1 rfl ?_
  refine r_iload_n C dX5_copy_13 4 rfl ?_
  refine g_V_q (ws2 := (fun _ => [(h0, .inr (5, [.ref s1, .int (iI sc), .ref w0, .ref t0, .ref k0, .ref r0, .int (iI gf), .int (iI gs), .ref rp, .int (iI rc), .ref sh1, .int (iI tc), .int (iI 0)])), (sh1, .inl (X.2.1.2.2, 4, .inr (.inr (.inr (.inr shf))))), (sa, .inr (2, [.ref sb, .int (iI so), .int (iI la), .int (iI ln)])), (sb, .inl (X.2.1.1, 60, .inl (iF Fs))), (sa2, .inr (2, [.ref sb2, .int (iI so2), .int (iI la2), .int (iI ln2)])), (sb2, .inl (X.2.1.1, 60, .inl (iF Fs2)))])) (As := [.int (iI k2)]) C (c_X5_sheetAt_in l X h0 s1 w0 t0 k0 r0 rp sh1 sc gf gs rc tc 0 shf sa2 k2 (by first | assumption | omega) hsf2) gX5_copy_X5_sheetAt rfl rfl rfl hd_V_X5_sheetAt_X5_copy (by decide) dX5_copy_14 [0, 1] [2, 3, 4, 5] [4, 5, 0, 1, 2, 3] rfl rfl rfl rfl (by decide) rfl 0 5 rfl rfl rfl rfl (Nat.le_of_ble_eq_true rfl) (by decide) (fun _ => rfl) (fun _ hy_ => ?_)
  clear hy_
  refine r_astore (lo2 := [(7, .ref sa2), (6, .ref sa), (0, .ref h0), (1, .int (iI k)), (2, .int (iI i1)), (3, .int (iI k2)), (4, .int (iI j1)), (5, .int (iI m1))]) C dX5_copy_17 (by decide) rfl ?_
  refine r_aload C dX5_copy_19 1 rfl ?_
  refine r_ifnull C dX5_copy_21 ?_
  refine r_aload C dX5_copy_24 0 rfl ?_
  refine r_ifnonnull (tgt := 31) C dX5_copy_26 (by decide) ?_
  refine r_aload C dX5_copy_31 1 rfl ?_
  refine gf_2_1 C hi_X5_copy_2 kw_X5_copy_1 dX5_copy_33 2 rfl rfl ?_
  refine r_if_eq (tgt := 47) C dX5_copy_36 (by decide) (by omega) (fun h_1 => absurd h_1 (by omega)) (fun h_1 => ?_)
  refine r_aload C dX5_copy_39 0 rfl ?_
  refine gf_2_1 C hi_X5_copy_2 kw_X5_copy_1 dX5_copy_41 4 rfl rfl ?_
  refine r_if_ne (tgt := 53) C dX5_copy_44 (by decide) (by omega) (fun h_2 => ?_) (fun h_2 => absurd h_2 (by omega))
  refine r_aload C dX5_copy_53 1 rfl ?_
  refine gf_2_2 C hi_X5_copy_2 kw_X5_copy_2 dX5_copy_55 2 rfl rfl ?_
  refine r_aload C dX5_copy_58 0 rfl ?_
  refine gf_2_2 C hi_X5_copy_2 kw_X5_copy_2 dX5_copy_60 4 rfl rfl ?_
  refine r_icmp_eq (tgt := 72) C dX5_copy_63 (by decide) (by omega) (by omega) (fun h_3 => ?_) (fun h_3 => absurd h_3 (by omega))
  refine r_iload C dX5_copy_72 7 rfl ?_
  refine r_if_lt (tgt := 100) C dX5_copy_74 (by decide) (by omega) (fun h_4 => absurd h_4 (by omega)) (fun h_4 => ?_)
  refine r_aload C dX5_copy_77 1 rfl ?_
  refine r_iload_n C dX5_copy_79 4 rfl ?_
  refine r_iload C dX5_copy_80 7 rfl ?_
  refine g_V_i (ws2 := (fun _ => [(h0, .inr (5, [.ref s1, .int (iI sc), .ref w0, .ref t0, .ref k0, .ref r0, .int (iI gf), .int (iI gs), .ref rp, .int (iI rc), .ref sh1, .int (iI tc), .int (iI 0)])), (sh1, .inl (X.2.1.2.2, 4, .inr (.inr (.inr (.inr shf))))), (sa, .inr (2, [.ref sb, .int (iI so), .int (iI la), .int (iI ln)])), (sb, .inl (X.2.1.1, 60, .inl (iF Fs))), (sa2, .inr (2, [.ref sb2, .int (iI so2), .int (iI la2), .int (iI ln2)])), (sb2, .inl (X.2.1.1, 60, .inl (iF Fs2)))])) (As := [.int (iI i1), .int (iI m1)]) C (c_X2_hasFrom l X sa sb so la ln Fs i1 m1 (by first | assumption | omega) (by first | assumption | omega) (by first | assumption | omega)) gX5_copy_X2_hasFrom rfl rfl rfl hd_V_X2_hasFrom_X5_copy (by decide) dX5_copy_82 [2, 3] [0, 1, 4, 5] [0, 1, 4, 5, 2, 3] rfl rfl rfl rfl (by decide) rfl 2 2 rfl rfl rfl rfl (Nat.le_of_ble_eq_true rfl) (by decide) (fun _ => rfl) (fun _ hy_ => ?_)
  clear hy_
  refine r_ite (fun h_5 => ?_) (fun h_5 => absurd h_5 (by omega))
  refine r_if_eq (tgt := 100) C dX5_copy_85 (by decide) (by decide) (fun h_6 => absurd h_6 (by decide)) (fun h_6 => ?_)
  refine r_aload C dX5_copy_88 0 rfl ?_
  refine r_iload C dX5_copy_90 6 rfl ?_
  refine r_iload C dX5_copy_92 7 rfl ?_
  refine g_V_i (ws2 := (fun _ => [(h0, .inr (5, [.ref s1, .int (iI sc), .ref w0, .ref t0, .ref k0, .ref r0, .int (iI gf), .int (iI gs), .ref rp, .int (iI rc), .ref sh1, .int (iI tc), .int (iI 0)])), (sh1, .inl (X.2.1.2.2, 4, .inr (.inr (.inr (.inr shf))))), (sa, .inr (2, [.ref sb, .int (iI so), .int (iI la), .int (iI ln)])), (sb, .inl (X.2.1.1, 60, .inl (iF Fs))), (sa2, .inr (2, [.ref sb2, .int (iI so2), .int (iI la2), .int (iI ln2)])), (sb2, .inl (X.2.1.1, 60, .inl (iF Fs2)))])) (As := [.int (iI j1), .int (iI m1)]) C (c_X2_hasFrom l X sa2 sb2 so2 la2 ln2 Fs2 j1 m1 (by first | assumption | omega) (by first | assumption | omega) (by first | assumption | omega)) gX5_copy_X2_hasFrom rfl rfl rfl hd_V_X2_hasFrom_X5_copy (by decide) dX5_copy_94 [4, 5] [0, 1, 2, 3] [0, 1, 2, 3, 4, 5] rfl rfl rfl rfl (by decide) rfl 4 2 rfl rfl rfl rfl (Nat.le_of_ble_eq_true rfl) (by decide) (fun _ => rfl) (fun _ hy_ => ?_)
  clear hy_
  refine r_ite (fun h_7 => ?_) (fun h_7 => ?_)
  · skip
    refine r_if_ne (tgt := 106) C dX5_copy_97 (by decide) (by decide) (fun h_8 => ?_) (fun h_8 => absurd h_8 (by decide))
    refine r_aload C dX5_copy_106 1 rfl ?_
    refine gf_2_0 C hi_X5_copy_2 kw_X5_copy_3 dX5_copy_108 2 rfl rfl ?_
    refine r_iload_n C dX5_copy_111 4 rfl ?_
    refine r_aload C dX5_copy_112 0 rfl ?_
    refine gf_2_0 C hi_X5_copy_2 kw_X5_copy_3 dX5_copy_114 4 rfl rfl ?_
    refine r_iload C dX5_copy_117 6 rfl ?_
    refine r_iload C dX5_copy_119 7 rfl ?_
    refine r_copyi (ws2 := [(h0, .inr (5, [.ref s1, .int (iI sc), .ref w0, .ref t0, .ref k0, .ref r0, .int (iI gf), .int (iI gs), .ref rp, .int (iI rc), .ref sh1, .int (iI tc), .int (iI 0)])), (sh1, .inl (X.2.1.2.2, 4, .inr (.inr (.inr (.inr shf))))), (sa, .inr (2, [.ref sb, .int (iI so), .int (iI la), .int (iI ln)])), (sb, .inl (X.2.1.1, 60, .inl (iF Fs))), (sa2, .inr (2, [.ref sb2, .int (iI so2), .int (iI la2), .int (iI ln2)])), (sb2, .inl (X.2.1.1, 60, .inl (iF (cpyI Fs Fs2 (Int.toNat i1) (Int.toNat j1) (Int.toNat m1)))))]) C kw_X5_copy_4 kw_X5_copy_5 kw_X5_copy_6 kw_X5_copy_7 dX5_copy_121 3 5 rfl rfl (by omega) (by decide) (Nat.le_of_ble_eq_true rfl) (Nat.le_of_ble_eq_true rfl) rfl ?_
    refine r_iload C dX5_copy_124 7 rfl ?_
    exact g_ret_i C rfl dX5_copy_126 () trivial (by (repeat' split) <;> first | rfl | omega) [0, 1, 2, 3, 4, 5] rfl (by (repeat' split) <;> first | rfl | omega)
  · skip
    refine r_if_ne (tgt := 106) C dX5_copy_97 (by decide) (by decide) (fun h_9 => absurd h_9 (by decide)) (fun h_9 => ?_)
    refine r_aload_n C dX5_copy_100 2 rfl ?_
    refine r_iconst C dX5_copy_101 ?_
    refine g_V_i (ws2 := (fun _ => [(h0, .inr (5, [.ref s1, .int (iI sc), .ref w0, .ref t0, .ref k0, .ref r0, .int (iI gf), .int (iI gs), .ref rp, .int (iI rc), .ref sh1, .int (iI tc), .int (iI 3)])), (sh1, .inl (X.2.1.2.2, 4, .inr (.inr (.inr (.inr shf))))), (sa, .inr (2, [.ref sb, .int (iI so), .int (iI la), .int (iI ln)])), (sb, .inl (X.2.1.1, 60, .inl (iF Fs))), (sa2, .inr (2, [.ref sb2, .int (iI so2), .int (iI la2), .int (iI ln2)])), (sb2, .inl (X.2.1.1, 60, .inl (iF Fs2)))])) (As := [.int (iI 3)]) C (c_X5_faulted l X h0 s1 w0 t0 k0 r0 rp sh1 sc gf gs rc tc 0 3 ) gX5_copy_X5_faulted rfl rfl rfl hd_V_X5_faulted_X5_copy (by decide) dX5_copy_102 [0] [1, 2, 3, 4, 5] [5, 0, 1, 2, 3, 4] rfl rfl rfl rfl (by decide) rfl 0 5 rfl rfl rfl rfl (Nat.le_of_ble_eq_true rfl) (by decide) (fun _ => rfl) (fun _ hy_ => ?_)
    clear hy_
    exact g_ret_i C rfl dX5_copy_105 () trivial (by (repeat' split) <;> first | rfl | omega) [0, 1, 2, 3, 4, 5] rfl (by (repeat' split) <;> first | rfl | omega)

set_option maxHeartbeats 4000000 in
set_option maxRecDepth 100000 in
theorem c_X5_copy_sno (l : Launch) (X : gX) (h0 : Nat) (s1 : Nat) (w0 : Nat) (t0 : Nat) (k0 : Nat) (r0 : Nat) (rp : Nat) (sh1 : Nat) (sc : Int) (gf : Int) (gs : Int) (rc : Int) (tc : Int) (ft : Int) (shf : Nat → Option Nat) (sa : Nat) (sb : Nat) (so : Int) (la : Int) (ln : Int) (Fs : Nat → Int) (k : Int) (i1 : Int) (k2 : Int) (j1 : Int) (m1 : Int) (hx : 0 ≤ k ∧ k < 4) (hsf : shf (Int.toNat k) = some sa) (hso : so = 0 ∨ so = 1) (hla : 0 ≤ la ∧ la ≤ 2) (hln : 0 ≤ ln ∧ ln ≤ 60) (hFs : ∀ i, inB (Fs i)) (hx2 : 0 ≤ k2 ∧ k2 < 4) (hsf2 : shf (Int.toNat k2) = some sa) (hb_i1 : inB i1) (hb_j1 : inB j1) (hb_m1 : inB m1) (hok : ¬ (¬ so = 0 ∧ ¬ so = 0 ∧ la = la ∧ 0 ≤ m1 ∧ 0 ≤ i1 ∧ i1 + m1 ≤ ln ∧ 0 ≤ j1 ∧ j1 + m1 ≤ ln)) : gM l yX5_copy wsX5_copy (gr 2 0 0) X [(h0, .inr (5, [.ref s1, .int (iI sc), .ref w0, .ref t0, .ref k0, .ref r0, .int (iI gf), .int (iI gs), .ref rp, .int (iI rc), .ref sh1, .int (iI tc), .int (iI ft)])), (sh1, .inl (X.2.1.2.2, 4, .inr (.inr (.inr (.inr shf))))), (sa, .inr (2, [.ref sb, .int (iI so), .int (iI la), .int (iI ln)])), (sb, .inl (X.2.1.1, 60, .inl (iF Fs)))] [.ref h0, .int (iI k), .int (iI i1), .int (iI k2), .int (iI j1), .int (iI m1)] (gQi X (Y := Unit) (fun _ => True) (fun _ => (if so = 0 then -11 else -13)) (fun _ => [(h0, .inr (5, [.ref s1, .int (iI sc), .ref w0, .ref t0, .ref k0, .ref r0, .int (iI gf), .int (iI gs), .ref rp, .int (iI rc), .ref sh1, .int (iI tc), .int (iI (if so = 0 then 1 else 3))])), (sh1, .inl (X.2.1.2.2, 4, .inr (.inr (.inr (.inr shf))))), (sa, .inr (2, [.ref sb, .int (iI so), .int (iI la), .int (iI ln)])), (sb, .inl (X.2.1.1, 60, .inl (iF Fs)))])) 0 0 := by
  refine g_start2 (lo := [(0, .ref h0), (1, .int (iI k)), (2, .int (iI i1)), (3, .int (iI k2)), (4, .int (iI j1)), (5, .int (iI m1))]) (by decide +kernel) rfl rfl (Nat.le_of_ble_eq_true rfl) (fun p e s m args below meth c A C => ?_)
  refine r_aload_n C dX5_copy_0 0 rfl ?_
  refine r_iconst C dX5_copy_1 ?_
  refine pf_5_12 (ws2 := [(h0, .inr (5, [.ref s1, .int (iI sc), .ref w0, .ref t0, .ref k0, .ref r0, .int (iI gf), .int (iI gs), .ref rp, .int (iI rc), .ref sh1, .int (iI tc), .int (iI 0)])), (sh1, .inl (X.2.1.2.2, 4, .inr (.inr (.inr (.inr shf))))), (sa, .inr (2, [.ref sb, .int (iI so), .int (iI la), .int (iI ln)])), (sb, .inl (X.2.1.1, 60, .inl (iF Fs)))]) C hi_X5_copy_5 kw_X5_copy_0 dX5_copy_2 0 rfl rfl rfl (Nat.le_of_ble_eq_true rfl) rfl ?_
  refine r_aload_n C dX5_copy_5 0 rfl ?_
  refine r_iload_n C dX5_copy_6 1 rfl ?_
  refine g_V_q (ws2 := (fun _ => [(h0, .inr (5, [.ref s1, .int (iI sc), .ref w0, .ref t0, .ref k0, .ref r0, .int (iI gf), .int (iI gs), .ref rp, .int (iI rc), .ref sh1, .int (iI tc), .int (iI 0)])), (sh1, .inl (X.2.1.2.2, 4, .inr (.inr (.inr (.inr shf))))), (sa, .inr (2, [.ref sb, .int (iI so), .int (iI la), .int (iI ln)])), (sb, .inl (X.2.1.1, 60, .inl (iF Fs)))])) (As := [.int (iI k)]) C (c_X5_sheetAt_in l X h0 s1 w0 t0 k0 r0 rp sh1 sc gf gs rc tc 0 shf sa k (by first | assumption | omega) (by first | assumption | omega)) gX5_copy_X5_sheetAt rfl rfl rfl hd_V_X5_sheetAt_X5_copy (by decide) dX5_copy_7 [0, 1] [2, 3] [2, 3, 0, 1] rfl rfl rfl rfl (by decide) rfl 0 5 rfl rfl rfl rfl (Nat.le_of_ble_eq_true rfl) (by decide) (fun _ => rfl) (fun _ hy_ => ?_)
  clear hy_
  refine r_astore (lo2 := [(6, .ref sa), (0, .ref h0), (1, .int (iI k)), (2, .int (iI i1)), (3, .int (iI k2)), (4, .int (iI j1)), (5, .int (iI m1))]) C dX5_copy_10 (by decide) rfl ?_
  refine r_aload_n C dX5_copy_12 1 rfl ?_
  refine r_iload_n C dX5_copy_13 4 rfl ?_
  refine g_V_q (ws2 := (fun _ => [(h0, .inr (5, [.ref s1, .int (iI sc), .ref w0, .ref t0, .ref k0, .ref r0, .int (iI gf), .int (iI gs), .ref rp, .int (iI rc), .ref sh1, .int (iI tc), .int (iI 0)])), (sh1, .inl (X.2.1.2.2, 4, .inr (.inr (.inr (.inr shf))))), (sa, .inr (2, [.ref sb, .int (iI so), .int (iI la), .int (iI ln)])), (sb, .inl (X.2.1.1, 60, .inl (iF Fs)))])) (As := [.int (iI k2)]) C (c_X5_sheetAt_in l X h0 s1 w0 t0 k0 r0 rp sh1 sc gf gs rc tc 0 shf sa k2 (by first | assumption | omega) hsf2) gX5_copy_X5_sheetAt rfl rfl rfl hd_V_X5_sheetAt_X5_copy (by decide) dX5_copy_14 [0, 1] [2, 3] [2, 3, 0, 1] rfl rfl rfl rfl (by decide) rfl 0 5 rfl rfl rfl rfl (Nat.le_of_ble_eq_true rfl) (by decide) (fun _ => rfl) (fun _ hy_ => ?_)
  clear hy_
  refine r_astore (lo2 := [(7, .ref sa), (6, .ref sa), (0, .ref h0), (1, .int (iI k)), (2, .int (iI i1)), (3, .int (iI k2)), (4, .int (iI j1)), (5, .int (iI m1))]) C dX5_copy_17 (by decide) rfl ?_
  refine r_aload C dX5_copy_19 1 rfl ?_
  refine r_ifnull C dX5_copy_21 ?_
  refine r_aload C dX5_copy_24 0 rfl ?_
  refine r_ifnonnull (tgt := 31) C dX5_copy_26 (by decide) ?_
  refine r_aload C dX5_copy_31 1 rfl ?_
  refine gf_2_1 C hi_X5_copy_2 kw_X5_copy_1 dX5_copy_33 2 rfl rfl ?_
  refine r_if_eq (tgt := 47) C dX5_copy_36 (by decide) (by omega) (fun h_1 => ?_) (fun h_1 => ?_)
  · skip
    refine r_aload_n C dX5_copy_47 2 rfl ?_
    refine r_iconst C dX5_copy_48 ?_
    refine g_V_i (ws2 := (fun _ => [(h0, .inr (5, [.ref s1, .int (iI sc), .ref w0, .ref t0, .ref k0, .ref r0, .int (iI gf), .int (iI gs), .ref rp, .int (iI rc), .ref sh1, .int (iI tc), .int (iI 1)])), (sh1, .inl (X.2.1.2.2, 4, .inr (.inr (.inr (.inr shf))))), (sa, .inr (2, [.ref sb, .int (iI so), .int (iI la), .int (iI ln)])), (sb, .inl (X.2.1.1, 60, .inl (iF Fs)))])) (As := [.int (iI 1)]) C (c_X5_faulted l X h0 s1 w0 t0 k0 r0 rp sh1 sc gf gs rc tc 0 1 ) gX5_copy_X5_faulted rfl rfl rfl hd_V_X5_faulted_X5_copy (by decide) dX5_copy_49 [0] [1, 2, 3] [3, 0, 1, 2] rfl rfl rfl rfl (by decide) rfl 0 5 rfl rfl rfl rfl (Nat.le_of_ble_eq_true rfl) (by decide) (fun _ => rfl) (fun _ hy_ => ?_)
    clear hy_
    exact g_ret_i C rfl dX5_copy_52 () trivial (by (repeat' split) <;> first | rfl | omega) [0, 1, 2, 3] rfl (by (repeat' split) <;> first | rfl | omega)
  · skip
    refine r_aload C dX5_copy_39 0 rfl ?_
    refine gf_2_1 C hi_X5_copy_2 kw_X5_copy_1 dX5_copy_41 2 rfl rfl ?_
    refine r_if_ne (tgt := 53) C dX5_copy_44 (by decide) (by omega) (fun h_2 => ?_) (fun h_2 => absurd h_2 (by omega))
    refine r_aload C dX5_copy_53 1 rfl ?_
    refine gf_2_2 C hi_X5_copy_2 kw_X5_copy_2 dX5_copy_55 2 rfl rfl ?_
    refine r_aload C dX5_copy_58 0 rfl ?_
    refine gf_2_2 C hi_X5_copy_2 kw_X5_copy_2 dX5_copy_60 2 rfl rfl ?_
    refine r_icmp_eq (tgt := 72) C dX5_copy_63 (by decide) (by omega) (by omega) (fun h_3 => ?_) (fun h_3 => absurd h_3 (by omega))
    refine r_iload C dX5_copy_72 7 rfl ?_
    refine r_if_lt (tgt := 100) C dX5_copy_74 (by decide) (by omega) (fun h_4 => ?_) (fun h_4 => ?_)
    · skip
      refine r_aload_n C dX5_copy_100 2 rfl ?_
      refine r_iconst C dX5_copy_101 ?_
      refine g_V_i (ws2 := (fun _ => [(h0, .inr (5, [.ref s1, .int (iI sc), .ref w0, .ref t0, .ref k0, .ref r0, .int (iI gf), .int (iI gs), .ref rp, .int (iI rc), .ref sh1, .int (iI tc), .int (iI 3)])), (sh1, .inl (X.2.1.2.2, 4, .inr (.inr (.inr (.inr shf))))), (sa, .inr (2, [.ref sb, .int (iI so), .int (iI la), .int (iI ln)])), (sb, .inl (X.2.1.1, 60, .inl (iF Fs)))])) (As := [.int (iI 3)]) C (c_X5_faulted l X h0 s1 w0 t0 k0 r0 rp sh1 sc gf gs rc tc 0 3 ) gX5_copy_X5_faulted rfl rfl rfl hd_V_X5_faulted_X5_copy (by decide) dX5_copy_102 [0] [1, 2, 3] [3, 0, 1, 2] rfl rfl rfl rfl (by decide) rfl 0 5 rfl rfl rfl rfl (Nat.le_of_ble_eq_true rfl) (by decide) (fun _ => rfl) (fun _ hy_ => ?_)
      clear hy_
      exact g_ret_i C rfl dX5_copy_105 () trivial (by (repeat' split) <;> first | rfl | omega) [0, 1, 2, 3] rfl (by (repeat' split) <;> first | rfl | omega)
    · skip
      refine r_aload C dX5_copy_77 1 rfl ?_
      refine r_iload_n C dX5_copy_79 4 rfl ?_
      refine r_iload C dX5_copy_80 7 rfl ?_
      refine g_V_i (ws2 := (fun _ => [(h0, .inr (5, [.ref s1, .int (iI sc), .ref w0, .ref t0, .ref k0, .ref r0, .int (iI gf), .int (iI gs), .ref rp, .int (iI rc), .ref sh1, .int (iI tc), .int (iI 0)])), (sh1, .inl (X.2.1.2.2, 4, .inr (.inr (.inr (.inr shf))))), (sa, .inr (2, [.ref sb, .int (iI so), .int (iI la), .int (iI ln)])), (sb, .inl (X.2.1.1, 60, .inl (iF Fs)))])) (As := [.int (iI i1), .int (iI m1)]) C (c_X2_hasFrom l X sa sb so la ln Fs i1 m1 (by first | assumption | omega) (by first | assumption | omega) (by first | assumption | omega)) gX5_copy_X2_hasFrom rfl rfl rfl hd_V_X2_hasFrom_X5_copy (by decide) dX5_copy_82 [2, 3] [0, 1] [0, 1, 2, 3] rfl rfl rfl rfl (by decide) rfl 2 2 rfl rfl rfl rfl (Nat.le_of_ble_eq_true rfl) (by decide) (fun _ => rfl) (fun _ hy_ => ?_)
      clear hy_
      refine r_ite (fun h_5 => ?_) (fun h_5 => ?_)
      · skip
        refine r_if_eq (tgt := 100) C dX5_copy_85 (by decide) (by decide) (fun h_6 => absurd h_6 (by decide)) (fun h_6 => ?_)
        refine r_aload C dX5_copy_88 0 rfl ?_
        refine r_iload C dX5_copy_90 6 rfl ?_
        refine r_iload C dX5_copy_92 7 rfl ?_
        refine g_V_i (ws2 := (fun _ => [(h0, .inr (5, [.ref s1, .int (iI sc), .ref w0, .ref t0, .ref k0, .ref r0, .int (iI gf), .int (iI gs), .ref rp, .int (iI rc), .ref sh1, .int (iI tc), .int (iI 0)])), (sh1, .inl (X.2.1.2.2, 4, .inr (.inr (.inr (.inr shf))))), (sa, .inr (2, [.ref sb, .int (iI so), .int (iI la), .int (iI ln)])), (sb, .inl (X.2.1.1, 60, .inl (iF Fs)))])) (As := [.int (iI j1), .int (iI m1)]) C (c_X2_hasFrom l X sa sb so la ln Fs j1 m1 (by first | assumption | omega) (by first | assumption | omega) (by first | assumption | omega)) gX5_copy_X2_hasFrom rfl rfl rfl hd_V_X2_hasFrom_X5_copy (by decide) dX5_copy_94 [2, 3] [0, 1] [0, 1, 2, 3] rfl rfl rfl rfl (by decide) rfl 2 2 rfl rfl rfl rfl (Nat.le_of_ble_eq_true rfl) (by decide) (fun _ => rfl) (fun _ hy_ => ?_)
        clear hy_
        refine r_ite (fun h_7 => absurd h_7 (by omega)) (fun h_7 => ?_)
        refine r_if_ne (tgt := 106) C dX5_copy_97 (by decide) (by decide) (fun h_8 => ?_) (fun h_8 => ?_)
        · skip
          refine r_aload C dX5_copy_106 1 rfl ?_
          refine gf_2_0 C hi_X5_copy_2 kw_X5_copy_3 dX5_copy_108 2 rfl rfl ?_
          refine r_iload_n C dX5_copy_111 4 rfl ?_
          refine r_aload C dX5_copy_112 0 rfl ?_
          refine gf_2_0 C hi_X5_copy_2 kw_X5_copy_3 dX5_copy_114 2 rfl rfl ?_
          refine r_iload C dX5_copy_117 6 rfl ?_
          refine r_iload C dX5_copy_119 7 rfl ?_
          refine r_copyi (ws2 := [(h0, .inr (5, [.ref s1, .int (iI sc), .ref w0, .ref t0, .ref k0, .ref r0, .int (iI gf), .int (iI gs), .ref rp, .int (iI rc), .ref sh1, .int (iI tc), .int (iI 0)])), (sh1, .inl (X.2.1.2.2, 4, .inr (.inr (.inr (.inr shf))))), (sa, .inr (2, [.ref sb, .int (iI so), .int (iI la), .int (iI ln)])), (sb, .inl (X.2.1.1, 60, .inl (iF (cpyI Fs Fs (Int.toNat i1) (Int.toNat j1) (Int.toNat m1)))))]) C kw_X5_copy_4 kw_X5_copy_5 kw_X5_copy_6 kw_X5_copy_7 dX5_copy_121 3 3 rfl rfl (by omega) (by decide) (Nat.le_of_ble_eq_true rfl) (Nat.le_of_ble_eq_true rfl) rfl ?_
          refine r_iload C dX5_copy_124 7 rfl ?_
          exact g_ret_i C rfl dX5_copy_126 () trivial (by (repeat' split) <;> first | rfl | omega) [0, 1, 2, 3] rfl (by (repeat' split) <;> first | rfl | omega)
        · skip
          refine r_aload_n C dX5_copy_100 2 rfl ?_
          refine r_iconst C dX5_copy_101 ?_
          refine g_V_i (ws2 := (fun _ => [(h0, .inr (5, [.ref s1, .int (iI sc), .ref w0, .ref t0, .ref k0, .ref r0, .int (iI gf), .int (iI gs), .ref rp, .int (iI rc), .ref sh1, .int (iI tc), .int (iI 3)])), (sh1, .inl (X.2.1.2.2, 4, .inr (.inr (.inr (.inr shf))))), (sa, .inr (2, [.ref sb, .int (iI so), .int (iI la), .int (iI ln)])), (sb, .inl (X.2.1.1, 60, .inl (iF Fs)))])) (As := [.int (iI 3)]) C (c_X5_faulted l X h0 s1 w0 t0 k0 r0 rp sh1 sc gf gs rc tc 0 3 ) gX5_copy_X5_faulted rfl rfl rfl hd_V_X5_faulted_X5_copy (by decide) dX5_copy_102 [0] [1, 2, 3] [3, 0, 1, 2] rfl rfl rfl rfl (by decide) rfl 0 5 rfl rfl rfl rfl (Nat.le_of_ble_eq_true rfl) (by decide) (fun _ => rfl) (fun _ hy_ => ?_)
          clear hy_
          exact g_ret_i C rfl dX5_copy_105 () trivial (by (repeat' split) <;> first | rfl | omega) [0, 1, 2, 3] rfl (by (repeat' split) <;> first | rfl | omega)
      · skip
        refine r_if_eq (tgt := 100) C dX5_copy_85 (by decide) (by decide) (fun h_9 => ?_) (fun h_9 => ?_)
        · skip
          refine r_aload_n C dX5_copy_100 2 rfl ?_
          refine r_iconst C dX5_copy_101 ?_
          refine g_V_i (ws2 := (fun _ => [(h0, .inr (5, [.ref s1, .int (iI sc), .ref w0, .ref t0, .ref k0, .ref r0, .int (iI gf), .int (iI gs), .ref rp, .int (iI rc), .ref sh1, .int (iI tc), .int (iI 3)])), (sh1, .inl (X.2.1.2.2, 4, .inr (.inr (.inr (.inr shf))))), (sa, .inr (2, [.ref sb, .int (iI so), .int (iI la), .int (iI ln)])), (sb, .inl (X.2.1.1, 60, .inl (iF Fs)))])) (As := [.int (iI 3)]) C (c_X5_faulted l X h0 s1 w0 t0 k0 r0 rp sh1 sc gf gs rc tc 0 3 ) gX5_copy_X5_faulted rfl rfl rfl hd_V_X5_faulted_X5_copy (by decide) dX5_copy_102 [0] [1, 2, 3] [3, 0, 1, 2] rfl rfl rfl rfl (by decide) rfl 0 5 rfl rfl rfl rfl (Nat.le_of_ble_eq_true rfl) (by decide) (fun _ => rfl) (fun _ hy_ => ?_)
          clear hy_
          exact g_ret_i C rfl dX5_copy_105 () trivial (by (repeat' split) <;> first | rfl | omega) [0, 1, 2, 3] rfl (by (repeat' split) <;> first | rfl | omega)
        · skip
          refine r_aload C dX5_copy_88 0 rfl ?_
          refine r_iload C dX5_copy_90 6 rfl ?_
          refine r_iload C dX5_copy_92 7 rfl ?_
          refine g_V_i (ws2 := (fun _ => [(h0, .inr (5, [.ref s1, .int (iI sc), .ref w0, .ref t0, .ref k0, .ref r0, .int (iI gf), .int (iI gs), .ref rp, .int (iI rc), .ref sh1, .int (iI tc), .int (iI 0)])), (sh1, .inl (X.2.1.2.2, 4, .inr (.inr (.inr (.inr shf))))), (sa, .inr (2, [.ref sb, .int (iI so), .int (iI la), .int (iI ln)])), (sb, .inl (X.2.1.1, 60, .inl (iF Fs)))])) (As := [.int (iI j1), .int (iI m1)]) C (c_X2_hasFrom l X sa sb so la ln Fs j1 m1 (by first | assumption | omega) (by first | assumption | omega) (by first | assumption | omega)) gX5_copy_X2_hasFrom rfl rfl rfl hd_V_X2_hasFrom_X5_copy (by decide) dX5_copy_94 [2, 3] [0, 1] [0, 1, 2, 3] rfl rfl rfl rfl (by decide) rfl 2 2 rfl rfl rfl rfl (Nat.le_of_ble_eq_true rfl) (by decide) (fun _ => rfl) (fun _ hy_ => ?_)
          clear hy_
          refine r_ite (fun h_10 => ?_) (fun h_10 => ?_)
          · skip
            refine r_if_ne (tgt := 106) C dX5_copy_97 (by decide) (by decide) (fun h_11 => ?_) (fun h_11 => absurd h_11 (by decide))
            refine r_aload C dX5_copy_106 1 rfl ?_
            refine gf_2_0 C hi_X5_copy_2 kw_X5_copy_3 dX5_copy_108 2 rfl rfl ?_
            refine r_iload_n C dX5_copy_111 4 rfl ?_
            refine r_aload C dX5_copy_112 0 rfl ?_
            refine gf_2_0 C hi_X5_copy_2 kw_X5_copy_3 dX5_copy_114 2 rfl rfl ?_
            refine r_iload C dX5_copy_117 6 rfl ?_
            refine r_iload C dX5_copy_119 7 rfl ?_
            refine r_copyi (ws2 := [(h0, .inr (5, [.ref s1, .int (iI sc), .ref w0, .ref t0, .ref k0, .ref r0, .int (iI gf), .int (iI gs), .ref rp, .int (iI rc), .ref sh1, .int (iI tc), .int (iI 0)])), (sh1, .inl (X.2.1.2.2, 4, .inr (.inr (.inr (.inr shf))))), (sa, .inr (2, [.ref sb, .int (iI so), .int (iI la), .int (iI ln)])), (sb, .inl (X.2.1.1, 60, .inl (iF (cpyI Fs Fs (Int.toNat i1) (Int.toNat j1) (Int.toNat m1)))))]) C kw_X5_copy_4 kw_X5_copy_5 kw_X5_copy_6 kw_X5_copy_7 dX5_copy_121 3 3 rfl rfl (by omega) (by decide) (Nat.le_of_ble_eq_true rfl) (Nat.le_of_ble_eq_true rfl) rfl ?_
            refine r_iload C dX5_copy_124 7 rfl ?_
            exact g_ret_i C rfl dX5_copy_126 () trivial (by (repeat' split) <;> first | rfl | omega) [0, 1, 2, 3] rfl (by (repeat' split) <;> first | rfl | omega)
          · skip
            refine r_if_ne (tgt := 106) C dX5_copy_97 (by decide) (by decide) (fun h_12 => ?_) (fun h_12 => ?_)
            · skip
              refine r_aload C dX5_copy_106 1 rfl ?_
              refine gf_2_0 C hi_X5_copy_2 kw_X5_copy_3 dX5_copy_108 2 rfl rfl ?_
              refine r_iload_n C dX5_copy_111 4 rfl ?_
              refine r_aload C dX5_copy_112 0 rfl ?_
              refine gf_2_0 C hi_X5_copy_2 kw_X5_copy_3 dX5_copy_114 2 rfl rfl ?_
              refine r_iload C dX5_copy_117 6 rfl ?_
              refine r_iload C dX5_copy_119 7 rfl ?_
              refine r_copyi (ws2 := [(h0, .inr (5, [.ref s1, .int (iI sc), .ref w0, .ref t0, .ref k0, .ref r0, .int (iI gf), .int (iI gs), .ref rp, .int (iI rc), .ref sh1, .int (iI tc), .int (iI 0)])), (sh1, .inl (X.2.1.2.2, 4, .inr (.inr (.inr (.inr shf))))), (sa, .inr (2, [.ref sb, .int (iI so), .int (iI la), .int (iI ln)])), (sb, .inl (X.2.1.1, 60, .inl (iF (cpyI Fs Fs (Int.toNat i1) (Int.toNat j1) (Int.toNat m1)))))]) C kw_X5_copy_4 kw_X5_copy_5 kw_X5_copy_6 kw_X5_copy_7 dX5_copy_121 3 3 rfl rfl (by omega) (by decide) (Nat.le_of_ble_eq_true rfl) (Nat.le_of_ble_eq_true rfl) rfl ?_
              refine r_iload C dX5_copy_124 7 rfl ?_
              exact g_ret_i C rfl dX5_copy_126 () trivial (by (repeat' split) <;> first | rfl | omega) [0, 1, 2, 3] rfl (by (repeat' split) <;> first | rfl | omega)
            · skip
              refine r_aload_n C dX5_copy_100 2 rfl ?_
              refine r_iconst C dX5_copy_101 ?_
              refine g_V_i (ws2 := (fun _ => [(h0, .inr (5, [.ref s1, .int (iI sc), .ref w0, .ref t0, .ref k0, .ref r0, .int (iI gf), .int (iI gs), .ref rp, .int (iI rc), .ref sh1, .int (iI tc), .int (iI 3)])), (sh1, .inl (X.2.1.2.2, 4, .inr (.inr (.inr (.inr shf))))), (sa, .inr (2, [.ref sb, .int (iI so), .int (iI la), .int (iI ln)])), (sb, .inl (X.2.1.1, 60, .inl (iF Fs)))])) (As := [.int (iI 3)]) C (c_X5_faulted l X h0 s1 w0 t0 k0 r0 rp sh1 sc gf gs rc tc 0 3 ) gX5_copy_X5_faulted rfl rfl rfl hd_V_X5_faulted_X5_copy (by decide) dX5_copy_102 [0] [1, 2, 3] [3, 0, 1, 2] rfl rfl rfl rfl (by decide) rfl 0 5 rfl rfl rfl rfl (Nat.le_of_ble_eq_true rfl) (by decide) (fun _ => rfl) (fun _ hy_ => ?_)
              clear hy_
              exact g_ret_i C rfl dX5_copy_105 () trivial (by (repeat' split) <;> first | rfl | omega) [0, 1, 2, 3] rfl (by (repeat' split) <;> first | rfl | omega)

set_option maxHeartbeats 4000000 in
set_option maxRecDepth 100000 in
theorem c_X5_copy_sok (l : Launch) (X : gX) (h0 : Nat) (s1 : Nat) (w0 : Nat) (t0 : Nat) (k0 : Nat) (r0 : Nat) (rp : Nat) (sh1 : Nat) (sc : Int) (gf : Int) (gs : Int) (rc : Int) (tc : Int) (ft : Int) (shf : Nat → Option Nat) (sa : Nat) (sb : Nat) (so : Int) (la : Int) (ln : Int) (Fs : Nat → Int) (k : Int) (i1 : Int) (k2 : Int) (j1 : Int) (m1 : Int) (hx : 0 ≤ k ∧ k < 4) (hsf : shf (Int.toNat k) = some sa) (hso : so = 0 ∨ so = 1) (hla : 0 ≤ la ∧ la ≤ 2) (hln : 0 ≤ ln ∧ ln ≤ 60) (hFs : ∀ i, inB (Fs i)) (hx2 : 0 ≤ k2 ∧ k2 < 4) (hsf2 : shf (Int.toNat k2) = some sa) (hb_i1 : inB i1) (hb_j1 : inB j1) (hb_m1 : inB m1) (hok : ¬ so = 0 ∧ ¬ so = 0 ∧ la = la ∧ 0 ≤ m1 ∧ 0 ≤ i1 ∧ i1 + m1 ≤ ln ∧ 0 ≤ j1 ∧ j1 + m1 ≤ ln) : gM l yX5_copy wsX5_copy (gr 2 0 0) X [(h0, .inr (5, [.ref s1, .int (iI sc), .ref w0, .ref t0, .ref k0, .ref r0, .int (iI gf), .int (iI gs), .ref rp, .int (iI rc), .ref sh1, .int (iI tc), .int (iI ft)])), (sh1, .inl (X.2.1.2.2, 4, .inr (.inr (.inr (.inr shf))))), (sa, .inr (2, [.ref sb, .int (iI so), .int (iI la), .int (iI ln)])), (sb, .inl (X.2.1.1, 60, .inl (iF Fs)))] [.ref h0, .int (iI k), .int (iI i1), .int (iI k2), .int (iI j1), .int (iI m1)] (gQi X (Y := Unit) (fun _ => True) (fun _ => m1) (fun _ => [(h0, .inr (5, [.ref s1, .int (iI sc), .ref w0, .ref t0, .ref k0, .ref r0, .int (iI gf), .int (iI gs), .ref rp, .int (iI rc), .ref sh1, .int (iI tc), .int (iI 0)])), (sh1, .inl (X.2.1.2.2, 4, .inr (.inr (.inr (.inr shf))))), (sa, .inr (2, [.ref sb, .int (iI so), .int (iI la), .int (iI ln)])), (sb, .inl (X.2.1.1, 60, .inl (iF (cpyI Fs Fs (Int.toNat i1) (Int.toNat j1) (Int.toNat m1)))))])) 0 0 := by
  refine g_start2 (lo := [(0, .ref h0), (1, .int (iI k)), (2, .int (iI i1)), (3, .int (iI k2)), (4, .int (iI j1)), (5, .int (iI m1))]) (by decide +kernel) rfl rfl (Nat.le_of_ble_eq_true rfl) (fun p e s m args below meth c A C => ?_)
  refine r_aload_n C dX5_copy_0 0 rfl ?_
  refine r_iconst C dX5_copy_1 ?_
  refine pf_5_12 (ws2 := [(h0, .inr (5, [.ref s1, .int (iI sc), .ref w0, .ref t0, .ref k0, .ref r0, .int (iI gf), .int (iI gs), .ref rp, .int (iI rc), .ref sh1, .int (iI tc), .int (iI 0)])), (sh1, .inl (X.2.1.2.2, 4, .inr (.inr (.inr (.inr shf))))), (sa, .inr (2, [.ref sb, .int (iI so), .int (iI la), .int (iI ln)])), (sb, .inl (X.2.1.1, 60, .inl (iF Fs)))]) C hi_X5_copy_5 kw_X5_copy_0 dX5_copy_2 0 rfl rfl rfl (Nat.le_of_ble_eq_true rfl) rfl ?_
  refine r_aload_n C dX5_copy_5 0 rfl ?_
  refine r_iload_n C dX5_copy_6 1 rfl ?_
  refine g_V_q (ws2 := (fun _ => [(h0, .inr (5, [.ref s1, .int (iI sc), .ref w0, .ref t0, .ref k0, .ref r0, .int (iI gf), .int (iI gs), .ref rp, .int (iI rc), .ref sh1, .int (iI tc), .int (iI 0)])), (sh1, .inl (X.2.1.2.2, 4, .inr (.inr (.inr (.inr shf))))), (sa, .inr (2, [.ref sb, .int (iI so), .int (iI la), .int (iI ln)])), (sb, .inl (X.2.1.1, 60, .inl (iF Fs)))])) (As := [.int (iI k)]) C (c_X5_sheetAt_in l X h0 s1 w0 t0 k0 r0 rp sh1 sc gf gs rc tc 0 shf sa k (by first | assumption | omega) (by first | assumption | omega)) gX5_copy_X5_sheetAt rfl rfl rfl hd_V_X5_sheetAt_X5_copy (by decide) dX5_copy_7 [0, 1] [2, 3] [2, 3, 0, 1] rfl rfl rfl rfl (by decide) rfl 0 5 rfl rfl rfl rfl (Nat.le_of_ble_eq_true rfl) (by decide) (fun _ => rfl) (fun _ hy_ => ?_)
  clear hy_
  refine r_astore (lo2 := [(6, .ref sa), (0, .ref h0), (1, .int (iI k)), (2, .int (iI i1)), (3, .int (iI k2)), (4, .int (iI j1)), (5, .int (iI m1))]) C dX5_copy_10 (by decide) rfl ?_
  refine r_aload_n C dX5_copy_12 1 rfl ?_
  refine r_iload_n C dX5_copy_13 4 rfl ?_
  refine g_V_q (ws2 := (fun _ => [(h0, .inr (5, [.ref s1, .int (iI sc), .ref w0, .ref t0, .ref k0, .ref r0, .int (iI gf), .int (iI gs), .ref rp, .int (iI rc), .ref sh1, .int (iI tc), .int (iI 0)])), (sh1, .inl (X.2.1.2.2, 4, .inr (.inr (.inr (.inr shf))))), (sa, .inr (2, [.ref sb, .int (iI so), .int (iI la), .int (iI ln)])), (sb, .inl (X.2.1.1, 60, .inl (iF Fs)))])) (As := [.int (iI k2)]) C (c_X5_sheetAt_in l X h0 s1 w0 t0 k0 r0 rp sh1 sc gf gs rc tc 0 shf sa k2 (by first | assumption | omega) hsf2) gX5_copy_X5_sheetAt rfl rfl rfl hd_V_X5_sheetAt_X5_copy (by decide) dX5_copy_14 [0, 1] [2, 3] [2, 3, 0, 1] rfl rfl rfl rfl (by decide) rfl 0 5 rfl rfl rfl rfl (Nat.le_of_ble_eq_true rfl) (by decide) (fun _ => rfl) (fun _ hy_ => ?_)
  clear hy_
  refine r_astore (lo2 := [(7, .ref sa), (6, .ref sa), (0, .ref h0), (1, .int (iI k)), (2, .int (iI i1)), (3, .int (iI k2)), (4, .int (iI j1)), (5, .int (iI m1))]) C dX5_copy_17 (by decide) rfl ?_
  refine r_aload C dX5_copy_19 1 rfl ?_
  refine r_ifnull C dX5_copy_21 ?_
  refine r_aload C dX5_copy_24 0 rfl ?_
  refine r_ifnonnull (tgt := 31) C dX5_copy_26 (by decide) ?_
  refine r_aload C dX5_copy_31 1 rfl ?_
  refine gf_2_1 C hi_X5_copy_2 kw_X5_copy_1 dX5_copy_33 2 rfl rfl ?_
  refine r_if_eq (tgt := 47) C dX5_copy_36 (by decide) (by omega) (fun h_1 => absurd h_1 (by omega)) (fun h_1 => ?_)
  refine r_aload C dX5_copy_39 0 rfl ?_
  refine gf_2_1 C hi_X5_copy_2 kw_X5_copy_1 dX5_copy_41 2 rfl rfl ?_
  refine r_if_ne (tgt := 53) C dX5_copy_44 (by decide) (by omega) (fun h_2 => ?_) (fun h_2 => absurd h_2 (by omega))
  refine r_aload C dX5_copy_53 1 rfl ?_
  refine gf_2_2 C hi_X5_copy_2 kw_X5_copy_2 dX5_copy_55 2 rfl rfl ?_
  refine r_aload C dX5_copy_58 0 rfl ?_
  refine gf_2_2 C hi_X5_copy_2 kw_X5_copy_2 dX5_copy_60 2 rfl rfl ?_
  refine r_icmp_eq (tgt := 72) C dX5_copy_63 (by decide) (by omega) (by omega) (fun h_3 => ?_) (fun h_3 => absurd h_3 (by omega))
  refine r_iload C dX5_copy_72 7 rfl ?_
  refine r_if_lt (tgt := 100) C dX5_copy_74 (by decide) (by omega) (fun h_4 => absurd h_4 (by omega)) (fun h_4 => ?_)
  refine r_aload C dX5_copy_77 1 rfl ?_
  refine r_iload_n C dX5_copy_79 4 rfl ?_
  refine r_iload C dX5_copy_80 7 rfl ?_
  refine g_V_i (ws2 := (fun _ => [(h0, .inr (5, [.ref s1, .int (iI sc), .ref w0, .ref t0, .ref k0, .ref r0, .int (iI gf), .int (iI gs), .ref rp, .int (iI rc), .ref sh1, .int (iI tc), .int (iI 0)])), (sh1, .inl (X.2.1.2.2, 4, .inr (.inr (.inr (.inr shf))))), (sa, .inr (2, [.ref sb, .int (iI so), .int (iI la), .int (iI ln)])), (sb, .inl (X.2.1.1, 60, .inl (iF Fs)))])) (As := [.int (iI i1), .int (iI m1)]) C (c_X2_hasFrom l X sa sb so la ln Fs i1 m1 (by first | assumption | omega) (by first | assumption | omega) (by first | assumption | omega)) gX5_copy_X2_hasFrom rfl rfl rfl hd_V_X2_hasFrom_X5_copy (by decide) dX5_copy_82 [2, 3] [0, 1] [0, 1, 2, 3] rfl rfl rfl rfl (by decide) rfl 2 2 rfl rfl rfl rfl (Nat.le_of_ble_eq_true rfl) (by decide) (fun _ => rfl) (fun _ hy_ => ?_)
  clear hy_
  refine r_ite (fun h_5 => ?_) (fun h_5 => absurd h_5 (by omega))
  refine r_if_eq (tgt := 100) C dX5_copy_85 (by decide) (by decide) (fun h_6 => absurd h_6 (by decide)) (fun h_6 => ?_)
  refine r_aload C dX5_copy_88 0 rfl ?_
  refine r_iload C dX5_copy_90 6 rfl ?_
  refine r_iload C dX5_copy_92 7 rfl ?_
  refine g_V_i (ws2 := (fun _ => [(h0, .inr (5, [.ref s1, .int (iI sc), .ref w0, .ref t0, .ref k0, .ref r0, .int (iI gf), .int (iI gs), .ref rp, .int (iI rc), .ref sh1, .int (iI tc), .int (iI 0)])), (sh1, .inl (X.2.1.2.2, 4, .inr (.inr (.inr (.inr shf))))), (sa, .inr (2, [.ref sb, .int (iI so), .int (iI la), .int (iI ln)])), (sb, .inl (X.2.1.1, 60, .inl (iF Fs)))])) (As := [.int (iI j1), .int (iI m1)]) C (c_X2_hasFrom l X sa sb so la ln Fs j1 m1 (by first | assumption | omega) (by first | assumption | omega) (by first | assumption | omega)) gX5_copy_X2_hasFrom rfl rfl rfl hd_V_X2_hasFrom_X5_copy (by decide) dX5_copy_94 [2, 3] [0, 1] [0, 1, 2, 3] rfl rfl rfl rfl (by decide) rfl 2 2 rfl rfl rfl rfl (Nat.le_of_ble_eq_true rfl) (by decide) (fun _ => rfl) (fun _ hy_ => ?_)
  clear hy_
  refine r_ite (fun h_7 => ?_) (fun h_7 => absurd h_7 (by omega))
  refine r_if_ne (tgt := 106) C dX5_copy_97 (by decide) (by decide) (fun h_8 => ?_) (fun h_8 => absurd h_8 (by decide))
  refine r_aload C dX5_copy_106 1 rfl ?_
  refine gf_2_0 C hi_X5_copy_2 kw_X5_copy_3 dX5_copy_108 2 rfl rfl ?_
  refine r_iload_n C dX5_copy_111 4 rfl ?_
  refine r_aload C dX5_copy_112 0 rfl ?_
  refine gf_2_0 C hi_X5_copy_2 kw_X5_copy_3 dX5_copy_114 2 rfl rfl ?_
  refine r_iload C dX5_copy_117 6 rfl ?_
  refine r_iload C dX5_copy_119 7 rfl ?_
  refine r_copyi (ws2 := [(h0, .inr (5, [.ref s1, .int (iI sc), .ref w0, .ref t0, .ref k0, .ref r0, .int (iI gf), .int (iI gs), .ref rp, .int (iI rc), .ref sh1, .int (iI tc), .int (iI 0)])), (sh1, .inl (X.2.1.2.2, 4, .inr (.inr (.inr (.inr shf))))), (sa, .inr (2, [.ref sb, .int (iI so), .int (iI la), .int (iI ln)])), (sb, .inl (X.2.1.1, 60, .inl (iF (cpyI Fs Fs (Int.toNat i1) (Int.toNat j1) (Int.toNat m1)))))]) C kw_X5_copy_4 kw_X5_copy_5 kw_X5_copy_6 kw_X5_copy_7 dX5_copy_121 3 3 rfl rfl (by omega) (by decide) (Nat.le_of_ble_eq_true rfl) (Nat.le_of_ble_eq_true rfl) rfl ?_
  refine r_iload C dX5_copy_124 7 rfl ?_
  exact g_ret_i C rfl dX5_copy_126 () trivial (by (repeat' split) <;> first | rfl | omega) [0, 1, 2, 3] rfl (by (repeat' split) <;> first | rfl | omega)

set_option maxHeartbeats 4000000 in
set_option maxRecDepth 100000 in
theorem c_X5_copy_oo (l : Launch) (X : gX) (h0 : Nat) (s1 : Nat) (w0 : Nat) (t0 : Nat) (k0 : Nat) (r0 : Nat) (rp : Nat) (sh1 : Nat) (sc : Int) (gf : Int) (gs : Int) (rc : Int) (tc : Int) (ft : Int) (shf : Nat → Option Nat) (k : Int) (i1 : Int) (k2 : Int) (j1 : Int) (m1 : Int) (hx : ¬ (0 ≤ k ∧ k < 4)) (hbk : inB k) (hx2 : ¬ (0 ≤ k2 ∧ k2 < 4)) (hbk2 : inB k2) : gM l yX5_copy wsX5_copy (gr 2 0 0) X [(h0, .inr (5, [.ref s1, .int (iI sc), .ref w0, .ref t0, .ref k0, .ref r0, .int (iI gf), .int (iI gs), .ref rp, .int (iI rc), .ref sh1, .int (iI tc), .int (iI ft)])), (sh1, .inl (X.2.1.2.2, 4, .inr (.inr (.inr (.inr shf)))))] [.ref h0, .int (iI k), .int (iI i1), .int (iI k2), .int (iI j1), .int (iI m1)] (gQi X (Y := Unit) (fun _ => True) (fun _ => -1) (fun _ => [(h0, .inr (5, [.ref s1, .int (iI sc), .ref w0, .ref t0, .ref k0, .ref r0, .int (iI gf), .int (iI gs), .ref rp, .int (iI rc), .ref sh1, .int (iI tc), .int (iI 0)])), (sh1, .inl (X.2.1.2.2, 4, .inr (.inr (.inr (.inr shf)))))])) 0 0 := by
  refine g_start2 (lo := [(0, .ref h0), (1, .int (iI k)), (2, .int (iI i1)), (3, .int (iI k2)), (4, .int (iI j1)), (5, .int (iI m1))]) (by decide +kernel) rfl rfl (Nat.le_of_ble_eq_true rfl) (fun p e s m args below meth c A C => ?_)
  refine r_aload_n C dX5_copy_0 0 rfl ?_
  refine r_iconst C dX5_copy_1 ?_
  refine pf_5_12 (ws2 := [(h0, .inr (5, [.ref s1, .int (iI sc), .ref w0, .ref t0, .ref k0, .ref r0, .int (iI gf), .int (iI gs), .ref rp, .int (iI rc), .ref sh1, .int (iI tc), .int (iI 0)])), (sh1, .inl (X.2.1.2.2, 4, .inr (.inr (.inr (.inr shf)))))]) C hi_X5_copy_5 kw_X5_copy_0 dX5_copy_2 0 rfl rfl rfl (Nat.le_of_ble_eq_true rfl) rfl ?_
  refine r_aload_n C dX5_copy_5 0 rfl ?_
  refine r_iload_n C dX5_copy_6 1 rfl ?_
  refine g_V_q (ws2 := (fun _ => [(h0, .inr (5, [.ref s1, .int (iI sc), .ref w0, .ref t0, .ref k0, .ref r0, .int (iI gf), .int (iI gs), .ref rp, .int (iI rc), .ref sh1, .int (iI tc), .int (iI 0)])), (sh1, .inl (X.2.1.2.2, 4, .inr (.inr (.inr (.inr shf)))))])) (As := [.int (iI k)]) C (c_X5_sheetAt_out l X h0 s1 w0 t0 k0 r0 rp sh1 sc gf gs rc tc 0 shf k (by first | assumption | omega) (by first | assumption | omega)) gX5_copy_X5_sheetAt rfl rfl rfl hd_V_X5_sheetAt_X5_copy (by decide) dX5_copy_7 [0, 1] [] [0, 1] rfl rfl rfl rfl (by decide) rfl 0 5 rfl rfl rfl rfl (Nat.le_of_ble_eq_true rfl) (by decide) (fun _ => rfl) (fun _ hy_ => ?_)
  clear hy_
  refine r_astoreN (lo2 := [(6, .null), (0, .ref h0), (1, .int (iI k)), (2, .int (iI i1)), (3, .int (iI k2)), (4, .int (iI j1)), (5, .int (iI m1))]) C dX5_copy_10 (by decide) rfl ?_
  refine r_aload_n C dX5_copy_12 1 rfl ?_
  refine r_iload_n C dX5_copy_13 4 rfl ?_
  refine g_V_q (ws2 := (fun _ => [(h0, .inr (5, [.ref s1, .int (iI sc), .ref w0, .ref t0, .ref k0, .ref r0, .int (iI gf), .int (iI gs), .ref rp, .int (iI rc), .ref sh1, .int (iI tc), .int (iI 0)])), (sh1, .inl (X.2.1.2.2, 4, .inr (.inr (.inr (.inr shf)))))])) (As := [.int (iI k2)]) C (c_X5_sheetAt_out l X h0 s1 w0 t0 k0 r0 rp sh1 sc gf gs rc tc 0 shf k2 (by first | assumption | omega) (by first | assumption | omega)) gX5_copy_X5_sheetAt rfl rfl rfl hd_V_X5_sheetAt_X5_copy (by decide) dX5_copy_14 [0, 1] [] [0, 1] rfl rfl rfl rfl (by decide) rfl 0 5 rfl rfl rfl rfl (Nat.le_of_ble_eq_true rfl) (by decide) (fun _ => rfl) (fun _ hy_ => ?_)
  clear hy_
  refine r_astoreN (lo2 := [(7, .null), (6, .null), (0, .ref h0), (1, .int (iI k)), (2, .int (iI i1)), (3, .int (iI k2)), (4, .int (iI j1)), (5, .int (iI m1))]) C dX5_copy_17 (by decide) rfl ?_
  refine r_aloadN C dX5_copy_19 1 rfl ?_
  refine r_ifnullN (tgt := 29) C dX5_copy_21 (by decide) ?_
  refine r_iconst C dX5_copy_29 ?_
  exact g_ret_i C rfl dX5_copy_30 () trivial (by (repeat' split) <;> first | rfl | omega) [0, 1] rfl (by (repeat' split) <;> first | rfl | omega)

set_option maxHeartbeats 4000000 in
set_option maxRecDepth 100000 in
theorem c_X5_copy_oi (l : Launch) (X : gX) (h0 : Nat) (s1 : Nat) (w0 : Nat) (t0 : Nat) (k0 : Nat) (r0 : Nat) (rp : Nat) (sh1 : Nat) (sc : Int) (gf : Int) (gs : Int) (rc : Int) (tc : Int) (ft : Int) (shf : Nat → Option Nat) (sa : Nat) (k : Int) (i1 : Int) (k2 : Int) (j1 : Int) (m1 : Int) (hx : ¬ (0 ≤ k ∧ k < 4)) (hbk : inB k) (hx2 : 0 ≤ k2 ∧ k2 < 4) (hsf2 : shf (Int.toNat k2) = some sa) : gM l yX5_copy wsX5_copy (gr 2 0 0) X [(h0, .inr (5, [.ref s1, .int (iI sc), .ref w0, .ref t0, .ref k0, .ref r0, .int (iI gf), .int (iI gs), .ref rp, .int (iI rc), .ref sh1, .int (iI tc), .int (iI ft)])), (sh1, .inl (X.2.1.2.2, 4, .inr (.inr (.inr (.inr shf)))))] [.ref h0, .int (iI k), .int (iI i1), .int (iI k2), .int (iI j1), .int (iI m1)] (gQi X (Y := Unit) (fun _ => True) (fun _ => -1) (fun _ => [(h0, .inr (5, [.ref s1, .int (iI sc), .ref w0, .ref t0, .ref k0, .ref r0, .int (iI gf), .int (iI gs), .ref rp, .int (iI rc), .ref sh1, .int (iI tc), .int (iI 0)])), (sh1, .inl (X.2.1.2.2, 4, .inr (.inr (.inr (.inr shf)))))])) 0 0 := by
  refine g_start2 (lo := [(0, .ref h0), (1, .int (iI k)), (2, .int (iI i1)), (3, .int (iI k2)), (4, .int (iI j1)), (5, .int (iI m1))]) (by decide +kernel) rfl rfl (Nat.le_of_ble_eq_true rfl) (fun p e s m args below meth c A C => ?_)
  refine r_aload_n C dX5_copy_0 0 rfl ?_
  refine r_iconst C dX5_copy_1 ?_
  refine pf_5_12 (ws2 := [(h0, .inr (5, [.ref s1, .int (iI sc), .ref w0, .ref t0, .ref k0, .ref r0, .int (iI gf), .int (iI gs), .ref rp, .int (iI rc), .ref sh1, .int (iI tc), .int (iI 0)])), (sh1, .inl (X.2.1.2.2, 4, .inr (.inr (.inr (.inr shf)))))]) C hi_X5_copy_5 kw_X5_copy_0 dX5_copy_2 0 rfl rfl rfl (Nat.le_of_ble_eq_true rfl) rfl ?_
  refine r_aload_n C dX5_copy_5 0 rfl ?_
  refine r_iload_n C dX5_copy_6 1 rfl ?_
  refine g_V_q (ws2 := (fun _ => [(h0, .inr (5, [.ref s1, .int (iI sc), .ref w0, .ref t0, .ref k0, .ref r0, .int (iI gf), .int (iI gs), .ref rp, .int (iI rc), .ref sh1, .int (iI tc), .int (iI 0)])), (sh1, .inl (X.2.1.2.2, 4, .inr (.inr (.inr (.inr shf)))))])) (As := [.int (iI k)]) C (c_X5_sheetAt_out l X h0 s1 w0 t0 k0 r0 rp sh1 sc gf gs rc tc 0 shf k (by first | assumption | omega) (by first | assumption | omega)) gX5_copy_X5_sheetAt rfl rfl rfl hd_V_X5_sheetAt_X5_copy (by decide) dX5_copy_7 [0, 1] [] [0, 1] rfl rfl rfl rfl (by decide) rfl 0 5 rfl rfl rfl rfl (Nat.le_of_ble_eq_true rfl) (by decide) (fun _ => rfl) (fun _ hy_ => ?_)
  clear hy_
  refine r_astoreN (lo2 := [(6, .null), (0, .ref h0), (1, .int (iI k)), (2, .int (iI i1)), (3, .int (iI k2)), (4, .int (iI j1)), (5, .int (iI m1))]) C dX5_copy_10 (by decide) rfl ?_
  refine r_aload_n C dX5_copy_12 1 rfl ?_
  refine r_iload_n C dX5_copy_13 4 rfl ?_
  refine g_V_q (ws2 := (fun _ => [(h0, .inr (5, [.ref s1, .int (iI sc), .ref w0, .ref t0, .ref k0, .ref r0, .int (iI gf), .int (iI gs), .ref rp, .int (iI rc), .ref sh1, .int (iI tc), .int (iI 0)])), (sh1, .inl (X.2.1.2.2, 4, .inr (.inr (.inr (.inr shf)))))])) (As := [.int (iI k2)]) C (c_X5_sheetAt_in l X h0 s1 w0 t0 k0 r0 rp sh1 sc gf gs rc tc 0 shf sa k2 (by first | assumption | omega) hsf2) gX5_copy_X5_sheetAt rfl rfl rfl hd_V_X5_sheetAt_X5_copy (by decide) dX5_copy_14 [0, 1] [] [0, 1] rfl rfl rfl rfl (by decide) rfl 0 5 rfl rfl rfl rfl (Nat.le_of_ble_eq_true rfl) (by decide) (fun _ => rfl) (fun _ hy_ => ?_)
  clear hy_
  refine r_astore (lo2 := [(7, .ref sa), (6, .null), (0, .ref h0), (1, .int (iI k)), (2, .int (iI i1)), (3, .int (iI k2)), (4, .int (iI j1)), (5, .int (iI m1))]) C dX5_copy_17 (by decide) rfl ?_
  refine r_aloadN C dX5_copy_19 1 rfl ?_
  refine r_ifnullN (tgt := 29) C dX5_copy_21 (by decide) ?_
  refine r_iconst C dX5_copy_29 ?_
  exact g_ret_i C rfl dX5_copy_30 () trivial (by (repeat' split) <;> first | rfl | omega) [0, 1] rfl (by (repeat' split) <;> first | rfl | omega)

set_option maxHeartbeats 4000000 in
set_option maxRecDepth 100000 in
theorem c_X5_copy_io (l : Launch) (X : gX) (h0 : Nat) (s1 : Nat) (w0 : Nat) (t0 : Nat) (k0 : Nat) (r0 : Nat) (rp : Nat) (sh1 : Nat) (sc : Int) (gf : Int) (gs : Int) (rc : Int) (tc : Int) (ft : Int) (shf : Nat → Option Nat) (sa : Nat) (k : Int) (i1 : Int) (k2 : Int) (j1 : Int) (m1 : Int) (hx : 0 ≤ k ∧ k < 4) (hsf : shf (Int.toNat k) = some sa) (hx2 : ¬ (0 ≤ k2 ∧ k2 < 4)) (hbk2 : inB k2) : gM l yX5_copy wsX5_copy (gr 2 0 0) X [(h0, .inr (5, [.ref s1, .int (iI sc), .ref w0, .ref t0, .ref k0, .ref r0, .int (iI gf), .int (iI gs), .ref rp, .int (iI rc), .ref sh1, .int (iI tc), .int (iI ft)])), (sh1, .inl (X.2.1.2.2, 4, .inr (.inr (.inr (.inr shf)))))] [.ref h0, .int (iI k), .int (iI i1), .int (iI k2), .int (iI j1), .int (iI m1)] (gQi X (Y := Unit) (fun _ => True) (fun _ => -1) (fun _ => [(h0, .inr (5, [.ref s1, .int (iI sc), .ref w0, .ref t0, .ref k0, .ref r0, .int (iI gf), .int (iI gs), .ref rp, .int (iI rc), .ref sh1, .int (iI tc), .int (iI 0)])), (sh1, .inl (X.2.1.2.2, 4, .inr (.inr (.inr (.inr shf)))))])) 0 0 := by
  refine g_start2 (lo := [(0, .ref h0), (1, .int (iI k)), (2, .int (iI i1)), (3, .int (iI k2)), (4, .int (iI j1)), (5, .int (iI m1))]) (by decide +kernel) rfl rfl (Nat.le_of_ble_eq_true rfl) (fun p e s m args below meth c A C => ?_)
  refine r_aload_n C dX5_copy_0 0 rfl ?_
  refine r_iconst C dX5_copy_1 ?_
  refine pf_5_12 (ws2 := [(h0, .inr (5, [.ref s1, .int (iI sc), .ref w0, .ref t0, .ref k0, .ref r0, .int (iI gf), .int (iI gs), .ref rp, .int (iI rc), .ref sh1, .int (iI tc), .int (iI 0)])), (sh1, .inl (X.2.1.2.2, 4, .inr (.inr (.inr (.inr shf)))))]) C hi_X5_copy_5 kw_X5_copy_0 dX5_copy_2 0 rfl rfl rfl (Nat.le_of_ble_eq_true rfl) rfl ?_
  refine r_aload_n C dX5_copy_5 0 rfl ?_
  refine r_iload_n C dX5_copy_6 1 rfl ?_
  refine g_V_q (ws2 := (fun _ => [(h0, .inr (5, [.ref s1, .int (iI sc), .ref w0, .ref t0, .ref k0, .ref r0, .int (iI gf), .int (iI gs), .ref rp, .int (iI rc), .ref sh1, .int (iI tc), .int (iI 0)])), (sh1, .inl (X.2.1.2.2, 4, .inr (.inr (.inr (.inr shf)))))])) (As := [.int (iI k)]) C (c_X5_sheetAt_in l X h0 s1 w0 t0 k0 r0 rp sh1 sc gf gs rc tc 0 shf sa k (by first | assumption | omega) (by first | assumption | omega)) gX5_copy_X5_sheetAt rfl rfl rfl hd_V_X5_sheetAt_X5_copy (by decide) dX5_copy_7 [0, 1] [] [0, 1] rfl rfl rfl rfl (by decide) rfl 0 5 rfl rfl rfl rfl (Nat.le_of_ble_eq_true rfl) (by decide) (fun _ => rfl) (fun _ hy_ => ?_)
  clear hy_
  refine r_astore (lo2 := [(6, .ref sa), (0, .ref h0), (1, .int (iI k)), (2, .int (iI i1)), (3, .int (iI k2)), (4, .int (iI j1)), (5, .int (iI m1))]) C dX5_copy_10 (by decide) rfl ?_
  refine r_aload_n C dX5_copy_12 1 rfl ?_
  refine r_iload_n C dX5_copy_13 4 rfl ?_
  refine g_V_q (ws2 := (fun _ => [(h0, .inr (5, [.ref s1, .int (iI sc), .ref w0, .ref t0, .ref k0, .ref r0, .int (iI gf), .int (iI gs), .ref rp, .int (iI rc), .ref sh1, .int (iI tc), .int (iI 0)])), (sh1, .inl (X.2.1.2.2, 4, .inr (.inr (.inr (.inr shf)))))])) (As := [.int (iI k2)]) C (c_X5_sheetAt_out l X h0 s1 w0 t0 k0 r0 rp sh1 sc gf gs rc tc 0 shf k2 (by first | assumption | omega) (by first | assumption | omega)) gX5_copy_X5_sheetAt rfl rfl rfl hd_V_X5_sheetAt_X5_copy (by decide) dX5_copy_14 [0, 1] [] [0, 1] rfl rfl rfl rfl (by decide) rfl 0 5 rfl rfl rfl rfl (Nat.le_of_ble_eq_true rfl) (by decide) (fun _ => rfl) (fun _ hy_ => ?_)
  clear hy_
  refine r_astoreN (lo2 := [(7, .null), (6, .ref sa), (0, .ref h0), (1, .int (iI k)), (2, .int (iI i1)), (3, .int (iI k2)), (4, .int (iI j1)), (5, .int (iI m1))]) C dX5_copy_17 (by decide) rfl ?_
  refine r_aload C dX5_copy_19 1 rfl ?_
  refine r_ifnull C dX5_copy_21 ?_
  refine r_aloadN C dX5_copy_24 0 rfl ?_
  refine r_ifnonnullN C dX5_copy_26 ?_
  refine r_iconst C dX5_copy_29 ?_
  exact g_ret_i C rfl dX5_copy_30 () trivial (by (repeat' split) <;> first | rfl | omega) [0, 1] rfl (by (repeat' split) <;> first | rfl | omega)
end M8
