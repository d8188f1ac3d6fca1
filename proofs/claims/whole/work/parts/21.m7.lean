section M7
set_option maxRecDepth 20000 in
theorem kw_X5_refusalOfCells_0 : Cond.fieldLink RX5 67 "SkipStones" "lastFault" "I" ∈ wsX5_refusalOfCells := List.mem_of_getElem? (i := 1) rfl
set_option maxRecDepth 20000 in
theorem hd_V_X5_sheetAt_X5_refusalOfCells : yX5_sheetAt.cls = yX5_sheetAt.cls ∧ yX5_sheetAt.cls ≠ "java/lang/invoke/MethodHandle" ∧ yX5_sheetAt.cls ≠ "java/lang/invoke/VarHandle" ∧ (parseMethodDescriptor yX5_sheetAt.desc).map (fun d => d.parameters.length) = some 1 := by decide +kernel
set_option maxRecDepth 20000 in
theorem hd_S_X5_isLane_X5_refusalOfCells : yX5_isLane.cls ≠ "java/lang/invoke/MethodHandle" ∧ yX5_isLane.cls ≠ "java/lang/invoke/VarHandle" ∧ (parseMethodDescriptor yX5_isLane.desc).map (fun d => d.parameters.length) = some 1 := by decide +kernel
set_option maxRecDepth 20000 in
theorem hd_V_X2_faultAs_X5_refusalOfCells : yX2_faultAs.cls = yX2_faultAs.cls ∧ yX2_faultAs.cls ≠ "java/lang/invoke/MethodHandle" ∧ yX2_faultAs.cls ≠ "java/lang/invoke/VarHandle" ∧ (parseMethodDescriptor yX2_faultAs.desc).map (fun d => d.parameters.length) = some 1 := by decide +kernel
set_option maxRecDepth 20000 in
theorem hd_V_X2_hasFrom_X5_refusalOfCells : yX2_hasFrom.cls = yX2_hasFrom.cls ∧ yX2_hasFrom.cls ≠ "java/lang/invoke/MethodHandle" ∧ yX2_hasFrom.cls ≠ "java/lang/invoke/VarHandle" ∧ (parseMethodDescriptor yX2_hasFrom.desc).map (fun d => d.parameters.length) = some 2 := by decide +kernel
set_option maxRecDepth 20000 in
theorem hi_X5_refusalOfCells_5 : ∀ w ∈ wsX50, w ∈ wsX5_refusalOfCells := fun _ h => List.mem_cons_of_mem _ (List.mem_append_left _ (List.mem_append_right _ h))
set_option maxHeartbeats 4000000 in
set_option maxRecDepth 100000 in
theorem c_X5_refusalOfCells_ok (l : Launch) (X : gX) (h0 : Nat) (s1 : Nat) (w0 : Nat) (t0 : Nat) (k0 : Nat) (r0 : Nat) (rp : Nat) (sh1 : Nat) (sc : Int) (gf : Int) (gs : Int) (rc : Int) (tc : Int) (ft : Int) (shf : Nat → Option Nat) (sa : Nat) (sb : Nat) (so : Int) (la : Int) (ln : Int) (Fs : Nat → Int) (k : Int) (w : Int) (i1 : Int) (m1 : Int) (hx : 0 ≤ k ∧ k < 4) (hsf : shf (Int.toNat k) = some sa) (hso : so = 0 ∨ so = 1) (hla : 0 ≤ la ∧ la ≤ 2) (hln : 0 ≤ ln ∧ ln ≤ 60) (hFs : ∀ i, inB (Fs i)) (hb_w : inB w) (hb_i1 : inB i1) (hb_m1 : inB m1) (hok : (0 ≤ w ∧ w ≤ 2 ∧ ¬ so = 0 ∧ la = w ∧ 0 ≤ i1 ∧ 0 ≤ m1 ∧ i1 + m1 ≤ ln)) : gM l yX5_refusalOfCells wsX5_refusalOfCells (gr 2 0 0) X [(h0, .inr (5, [.ref s1, .int (iI sc), .ref w0, .ref t0, .ref k0, .ref r0, .int (iI gf), .int (iI gs), .ref rp, .int (iI rc), .ref sh1, .int (iI tc), .int (iI ft)])), (sh1, .inl (X.2.1.2.2, 4, .inr (.inr (.inr (.inr shf))))), (sa, .inr (2, [.ref sb, .int (iI so), .int (iI la), .int (iI ln)])), (sb, .inl (X.2.1.1, 60, .inl (iF Fs)))] [.ref h0, .int (iI k), .int (iI w), .int (iI i1), .int (iI m1)] (gQi X (Y := Unit) (fun _ => True) (fun _ => 0) (fun _ => [(h0, .inr (5, [.ref s1, .int (iI sc), .ref w0, .ref t0, .ref k0, .ref r0, .int (iI gf), .int (iI gs), .ref rp, .int (iI rc), .ref sh1, .int (iI tc), .int (iI 0)])), (sh1, .inl (X.2.1.2.2, 4, .inr (.inr (.inr (.inr shf))))), (sa, .inr (2, [.ref sb, .int (iI so), .int (iI la), .int (iI ln)])), (sb, .inl (X.2.1.1, 60, .inl (iF Fs)))])) 0 0 := by
  refine g_start2 (lo := [(0, .ref h0), (1, .int (iI k)), (2, .int (iI w)), (3, .int (iI i1)), (4, .int (iI m1))]) (by decide +kernel) rfl rfl (Nat.le_of_ble_eq_true rfl) (fun p e s m args below meth c A C => ?_)
  refine r_aload_n C dX5_refusalOfCells_0 0 rfl ?_
  refine r_iconst C dX5_refusalOfCells_1 ?_
  refine pf_5_12 (ws2 := [(h0, .inr (5, [.ref s1, .int (iI sc), .ref w0, .ref t0, .ref k0, .ref r0, .int (iI gf), .int (iI gs), .ref rp, .int (iI rc), .ref sh1, .int (iI tc), .int (iI 0)])), (sh1, .inl (X.2.1.2.2, 4, .inr (.inr (.inr (.inr shf))))), (sa, .inr (2, [.ref sb, .int (iI so), .int (iI la), .int (iI ln)])), (sb, .inl (X.2.1.1, 60, .inl (iF Fs)))]) C hi_X5_refusalOfCells_5 kw_X5_refusalOfCells_0 dX5_refusalOfCells_2 0 rfl rfl rfl (Nat.le_of_ble_eq_true rfl) rfl ?_
  refine r_aload_n C dX5_refusalOfCells_5 0 rfl ?_
  refine r_iload_n C dX5_refusalOfCells_6 1 rfl ?_
  refine g_V_q (ws2 := (fun _ => [(h0, .inr (5, [.ref s1, .int (iI sc), .ref w0, .ref t0, .ref k0, .ref r0, .int (iI gf), .int (iI gs), .ref rp, .int (iI rc), .ref sh1, .int (iI tc), .int (iI 0)])), (sh1, .inl (X.2.1.2.2, 4, .inr (.inr (.inr (.inr shf))))), (sa, .inr (2, [.ref sb, .int (iI so), .int (iI la), .int (iI ln)])), (sb, .inl (X.2.1.1, 60, .inl (iF Fs)))])) (As := [.int (iI k)]) C (c_X5_sheetAt_in l X h0 s1 w0 t0 k0 r0 rp sh1 sc gf gs rc tc 0 shf sa k (by first | assumption | omega) (by first | assumption | omega)) gX5_refusalOfCells_X5_sheetAt rfl rfl rfl hd_V_X5_sheetAt_X5_refusalOfCells (by decide) dX5_refusalOfCells_7 [0, 1] [2, 3] [2, 3, 0, 1] rfl rfl rfl rfl (by decide) rfl 0 5 rfl rfl rfl rfl (Nat.le_of_ble_eq_true rfl) (by decide) (fun _ => rfl) (fun _ hy_ => ?_)
  clear hy_
  refine r_astore (lo2 := [(5, .ref sa), (0, .ref h0), (1, .int (iI k)), (2, .int (iI w)), (3, .int (iI i1)), (4, .int (iI m1))]) C dX5_refusalOfCells_10 (by decide) rfl ?_
  refine r_aload C dX5_refusalOfCells_12 0 rfl ?_
  refine r_ifnonnull (tgt := 19) C dX5_refusalOfCells_14 (by decide) ?_
  refine r_iload_n C dX5_refusalOfCells_19 3 rfl ?_
  refine g_S_i (ws2 := (fun _ => [(h0, .inr (5, [.ref s1, .int (iI sc), .ref w0, .ref t0, .ref k0, .ref r0, .int (iI gf), .int (iI gs), .ref rp, .int (iI rc), .ref sh1, .int (iI tc), .int (iI 0)])), (sh1, .inl (X.2.1.2.2, 4, .inr (.inr (.inr (.inr shf))))), (sa, .inr (2, [.ref sb, .int (iI so), .int (iI la), .int (iI ln)])), (sb, .inl (X.2.1.1, 60, .inl (iF Fs)))])) (As := [.int (iI w)]) C (c_X5_isLane l X w (by first | assumption | omega)) gX5_refusalOfCells_X5_isLane rfl rfl rfl hd_S_X5_isLane_X5_refusalOfCells (by decide) dX5_refusalOfCells_20 [] [0, 1, 2, 3] [0, 1, 2, 3] rfl rfl rfl rfl (by decide) rfl rfl rfl (Nat.le_of_ble_eq_true rfl) (by decide) (fun _ => rfl) (fun _ hy_ => ?_)
  clear hy_
  refine r_ite (fun h_1 => ?_) (fun h_1 => absurd h_1 (by omega))
  refine r_if_ne (tgt := 29) C dX5_refusalOfCells_23 (by decide) (by decide) (fun h_2 => ?_) (fun h_2 => absurd h_2 (by decide))
  refine r_aload C dX5_refusalOfCells_29 0 rfl ?_
  refine r_iload_n C dX5_refusalOfCells_31 3 rfl ?_
  by_cases k_3 : so = 0
  · skip
    refine g_V_i (ws2 := (fun _ => [(h0, .inr (5, [.ref s1, .int (iI sc), .ref w0, .ref t0, .ref k0, .ref r0, .int (iI gf), .int (iI gs), .ref rp, .int (iI rc), .ref sh1, .int (iI tc), .int (iI 0)])), (sh1, .inl (X.2.1.2.2, 4, .inr (.inr (.inr (.inr shf))))), (sa, .inr (2, [.ref sb, .int (iI so), .int (iI la), .int (iI ln)])), (sb, .inl (X.2.1.1, 60, .inl (iF Fs)))])) (As := [.int (iI w)]) C (c_X2_faultAs_1 l X sa sb so la ln Fs w (by first | assumption | omega) (by first | assumption | omega) (by first | assumption | omega) (by first | assumption | omega)) gX5_refusalOfCells_X2_faultAs rfl rfl rfl hd_V_X2_faultAs_X5_refusalOfCells (by decide) dX5_refusalOfCells_32 [2, 3] [0, 1] [0, 1, 2, 3] rfl rfl rfl rfl (by decide) rfl 2 2 rfl rfl rfl rfl (Nat.le_of_ble_eq_true rfl) (by decide) (fun _ => rfl) (fun _ hy_ => ?_)
    clear hy_
    refine r_istore (lo2 := [(6, .int (iI 1)), (5, .ref sa), (0, .ref h0), (1, .int (iI k)), (2, .int (iI w)), (3, .int (iI i1)), (4, .int (iI m1))]) C dX5_refusalOfCells_35 (by decide) rfl ?_
    refine r_iload C dX5_refusalOfCells_37 0 rfl ?_
    exfalso; omega
  by_cases k_5 : la = w
  · skip
    refine g_V_i (ws2 := (fun _ => [(h0, .inr (5, [.ref s1, .int (iI sc), .ref w0, .ref t0, .ref k0, .ref r0, .int (iI gf), .int (iI gs), .ref rp, .int (iI rc), .ref sh1, .int (iI tc), .int (iI 0)])), (sh1, .inl (X.2.1.2.2, 4, .inr (.inr (.inr (.inr shf))))), (sa, .inr (2, [.ref sb, .int (iI so), .int (iI la), .int (iI ln)])), (sb, .inl (X.2.1.1, 60, .inl (iF Fs)))])) (As := [.int (iI w)]) C (c_X2_faultAs_0 l X sa sb so la ln Fs w (by first | assumption | omega) (by first | assumption | omega) (by first | assumption | omega) (by first | assumption | omega)) gX5_refusalOfCells_X2_faultAs rfl rfl rfl hd_V_X2_faultAs_X5_refusalOfCells (by decide) dX5_refusalOfCells_32 [2, 3] [0, 1] [0, 1, 2, 3] rfl rfl rfl rfl (by decide) rfl 2 2 rfl rfl rfl rfl (Nat.le_of_ble_eq_true rfl) (by decide) (fun _ => rfl) (fun _ hy_ => ?_)
    clear hy_
    refine r_istore (lo2 := [(6, .int (iI 0)), (5, .ref sa), (0, .ref h0), (1, .int (iI k)), (2, .int (iI w)), (3, .int (iI i1)), (4, .int (iI m1))]) C dX5_refusalOfCells_35 (by decide) rfl ?_
    refine r_iload C dX5_refusalOfCells_37 0 rfl ?_
    refine r_if_eq (tgt := 49) C dX5_refusalOfCells_39 (by decide) (by decide) (fun h_6 => ?_) (fun h_6 => absurd h_6 (by decide))
    refine r_iload C dX5_refusalOfCells_49 6 rfl ?_
    refine r_if_ge (tgt := 60) C dX5_refusalOfCells_51 (by decide) (by omega) (fun h_7 => ?_) (fun h_7 => absurd h_7 (by omega))
    refine r_aload C dX5_refusalOfCells_60 1 rfl ?_
    refine r_iload_n C dX5_refusalOfCells_62 5 rfl ?_
    refine r_iload C dX5_refusalOfCells_63 6 rfl ?_
    refine g_V_i (ws2 := (fun _ => [(h0, .inr (5, [.ref s1, .int (iI sc), .ref w0, .ref t0, .ref k0, .ref r0, .int (iI gf), .int (iI gs), .ref rp, .int (iI rc), .ref sh1, .int (iI tc), .int (iI 0)])), (sh1, .inl (X.2.1.2.2, 4, .inr (.inr (.inr (.inr shf))))), (sa, .inr (2, [.ref sb, .int (iI so), .int (iI la), .int (iI ln)])), (sb, .inl (X.2.1.1, 60, .inl (iF Fs)))])) (As := [.int (iI i1), .int (iI m1)]) C (c_X2_hasFrom l X sa sb so la ln Fs i1 m1 (by first | assumption | omega) (by first | assumption | omega) (by first | assumption | omega)) gX5_refusalOfCells_X2_hasFrom rfl rfl rfl hd_V_X2_hasFrom_X5_refusalOfCells (by decide) dX5_refusalOfCells_65 [2, 3] [0, 1] [0, 1, 2, 3] rfl rfl rfl rfl (by decide) rfl 2 2 rfl rfl rfl rfl (Nat.le_of_ble_eq_true rfl) (by decide) (fun _ => rfl) (fun _ hy_ => ?_)
    clear hy_
    refine r_ite (fun h_8 => ?_) (fun h_8 => absurd h_8 (by omega))
    refine r_if_eq (tgt := 75) C dX5_refusalOfCells_68 (by decide) (by decide) (fun h_9 => absurd h_9 (by decide)) (fun h_9 => ?_)
    refine r_iconst C dX5_refusalOfCells_71 ?_
    refine r_goto (tgt := 80) C dX5_refusalOfCells_72 (by decide) ?_
    exact g_ret_i C rfl dX5_refusalOfCells_80 () trivial (by (repeat' split) <;> first | rfl | omega) [0, 1, 2, 3] rfl (by (repeat' split) <;> first | rfl | omega)
  refine g_V_i (ws2 := (fun _ => [(h0, .inr (5, [.ref s1, .int (iI sc), .ref w0, .ref t0, .ref k0, .ref r0, .int (iI gf), .int (iI gs), .ref rp, .int (iI rc), .ref sh1, .int (iI tc), .int (iI 0)])), (sh1, .inl (X.2.1.2.2, 4, .inr (.inr (.inr (.inr shf))))), (sa, .inr (2, [.ref sb, .int (iI so), .int (iI la), .int (iI ln)])), (sb, .inl (X.2.1.1, 60, .inl (iF Fs)))])) (As := [.int (iI w)]) C (c_X2_faultAs_2 l X sa sb so la ln Fs w (by first | assumption | omega) (by first | assumption | omega) (by first | assumption | omega) (by first | assumption | omega)) gX5_refusalOfCells_X2_faultAs rfl rfl rfl hd_V_X2_faultAs_X5_refusalOfCells (by decide) dX5_refusalOfCells_32 [2, 3] [0, 1] [0, 1, 2, 3] rfl rfl rfl rfl (by decide) rfl 2 2 rfl rfl rfl rfl (Nat.le_of_ble_eq_true rfl) (by decide) (fun _ => rfl) (fun _ hy_ => ?_)
  clear hy_
  refine r_istore (lo2 := [(6, .int (iI 2)), (5, .ref sa), (0, .ref h0), (1, .int (iI k)), (2, .int (iI w)), (3, .int (iI i1)), (4, .int (iI m1))]) C dX5_refusalOfCells_35 (by decide) rfl ?_
  refine r_iload C dX5_refusalOfCells_37 0 rfl ?_
  exfalso; omega

set_option maxRecDepth 20000 in
theorem hd_V_X5_faulted_X5_refusalOfCells : yX5_faulted.cls = yX5_faulted.cls ∧ yX5_faulted.cls ≠ "java/lang/invoke/MethodHandle" ∧ yX5_faulted.cls ≠ "java/lang/invoke/VarHandle" ∧ (parseMethodDescriptor yX5_faulted.desc).map (fun d => d.parameters.length) = some 1 := by decide +kernel
set_option maxHeartbeats 4000000 in
set_option maxRecDepth 100000 in
theorem c_X5_refusalOfCells_no (l : Launch) (X : gX) (h0 : Nat) (s1 : Nat) (w0 : Nat) (t0 : Nat) (k0 : Nat) (r0 : Nat) (rp : Nat) (sh1 : Nat) (sc : Int) (gf : Int) (gs : Int) (rc : Int) (tc : Int) (ft : Int) (shf : Nat → Option Nat) (sa : Nat) (sb : Nat) (so : Int) (la : Int) (ln : Int) (Fs : Nat → Int) (k : Int) (w : Int) (i1 : Int) (m1 : Int) (hx : 0 ≤ k ∧ k < 4) (hsf : shf (Int.toNat k) = some sa) (hso : so = 0 ∨ so = 1) (hla : 0 ≤ la ∧ la ≤ 2) (hln : 0 ≤ ln ∧ ln ≤ 60) (hFs : ∀ i, inB (Fs i)) (hb_w : inB w) (hb_i1 : inB i1) (hb_m1 : inB m1) (hok : ¬ (0 ≤ w ∧ w ≤ 2 ∧ ¬ so = 0 ∧ la = w ∧ 0 ≤ i1 ∧ 0 ≤ m1 ∧ i1 + m1 ≤ ln)) : gM l yX5_refusalOfCells wsX5_refusalOfCells (gr 2 0 0) X [(h0, .inr (5, [.ref s1, .int (iI sc), .ref w0, .ref t0, .ref k0, .ref r0, .int (iI gf), .int (iI gs), .ref rp, .int (iI rc), .ref sh1, .int (iI tc), .int (iI ft)])), (sh1, .inl (X.2.1.2.2, 4, .inr (.inr (.inr (.inr shf))))), (sa, .inr (2, [.ref sb, .int (iI so), .int (iI la), .int (iI ln)])), (sb, .inl (X.2.1.1, 60, .inl (iF Fs)))] [.ref h0, .int (iI k), .int (iI w), .int (iI i1), .int (iI m1)] (gQi X (Y := Int) (fun y => (-20 ≤ y ∧ y < 0) ∧ (y = (if ¬ (0 ≤ w ∧ w ≤ 2) then -2 else if so = 0 then -11 else if ¬ la = w then -12 else if m1 < 0 then -14 else -13))) (fun y => y) (fun y => [(h0, .inr (5, [.ref s1, .int (iI sc), .ref w0, .ref t0, .ref k0, .ref r0, .int (iI gf), .int (iI gs), .ref rp, .int (iI rc), .ref sh1, .int (iI tc), .int (iI (if ¬ (0 ≤ w ∧ w ≤ 2) then 0 else if so = 0 then 1 else if ¬ la = w then 2 else if m1 < 0 then 4 else 3))])), (sh1, .inl (X.2.1.2.2, 4, .inr (.inr (.inr (.inr shf))))), (sa, .inr (2, [.ref sb, .int (iI so), .int (iI la), .int (iI ln)])), (sb, .inl (X.2.1.1, 60, .inl (iF Fs)))])) 0 0 := by
  refine g_start2 (lo := [(0, .ref h0), (1, .int (iI k)), (2, .int (iI w)), (3, .int (iI i1)), (4, .int (iI m1))]) (by decide +kernel) rfl rfl (Nat.le_of_ble_eq_true rfl) (fun p e s m args below meth c A C => ?_)
  refine r_aload_n C dX5_refusalOfCells_0 0 rfl ?_
  refine r_iconst C dX5_refusalOfCells_1 ?_
  refine pf_5_12 (ws2 := [(h0, .inr (5, [.ref s1, .int (iI sc), .ref w0, .ref t0, .ref k0, .ref r0, .int (iI gf), .int (iI gs), .ref rp, .int (iI rc), .ref sh1, .int (iI tc), .int (iI 0)])), (sh1, .inl (X.2.1.2.2, 4, .inr (.inr (.inr (.inr shf))))), (sa, .inr (2, [.ref sb, .int (iI so), .int (iI la), .int (iI ln)])), (sb, .inl (X.2.1.1, 60, .inl (iF Fs)))]) C hi_X5_refusalOfCells_5 kw_X5_refusalOfCells_0 dX5_refusalOfCells_2 0 rfl rfl rfl (Nat.le_of_ble_eq_true rfl) rfl ?_
  refine r_aload_n C dX5_refusalOfCells_5 0 rfl ?_
  refine r_iload_n C dX5_refusalOfCells_6 1 rfl ?_
  refine g_V_q (ws2 := (fun _ => [(h0, .inr (5, [.ref s1, .int (iI sc), .ref w0, .ref t0, .ref k0, .ref r0, .int (iI gf), .int (iI gs), .ref rp, .int (iI rc), .ref sh1, .int (iI tc), .int (iI 0)])), (sh1, .inl (X.2.1.2.2, 4, .inr (.inr (.inr (.inr shf))))), (sa, .inr (2, [.ref sb, .int (iI so), .int (iI la), .int (iI ln)])), (sb, .inl (X.2.1.1, 60, .inl (iF Fs)))])) (As := [.int (iI k)]) C (c_X5_sheetAt_in l X h0 s1 w0 t0 k0 r0 rp sh1 sc gf gs rc tc 0 shf sa k (by first | assumption | omega) (by first | assumption | omega)) gX5_refusalOfCells_X5_sheetAt rfl rfl rfl hd_V_X5_sheetAt_X5_refusalOfCells (by decide) dX5_refusalOfCells_7 [0, 1] [2, 3] [2, 3, 0, 1] rfl rfl rfl rfl (by decide) rfl 0 5 rfl rfl rfl rfl (Nat.le_of_ble_eq_true rfl) (by decide) (fun _ => rfl) (fun _ hy_ => ?_)
  clear hy_
  refine r_astore (lo2 := [(5, .ref sa), (0, .ref h0), (1, .int (iI k)), (2, .int (iI w)), (3, .int (iI i1)), (4, .int (iI m1))]) C dX5_refusalOfCells_10 (by decide) rfl ?_
  refine r_aload C dX5_refusalOfCells_12 0 rfl ?_
  refine r_ifnonnull (tgt := 19) C dX5_refusalOfCells_14 (by decide) ?_
  refine r_iload_n C dX5_refusalOfCells_19 3 rfl ?_
  refine g_S_i (ws2 := (fun _ => [(h0, .inr (5, [.ref s1, .int (iI sc), .ref w0, .ref t0, .ref k0, .ref r0, .int (iI gf), .int (iI gs), .ref rp, .int (iI rc), .ref sh1, .int (iI tc), .int (iI 0)])), (sh1, .inl (X.2.1.2.2, 4, .inr (.inr (.inr (.inr shf))))), (sa, .inr (2, [.ref sb, .int (iI so), .int (iI la), .int (iI ln)])), (sb, .inl (X.2.1.1, 60, .inl (iF Fs)))])) (As := [.int (iI w)]) C (c_X5_isLane l X w (by first | assumption | omega)) gX5_refusalOfCells_X5_isLane rfl rfl rfl hd_S_X5_isLane_X5_refusalOfCells (by decide) dX5_refusalOfCells_20 [] [0, 1, 2, 3] [0, 1, 2, 3] rfl rfl rfl rfl (by decide) rfl rfl rfl (Nat.le_of_ble_eq_true rfl) (by decide) (fun _ => rfl) (fun _ hy_ => ?_)
  clear hy_
  refine r_ite (fun h_1 => ?_) (fun h_1 => ?_)
  · skip
    refine r_if_ne (tgt := 29) C dX5_refusalOfCells_23 (by decide) (by decide) (fun h_2 => ?_) (fun h_2 => absurd h_2 (by decide))
    refine r_aload C dX5_refusalOfCells_29 0 rfl ?_
    refine r_iload_n C dX5_refusalOfCells_31 3 rfl ?_
    by_cases k_3 : so = 0
    · skip
      refine g_V_i (ws2 := (fun _ => [(h0, .inr (5, [.ref s1, .int (iI sc), .ref w0, .ref t0, .ref k0, .ref r0, .int (iI gf), .int (iI gs), .ref rp, .int (iI rc), .ref sh1, .int (iI tc), .int (iI 0)])), (sh1, .inl (X.2.1.2.2, 4, .inr (.inr (.inr (.inr shf))))), (sa, .inr (2, [.ref sb, .int (iI so), .int (iI la), .int (iI ln)])), (sb, .inl (X.2.1.1, 60, .inl (iF Fs)))])) (As := [.int (iI w)]) C (c_X2_faultAs_1 l X sa sb so la ln Fs w (by first | assumption | omega) (by first | assumption | omega) (by first | assumption | omega) (by first | assumption | omega)) gX5_refusalOfCells_X2_faultAs rfl rfl rfl hd_V_X2_faultAs_X5_refusalOfCells (by decide) dX5_refusalOfCells_32 [2, 3] [0, 1] [0, 1, 2, 3] rfl rfl rfl rfl (by decide) rfl 2 2 rfl rfl rfl rfl (Nat.le_of_ble_eq_true rfl) (by decide) (fun _ => rfl) (fun _ hy_ => ?_)
      clear hy_
      refine r_istore (lo2 := [(6, .int (iI 1)), (5, .ref sa), (0, .ref h0), (1, .int (iI k)), (2, .int (iI w)), (3, .int (iI i1)), (4, .int (iI m1))]) C dX5_refusalOfCells_35 (by decide) rfl ?_
      refine r_iload C dX5_refusalOfCells_37 0 rfl ?_
      refine r_if_eq (tgt := 49) C dX5_refusalOfCells_39 (by decide) (by decide) (fun h_4 => absurd h_4 (by decide)) (fun h_4 => ?_)
      refine r_aload_n C dX5_refusalOfCells_42 2 rfl ?_
      refine r_iload C dX5_refusalOfCells_43 0 rfl ?_
      refine g_V_i (ws2 := (fun _ => [(h0, .inr (5, [.ref s1, .int (iI sc), .ref w0, .ref t0, .ref k0, .ref r0, .int (iI gf), .int (iI gs), .ref rp, .int (iI rc), .ref sh1, .int (iI tc), .int (iI 1)])), (sh1, .inl (X.2.1.2.2, 4, .inr (.inr (.inr (.inr shf))))), (sa, .inr (2, [.ref sb, .int (iI so), .int (iI la), .int (iI ln)])), (sb, .inl (X.2.1.1, 60, .inl (iF Fs)))])) (As := [.int (iI 1)]) C (c_X5_faulted l X h0 s1 w0 t0 k0 r0 rp sh1 sc gf gs rc tc 0 1 ) gX5_refusalOfCells_X5_faulted rfl rfl rfl hd_V_X5_faulted_X5_refusalOfCells (by decide) dX5_refusalOfCells_45 [0] [1, 2, 3] [3, 0, 1, 2] rfl rfl rfl rfl (by decide) rfl 0 5 rfl rfl rfl rfl (Nat.le_of_ble_eq_true rfl) (by decide) (fun _ => rfl) (fun _ hy_ => ?_)
      clear hy_
      exact g_ret_i C rfl dX5_refusalOfCells_48 ((-10) - 1) (by refine ⟨by omega, ?_⟩; (repeat' split) <;> first | rfl | omega) rfl [0, 1, 2, 3] rfl (by (repeat' split) <;> first | rfl | omega)
    by_cases k_5 : la = w
    · skip
      refine g_V_i (ws2 := (fun _ => [(h0, .inr (5, [.ref s1, .int (iI sc), .ref w0, .ref t0, .ref k0, .ref r0, .int (iI gf), .int (iI gs), .ref rp, .int (iI rc), .ref sh1, .int (iI tc), .int (iI 0)])), (sh1, .inl (X.2.1.2.2, 4, .inr (.inr (.inr (.inr shf))))), (sa, .inr (2, [.ref sb, .int (iI so), .int (iI la), .int (iI ln)])), (sb, .inl (X.2.1.1, 60, .inl (iF Fs)))])) (As := [.int (iI w)]) C (c_X2_faultAs_0 l X sa sb so la ln Fs w (by first | assumption | omega) (by first | assumption | omega) (by first | assumption | omega) (by first | assumption | omega)) gX5_refusalOfCells_X2_faultAs rfl rfl rfl hd_V_X2_faultAs_X5_refusalOfCells (by decide) dX5_refusalOfCells_32 [2, 3] [0, 1] [0, 1, 2, 3] rfl rfl rfl rfl (by decide) rfl 2 2 rfl rfl rfl rfl (Nat.le_of_ble_eq_true rfl) (by decide) (fun _ => rfl) (fun _ hy_ => ?_)
      clear hy_
      refine r_istore (lo2 := [(6, .int (iI 0)), (5, .ref sa), (0, .ref h0), (1, .int (iI k)), (2, .int (iI w)), (3, .int (iI i1)), (4, .int (iI m1))]) C dX5_refusalOfCells_35 (by decide) rfl ?_
      refine r_iload C dX5_refusalOfCells_37 0 rfl ?_
      refine r_if_eq (tgt := 49) C dX5_refusalOfCells_39 (by decide) (by decide) (fun h_6 => ?_) (fun h_6 => absurd h_6 (by decide))
      refine r_iload C dX5_refusalOfCells_49 6 rfl ?_
      refine r_if_ge (tgt := 60) C dX5_refusalOfCells_51 (by decide) (by omega) (fun h_7 => ?_) (fun h_7 => ?_)
      · skip
        refine r_aload C dX5_refusalOfCells_60 1 rfl ?_
        refine r_iload_n C dX5_refusalOfCells_62 5 rfl ?_
        refine r_iload C dX5_refusalOfCells_63 6 rfl ?_
        refine g_V_i (ws2 := (fun _ => [(h0, .inr (5, [.ref s1, .int (iI sc), .ref w0, .ref t0, .ref k0, .ref r0, .int (iI gf), .int (iI gs), .ref rp, .int (iI rc), .ref sh1, .int (iI tc), .int (iI 0)])), (sh1, .inl (X.2.1.2.2, 4, .inr (.inr (.inr (.inr shf))))), (sa, .inr (2, [.ref sb, .int (iI so), .int (iI la), .int (iI ln)])), (sb, .inl (X.2.1.1, 60, .inl (iF Fs)))])) (As := [.int (iI i1), .int (iI m1)]) C (c_X2_hasFrom l X sa sb so la ln Fs i1 m1 (by first | assumption | omega) (by first | assumption | omega) (by first | assumption | omega)) gX5_refusalOfCells_X2_hasFrom rfl rfl rfl hd_V_X2_hasFrom_X5_refusalOfCells (by decide) dX5_refusalOfCells_65 [2, 3] [0, 1] [0, 1, 2, 3] rfl rfl rfl rfl (by decide) rfl 2 2 rfl rfl rfl rfl (Nat.le_of_ble_eq_true rfl) (by decide) (fun _ => rfl) (fun _ hy_ => ?_)
        clear hy_
        refine r_ite (fun h_8 => absurd h_8 (by omega)) (fun h_8 => ?_)
        refine r_if_eq (tgt := 75) C dX5_refusalOfCells_68 (by decide) (by decide) (fun h_9 => ?_) (fun h_9 => ?_)
        · skip
          refine r_aload_n C dX5_refusalOfCells_75 2 rfl ?_
          refine r_iconst C dX5_refusalOfCells_76 ?_
          refine g_V_i (ws2 := (fun _ => [(h0, .inr (5, [.ref s1, .int (iI sc), .ref w0, .ref t0, .ref k0, .ref r0, .int (iI gf), .int (iI gs), .ref rp, .int (iI rc), .ref sh1, .int (iI tc), .int (iI 3)])), (sh1, .inl (X.2.1.2.2, 4, .inr (.inr (.inr (.inr shf))))), (sa, .inr (2, [.ref sb, .int (iI so), .int (iI la), .int (iI ln)])), (sb, .inl (X.2.1.1, 60, .inl (iF Fs)))])) (As := [.int (iI 3)]) C (c_X5_faulted l X h0 s1 w0 t0 k0 r0 rp sh1 sc gf gs rc tc 0 3 ) gX5_refusalOfCells_X5_faulted rfl rfl rfl hd_V_X5_faulted_X5_refusalOfCells (by decide) dX5_refusalOfCells_77 [0] [1, 2, 3] [3, 0, 1, 2] rfl rfl rfl rfl (by decide) rfl 0 5 rfl rfl rfl rfl (Nat.le_of_ble_eq_true rfl) (by decide) (fun _ => rfl) (fun _ hy_ => ?_)
          clear hy_
          exact g_ret_i C rfl dX5_refusalOfCells_80 ((-10) - 3) (by refine ⟨by omega, ?_⟩; (repeat' split) <;> first | rfl | omega) rfl [0, 1, 2, 3] rfl (by (repeat' split) <;> first | rfl | omega)
        · skip
          refine r_iconst C dX5_refusalOfCells_71 ?_
          refine r_goto (tgt := 80) C dX5_refusalOfCells_72 (by decide) ?_
          exact g_ret_i C rfl dX5_refusalOfCells_80 0 (by refine ⟨by omega, ?_⟩; (repeat' split) <;> first | rfl | omega) rfl [0, 1, 2, 3] rfl (by (repeat' split) <;> first | rfl | omega)
      · skip
        refine r_aload_n C dX5_refusalOfCells_54 2 rfl ?_
        refine r_iconst C dX5_refusalOfCells_55 ?_
        refine g_V_i (ws2 := (fun _ => [(h0, .inr (5, [.ref s1, .int (iI sc), .ref w0, .ref t0, .ref k0, .ref r0, .int (iI gf), .int (iI gs), .ref rp, .int (iI rc), .ref sh1, .int (iI tc), .int (iI 4)])), (sh1, .inl (X.2.1.2.2, 4, .inr (.inr (.inr (.inr shf))))), (sa, .inr (2, [.ref sb, .int (iI so), .int (iI la), .int (iI ln)])), (sb, .inl (X.2.1.1, 60, .inl (iF Fs)))])) (As := [.int (iI 4)]) C (c_X5_faulted l X h0 s1 w0 t0 k0 r0 rp sh1 sc gf gs rc tc 0 4 ) gX5_refusalOfCells_X5_faulted rfl rfl rfl hd_V_X5_faulted_X5_refusalOfCells (by decide) dX5_refusalOfCells_56 [0] [1, 2, 3] [3, 0, 1, 2] rfl rfl rfl rfl (by decide) rfl 0 5 rfl rfl rfl rfl (Nat.le_of_ble_eq_true rfl) (by decide) (fun _ => rfl) (fun _ hy_ => ?_)
        clear hy_
        exact g_ret_i C rfl dX5_refusalOfCells_59 ((-10) - 4) (by refine ⟨by omega, ?_⟩; (repeat' split) <;> first | rfl | omega) rfl [0, 1, 2, 3] rfl (by (repeat' split) <;> first | rfl | omega)
    refine g_V_i (ws2 := (fun _ => [(h0, .inr (5, [.ref s1, .int (iI sc), .ref w0, .ref t0, .ref k0, .ref r0, .int (iI gf), .int (iI gs), .ref rp, .int (iI rc), .ref sh1, .int (iI tc), .int (iI 0)])), (sh1, .inl (X.2.1.2.2, 4, .inr (.inr (.inr (.inr shf))))), (sa, .inr (2, [.ref sb, .int (iI so), .int (iI la), .int (iI ln)])), (sb, .inl (X.2.1.1, 60, .inl (iF Fs)))])) (As := [.int (iI w)]) C (c_X2_faultAs_2 l X sa sb so la ln Fs w (by first | assumption | omega) (by first | assumption | omega) (by first | assumption | omega) (by first | assumption | omega)) gX5_refusalOfCells_X2_faultAs rfl rfl rfl hd_V_X2_faultAs_X5_refusalOfCells (by decide) dX5_refusalOfCells_32 [2, 3] [0, 1] [0, 1, 2, 3] rfl rfl rfl rfl (by decide) rfl 2 2 rfl rfl rfl rfl (Nat.le_of_ble_eq_true rfl) (by decide) (fun _ => rfl) (fun _ hy_ => ?_)
    clear hy_
    refine r_istore (lo2 := [(6, .int (iI 2)), (5, .ref sa), (0, .ref h0), (1, .int (iI k)), (2, .int (iI w)), (3, .int (iI i1)), (4, .int (iI m1))]) C dX5_refusalOfCells_35 (by decide) rfl ?_
    refine r_iload C dX5_refusalOfCells_37 0 rfl ?_
    refine r_if_eq (tgt := 49) C dX5_refusalOfCells_39 (by decide) (by decide) (fun h_10 => absurd h_10 (by decide)) (fun h_10 => ?_)
    refine r_aload_n C dX5_refusalOfCells_42 2 rfl ?_
    refine r_iload C dX5_refusalOfCells_43 0 rfl ?_
    refine g_V_i (ws2 := (fun _ => [(h0, .inr (5, [.ref s1, .int (iI sc), .ref w0, .ref t0, .ref k0, .ref r0, .int (iI gf), .int (iI gs), .ref rp, .int (iI rc), .ref sh1, .int (iI tc), .int (iI 2)])), (sh1, .inl (X.2.1.2.2, 4, .inr (.inr (.inr (.inr shf))))), (sa, .inr (2, [.ref sb, .int (iI so), .int (iI la), .int (iI ln)])), (sb, .inl (X.2.1.1, 60, .inl (iF Fs)))])) (As := [.int (iI 2)]) C (c_X5_faulted l X h0 s1 w0 t0 k0 r0 rp sh1 sc gf gs rc tc 0 2 ) gX5_refusalOfCells_X5_faulted rfl rfl rfl hd_V_X5_faulted_X5_refusalOfCells (by decide) dX5_refusalOfCells_45 [0] [1, 2, 3] [3, 0, 1, 2] rfl rfl rfl rfl (by decide) rfl 0 5 rfl rfl rfl rfl (Nat.le_of_ble_eq_true rfl) (by decide) (fun _ => rfl) (fun _ hy_ => ?_)
    clear hy_
    exact g_ret_i C rfl dX5_refusalOfCells_48 ((-10) - 2) (by refine ⟨by omega, ?_⟩; (repeat' split) <;> first | rfl | omega) rfl [0, 1, 2, 3] rfl (by (repeat' split) <;> first | rfl | omega)
  · skip
    refine r_if_ne (tgt := 29) C dX5_refusalOfCells_23 (by decide) (by decide) (fun h_11 => absurd h_11 (by decide)) (fun h_11 => ?_)
    refine r_bipush C dX5_refusalOfCells_26 (by decide) ?_
    exact g_ret_i C rfl dX5_refusalOfCells_28 (-2) (by refine ⟨by omega, ?_⟩; (repeat' split) <;> first | rfl | omega) rfl [0, 1, 2, 3] rfl (by (repeat' split) <;> first | rfl | omega)

set_option maxHeartbeats 4000000 in
set_option maxRecDepth 100000 in
theorem c_X5_refusalOfCells_out (l : Launch) (X : gX) (h0 : Nat) (s1 : Nat) (w0 : Nat) (t0 : Nat) (k0 : Nat) (r0 : Nat) (rp : Nat) (sh1 : Nat) (sc : Int) (gf : Int) (gs : Int) (rc : Int) (tc : Int) (ft : Int) (shf : Nat → Option Nat) (k : Int) (w : Int) (i1 : Int) (m1 : Int) (hx : ¬ (0 ≤ k ∧ k < 4)) (hbk : inB k) : gM l yX5_refusalOfCells wsX5_refusalOfCells (gr 2 0 0) X [(h0, .inr (5, [.ref s1, .int (iI sc), .ref w0, .ref t0, .ref k0, .ref r0, .int (iI gf), .int (iI gs), .ref rp, .int (iI rc), .ref sh1, .int (iI tc), .int (iI ft)])), (sh1, .inl (X.2.1.2.2, 4, .inr (.inr (.inr (.inr shf)))))] [.ref h0, .int (iI k), .int (iI w), .int (iI i1), .int (iI m1)] (gQi X (Y := Unit) (fun _ => True) (fun _ => -1) (fun _ => [(h0, .inr (5, [.ref s1, .int (iI sc), .ref w0, .ref t0, .ref k0, .ref r0, .int (iI gf), .int (iI gs), .ref rp, .int (iI rc), .ref sh1, .int (iI tc), .int (iI 0)])), (sh1, .inl (X.2.1.2.2, 4, .inr (.inr (.inr (.inr shf)))))])) 0 0 := by
  refine g_start2 (lo := [(0, .ref h0), (1, .int (iI k)), (2, .int (iI w)), (3, .int (iI i1)), (4, .int (iI m1))]) (by decide +kernel) rfl rfl (Nat.le_of_ble_eq_true rfl) (fun p e s m args below meth c A C => ?_)
  refine r_aload_n C dX5_refusalOfCells_0 0 rfl ?_
  refine r_iconst C dX5_refusalOfCells_1 ?_
  refine pf_5_12 (ws2 := [(h0, .inr (5, [.ref s1, .int (iI sc), .ref w0, .ref t0, .ref k0, .ref r0, .int (iI gf), .int (iI gs), .ref rp, .int (iI rc), .ref sh1, .int (iI tc), .int (iI 0)])), (sh1, .inl (X.2.1.2.2, 4, .inr (.inr (.inr (.inr shf)))))]) C hi_X5_refusalOfCells_5 kw_X5_refusalOfCells_0 dX5_refusalOfCells_2 0 rfl rfl rfl (Nat.le_of_ble_eq_true rfl) rfl ?_
  refine r_aload_n C dX5_refusalOfCells_5 0 rfl ?_
  refine r_iload_n C dX5_refusalOfCells_6 1 rfl ?_
  refine g_V_q (ws2 := (fun _ => [(h0, .inr (5, [.ref s1, .int (iI sc), .ref w0, .ref t0, .ref k0, .ref r0, .int (iI gf), .int (iI gs), .ref rp, .int (iI rc), .ref sh1, .int (iI tc), .int (iI 0)])), (sh1, .inl (X.2.1.2.2, 4, .inr (.inr (.inr (.inr shf)))))])) (As := [.int (iI k)]) C (c_X5_sheetAt_out l X h0 s1 w0 t0 k0 r0 rp sh1 sc gf gs rc tc 0 shf k (by first | assumption | omega) (by first | assumption | omega)) gX5_refusalOfCells_X5_sheetAt rfl rfl rfl hd_V_X5_sheetAt_X5_refusalOfCells (by decide) dX5_refusalOfCells_7 [0, 1] [] [0, 1] rfl rfl rfl rfl (by decide) rfl 0 5 rfl rfl rfl rfl (Nat.le_of_ble_eq_true rfl) (by decide) (fun _ => rfl) (fun _ hy_ => ?_)
  clear hy_
  refine r_astoreN (lo2 := [(5, .null), (0, .ref h0), (1, .int (iI k)), (2, .int (iI w)), (3, .int (iI i1)), (4, .int (iI m1))]) C dX5_refusalOfCells_10 (by decide) rfl ?_
  refine r_aloadN C dX5_refusalOfCells_12 0 rfl ?_
  refine r_ifnonnullN C dX5_refusalOfCells_14 ?_
  refine r_iconst C dX5_refusalOfCells_17 ?_
  exact g_ret_i C rfl dX5_refusalOfCells_18 () trivial (by (repeat' split) <;> first | rfl | omega) [0, 1] rfl (by (repeat' split) <;> first | rfl | omega)

set_option maxRecDepth 20000 in
theorem hd_V_X5_refusalOfCells_X5_refusalOfRow : yX5_refusalOfCells.cls = yX5_refusalOfCells.cls ∧ yX5_refusalOfCells.cls ≠ "java/lang/invoke/MethodHandle" ∧ yX5_refusalOfCells.cls ≠ "java/lang/invoke/VarHandle" ∧ (parseMethodDescriptor yX5_refusalOfCells.desc).map (fun d => d.parameters.length) = some 4 := by decide +kernel
set_option maxRecDepth 20000 in
theorem hd_V_X5_sheetAt_X5_refusalOfRow : yX5_sheetAt.cls = yX5_sheetAt.cls ∧ yX5_sheetAt.cls ≠ "java/lang/invoke/MethodHandle" ∧ yX5_sheetAt.cls ≠ "java/lang/invoke/VarHandle" ∧ (parseMethodDescriptor yX5_sheetAt.desc).map (fun d => d.parameters.length) = some 1 := by decide +kernel
set_option maxHeartbeats 4000000 in
set_option maxRecDepth 100000 in
theorem c_X5_refusalOfRow_no (l : Launch) (X : gX) (h0 : Nat) (s1 : Nat) (w0 : Nat) (t0 : Nat) (k0 : Nat) (r0 : Nat) (rp : Nat) (sh1 : Nat) (sc : Int) (gf : Int) (gs : Int) (rc : Int) (tc : Int) (ft : Int) (shf : Nat → Option Nat) (sa : Nat) (sb : Nat) (so : Int) (la : Int) (ln : Int) (Fs : Nat → Int) (k : Int) (w : Int) (i1 : Int) (m1 : Int) (g1 : Int) (g2 : Int) (hx : 0 ≤ k ∧ k < 4) (hsf : shf (Int.toNat k) = some sa) (hso : so = 0 ∨ so = 1) (hla : 0 ≤ la ∧ la ≤ 2) (hln : 0 ≤ ln ∧ ln ≤ 60) (hFs : ∀ i, inB (Fs i)) (hb_w : inB w) (hb_i1 : inB i1) (hb_m1 : inB m1) (hb_g1 : inB g1) (hb_g2 : inB g2) (hok : ¬ (0 ≤ w ∧ w ≤ 2 ∧ ¬ so = 0 ∧ la = w ∧ 0 ≤ i1 ∧ 0 ≤ m1 ∧ i1 + m1 ≤ ln)) : gM l yX5_refusalOfRow wsX5_refusalOfRow (gr 3 0 0) X [(h0, .inr (5, [.ref s1, .int (iI sc), .ref w0, .ref t0, .ref k0, .ref r0, .int (iI gf), .int (iI gs), .ref rp, .int (iI rc), .ref sh1, .int (iI tc), .int (iI ft)])), (sh1, .inl (X.2.1.2.2, 4, .inr (.inr (.inr (.inr shf))))), (sa, .inr (2, [.ref sb, .int (iI so), .int (iI la), .int (iI ln)])), (sb, .inl (X.2.1.1, 60, .inl (iF Fs)))] [.ref h0, .int (iI k), .int (iI w), .int (iI i1), .int (iI m1), .int (iI g1), .int (iI g2)] (gQi X (Y := Int) (fun y => (-20 ≤ y ∧ y < 0) ∧ (y = (if ¬ (0 ≤ w ∧ w ≤ 2) then -2 else if so = 0 then -11 else if ¬ la = w then -12 else if m1 < 0 then -14 else -13))) (fun y => y) (fun y => [(h0, .inr (5, [.ref s1, .int (iI sc), .ref w0, .ref t0, .ref k0, .ref r0, .int (iI gf), .int (iI gs), .ref rp, .int (iI rc), .ref sh1, .int (iI tc), .int (iI (if ¬ (0 ≤ w ∧ w ≤ 2) then 0 else if so = 0 then 1 else if ¬ la = w then 2 else if m1 < 0 then 4 else 3))])), (sh1, .inl (X.2.1.2.2, 4, .inr (.inr (.inr (.inr shf))))), (sa, .inr (2, [.ref sb, .int (iI so), .int (iI la), .int (iI ln)])), (sb, .inl (X.2.1.1, 60, .inl (iF Fs)))])) 0 0 := by
  refine g_start2 (lo := [(0, .ref h0), (1, .int (iI k)), (2, .int (iI w)), (3, .int (iI i1)), (4, .int (iI m1)), (5, .int (iI g1)), (6, .int (iI g2))]) (by decide +kernel) rfl rfl (Nat.le_of_ble_eq_true rfl) (fun p e s m args below meth c A C => ?_)
  refine r_aload_n C dX5_refusalOfRow_0 0 rfl ?_
  refine r_iload_n C dX5_refusalOfRow_1 1 rfl ?_
  refine r_iload_n C dX5_refusalOfRow_2 2 rfl ?_
  refine r_iload_n C dX5_refusalOfRow_3 3 rfl ?_
  refine r_iload C dX5_refusalOfRow_4 4 rfl ?_
  by_cases k_1 : (0 ≤ w ∧ w ≤ 2 ∧ ¬ so = 0 ∧ la = w ∧ 0 ≤ i1 ∧ 0 ≤ m1 ∧ i1 + m1 ≤ ln)
  · skip
    refine g_V_i (ws2 := (fun _ => [(h0, .inr (5, [.ref s1, .int (iI sc), .ref w0, .ref t0, .ref k0, .ref r0, .int (iI gf), .int (iI gs), .ref rp, .int (iI rc), .ref sh1, .int (iI tc), .int (iI 0)])), (sh1, .inl (X.2.1.2.2, 4, .inr (.inr (.inr (.inr shf))))), (sa, .inr (2, [.ref sb, .int (iI so), .int (iI la), .int (iI ln)])), (sb, .inl (X.2.1.1, 60, .inl (iF Fs)))])) (As := [.int (iI k), .int (iI w), .int (iI i1), .int (iI m1)]) C (c_X5_refusalOfCells_ok l X h0 s1 w0 t0 k0 r0 rp sh1 sc gf gs rc tc ft shf sa sb so la ln Fs k w i1 m1 (by first | assumption | omega) (by first | assumption | omega) (by first | assumption | omega) (by first | assumption | omega) (by first | assumption | omega) (by assumption) (by first | assumption | omega) (by first | assumption | omega) (by first | assumption | omega) (by first | assumption | omega)) gX5_refusalOfRow_X5_refusalOfCells rfl rfl rfl hd_V_X5_refusalOfCells_X5_refusalOfRow (by decide) dX5_refusalOfRow_6 [0, 1, 2, 3] [] [0, 1, 2, 3] rfl rfl rfl rfl (by decide) rfl 0 5 rfl rfl rfl rfl (Nat.le_of_ble_eq_true rfl) (by decide) (fun _ => rfl) (fun _ hy_ => ?_)
    clear hy_
    refine r_istore (lo2 := [(7, .int (iI 0)), (0, .ref h0), (1, .int (iI k)), (2, .int (iI w)), (3, .int (iI i1)), (4, .int (iI m1)), (5, .int (iI g1)), (6, .int (iI g2))]) C dX5_refusalOfRow_9 (by decide) rfl ?_
    refine r_aload_n C dX5_refusalOfRow_11 1 rfl ?_
    refine r_iload_n C dX5_refusalOfRow_12 2 rfl ?_
    refine g_V_q (ws2 := (fun _ => [(h0, .inr (5, [.ref s1, .int (iI sc), .ref w0, .ref t0, .ref k0, .ref r0, .int (iI gf), .int (iI gs), .ref rp, .int (iI rc), .ref sh1, .int (iI tc), .int (iI 0)])), (sh1, .inl (X.2.1.2.2, 4, .inr (.inr (.inr (.inr shf))))), (sa, .inr (2, [.ref sb, .int (iI so), .int (iI la), .int (iI ln)])), (sb, .inl (X.2.1.1, 60, .inl (iF Fs)))])) (As := [.int (iI k)]) C (c_X5_sheetAt_in l X h0 s1 w0 t0 k0 r0 rp sh1 sc gf gs rc tc 0 shf sa k (by first | assumption | omega) (by first | assumption | omega)) gX5_refusalOfRow_X5_sheetAt rfl rfl rfl hd_V_X5_sheetAt_X5_refusalOfRow (by decide) dX5_refusalOfRow_13 [0, 1] [2, 3] [2, 3, 0, 1] rfl rfl rfl rfl (by decide) rfl 0 5 rfl rfl rfl rfl (Nat.le_of_ble_eq_true rfl) (by decide) (fun _ => rfl) (fun _ hy_ => ?_)
    clear hy_
    refine r_astore (lo2 := [(8, .ref sa), (7, .int (iI 0)), (0, .ref h0), (1, .int (iI k)), (2, .int (iI w)), (3, .int (iI i1)), (4, .int (iI m1)), (5, .int (iI g1)), (6, .int (iI g2))]) C dX5_refusalOfRow_16 (by decide) rfl ?_
    refine r_iload C dX5_refusalOfRow_18 1 rfl ?_
    exfalso; omega
  refine g_V_i (ws2 := (fun y_3 => [(h0, .inr (5, [.ref s1, .int (iI sc), .ref w0, .ref t0, .ref k0, .ref r0, .int (iI gf), .int (iI gs), .ref rp, .int (iI rc), .ref sh1, .int (iI tc), .int (iI (if ¬ (0 ≤ w ∧ w ≤ 2) then 0 else if so = 0 then 1 else if ¬ la = w then 2 else if m1 < 0 then 4 else 3))])), (sh1, .inl (X.2.1.2.2, 4, .inr (.inr (.inr (.inr shf))))), (sa, .inr (2, [.ref sb, .int (iI so), .int (iI la), .int (iI ln)])), (sb, .inl (X.2.1.1, 60, .inl (iF Fs)))])) (As := [.int (iI k), .int (iI w), .int (iI i1), .int (iI m1)]) C (c_X5_refusalOfCells_no l X h0 s1 w0 t0 k0 r0 rp sh1 sc gf gs rc tc ft shf sa sb so la ln Fs k w i1 m1 (by first | assumption | omega) (by first | assumption | omega) (by first | assumption | omega) (by first | assumption | omega) (by first | assumption | omega) (by assumption) (by first | assumption | omega) (by first | assumption | omega) (by first | assumption | omega) (by first | assumption | omega)) gX5_refusalOfRow_X5_refusalOfCells rfl rfl rfl hd_V_X5_refusalOfCells_X5_refusalOfRow (by decide) dX5_refusalOfRow_6 [0, 1, 2, 3] [] [0, 1, 2, 3] rfl rfl rfl rfl (by decide) rfl 0 5 rfl rfl rfl rfl (Nat.le_of_ble_eq_true rfl) (by decide) (fun _ => rfl) (fun y_3 hy_ => ?_)
  have y_4 := hy_
  obtain ⟨y_5, y_6⟩ := y_4
  clear hy_
  refine r_istore (lo2 := [(7, .int (iI y_3)), (0, .ref h0), (1, .int (iI k)), (2, .int (iI w)), (3, .int (iI i1)), (4, .int (iI m1)), (5, .int (iI g1)), (6, .int (iI g2))]) C dX5_refusalOfRow_9 (by decide) rfl ?_
  refine r_aload_n C dX5_refusalOfRow_11 1 rfl ?_
  refine r_iload_n C dX5_refusalOfRow_12 2 rfl ?_
  refine g_V_q (ws2 := (fun _ => [(h0, .inr (5, [.ref s1, .int (iI sc), .ref w0, .ref t0, .ref k0, .ref r0, .int (iI gf), .int (iI gs), .ref rp, .int (iI rc), .ref sh1, .int (iI tc), .int (iI (if ¬ (0 ≤ w ∧ w ≤ 2) then 0 else if so = 0 then 1 else if ¬ la = w then 2 else if m1 < 0 then 4 else 3))])), (sh1, .inl (X.2.1.2.2, 4, .inr (.inr (.inr (.inr shf))))), (sa, .inr (2, [.ref sb, .int (iI so), .int (iI la), .int (iI ln)])), (sb, .inl (X.2.1.1, 60, .inl (iF Fs)))])) (As := [.int (iI k)]) C (c_X5_sheetAt_in l X h0 s1 w0 t0 k0 r0 rp sh1 sc gf gs rc tc (if ¬ (0 ≤ w ∧ w ≤ 2) then 0 else if so = 0 then 1 else if ¬ la = w then 2 else if m1 < 0 then 4 else 3) shf sa k (by first | assumption | omega) (by first | assumption | omega)) gX5_refusalOfRow_X5_sheetAt rfl rfl rfl hd_V_X5_sheetAt_X5_refusalOfRow (by decide) dX5_refusalOfRow_13 [0, 1] [2, 3] [2, 3, 0, 1] rfl rfl rfl rfl (by decide) rfl 0 5 rfl rfl rfl rfl (Nat.le_of_ble_eq_true rfl) (by decide) (fun _ => rfl) (fun _ hy_ => ?_)
  clear hy_
  refine r_astore (lo2 := [(8, .ref sa), (7, .int (iI y_3)), (0, .ref h0), (1, .int (iI k)), (2, .int (iI w)), (3, .int (iI i1)), (4, .int (iI m1)), (5, .int (iI g1)), (6, .int (iI g2))]) C dX5_refusalOfRow_16 (by decide) rfl ?_
  refine r_iload C dX5_refusalOfRow_18 1 rfl ?_
  refine r_if_ne (tgt := 28) C dX5_refusalOfRow_20 (by decide) (by omega) (fun h_7 => ?_) (fun h_7 => absurd h_7 (by omega))
  refine r_iload C dX5_refusalOfRow_28 1 rfl ?_
  exact g_ret_i C rfl dX5_refusalOfRow_30 y_3 (by refine ⟨by omega, ?_⟩; first | assumption | omega) rfl [0, 1, 2, 3] rfl (by (repeat' split) <;> first | rfl | omega)

set_option maxRecDepth 20000 in
theorem hd_S_X5_within_X5_refusalOfRow : yX5_within.cls ≠ "java/lang/invoke/MethodHandle" ∧ yX5_within.cls ≠ "java/lang/invoke/VarHandle" ∧ (parseMethodDescriptor yX5_within.desc).map (fun d => d.parameters.length) = some 3 := by decide +kernel
set_option maxRecDepth 20000 in
theorem hd_V_X2_number_X5_refusalOfRow : yX2_number.cls = yX2_number.cls ∧ yX2_number.cls ≠ "java/lang/invoke/MethodHandle" ∧ yX2_number.cls ≠ "java/lang/invoke/VarHandle" ∧ (parseMethodDescriptor yX2_number.desc).map (fun d => d.parameters.length) = some 1 := by decide +kernel
set_option maxHeartbeats 4000000 in
set_option maxRecDepth 100000 in
theorem c_X5_refusalOfRow_ok (l : Launch) (X : gX) (h0 : Nat) (s1 : Nat) (w0 : Nat) (t0 : Nat) (k0 : Nat) (r0 : Nat) (rp : Nat) (sh1 : Nat) (sc : Int) (gf : Int) (gs : Int) (rc : Int) (tc : Int) (ft : Int) (shf : Nat → Option Nat) (sa : Nat) (sb : Nat) (so : Int) (la : Int) (ln : Int) (Fs : Nat → Int) (k : Int) (w : Int) (i1 : Int) (m1 : Int) (g1 : Int) (g2 : Int) (hx : 0 ≤ k ∧ k < 4) (hsf : shf (Int.toNat k) = some sa) (hso : so = 0 ∨ so = 1) (hla : 0 ≤ la ∧ la ≤ 2) (hln : 0 ≤ ln ∧ ln ≤ 60) (hFs : ∀ i, inB (Fs i)) (hb_w : inB w) (hb_i1 : inB i1) (hb_m1 : inB m1) (hb_g1 : inB g1) (hb_g2 : inB g2) (hok : (0 ≤ w ∧ w ≤ 2 ∧ ¬ so = 0 ∧ la = w ∧ 0 ≤ i1 ∧ 0 ≤ m1 ∧ i1 + m1 ≤ ln)) (hm : 1 ≤ m1 ∧ m1 ≤ 20) (hall : ∀ c : Int, 0 ≤ c → c < m1 → g1 ≤ Fs (Int.toNat (i1 + c)) ∧ Fs (Int.toNat (i1 + c)) ≤ g2) : gM l yX5_refusalOfRow wsX5_refusalOfRow (gr 3 0 0) X [(h0, .inr (5, [.ref s1, .int (iI sc), .ref w0, .ref t0, .ref k0, .ref r0, .int (iI gf), .int (iI gs), .ref rp, .int (iI rc), .ref sh1, .int (iI tc), .int (iI ft)])), (sh1, .inl (X.2.1.2.2, 4, .inr (.inr (.inr (.inr shf))))), (sa, .inr (2, [.ref sb, .int (iI so), .int (iI la), .int (iI ln)])), (sb, .inl (X.2.1.1, 60, .inl (iF Fs)))] [.ref h0, .int (iI k), .int (iI w), .int (iI i1), .int (iI m1), .int (iI g1), .int (iI g2)] (gQi X (Y := Unit) (fun _ => True) (fun _ => 0) (fun _ => [(h0, .inr (5, [.ref s1, .int (iI sc), .ref w0, .ref t0, .ref k0, .ref r0, .int (iI gf), .int (iI gs), .ref rp, .int (iI rc), .ref sh1, .int (iI tc), .int (iI 0)])), (sh1, .inl (X.2.1.2.2, 4, .inr (.inr (.inr (.inr shf))))), (sa, .inr (2, [.ref sb, .int (iI so), .int (iI la), .int (iI ln)])), (sb, .inl (X.2.1.1, 60, .inl (iF Fs)))])) 0 0 := by
  refine g_start2 (lo := [(0, .ref h0), (1, .int (iI k)), (2, .int (iI w)), (3, .int (iI i1)), (4, .int (iI m1)), (5, .int (iI g1)), (6, .int (iI g2))]) (by decide +kernel) rfl rfl (Nat.le_of_ble_eq_true rfl) (fun p e s m args below meth c A C => ?_)
  refine r_aload_n C dX5_refusalOfRow_0 0 rfl ?_
  refine r_iload_n C dX5_refusalOfRow_1 1 rfl ?_
  refine r_iload_n C dX5_refusalOfRow_2 2 rfl ?_
  refine r_iload_n C dX5_refusalOfRow_3 3 rfl ?_
  refine r_iload C dX5_refusalOfRow_4 4 rfl ?_
  by_cases k_1 : (0 ≤ w ∧ w ≤ 2 ∧ ¬ so = 0 ∧ la = w ∧ 0 ≤ i1 ∧ 0 ≤ m1 ∧ i1 + m1 ≤ ln)
  · skip
    refine g_V_i (ws2 := (fun _ => [(h0, .inr (5, [.ref s1, .int (iI sc), .ref w0, .ref t0, .ref k0, .ref r0, .int (iI gf), .int (iI gs), .ref rp, .int (iI rc), .ref sh1, .int (iI tc), .int (iI 0)])), (sh1, .inl (X.2.1.2.2, 4, .inr (.inr (.inr (.inr shf))))), (sa, .inr (2, [.ref sb, .int (iI so), .int (iI la), .int (iI ln)])), (sb, .inl (X.2.1.1, 60, .inl (iF Fs)))])) (As := [.int (iI k), .int (iI w), .int (iI i1), .int (iI m1)]) C (c_X5_refusalOfCells_ok l X h0 s1 w0 t0 k0 r0 rp sh1 sc gf gs rc tc ft shf sa sb so la ln Fs k w i1 m1 (by first | assumption | omega) (by first | assumption | omega) (by first | assumption | omega) (by first | assumption | omega) (by first | assumption | omega) (by assumption) (by first | assumption | omega) (by first | assumption | omega) (by first | assumption | omega) (by first | assumption | omega)) gX5_refusalOfRow_X5_refusalOfCells rfl rfl rfl hd_V_X5_refusalOfCells_X5_refusalOfRow (by decide) dX5_refusalOfRow_6 [0, 1, 2, 3] [] [0, 1, 2, 3] rfl rfl rfl rfl (by decide) rfl 0 5 rfl rfl rfl rfl (Nat.le_of_ble_eq_true rfl) (by decide) (fun _ => rfl) (fun _ hy_ => ?_)
    clear hy_
    refine r_istore (lo2 := [(7, .int (iI 0)), (0, .ref h0), (1, .int (iI k)), (2, .int (iI w)), (3, .int (iI i1)), (4, .int (iI m1)), (5, .int (iI g1)), (6, .int (iI g2))]) C dX5_refusalOfRow_9 (by decide) rfl ?_
    refine r_aload_n C dX5_refusalOfRow_11 1 rfl ?_
    refine r_iload_n C dX5_refusalOfRow_12 2 rfl ?_
    refine g_V_q (ws2 := (fun _ => [(h0, .inr (5, [.ref s1, .int (iI sc), .ref w0, .ref t0, .ref k0, .ref r0, .int (iI gf), .int (iI gs), .ref rp, .int (iI rc), .ref sh1, .int (iI tc), .int (iI 0)])), (sh1, .inl (X.2.1.2.2, 4, .inr (.inr (.inr (.inr shf))))), (sa, .inr (2, [.ref sb, .int (iI so), .int (iI la), .int (iI ln)])), (sb, .inl (X.2.1.1, 60, .inl (iF Fs)))])) (As := [.int (iI k)]) C (c_X5_sheetAt_in l X h0 s1 w0 t0 k0 r0 rp sh1 sc gf gs rc tc 0 shf sa k (by first | assumption | omega) (by first | assumption | omega)) gX5_refusalOfRow_X5_sheetAt rfl rfl rfl hd_V_X5_sheetAt_X5_refusalOfRow (by decide) dX5_refusalOfRow_13 [0, 1] [2, 3] [2, 3, 0, 1] rfl rfl rfl rfl (by decide) rfl 0 5 rfl rfl rfl rfl (Nat.le_of_ble_eq_true rfl) (by decide) (fun _ => rfl) (fun _ hy_ => ?_)
    clear hy_
    refine r_astore (lo2 := [(8, .ref sa), (7, .int (iI 0)), (0, .ref h0), (1, .int (iI k)), (2, .int (iI w)), (3, .int (iI i1)), (4, .int (iI m1)), (5, .int (iI g1)), (6, .int (iI g2))]) C dX5_refusalOfRow_16 (by decide) rfl ?_
    refine r_iload C dX5_refusalOfRow_18 1 rfl ?_
    refine r_if_ne (tgt := 28) C dX5_refusalOfRow_20 (by decide) (by decide) (fun h_2 => absurd h_2 (by decide)) (fun h_2 => ?_)
    refine r_aload C dX5_refusalOfRow_23 0 rfl ?_
    refine r_ifnonnull (tgt := 31) C dX5_refusalOfRow_25 (by decide) ?_
    refine r_iload C dX5_refusalOfRow_31 6 rfl ?_
    refine r_iconst C dX5_refusalOfRow_33 ?_
    refine r_bipush C dX5_refusalOfRow_34 (by decide) ?_
    refine g_S_i (ws2 := (fun _ => [(h0, .inr (5, [.ref s1, .int (iI sc), .ref w0, .ref t0, .ref k0, .ref r0, .int (iI gf), .int (iI gs), .ref rp, .int (iI rc), .ref sh1, .int (iI tc), .int (iI 0)])), (sh1, .inl (X.2.1.2.2, 4, .inr (.inr (.inr (.inr shf))))), (sa, .inr (2, [.ref sb, .int (iI so), .int (iI la), .int (iI ln)])), (sb, .inl (X.2.1.1, 60, .inl (iF Fs)))])) (As := [.int (iI m1), .int (iI 1), .int (iI 20)]) C (c_X5_within l X m1 1 20 (by first | assumption | omega) (by first | assumption | omega) (by first | assumption | omega)) gX5_refusalOfRow_X5_within rfl rfl rfl hd_S_X5_within_X5_refusalOfRow (by decide) dX5_refusalOfRow_36 [] [0, 1, 2, 3] [0, 1, 2, 3] rfl rfl rfl rfl (by decide) rfl rfl rfl (Nat.le_of_ble_eq_true rfl) (by decide) (fun _ => rfl) (fun _ hy_ => ?_)
    clear hy_
    refine r_ite (fun h_3 => ?_) (fun h_3 => absurd h_3 (by omega))
    refine r_if_ne (tgt := 45) C dX5_refusalOfRow_39 (by decide) (by decide) (fun h_4 => ?_) (fun h_4 => absurd h_4 (by decide))
    refine r_iconst C dX5_refusalOfRow_45 ?_
    refine r_istore (lo2 := [(9, .int (iI 0)), (8, .ref sa), (7, .int (iI 0)), (0, .ref h0), (1, .int (iI k)), (2, .int (iI w)), (3, .int (iI i1)), (4, .int (iI m1)), (5, .int (iI g1)), (6, .int (iI g2))]) C dX5_refusalOfRow_46 (by decide) rfl ?_
    have L48 : ∀ (fu48 : Nat) (c1 : Int), (0 ≤ c1 ∧ c1 ≤ m1) → (∀ c : Int, 0 ≤ c → c < c1 → g1 ≤ Fs (Int.toNat (i1 + c)) ∧ Fs (Int.toNat (i1 + c)) ≤ g2) → (m1 - c1).toNat < fu48 → gW p l e (gr 3 0 0) s m args below meth c X A 10 (MQ below ((gQi X (Y := Unit) (fun _ => True) (fun _ => 0) (fun _ => [(h0, .inr (5, [.ref s1, .int (iI sc), .ref w0, .ref t0, .ref k0, .ref r0, .int (iI gf), .int (iI gs), .ref rp, .int (iI rc), .ref sh1, .int (iI tc), .int (iI 0)])), (sh1, .inl (X.2.1.2.2, 4, .inr (.inr (.inr (.inr shf))))), (sa, .inr (2, [.ref sb, .int (iI so), .int (iI la), .int (iI ln)])), (sb, .inl (X.2.1.1, 60, .inl (iF Fs)))])) A) args s 0 0 A) 0 0 [(h0, .inr (5, [.ref s1, .int (iI sc), .ref w0, .ref t0, .ref k0, .ref r0, .int (iI gf), .int (iI gs), .ref rp, .int (iI rc), .ref sh1, .int (iI tc), .int (iI 0)])), (sh1, .inl (X.2.1.2.2, 4, .inr (.inr (.inr (.inr shf))))), (sa, .inr (2, [.ref sb, .int (iI so), .int (iI la), .int (iI ln)])), (sb, .inl (X.2.1.1, 60, .inl (iF Fs)))] 48 [(8, .ref sa), (0, .ref h0), (3, .int (iI i1)), (4, .int (iI m1)), (5, .int (iI g1)), (6, .int (iI g2)), (9, .int (iI c1))] [] := by
      intro fu48
      induction fu48 with
      | zero => intro c1 ic iA hm48; exact absurd hm48 (Nat.not_lt_zero _)
      | succ fu48 ih48 =>
        intro c1 ic iA hm48
        refine r_iload C dX5_refusalOfRow_48 6 rfl ?_
        refine r_iload C dX5_refusalOfRow_50 3 rfl ?_
        refine r_icmp_ge (tgt := 83) C dX5_refusalOfRow_52 (by decide) (by omega) (by omega) (fun h_5 => ?_) (fun h_5 => ?_)
        · skip
          refine r_iconst C dX5_refusalOfRow_83 ?_
          exact g_ret_i C rfl dX5_refusalOfRow_84 () trivial (by (repeat' split) <;> first | rfl | omega) [0, 1, 2, 3] rfl (by (repeat' split) <;> first | rfl | omega)
        · skip
          refine r_aload C dX5_refusalOfRow_55 0 rfl ?_
          refine r_iload_n C dX5_refusalOfRow_57 2 rfl ?_
          refine r_iload C dX5_refusalOfRow_58 6 rfl ?_
          refine r_iadd C dX5_refusalOfRow_60 ?_
          refine g_V_i (ws2 := (fun _ => [(h0, .inr (5, [.ref s1, .int (iI sc), .ref w0, .ref t0, .ref k0, .ref r0, .int (iI gf), .int (iI gs), .ref rp, .int (iI rc), .ref sh1, .int (iI tc), .int (iI 0)])), (sh1, .inl (X.2.1.2.2, 4, .inr (.inr (.inr (.inr shf))))), (sa, .inr (2, [.ref sb, .int (iI so), .int (iI la), .int (iI ln)])), (sb, .inl (X.2.1.1, 60, .inl (iF Fs)))])) (As := [.int (iI (i1 + c1))]) C (c_X2_number l X sa sb so la ln Fs (i1 + c1) (by first | assumption | omega) (by first | assumption | omega)) gX5_refusalOfRow_X2_number rfl rfl rfl hd_V_X2_number_X5_refusalOfRow (by decide) dX5_refusalOfRow_61 [2, 3] [0, 1] [0, 1, 2, 3] rfl rfl rfl rfl (by decide) rfl 2 2 rfl rfl rfl rfl (Nat.le_of_ble_eq_true rfl) (by decide) (fun _ => rfl) (fun _ hy_ => ?_)
          clear hy_
          have hc1 := hall c1 (by omega) (by omega)
          refine r_topi (z := (Fs (Int.toNat (i1 + c1)))) (if_pos (by omega)) ?_
          refine r_iload C dX5_refusalOfRow_64 4 rfl ?_
          refine r_iload C dX5_refusalOfRow_66 5 rfl ?_
          refine g_S_i (ws2 := (fun _ => [(h0, .inr (5, [.ref s1, .int (iI sc), .ref w0, .ref t0, .ref k0, .ref r0, .int (iI gf), .int (iI gs), .ref rp, .int (iI rc), .ref sh1, .int (iI tc), .int (iI 0)])), (sh1, .inl (X.2.1.2.2, 4, .inr (.inr (.inr (.inr shf))))), (sa, .inr (2, [.ref sb, .int (iI so), .int (iI la), .int (iI ln)])), (sb, .inl (X.2.1.1, 60, .inl (iF Fs)))])) (As := [.int (iI (Fs (Int.toNat (i1 + c1)))), .int (iI g1), .int (iI g2)]) C (c_X5_within l X (Fs (Int.toNat (i1 + c1))) g1 g2 (by first | assumption | have := hFs (Int.toNat (i1 + c1)); omega) (by first | assumption | omega) (by first | assumption | omega)) gX5_refusalOfRow_X5_within rfl rfl rfl hd_S_X5_within_X5_refusalOfRow (by decide) dX5_refusalOfRow_68 [] [0, 1, 2, 3] [0, 1, 2, 3] rfl rfl rfl rfl (by decide) rfl rfl rfl (Nat.le_of_ble_eq_true rfl) (by decide) (fun _ => rfl) (fun _ hy_ => ?_)
          clear hy_
          refine r_ite (fun h_6 => ?_) (fun h_6 => absurd h_6 (by omega))
          refine r_if_ne (tgt := 77) C dX5_refusalOfRow_71 (by decide) (by decide) (fun h_7 => ?_) (fun h_7 => absurd h_7 (by decide))
          refine r_iinc (lo2 := [(9, .int (iI (c1 + 1))), (8, .ref sa), (0, .ref h0), (3, .int (iI i1)), (4, .int (iI m1)), (5, .int (iI g1)), (6, .int (iI g2))]) C dX5_refusalOfRow_77 6 rfl (by decide) rfl ?_
          refine r_goto (tgt := 48) C dX5_refusalOfRow_80 (by decide) ?_
          refine r_lo [1, 2, 3, 4, 5, 6, 0] (lo2 := [(8, .ref sa), (0, .ref h0), (3, .int (iI i1)), (4, .int (iI m1)), (5, .int (iI g1)), (6, .int (iI g2)), (9, .int (iI (c1 + 1)))]) rfl ?_
          exact ih48 (c1 + 1) (by omega) (fun c h0 h1 => by by_cases q : c < c1; exact iA c h0 q; rw [show c = c1 by omega]; omega) (by omega)
    refine r_lo [1, 3, 6, 7, 8, 9, 0] (lo2 := [(8, .ref sa), (0, .ref h0), (3, .int (iI i1)), (4, .int (iI m1)), (5, .int (iI g1)), (6, .int (iI g2)), (9, .int (iI 0))]) rfl ?_
    exact L48 ((m1 - (0 : Int)).toNat + 1) 0 (by omega) (fun c h0 h1 => by omega) (Nat.lt_succ_self _)
  refine g_V_i (ws2 := (fun y_8 => [(h0, .inr (5, [.ref s1, .int (iI sc), .ref w0, .ref t0, .ref k0, .ref r0, .int (iI gf), .int (iI gs), .ref rp, .int (iI rc), .ref sh1, .int (iI tc), .int (iI (if ¬ (0 ≤ w ∧ w ≤ 2) then 0 else if so = 0 then 1 else if ¬ la = w then 2 else if m1 < 0 then 4 else 3))])), (sh1, .inl (X.2.1.2.2, 4, .inr (.inr (.inr (.inr shf))))), (sa, .inr (2, [.ref sb, .int (iI so), .int (iI la), .int (iI ln)])), (sb, .inl (X.2.1.1, 60, .inl (iF Fs)))])) (As := [.int (iI k), .int (iI w), .int (iI i1), .int (iI m1)]) C (c_X5_refusalOfCells_no l X h0 s1 w0 t0 k0 r0 rp sh1 sc gf gs rc tc ft shf sa sb so la ln Fs k w i1 m1 (by first | assumption | omega) (by first | assumption | omega) (by first | assumption | omega) (by first | assumption | omega) (by first | assumption | omega) (by assumption) (by first | assumption | omega) (by first | assumption | omega) (by first | assumption | omega) (by first | assumption | omega)) gX5_refusalOfRow_X5_refusalOfCells rfl rfl rfl hd_V_X5_refusalOfCells_X5_refusalOfRow (by decide) dX5_refusalOfRow_6 [0, 1, 2, 3] [] [0, 1, 2, 3] rfl rfl rfl rfl (by decide) rfl 0 5 rfl rfl rfl rfl (Nat.le_of_ble_eq_true rfl) (by decide) (fun _ => rfl) (fun y_8 hy_ => ?_)
  have y_9 := hy_
  obtain ⟨y_10, y_11⟩ := y_9
  clear hy_
  refine r_istore (lo2 := [(7, .int (iI y_8)), (0, .ref h0), (1, .int (iI k)), (2, .int (iI w)), (3, .int (iI i1)), (4, .int (iI m1)), (5, .int (iI g1)), (6, .int (iI g2))]) C dX5_refusalOfRow_9 (by decide) rfl ?_
  refine r_aload_n C dX5_refusalOfRow_11 1 rfl ?_
  refine r_iload_n C dX5_refusalOfRow_12 2 rfl ?_
  refine g_V_q (ws2 := (fun _ => [(h0, .inr (5, [.ref s1, .int (iI sc), .ref w0, .ref t0, .ref k0, .ref r0, .int (iI gf), .int (iI gs), .ref rp, .int (iI rc), .ref sh1, .int (iI tc), .int (iI (if ¬ (0 ≤ w ∧ w ≤ 2) then 0 else if so = 0 then 1 else if ¬ la = w then 2 else if m1 < 0 then 4 else 3))])), (sh1, .inl (X.2.1.2.2, 4, .inr (.inr (.inr (.inr shf))))), (sa, .inr (2, [.ref sb, .int (iI so), .int (iI la), .int (iI ln)])), (sb, .inl (X.2.1.1, 60, .inl (iF Fs)))])) (As := [.int (iI k)]) C (c_X5_sheetAt_in l X h0 s1 w0 t0 k0 r0 rp sh1 sc gf gs rc tc (if ¬ (0 ≤ w ∧ w ≤ 2) then 0 else if so = 0 then 1 else if ¬ la = w then 2 else if m1 < 0 then 4 else 3) shf sa k (by first | assumption | omega) (by first | assumption | omega)) gX5_refusalOfRow_X5_sheetAt rfl rfl rfl hd_V_X5_sheetAt_X5_refusalOfRow (by decide) dX5_refusalOfRow_13 [0, 1] [2, 3] [2, 3, 0, 1] rfl rfl rfl rfl (by decide) rfl 0 5 rfl rfl rfl rfl (Nat.le_of_ble_eq_true rfl) (by decide) (fun _ => rfl) (fun _ hy_ => ?_)
  clear hy_
  refine r_astore (lo2 := [(8, .ref sa), (7, .int (iI y_8)), (0, .ref h0), (1, .int (iI k)), (2, .int (iI w)), (3, .int (iI i1)), (4, .int (iI m1)), (5, .int (iI g1)), (6, .int (iI g2))]) C dX5_refusalOfRow_16 (by decide) rfl ?_
  refine r_iload C dX5_refusalOfRow_18 1 rfl ?_
  exfalso; omega

set_option maxHeartbeats 4000000 in
set_option maxRecDepth 100000 in
theorem c_X5_refusalOfRow_bad (l : Launch) (X : gX) (h0 : Nat) (s1 : Nat) (w0 : Nat) (t0 : Nat) (k0 : Nat) (r0 : Nat) (rp : Nat) (sh1 : Nat) (sc : Int) (gf : Int) (gs : Int) (rc : Int) (tc : Int) (ft : Int) (shf : Nat → Option Nat) (sa : Nat) (sb : Nat) (so : Int) (la : Int) (ln : Int) (Fs : Nat → Int) (k : Int) (w : Int) (i1 : Int) (m1 : Int) (g1 : Int) (g2 : Int) (hx : 0 ≤ k ∧ k < 4) (hsf : shf (Int.toNat k) = some sa) (hso : so = 0 ∨ so = 1) (hla : 0 ≤ la ∧ la ≤ 2) (hln : 0 ≤ ln ∧ ln ≤ 60) (hFs : ∀ i, inB (Fs i)) (hb_w : inB w) (hb_i1 : inB i1) (hb_m1 : inB m1) (hb_g1 : inB g1) (hb_g2 : inB g2) (hok : (0 ≤ w ∧ w ≤ 2 ∧ ¬ so = 0 ∧ la = w ∧ 0 ≤ i1 ∧ 0 ≤ m1 ∧ i1 + m1 ≤ ln)) (hbad : ¬ ((1 ≤ m1 ∧ m1 ≤ 20) ∧ ∀ c : Int, 0 ≤ c → c < m1 → g1 ≤ Fs (Int.toNat (i1 + c)) ∧ Fs (Int.toNat (i1 + c)) ≤ g2)) : gM l yX5_refusalOfRow wsX5_refusalOfRow (gr 3 0 0) X [(h0, .inr (5, [.ref s1, .int (iI sc), .ref w0, .ref t0, .ref k0, .ref r0, .int (iI gf), .int (iI gs), .ref rp, .int (iI rc), .ref sh1, .int (iI tc), .int (iI ft)])), (sh1, .inl (X.2.1.2.2, 4, .inr (.inr (.inr (.inr shf))))), (sa, .inr (2, [.ref sb, .int (iI so), .int (iI la), .int (iI ln)])), (sb, .inl (X.2.1.1, 60, .inl (iF Fs)))] [.ref h0, .int (iI k), .int (iI w), .int (iI i1), .int (iI m1), .int (iI g1), .int (iI g2)] (gQi X (Y := Unit) (fun _ => True) (fun _ => -2) (fun _ => [(h0, .inr (5, [.ref s1, .int (iI sc), .ref w0, .ref t0, .ref k0, .ref r0, .int (iI gf), .int (iI gs), .ref rp, .int (iI rc), .ref sh1, .int (iI tc), .int (iI 0)])), (sh1, .inl (X.2.1.2.2, 4, .inr (.inr (.inr (.inr shf))))), (sa, .inr (2, [.ref sb, .int (iI so), .int (iI la), .int (iI ln)])), (sb, .inl (X.2.1.1, 60, .inl (iF Fs)))])) 0 0 := by
  refine g_start2 (lo := [(0, .ref h0), (1, .int (iI k)), (2, .int (iI w)), (3, .int (iI i1)), (4, .int (iI m1)), (5, .int (iI g1)), (6, .int (iI g2))]) (by decide +kernel) rfl rfl (Nat.le_of_ble_eq_true rfl) (fun p e s m args below meth c A C => ?_)
  refine r_aload_n C dX5_refusalOfRow_0 0 rfl ?_
  refine r_iload_n C dX5_refusalOfRow_1 1 rfl ?_
  refine r_iload_n C dX5_refusalOfRow_2 2 rfl ?_
  refine r_iload_n C dX5_refusalOfRow_3 3 rfl ?_
  refine r_iload C dX5_refusalOfRow_4 4 rfl ?_
  by_cases k_1 : (0 ≤ w ∧ w ≤ 2 ∧ ¬ so = 0 ∧ la = w ∧ 0 ≤ i1 ∧ 0 ≤ m1 ∧ i1 + m1 ≤ ln)
  · skip
    refine g_V_i (ws2 := (fun _ => [(h0, .inr (5, [.ref s1, .int (iI sc), .ref w0, .ref t0, .ref k0, .ref r0, .int (iI gf), .int (iI gs), .ref rp, .int (iI rc), .ref sh1, .int (iI tc), .int (iI 0)])), (sh1, .inl (X.2.1.2.2, 4, .inr (.inr (.inr (.inr shf))))), (sa, .inr (2, [.ref sb, .int (iI so), .int (iI la), .int (iI ln)])), (sb, .inl (X.2.1.1, 60, .inl (iF Fs)))])) (As := [.int (iI k), .int (iI w), .int (iI i1), .int (iI m1)]) C (c_X5_refusalOfCells_ok l X h0 s1 w0 t0 k0 r0 rp sh1 sc gf gs rc tc ft shf sa sb so la ln Fs k w i1 m1 (by first | assumption | omega) (by first | assumption | omega) (by first | assumption | omega) (by first | assumption | omega) (by first | assumption | omega) (by assumption) (by first | assumption | omega) (by first | assumption | omega) (by first | assumption | omega) (by first | assumption | omega)) gX5_refusalOfRow_X5_refusalOfCells rfl rfl rfl hd_V_X5_refusalOfCells_X5_refusalOfRow (by decide) dX5_refusalOfRow_6 [0, 1, 2, 3] [] [0, 1, 2, 3] rfl rfl rfl rfl (by decide) rfl 0 5 rfl rfl rfl rfl (Nat.le_of_ble_eq_true rfl) (by decide) (fun _ => rfl) (fun _ hy_ => ?_)
    clear hy_
    refine r_istore (lo2 := [(7, .int (iI 0)), (0, .ref h0), (1, .int (iI k)), (2, .int (iI w)), (3, .int (iI i1)), (4, .int (iI m1)), (5, .int (iI g1)), (6, .int (iI g2))]) C dX5_refusalOfRow_9 (by decide) rfl ?_
    refine r_aload_n C dX5_refusalOfRow_11 1 rfl ?_
    refine r_iload_n C dX5_refusalOfRow_12 2 rfl ?_
    refine g_V_q (ws2 := (fun _ => [(h0, .inr (5, [.ref s1, .int (iI sc), .ref w0, .ref t0, .ref k0, .ref r0, .int (iI gf), .int (iI gs), .ref rp, .int (iI rc), .ref sh1, .int (iI tc), .int (iI 0)])), (sh1, .inl (X.2.1.2.2, 4, .inr (.inr (.inr (.inr shf))))), (sa, .inr (2, [.ref sb, .int (iI so), .int (iI la), .int (iI ln)])), (sb, .inl (X.2.1.1, 60, .inl (iF Fs)))])) (As := [.int (iI k)]) C (c_X5_sheetAt_in l X h0 s1 w0 t0 k0 r0 rp sh1 sc gf gs rc tc 0 shf sa k (by first | assumption | omega) (by first | assumption | omega)) gX5_refusalOfRow_X5_sheetAt rfl rfl rfl hd_V_X5_sheetAt_X5_refusalOfRow (by decide) dX5_refusalOfRow_13 [0, 1] [2, 3] [2, 3, 0, 1] rfl rfl rfl rfl (by decide) rfl 0 5 rfl rfl rfl rfl (Nat.le_of_ble_eq_true rfl) (by decide) (fun _ => rfl) (fun _ hy_ => ?_)
    clear hy_
    refine r_astore (lo2 := [(8, .ref sa), (7, .int (iI 0)), (0, .ref h0), (1, .int (iI k)), (2, .int (iI w)), (3, .int (iI i1)), (4, .int (iI m1)), (5, .int (iI g1)), (6, .int (iI g2))]) C dX5_refusalOfRow_16 (by decide) rfl ?_
    refine r_iload C dX5_refusalOfRow_18 1 rfl ?_
    refine r_if_ne (tgt := 28) C dX5_refusalOfRow_20 (by decide) (by decide) (fun h_2 => absurd h_2 (by decide)) (fun h_2 => ?_)
    refine r_aload C dX5_refusalOfRow_23 0 rfl ?_
    refine r_ifnonnull (tgt := 31) C dX5_refusalOfRow_25 (by decide) ?_
    refine r_iload C dX5_refusalOfRow_31 6 rfl ?_
    refine r_iconst C dX5_refusalOfRow_33 ?_
    refine r_bipush C dX5_refusalOfRow_34 (by decide) ?_
    refine g_S_i (ws2 := (fun _ => [(h0, .inr (5, [.ref s1, .int (iI sc), .ref w0, .ref t0, .ref k0, .ref r0, .int (iI gf), .int (iI gs), .ref rp, .int (iI rc), .ref sh1, .int (iI tc), .int (iI 0)])), (sh1, .inl (X.2.1.2.2, 4, .inr (.inr (.inr (.inr shf))))), (sa, .inr (2, [.ref sb, .int (iI so), .int (iI la), .int (iI ln)])), (sb, .inl (X.2.1.1, 60, .inl (iF Fs)))])) (As := [.int (iI m1), .int (iI 1), .int (iI 20)]) C (c_X5_within l X m1 1 20 (by first | assumption | omega) (by first | assumption | omega) (by first | assumption | omega)) gX5_refusalOfRow_X5_within rfl rfl rfl hd_S_X5_within_X5_refusalOfRow (by decide) dX5_refusalOfRow_36 [] [0, 1, 2, 3] [0, 1, 2, 3] rfl rfl rfl rfl (by decide) rfl rfl rfl (Nat.le_of_ble_eq_true rfl) (by decide) (fun _ => rfl) (fun _ hy_ => ?_)
    clear hy_
    refine r_ite (fun h_3 => ?_) (fun h_3 => ?_)
    · skip
      refine r_if_ne (tgt := 45) C dX5_refusalOfRow_39 (by decide) (by decide) (fun h_4 => ?_) (fun h_4 => absurd h_4 (by decide))
      refine r_iconst C dX5_refusalOfRow_45 ?_
      refine r_istore (lo2 := [(9, .int (iI 0)), (8, .ref sa), (7, .int (iI 0)), (0, .ref h0), (1, .int (iI k)), (2, .int (iI w)), (3, .int (iI i1)), (4, .int (iI m1)), (5, .int (iI g1)), (6, .int (iI g2))]) C dX5_refusalOfRow_46 (by decide) rfl ?_
      have L48 : ∀ (fu48 : Nat) (c1 : Int), (0 ≤ c1 ∧ c1 ≤ m1) → (∀ c : Int, 0 ≤ c → c < c1 → g1 ≤ Fs (Int.toNat (i1 + c)) ∧ Fs (Int.toNat (i1 + c)) ≤ g2) → (m1 - c1).toNat < fu48 → gW p l e (gr 3 0 0) s m args below meth c X A 10 (MQ below ((gQi X (Y := Unit) (fun _ => True) (fun _ => -2) (fun _ => [(h0, .inr (5, [.ref s1, .int (iI sc), .ref w0, .ref t0, .ref k0, .ref r0, .int (iI gf), .int (iI gs), .ref rp, .int (iI rc), .ref sh1, .int (iI tc), .int (iI 0)])), (sh1, .inl (X.2.1.2.2, 4, .inr (.inr (.inr (.inr shf))))), (sa, .inr (2, [.ref sb, .int (iI so), .int (iI la), .int (iI ln)])), (sb, .inl (X.2.1.1, 60, .inl (iF Fs)))])) A) args s 0 0 A) 0 0 [(h0, .inr (5, [.ref s1, .int (iI sc), .ref w0, .ref t0, .ref k0, .ref r0, .int (iI gf), .int (iI gs), .ref rp, .int (iI rc), .ref sh1, .int (iI tc), .int (iI 0)])), (sh1, .inl (X.2.1.2.2, 4, .inr (.inr (.inr (.inr shf))))), (sa, .inr (2, [.ref sb, .int (iI so), .int (iI la), .int (iI ln)])), (sb, .inl (X.2.1.1, 60, .inl (iF Fs)))] 48 [(8, .ref sa), (0, .ref h0), (3, .int (iI i1)), (4, .int (iI m1)), (5, .int (iI g1)), (6, .int (iI g2)), (9, .int (iI c1))] [] := by
        intro fu48
        induction fu48 with
        | zero => intro c1 ic iA hm48; exact absurd hm48 (Nat.not_lt_zero _)
        | succ fu48 ih48 =>
          intro c1 ic iA hm48
          refine r_iload C dX5_refusalOfRow_48 6 rfl ?_
          refine r_iload C dX5_refusalOfRow_50 3 rfl ?_
          refine r_icmp_ge (tgt := 83) C dX5_refusalOfRow_52 (by decide) (by omega) (by omega) (fun h_5 => ?_) (fun h_5 => ?_)
          · skip
            exact absurd ⟨by omega, fun c h0 h1 => iA c h0 (by omega)⟩ hbad
          · skip
            refine r_aload C dX5_refusalOfRow_55 0 rfl ?_
            refine r_iload_n C dX5_refusalOfRow_57 2 rfl ?_
            refine r_iload C dX5_refusalOfRow_58 6 rfl ?_
            refine r_iadd C dX5_refusalOfRow_60 ?_
            refine g_V_i (ws2 := (fun _ => [(h0, .inr (5, [.ref s1, .int (iI sc), .ref w0, .ref t0, .ref k0, .ref r0, .int (iI gf), .int (iI gs), .ref rp, .int (iI rc), .ref sh1, .int (iI tc), .int (iI 0)])), (sh1, .inl (X.2.1.2.2, 4, .inr (.inr (.inr (.inr shf))))), (sa, .inr (2, [.ref sb, .int (iI so), .int (iI la), .int (iI ln)])), (sb, .inl (X.2.1.1, 60, .inl (iF Fs)))])) (As := [.int (iI (i1 + c1))]) C (c_X2_number l X sa sb so la ln Fs (i1 + c1) (by first | assumption | omega) (by first | assumption | omega)) gX5_refusalOfRow_X2_number rfl rfl rfl hd_V_X2_number_X5_refusalOfRow (by decide) dX5_refusalOfRow_61 [2, 3] [0, 1] [0, 1, 2, 3] rfl rfl rfl rfl (by decide) rfl 2 2 rfl rfl rfl rfl (Nat.le_of_ble_eq_true rfl) (by decide) (fun _ => rfl) (fun _ hy_ => ?_)
            clear hy_
            refine r_topi (z := (Fs (Int.toNat (i1 + c1)))) (if_pos (by omega)) ?_
            refine r_iload C dX5_refusalOfRow_64 4 rfl ?_
            refine r_iload C dX5_refusalOfRow_66 5 rfl ?_
            refine g_S_i (ws2 := (fun _ => [(h0, .inr (5, [.ref s1, .int (iI sc), .ref w0, .ref t0, .ref k0, .ref r0, .int (iI gf), .int (iI gs), .ref rp, .int (iI rc), .ref sh1, .int (iI tc), .int (iI 0)])), (sh1, .inl (X.2.1.2.2, 4, .inr (.inr (.inr (.inr shf))))), (sa, .inr (2, [.ref sb, .int (iI so), .int (iI la), .int (iI ln)])), (sb, .inl (X.2.1.1, 60, .inl (iF Fs)))])) (As := [.int (iI (Fs (Int.toNat (i1 + c1)))), .int (iI g1), .int (iI g2)]) C (c_X5_within l X (Fs (Int.toNat (i1 + c1))) g1 g2 (by first | assumption | have := hFs (Int.toNat (i1 + c1)); omega) (by first | assumption | omega) (by first | assumption | omega)) gX5_refusalOfRow_X5_within rfl rfl rfl hd_S_X5_within_X5_refusalOfRow (by decide) dX5_refusalOfRow_68 [] [0, 1, 2, 3] [0, 1, 2, 3] rfl rfl rfl rfl (by decide) rfl rfl rfl (Nat.le_of_ble_eq_true rfl) (by decide) (fun _ => rfl) (fun _ hy_ => ?_)
            clear hy_
            refine r_ite (fun h_6 => ?_) (fun h_6 => ?_)
            · skip
              refine r_if_ne (tgt := 77) C dX5_refusalOfRow_71 (by decide) (by decide) (fun h_7 => ?_) (fun h_7 => absurd h_7 (by decide))
              refine r_iinc (lo2 := [(9, .int (iI (c1 + 1))), (8, .ref sa), (0, .ref h0), (3, .int (iI i1)), (4, .int (iI m1)), (5, .int (iI g1)), (6, .int (iI g2))]) C dX5_refusalOfRow_77 6 rfl (by decide) rfl ?_
              refine r_goto (tgt := 48) C dX5_refusalOfRow_80 (by decide) ?_
              refine r_lo [1, 2, 3, 4, 5, 6, 0] (lo2 := [(8, .ref sa), (0, .ref h0), (3, .int (iI i1)), (4, .int (iI m1)), (5, .int (iI g1)), (6, .int (iI g2)), (9, .int (iI (c1 + 1)))]) rfl ?_
              exact ih48 (c1 + 1) (by omega) (fun c h0 h1 => by by_cases q : c < c1; exact iA c h0 q; rw [show c = c1 by omega]; omega) (by omega)
            · skip
              refine r_if_ne (tgt := 77) C dX5_refusalOfRow_71 (by decide) (by decide) (fun h_8 => absurd h_8 (by decide)) (fun h_8 => ?_)
              refine r_bipush C dX5_refusalOfRow_74 (by decide) ?_
              exact g_ret_i C rfl dX5_refusalOfRow_76 () trivial (by (repeat' split) <;> first | rfl | omega) [0, 1, 2, 3] rfl (by (repeat' split) <;> first | rfl | omega)
      refine r_lo [1, 3, 6, 7, 8, 9, 0] (lo2 := [(8, .ref sa), (0, .ref h0), (3, .int (iI i1)), (4, .int (iI m1)), (5, .int (iI g1)), (6, .int (iI g2)), (9, .int (iI 0))]) rfl ?_
      exact L48 ((m1 - (0 : Int)).toNat + 1) 0 (by omega) (fun c h0 h1 => by omega) (Nat.lt_succ_self _)
    · skip
      refine r_if_ne (tgt := 45) C dX5_refusalOfRow_39 (by decide) (by decide) (fun h_9 => absurd h_9 (by decide)) (fun h_9 => ?_)
      refine r_bipush C dX5_refusalOfRow_42 (by decide) ?_
      exact g_ret_i C rfl dX5_refusalOfRow_44 () trivial (by (repeat' split) <;> first | rfl | omega) [0, 1, 2, 3] rfl (by (repeat' split) <;> first | rfl | omega)
  refine g_V_i (ws2 := (fun y_10 => [(h0, .inr (5, [.ref s1, .int (iI sc), .ref w0, .ref t0, .ref k0, .ref r0, .int (iI gf), .int (iI gs), .ref rp, .int (iI rc), .ref sh1, .int (iI tc), .int (iI (if ¬ (0 ≤ w ∧ w ≤ 2) then 0 else if so = 0 then 1 else if ¬ la = w then 2 else if m1 < 0 then 4 else 3))])), (sh1, .inl (X.2.1.2.2, 4, .inr (.inr (.inr (.inr shf))))), (sa, .inr (2, [.ref sb, .int (iI so), .int (iI la), .int (iI ln)])), (sb, .inl (X.2.1.1, 60, .inl (iF Fs)))])) (As := [.int (iI k), .int (iI w), .int (iI i1), .int (iI m1)]) C (c_X5_refusalOfCells_no l X h0 s1 w0 t0 k0 r0 rp sh1 sc gf gs rc tc ft shf sa sb so la ln Fs k w i1 m1 (by first | assumption | omega) (by first | assumption | omega) (by first | assumption | omega) (by first | assumption | omega) (by first | assumption | omega) (by assumption) (by first | assumption | omega) (by first | assumption | omega) (by first | assumption | omega) (by first | assumption | omega)) gX5_refusalOfRow_X5_refusalOfCells rfl rfl rfl hd_V_X5_refusalOfCells_X5_refusalOfRow (by decide) dX5_refusalOfRow_6 [0, 1, 2, 3] [] [0, 1, 2, 3] rfl rfl rfl rfl (by decide) rfl 0 5 rfl rfl rfl rfl (Nat.le_of_ble_eq_true rfl) (by decide) (fun _ => rfl) (fun y_10 hy_ => ?_)
  have y_11 := hy_
  obtain ⟨y_12, y_13⟩ := y_11
  clear hy_
  refine r_istore (lo2 := [(7, .int (iI y_10)), (0, .ref h0), (1, .int (iI k)), (2, .int (iI w)), (3, .int (iI i1)), (4, .int (iI m1)), (5, .int (iI g1)), (6, .int (iI g2))]) C dX5_refusalOfRow_9 (by decide) rfl ?_
  refine r_aload_n C dX5_refusalOfRow_11 1 rfl ?_
  refine r_iload_n C dX5_refusalOfRow_12 2 rfl ?_
  refine g_V_q (ws2 := (fun _ => [(h0, .inr (5, [.ref s1, .int (iI sc), .ref w0, .ref t0, .ref k0, .ref r0, .int (iI gf), .int (iI gs), .ref rp, .int (iI rc), .ref sh1, .int (iI tc), .int (iI (if ¬ (0 ≤ w ∧ w ≤ 2) then 0 else if so = 0 then 1 else if ¬ la = w then 2 else if m1 < 0 then 4 else 3))])), (sh1, .inl (X.2.1.2.2, 4, .inr (.inr (.inr (.inr shf))))), (sa, .inr (2, [.ref sb, .int (iI so), .int (iI la), .int (iI ln)])), (sb, .inl (X.2.1.1, 60, .inl (iF Fs)))])) (As := [.int (iI k)]) C (c_X5_sheetAt_in l X h0 s1 w0 t0 k0 r0 rp sh1 sc gf gs rc tc (if ¬ (0 ≤ w ∧ w ≤ 2) then 0 else if so = 0 then 1 else if ¬ la = w then 2 else if m1 < 0 then 4 else 3) shf sa k (by first | assumption | omega) (by first | assumption | omega)) gX5_refusalOfRow_X5_sheetAt rfl rfl rfl hd_V_X5_sheetAt_X5_refusalOfRow (by decide) dX5_refusalOfRow_13 [0, 1] [2, 3] [2, 3, 0, 1] rfl rfl rfl rfl (by decide) rfl 0 5 rfl rfl rfl rfl (Nat.le_of_ble_eq_true rfl) (by decide) (fun _ => rfl) (fun _ hy_ => ?_)
  clear hy_
  refine r_astore (lo2 := [(8, .ref sa), (7, .int (iI y_10)), (0, .ref h0), (1, .int (iI k)), (2, .int (iI w)), (3, .int (iI i1)), (4, .int (iI m1)), (5, .int (iI g1)), (6, .int (iI g2))]) C dX5_refusalOfRow_16 (by decide) rfl ?_
  refine r_iload C dX5_refusalOfRow_18 1 rfl ?_
  exfalso; omega

set_option maxHeartbeats 4000000 in
set_option maxRecDepth 100000 in
theorem c_X5_refusalOfRow_out (l : Launch) (X : gX) (h0 : Nat) (s1 : Nat) (w0 : Nat) (t0 : Nat) (k0 : Nat) (r0 : Nat) (rp : Nat) (sh1 : Nat) (sc : Int) (gf : Int) (gs : Int) (rc : Int) (tc : Int) (ft : Int) (shf : Nat → Option Nat) (k : Int) (w : Int) (i1 : Int) (m1 : Int) (g1 : Int) (g2 : Int) (hx : ¬ (0 ≤ k ∧ k < 4)) (hbk : inB k) : gM l yX5_refusalOfRow wsX5_refusalOfRow (gr 3 0 0) X [(h0, .inr (5, [.ref s1, .int (iI sc), .ref w0, .ref t0, .ref k0, .ref r0, .int (iI gf), .int (iI gs), .ref rp, .int (iI rc), .ref sh1, .int (iI tc), .int (iI ft)])), (sh1, .inl (X.2.1.2.2, 4, .inr (.inr (.inr (.inr shf)))))] [.ref h0, .int (iI k), .int (iI w), .int (iI i1), .int (iI m1), .int (iI g1), .int (iI g2)] (gQi X (Y := Unit) (fun _ => True) (fun _ => -1) (fun _ => [(h0, .inr (5, [.ref s1, .int (iI sc), .ref w0, .ref t0, .ref k0, .ref r0, .int (iI gf), .int (iI gs), .ref rp, .int (iI rc), .ref sh1, .int (iI tc), .int (iI 0)])), (sh1, .inl (X.2.1.2.2, 4, .inr (.inr (.inr (.inr shf)))))])) 0 0 := by
  refine g_start2 (lo := [(0, .ref h0), (1, .int (iI k)), (2, .int (iI w)), (3, .int (iI i1)), (4, .int (iI m1)), (5, .int (iI g1)), (6, .int (iI g2))]) (by decide +kernel) rfl rfl (Nat.le_of_ble_eq_true rfl) (fun p e s m args below meth c A C => ?_)
  refine r_aload_n C dX5_refusalOfRow_0 0 rfl ?_
  refine r_iload_n C dX5_refusalOfRow_1 1 rfl ?_
  refine r_iload_n C dX5_refusalOfRow_2 2 rfl ?_
  refine r_iload_n C dX5_refusalOfRow_3 3 rfl ?_
  refine r_iload C dX5_refusalOfRow_4 4 rfl ?_
  refine g_V_i (ws2 := (fun _ => [(h0, .inr (5, [.ref s1, .int (iI sc), .ref w0, .ref t0, .ref k0, .ref r0, .int (iI gf), .int (iI gs), .ref rp, .int (iI rc), .ref sh1, .int (iI tc), .int (iI 0)])), (sh1, .inl (X.2.1.2.2, 4, .inr (.inr (.inr (.inr shf)))))])) (As := [.int (iI k), .int (iI w), .int (iI i1), .int (iI m1)]) C (c_X5_refusalOfCells_out l X h0 s1 w0 t0 k0 r0 rp sh1 sc gf gs rc tc ft shf k w i1 m1 (by first | assumption | omega) (by first | assumption | omega)) gX5_refusalOfRow_X5_refusalOfCells rfl rfl rfl hd_V_X5_refusalOfCells_X5_refusalOfRow (by decide) dX5_refusalOfRow_6 [0, 1] [] [0, 1] rfl rfl rfl rfl (by decide) rfl 0 5 rfl rfl rfl rfl (Nat.le_of_ble_eq_true rfl) (by decide) (fun _ => rfl) (fun _ hy_ => ?_)
  clear hy_
  refine r_istore (lo2 := [(7, .int (iI (-1))), (0, .ref h0), (1, .int (iI k)), (2, .int (iI w)), (3, .int (iI i1)), (4, .int (iI m1)), (5, .int (iI g1)), (6, .int (iI g2))]) C dX5_refusalOfRow_9 (by decide) rfl ?_
  refine r_aload_n C dX5_refusalOfRow_11 1 rfl ?_
  refine r_iload_n C dX5_refusalOfRow_12 2 rfl ?_
  refine g_V_q (ws2 := (fun _ => [(h0, .inr (5, [.ref s1, .int (iI sc), .ref w0, .ref t0, .ref k0, .ref r0, .int (iI gf), .int (iI gs), .ref rp, .int (iI rc), .ref sh1, .int (iI tc), .int (iI 0)])), (sh1, .inl (X.2.1.2.2, 4, .inr (.inr (.inr (.inr shf)))))])) (As := [.int (iI k)]) C (c_X5_sheetAt_out l X h0 s1 w0 t0 k0 r0 rp sh1 sc gf gs rc tc 0 shf k (by first | assumption | omega) (by first | assumption | omega)) gX5_refusalOfRow_X5_sheetAt rfl rfl rfl hd_V_X5_sheetAt_X5_refusalOfRow (by decide) dX5_refusalOfRow_13 [0, 1] [] [0, 1] rfl rfl rfl rfl (by decide) rfl 0 5 rfl rfl rfl rfl (Nat.le_of_ble_eq_true rfl) (by decide) (fun _ => rfl) (fun _ hy_ => ?_)
  clear hy_
  refine r_astoreN (lo2 := [(8, .null), (7, .int (iI (-1))), (0, .ref h0), (1, .int (iI k)), (2, .int (iI w)), (3, .int (iI i1)), (4, .int (iI m1)), (5, .int (iI g1)), (6, .int (iI g2))]) C dX5_refusalOfRow_16 (by decide) rfl ?_
  refine r_iload C dX5_refusalOfRow_18 1 rfl ?_
  refine r_if_ne (tgt := 28) C dX5_refusalOfRow_20 (by decide) (by omega) (fun h_1 => ?_) (fun h_1 => absurd h_1 (by omega))
  refine r_iload C dX5_refusalOfRow_28 1 rfl ?_
  exact g_ret_i C rfl dX5_refusalOfRow_30 () trivial (by (repeat' split) <;> first | rfl | omega) [0, 1] rfl (by (repeat' split) <;> first | rfl | omega)

set_option maxRecDepth 20000 in
theorem hd_V_X5_sheetAt_X5_takeCells : yX5_sheetAt.cls = yX5_sheetAt.cls ∧ yX5_sheetAt.cls ≠ "java/lang/invoke/MethodHandle" ∧ yX5_sheetAt.cls ≠ "java/lang/invoke/VarHandle" ∧ (parseMethodDescriptor yX5_sheetAt.desc).map (fun d => d.parameters.length) = some 1 := by decide +kernel
set_option maxRecDepth 20000 in
theorem hd_V_X2_number_X5_takeCells : yX2_number.cls = yX2_number.cls ∧ yX2_number.cls ≠ "java/lang/invoke/MethodHandle" ∧ yX2_number.cls ≠ "java/lang/invoke/VarHandle" ∧ (parseMethodDescriptor yX2_number.desc).map (fun d => d.parameters.length) = some 1 := by decide +kernel
set_option maxHeartbeats 4000000 in
set_option maxRecDepth 100000 in
theorem c_X5_takeCells (l : Launch) (X : gX) (h0 : Nat) (s1 : Nat) (w0 : Nat) (t0 : Nat) (k0 : Nat) (r0 : Nat) (rp : Nat) (sh1 : Nat) (sc : Int) (gf : Int) (gs : Int) (rc : Int) (tc : Int) (ft : Int) (shf : Nat → Option Nat) (sa : Nat) (sb : Nat) (so : Int) (la : Int) (ln : Int) (Fs : Nat → Int) (q1 : Nat) (Gr : Nat → Int) (k : Int) (i1 : Int) (m1 : Int) (hx : 0 ≤ k ∧ k < 4) (hsf : shf (Int.toNat k) = some sa) (hso : so = 0 ∨ so = 1) (hla : 0 ≤ la ∧ la ≤ 2) (hln : 0 ≤ ln ∧ ln ≤ 60) (hFs : ∀ i, inB (Fs i)) (hm : 1 ≤ m1 ∧ m1 ≤ 20 ∧ 0 ≤ i1 ∧ i1 + m1 ≤ ln) : gM l yX5_takeCells wsX5_takeCells (gr 2 0 0) X [(h0, .inr (5, [.ref s1, .int (iI sc), .ref w0, .ref t0, .ref k0, .ref r0, .int (iI gf), .int (iI gs), .ref rp, .int (iI rc), .ref sh1, .int (iI tc), .int (iI ft)])), (sh1, .inl (X.2.1.2.2, 4, .inr (.inr (.inr (.inr shf))))), (sa, .inr (2, [.ref sb, .int (iI so), .int (iI la), .int (iI ln)])), (sb, .inl (X.2.1.1, 60, .inl (iF Fs))), (q1, .inl (X.2.1.1, 20, .inl (iF Gr)))] [.ref h0, .int (iI k), .int (iI i1), .int (iI m1), .ref q1] (gQv X (Y := Unit) (fun _ => True) (fun _ => [(h0, .inr (5, [.ref s1, .int (iI sc), .ref w0, .ref t0, .ref k0, .ref r0, .int (iI gf), .int (iI gs), .ref rp, .int (iI rc), .ref sh1, .int (iI tc), .int (iI ft)])), (sh1, .inl (X.2.1.2.2, 4, .inr (.inr (.inr (.inr shf))))), (sa, .inr (2, [.ref sb, .int (iI so), .int (iI la), .int (iI ln)])), (sb, .inl (X.2.1.1, 60, .inl (iF Fs))), (q1, .inl (X.2.1.1, 20, .inl (iF (tkI Gr Fs i1 m1))))])) 0 0 := by
  refine g_start2 (lo := [(0, .ref h0), (1, .int (iI k)), (2, .int (iI i1)), (3, .int (iI m1)), (4, .ref q1)]) (by decide +kernel) rfl rfl (Nat.le_of_ble_eq_true rfl) (fun p e s m args below meth c A C => ?_)
  refine r_aload_n C dX5_takeCells_0 0 rfl ?_
  refine r_iload_n C dX5_takeCells_1 1 rfl ?_
  refine g_V_q (ws2 := (fun _ => [(h0, .inr (5, [.ref s1, .int (iI sc), .ref w0, .ref t0, .ref k0, .ref r0, .int (iI gf), .int (iI gs), .ref rp, .int (iI rc), .ref sh1, .int (iI tc), .int (iI ft)])), (sh1, .inl (X.2.1.2.2, 4, .inr (.inr (.inr (.inr shf))))), (sa, .inr (2, [.ref sb, .int (iI so), .int (iI la), .int (iI ln)])), (sb, .inl (X.2.1.1, 60, .inl (iF Fs))), (q1, .inl (X.2.1.1, 20, .inl (iF Gr)))])) (As := [.int (iI k)]) C (c_X5_sheetAt_in l X h0 s1 w0 t0 k0 r0 rp sh1 sc gf gs rc tc ft shf sa k (by first | assumption | omega) (by first | assumption | omega)) gX5_takeCells_X5_sheetAt rfl rfl rfl hd_V_X5_sheetAt_X5_takeCells (by decide) dX5_takeCells_2 [0, 1] [2, 3, 4] [3, 4, 0, 1, 2] rfl rfl rfl rfl (by decide) rfl 0 5 rfl rfl rfl rfl (Nat.le_of_ble_eq_true rfl) (by decide) (fun _ => rfl) (fun _ hy_ => ?_)
  clear hy_
  refine r_astore (lo2 := [(5, .ref sa), (0, .ref h0), (1, .int (iI k)), (2, .int (iI i1)), (3, .int (iI m1)), (4, .ref q1)]) C dX5_takeCells_5 (by decide) rfl ?_
  refine r_aload C dX5_takeCells_7 0 rfl ?_
  refine r_ifnonnull (tgt := 13) C dX5_takeCells_9 (by decide) ?_
  refine r_iconst C dX5_takeCells_13 ?_
  refine r_istore (lo2 := [(6, .int (iI 0)), (5, .ref sa), (0, .ref h0), (1, .int (iI k)), (2, .int (iI i1)), (3, .int (iI m1)), (4, .ref q1)]) C dX5_takeCells_14 (by decide) rfl ?_
  have L16 : ∀ (fu16 : Nat) (c1 : Int) (G2 : Nat → Int), (0 ≤ c1 ∧ c1 ≤ m1) → (G2 = tkI Gr Fs i1 c1) → (m1 - c1).toNat < fu16 → gW p l e (gr 2 0 0) s m args below meth c X A 7 (MQ below ((gQv X (Y := Unit) (fun _ => True) (fun _ => [(h0, .inr (5, [.ref s1, .int (iI sc), .ref w0, .ref t0, .ref k0, .ref r0, .int (iI gf), .int (iI gs), .ref rp, .int (iI rc), .ref sh1, .int (iI tc), .int (iI ft)])), (sh1, .inl (X.2.1.2.2, 4, .inr (.inr (.inr (.inr shf))))), (sa, .inr (2, [.ref sb, .int (iI so), .int (iI la), .int (iI ln)])), (sb, .inl (X.2.1.1, 60, .inl (iF Fs))), (q1, .inl (X.2.1.1, 20, .inl (iF (tkI Gr Fs i1 m1))))])) A) args s 0 0 A) 0 0 [(h0, .inr (5, [.ref s1, .int (iI sc), .ref w0, .ref t0, .ref k0, .ref r0, .int (iI gf), .int (iI gs), .ref rp, .int (iI rc), .ref sh1, .int (iI tc), .int (iI ft)])), (sh1, .inl (X.2.1.2.2, 4, .inr (.inr (.inr (.inr shf))))), (sa, .inr (2, [.ref sb, .int (iI so), .int (iI la), .int (iI ln)])), (sb, .inl (X.2.1.1, 60, .inl (iF Fs))), (q1, .inl (X.2.1.1, 20, .inl (iF G2)))] 16 [(5, .ref sa), (0, .ref h0), (2, .int (iI i1)), (3, .int (iI m1)), (4, .ref q1), (6, .int (iI c1))] [] := by
    intro fu16
    induction fu16 with
    | zero => intro c1 G2 ic iG hm16; exact absurd hm16 (Nat.not_lt_zero _)
    | succ fu16 ih16 =>
      intro c1 G2 ic iG hm16
      refine r_iload C dX5_takeCells_16 5 rfl ?_
      refine r_iload_n C dX5_takeCells_18 3 rfl ?_
      refine r_icmp_ge (tgt := 50) C dX5_takeCells_19 (by decide) (by omega) (by omega) (fun h_1 => ?_) (fun h_1 => ?_)
      · skip
        exact g_ret_v C rfl dX5_takeCells_50 () trivial [0, 1, 2, 3, 4] rfl (by rw [iG, show c1 = m1 by omega] <;> rfl)
      · skip
        refine r_iload C dX5_takeCells_22 5 rfl ?_
        refine r_aload C dX5_takeCells_24 4 rfl ?_
        refine r_alen (z := 20) C dX5_takeCells_26 4 0 rfl rfl rfl ?_
        refine r_icmp_ge (tgt := 50) C dX5_takeCells_27 (by decide) (by omega) (by decide) (fun h_2 => absurd h_2 (by omega)) (fun h_2 => ?_)
        refine r_aload C dX5_takeCells_30 4 rfl ?_
        refine r_iload C dX5_takeCells_32 5 rfl ?_
        refine r_aload C dX5_takeCells_34 0 rfl ?_
        refine r_iload_n C dX5_takeCells_36 2 rfl ?_
        refine r_iload C dX5_takeCells_37 5 rfl ?_
        refine r_iadd C dX5_takeCells_39 ?_
        refine g_V_i (ws2 := (fun _ => [(h0, .inr (5, [.ref s1, .int (iI sc), .ref w0, .ref t0, .ref k0, .ref r0, .int (iI gf), .int (iI gs), .ref rp, .int (iI rc), .ref sh1, .int (iI tc), .int (iI ft)])), (sh1, .inl (X.2.1.2.2, 4, .inr (.inr (.inr (.inr shf))))), (sa, .inr (2, [.ref sb, .int (iI so), .int (iI la), .int (iI ln)])), (sb, .inl (X.2.1.1, 60, .inl (iF Fs))), (q1, .inl (X.2.1.1, 20, .inl (iF G2)))])) (As := [.int (iI (i1 + c1))]) C (c_X2_number l X sa sb so la ln Fs (i1 + c1) (by first | assumption | omega) (by first | assumption | omega)) gX5_takeCells_X2_number rfl rfl rfl hd_V_X2_number_X5_takeCells (by decide) dX5_takeCells_40 [2, 3] [0, 1, 4] [0, 1, 3, 4, 2] rfl rfl rfl rfl (by decide) rfl 2 2 rfl rfl rfl rfl (Nat.le_of_ble_eq_true rfl) (by decide) (fun _ => rfl) (fun _ hy_ => ?_)
        clear hy_
        refine r_topi (z := (Fs (Int.toNat (i1 + c1)))) (if_pos (by omega)) ?_
        refine r_iast (ws2 := [(h0, .inr (5, [.ref s1, .int (iI sc), .ref w0, .ref t0, .ref k0, .ref r0, .int (iI gf), .int (iI gs), .ref rp, .int (iI rc), .ref sh1, .int (iI tc), .int (iI ft)])), (sh1, .inl (X.2.1.2.2, 4, .inr (.inr (.inr (.inr shf))))), (sa, .inr (2, [.ref sb, .int (iI so), .int (iI la), .int (iI ln)])), (sb, .inl (X.2.1.1, 60, .inl (iF Fs))), (q1, .inl (X.2.1.1, 20, .inl (iF (updI G2 (Int.toNat c1) (Fs (Int.toNat (i1 + c1)))))))]) C dX5_takeCells_43 4 rfl (by omega) (by decide) rfl ?_
        refine r_iinc (lo2 := [(6, .int (iI (c1 + 1))), (5, .ref sa), (0, .ref h0), (2, .int (iI i1)), (3, .int (iI m1)), (4, .ref q1)]) C dX5_takeCells_44 5 rfl (by decide) rfl ?_
        refine r_goto (tgt := 16) C dX5_takeCells_47 (by decide) ?_
        refine r_lo [1, 2, 3, 4, 5, 0] (lo2 := [(5, .ref sa), (0, .ref h0), (2, .int (iI i1)), (3, .int (iI m1)), (4, .ref q1), (6, .int (iI (c1 + 1)))]) rfl ?_
        exact ih16 (c1 + 1) (updI G2 (Int.toNat c1) (Fs (Int.toNat (i1 + c1)))) (by omega) (by rw [iG]; exact tkI_go (by omega)) (by omega)
  refine r_lo [1, 2, 4, 5, 6, 0] (lo2 := [(5, .ref sa), (0, .ref h0), (2, .int (iI i1)), (3, .int (iI m1)), (4, .ref q1), (6, .int (iI 0))]) rfl ?_
  exact L16 ((m1 - (0 : Int)).toNat + 1) 0 Gr (by omega) (tkI_0 _ _ _).symm (Nat.lt_succ_self _)

set_option maxRecDepth 20000 in
theorem hd_V_X5_refusalOfRow_X5_waves : yX5_refusalOfRow.cls = yX5_refusalOfRow.cls ∧ yX5_refusalOfRow.cls ≠ "java/lang/invoke/MethodHandle" ∧ yX5_refusalOfRow.cls ≠ "java/lang/invoke/VarHandle" ∧ (parseMethodDescriptor yX5_refusalOfRow.desc).map (fun d => d.parameters.length) = some 6 := by decide +kernel
set_option maxHeartbeats 4000000 in
set_option maxRecDepth 100000 in
theorem c_X5_waves_no (l : Launch) (X : gX) (h0 : Nat) (s1 : Nat) (w0 : Nat) (t0 : Nat) (k0 : Nat) (r0 : Nat) (rp : Nat) (sh1 : Nat) (sc : Int) (gf : Int) (gs : Int) (rc : Int) (tc : Int) (ft : Int) (shf : Nat → Option Nat) (sa : Nat) (sb : Nat) (so : Int) (la : Int) (ln : Int) (Fs : Nat → Int) (w1 : Nat) (l1 : Int) (l2 : Int) (l3 : Int) (l4 : Int) (l5 : Int) (l6 : Int) (wc : Int) (sh : Int) (Fw : Nat → Int) (k : Int) (w : Int) (i1 : Int) (m1 : Int) (hx : 0 ≤ k ∧ k < 4) (hsf : shf (Int.toNat k) = some sa) (hso : so = 0 ∨ so = 1) (hla : 0 ≤ la ∧ la ≤ 2) (hln : 0 ≤ ln ∧ ln ≤ 60) (hFs : ∀ i, inB (Fs i)) (hb_w : inB w) (hb_i1 : inB i1) (hb_m1 : inB m1) (hok : ¬ (0 ≤ w ∧ w ≤ 2 ∧ ¬ so = 0 ∧ la = w ∧ 0 ≤ i1 ∧ 0 ≤ m1 ∧ i1 + m1 ≤ ln)) : gM l yX5_waves wsX5_waves (gr 4 0 0) X [(h0, .inr (5, [.ref s1, .int (iI sc), .ref w0, .ref t0, .ref k0, .ref r0, .int (iI gf), .int (iI gs), .ref rp, .int (iI rc), .ref sh1, .int (iI tc), .int (iI ft)])), (sh1, .inl (X.2.1.2.2, 4, .inr (.inr (.inr (.inr shf))))), (sa, .inr (2, [.ref sb, .int (iI so), .int (iI la), .int (iI ln)])), (sb, .inl (X.2.1.1, 60, .inl (iF Fs))), (w0, .inr (4, [.int (iI l1), .int (iI l2), .int (iI l3), .int (iI l4), .int (iI l5), .int (iI l6), .ref w1, .int (iI wc), .int (iI sh)])), (w1, .inl (X.2.1.1, 20, .inl (iF Fw)))] [.ref h0, .int (iI k), .int (iI w), .int (iI i1), .int (iI m1)] (gQi X (Y := Unit) (fun _ => True) (fun _ => (if ¬ (0 ≤ w ∧ w ≤ 2) then -2 else if so = 0 then -11 else if ¬ la = w then -12 else if m1 < 0 then -14 else -13)) (fun _ => [(h0, .inr (5, [.ref s1, .int (iI sc), .ref w0, .ref t0, .ref k0, .ref r0, .int (iI gf), .int (iI gs), .ref rp, .int (iI rc), .ref sh1, .int (iI tc), .int (iI (if ¬ (0 ≤ w ∧ w ≤ 2) then 0 else if so = 0 then 1 else if ¬ la = w then 2 else if m1 < 0 then 4 else 3))])), (sh1, .inl (X.2.1.2.2, 4, .inr (.inr (.inr (.inr shf))))), (sa, .inr (2, [.ref sb, .int (iI so), .int (iI la), .int (iI ln)])), (sb, .inl (X.2.1.1, 60, .inl (iF Fs))), (w0, .inr (4, [.int (iI l1), .int (iI l2), .int (iI l3), .int (iI l4), .int (iI l5), .int (iI l6), .ref w1, .int (iI wc), .int (iI sh)])), (w1, .inl (X.2.1.1, 20, .inl (iF Fw)))])) 0 0 := by
  refine g_start2 (lo := [(0, .ref h0), (1, .int (iI k)), (2, .int (iI w)), (3, .int (iI i1)), (4, .int (iI m1))]) (by decide +kernel) rfl rfl (Nat.le_of_ble_eq_true rfl) (fun p e s m args below meth c A C => ?_)
  refine r_aload_n C dX5_waves_0 0 rfl ?_
  refine r_iload_n C dX5_waves_1 1 rfl ?_
  refine r_iload_n C dX5_waves_2 2 rfl ?_
  refine r_iload_n C dX5_waves_3 3 rfl ?_
  refine r_iload C dX5_waves_4 4 rfl ?_
  refine r_bipush C dX5_waves_6 (by decide) ?_
  refine r_bipush C dX5_waves_8 (by decide) ?_
  refine g_V_i (ws2 := (fun y_1 => [(h0, .inr (5, [.ref s1, .int (iI sc), .ref w0, .ref t0, .ref k0, .ref r0, .int (iI gf), .int (iI gs), .ref rp, .int (iI rc), .ref sh1, .int (iI tc), .int (iI (if ¬ (0 ≤ w ∧ w ≤ 2) then 0 else if so = 0 then 1 else if ¬ la = w then 2 else if m1 < 0 then 4 else 3))])), (sh1, .inl (X.2.1.2.2, 4, .inr (.inr (.inr (.inr shf))))), (sa, .inr (2, [.ref sb, .int (iI so), .int (iI la), .int (iI ln)])), (sb, .inl (X.2.1.1, 60, .inl (iF Fs))), (w0, .inr (4, [.int (iI l1), .int (iI l2), .int (iI l3), .int (iI l4), .int (iI l5), .int (iI l6), .ref w1, .int (iI wc), .int (iI sh)])), (w1, .inl (X.2.1.1, 20, .inl (iF Fw)))])) (As := [.int (iI k), .int (iI w), .int (iI i1), .int (iI m1), .int (iI (-9)), .int (iI 9)]) C (c_X5_refusalOfRow_no l X h0 s1 w0 t0 k0 r0 rp sh1 sc gf gs rc tc ft shf sa sb so la ln Fs k w i1 m1 (-9) 9 (by first | assumption | omega) (by first | assumption | omega) (by first | assumption | omega) (by first | assumption | omega) (by first | assumption | omega) (by assumption) (by first | assumption | omega) (by first | assumption | omega) (by first | assumption | omega) (by first | assumption | omega) (by first | assumption | omega) (by first | assumption | omega)) gX5_waves_X5_refusalOfRow rfl rfl rfl hd_V_X5_refusalOfRow_X5_waves (by decide) dX5_waves_10 [0, 1, 2, 3] [4, 5] [2, 3, 4, 5, 0, 1] rfl rfl rfl rfl (by decide) rfl 0 5 rfl rfl rfl rfl (Nat.le_of_ble_eq_true rfl) (by decide) (fun _ => rfl) (fun y_1 hy_ => ?_)
  have y_2 := hy_
  obtain ⟨y_3, y_4⟩ := y_2
  clear hy_
  refine r_istore (lo2 := [(5, .int (iI y_1)), (0, .ref h0), (1, .int (iI k)), (2, .int (iI w)), (3, .int (iI i1)), (4, .int (iI m1))]) C dX5_waves_13 (by decide) rfl ?_
  refine r_iload C dX5_waves_15 0 rfl ?_
  refine r_if_eq (tgt := 23) C dX5_waves_17 (by decide) (by omega) (fun h_5 => absurd h_5 (by omega)) (fun h_5 => ?_)
  refine r_iload C dX5_waves_20 0 rfl ?_
  exact g_ret_i C rfl dX5_waves_22 () trivial (by (repeat' split) <;> first | rfl | omega) [0, 1, 2, 3, 4, 5] rfl (by (repeat' split) <;> first | rfl | omega)

set_option maxHeartbeats 4000000 in
set_option maxRecDepth 100000 in
theorem c_X5_waves_bad (l : Launch) (X : gX) (h0 : Nat) (s1 : Nat) (w0 : Nat) (t0 : Nat) (k0 : Nat) (r0 : Nat) (rp : Nat) (sh1 : Nat) (sc : Int) (gf : Int) (gs : Int) (rc : Int) (tc : Int) (ft : Int) (shf : Nat → Option Nat) (sa : Nat) (sb : Nat) (so : Int) (la : Int) (ln : Int) (Fs : Nat → Int) (w1 : Nat) (l1 : Int) (l2 : Int) (l3 : Int) (l4 : Int) (l5 : Int) (l6 : Int) (wc : Int) (sh : Int) (Fw : Nat → Int) (k : Int) (w : Int) (i1 : Int) (m1 : Int) (hx : 0 ≤ k ∧ k < 4) (hsf : shf (Int.toNat k) = some sa) (hso : so = 0 ∨ so = 1) (hla : 0 ≤ la ∧ la ≤ 2) (hln : 0 ≤ ln ∧ ln ≤ 60) (hFs : ∀ i, inB (Fs i)) (hb_w : inB w) (hb_i1 : inB i1) (hb_m1 : inB m1) (hok : (0 ≤ w ∧ w ≤ 2 ∧ ¬ so = 0 ∧ la = w ∧ 0 ≤ i1 ∧ 0 ≤ m1 ∧ i1 + m1 ≤ ln)) (hbad : ¬ ((1 ≤ m1 ∧ m1 ≤ 20) ∧ ∀ c : Int, 0 ≤ c → c < m1 → (-9) ≤ Fs (Int.toNat (i1 + c)) ∧ Fs (Int.toNat (i1 + c)) ≤ 9)) : gM l yX5_waves wsX5_waves (gr 4 0 0) X [(h0, .inr (5, [.ref s1, .int (iI sc), .ref w0, .ref t0, .ref k0, .ref r0, .int (iI gf), .int (iI gs), .ref rp, .int (iI rc), .ref sh1, .int (iI tc), .int (iI ft)])), (sh1, .inl (X.2.1.2.2, 4, .inr (.inr (.inr (.inr shf))))), (sa, .inr (2, [.ref sb, .int (iI so), .int (iI la), .int (iI ln)])), (sb, .inl (X.2.1.1, 60, .inl (iF Fs))), (w0, .inr (4, [.int (iI l1), .int (iI l2), .int (iI l3), .int (iI l4), .int (iI l5), .int (iI l6), .ref w1, .int (iI wc), .int (iI sh)])), (w1, .inl (X.2.1.1, 20, .inl (iF Fw)))] [.ref h0, .int (iI k), .int (iI w), .int (iI i1), .int (iI m1)] (gQi X (Y := Unit) (fun _ => True) (fun _ => -2) (fun _ => [(h0, .inr (5, [.ref s1, .int (iI sc), .ref w0, .ref t0, .ref k0, .ref r0, .int (iI gf), .int (iI gs), .ref rp, .int (iI rc), .ref sh1, .int (iI tc), .int (iI 0)])), (sh1, .inl (X.2.1.2.2, 4, .inr (.inr (.inr (.inr shf))))), (sa, .inr (2, [.ref sb, .int (iI so), .int (iI la), .int (iI ln)])), (sb, .inl (X.2.1.1, 60, .inl (iF Fs))), (w0, .inr (4, [.int (iI l1), .int (iI l2), .int (iI l3), .int (iI l4), .int (iI l5), .int (iI l6), .ref w1, .int (iI wc), .int (iI sh)])), (w1, .inl (X.2.1.1, 20, .inl (iF Fw)))])) 0 0 := by
  refine g_start2 (lo := [(0, .ref h0), (1, .int (iI k)), (2, .int (iI w)), (3, .int (iI i1)), (4, .int (iI m1))]) (by decide +kernel) rfl rfl (Nat.le_of_ble_eq_true rfl) (fun p e s m args below meth c A C => ?_)
  refine r_aload_n C dX5_waves_0 0 rfl ?_
  refine r_iload_n C dX5_waves_1 1 rfl ?_
  refine r_iload_n C dX5_waves_2 2 rfl ?_
  refine r_iload_n C dX5_waves_3 3 rfl ?_
  refine r_iload C dX5_waves_4 4 rfl ?_
  refine r_bipush C dX5_waves_6 (by decide) ?_
  refine r_bipush C dX5_waves_8 (by decide) ?_
  refine g_V_i (ws2 := (fun _ => [(h0, .inr (5, [.ref s1, .int (iI sc), .ref w0, .ref t0, .ref k0, .ref r0, .int (iI gf), .int (iI gs), .ref rp, .int (iI rc), .ref sh1, .int (iI tc), .int (iI 0)])), (sh1, .inl (X.2.1.2.2, 4, .inr (.inr (.inr (.inr shf))))), (sa, .inr (2, [.ref sb, .int (iI so), .int (iI la), .int (iI ln)])), (sb, .inl (X.2.1.1, 60, .inl (iF Fs))), (w0, .inr (4, [.int (iI l1), .int (iI l2), .int (iI l3), .int (iI l4), .int (iI l5), .int (iI l6), .ref w1, .int (iI wc), .int (iI sh)])), (w1, .inl (X.2.1.1, 20, .inl (iF Fw)))])) (As := [.int (iI k), .int (iI w), .int (iI i1), .int (iI m1), .int (iI (-9)), .int (iI 9)]) C (c_X5_refusalOfRow_bad l X h0 s1 w0 t0 k0 r0 rp sh1 sc gf gs rc tc ft shf sa sb so la ln Fs k w i1 m1 (-9) 9 (by first | assumption | omega) (by first | assumption | omega) (by first | assumption | omega) (by first | assumption | omega) (by first | assumption | omega) (by assumption) (by first | assumption | omega) (by first | assumption | omega) (by first | assumption | omega) (by first | assumption | omega) (by first | assumption | omega) (by first | assumption | omega) hbad) gX5_waves_X5_refusalOfRow rfl rfl rfl hd_V_X5_refusalOfRow_X5_waves (by decide) dX5_waves_10 [0, 1, 2, 3] [4, 5] [2, 3, 4, 5, 0, 1] rfl rfl rfl rfl (by decide) rfl 0 5 rfl rfl rfl rfl (Nat.le_of_ble_eq_true rfl) (by decide) (fun _ => rfl) (fun _ hy_ => ?_)
  clear hy_
  refine r_istore (lo2 := [(5, .int (iI (-2))), (0, .ref h0), (1, .int (iI k)), (2, .int (iI w)), (3, .int (iI i1)), (4, .int (iI m1))]) C dX5_waves_13 (by decide) rfl ?_
  refine r_iload C dX5_waves_15 0 rfl ?_
  refine r_if_eq (tgt := 23) C dX5_waves_17 (by decide) (by omega) (fun h_1 => absurd h_1 (by omega)) (fun h_1 => ?_)
  refine r_iload C dX5_waves_20 0 rfl ?_
  exact g_ret_i C rfl dX5_waves_22 () trivial (by (repeat' split) <;> first | rfl | omega) [0, 1, 2, 3, 4, 5] rfl (by (repeat' split) <;> first | rfl | omega)

set_option maxRecDepth 20000 in
theorem kw_X5_waves_0 : Cond.fieldLink RX5 24 "SkipStones" "water" "LSkipStones$Water;" ∈ wsX5_waves := List.mem_of_getElem? (i := 1) rfl
set_option maxRecDepth 20000 in
theorem kw_X5_waves_1 : Cond.fieldLink RX5 138 "SkipStones$Water" "waveRow" "[I" ∈ wsX5_waves := List.mem_of_getElem? (i := 2) rfl
set_option maxRecDepth 20000 in
theorem hd_V_X5_takeCells_X5_waves : yX5_takeCells.cls = yX5_takeCells.cls ∧ yX5_takeCells.cls ≠ "java/lang/invoke/MethodHandle" ∧ yX5_takeCells.cls ≠ "java/lang/invoke/VarHandle" ∧ (parseMethodDescriptor yX5_takeCells.desc).map (fun d => d.parameters.length) = some 4 := by decide +kernel
set_option maxRecDepth 20000 in
theorem kw_X5_waves_2 : Cond.fieldLink RX5 145 "SkipStones$Water" "waveCount" "I" ∈ wsX5_waves := List.mem_of_getElem? (i := 3) rfl
set_option maxRecDepth 20000 in
theorem hi_X5_waves_5 : ∀ w ∈ wsX50, w ∈ wsX5_waves := fun _ h => List.mem_cons_of_mem _ (List.mem_append_left _ (List.mem_append_left _ (List.mem_append_right _ h)))
set_option maxRecDepth 20000 in
theorem hi_X5_waves_4 : ∀ w ∈ wsX40, w ∈ wsX5_waves := fun _ h => List.mem_cons_of_mem _ (List.mem_append_left _ (List.mem_append_right _ h))
set_option maxHeartbeats 4000000 in
set_option maxRecDepth 100000 in
theorem c_X5_waves_ok (l : Launch) (X : gX) (h0 : Nat) (s1 : Nat) (w0 : Nat) (t0 : Nat) (k0 : Nat) (r0 : Nat) (rp : Nat) (sh1 : Nat) (sc : Int) (gf : Int) (gs : Int) (rc : Int) (tc : Int) (ft : Int) (shf : Nat → Option Nat) (sa : Nat) (sb : Nat) (so : Int) (la : Int) (ln : Int) (Fs : Nat → Int) (w1 : Nat) (l1 : Int) (l2 : Int) (l3 : Int) (l4 : Int) (l5 : Int) (l6 : Int) (wc : Int) (sh : Int) (Fw : Nat → Int) (k : Int) (w : Int) (i1 : Int) (m1 : Int) (hx : 0 ≤ k ∧ k < 4) (hsf : shf (Int.toNat k) = some sa) (hso : so = 0 ∨ so = 1) (hla : 0 ≤ la ∧ la ≤ 2) (hln : 0 ≤ ln ∧ ln ≤ 60) (hFs : ∀ i, inB (Fs i)) (hb_w : inB w) (hb_i1 : inB i1) (hb_m1 : inB m1) (hok : (0 ≤ w ∧ w ≤ 2 ∧ ¬ so = 0 ∧ la = w ∧ 0 ≤ i1 ∧ 0 ≤ m1 ∧ i1 + m1 ≤ ln)) (hm : 1 ≤ m1 ∧ m1 ≤ 20) (hall : ∀ c : Int, 0 ≤ c → c < m1 → (-9) ≤ Fs (Int.toNat (i1 + c)) ∧ Fs (Int.toNat (i1 + c)) ≤ 9) : gM l yX5_waves wsX5_waves (gr 4 0 0) X [(h0, .inr (5, [.ref s1, .int (iI sc), .ref w0, .ref t0, .ref k0, .ref r0, .int (iI gf), .int (iI gs), .ref rp, .int (iI rc), .ref sh1, .int (iI tc), .int (iI ft)])), (sh1, .inl (X.2.1.2.2, 4, .inr (.inr (.inr (.inr shf))))), (sa, .inr (2, [.ref sb, .int (iI so), .int (iI la), .int (iI ln)])), (sb, .inl (X.2.1.1, 60, .inl (iF Fs))), (w0, .inr (4, [.int (iI l1), .int (iI l2), .int (iI l3), .int (iI l4), .int (iI l5), .int (iI l6), .ref w1, .int (iI wc), .int (iI sh)])), (w1, .inl (X.2.1.1, 20, .inl (iF Fw)))] [.ref h0, .int (iI k), .int (iI w), .int (iI i1), .int (iI m1)] (gQi X (Y := Unit) (fun _ => True) (fun _ => m1) (fun _ => [(h0, .inr (5, [.ref s1, .int (iI sc), .ref w0, .ref t0, .ref k0, .ref r0, .int (iI gf), .int (iI gs), .ref rp, .int (iI rc), .ref sh1, .int (iI tc), .int (iI 0)])), (sh1, .inl (X.2.1.2.2, 4, .inr (.inr (.inr (.inr shf))))), (sa, .inr (2, [.ref sb, .int (iI so), .int (iI la), .int (iI ln)])), (sb, .inl (X.2.1.1, 60, .inl (iF Fs))), (w0, .inr (4, [.int (iI l1), .int (iI l2), .int (iI l3), .int (iI l4), .int (iI l5), .int (iI l6), .ref w1, .int (iI m1), .int (iI sh)])), (w1, .inl (X.2.1.1, 20, .inl (iF (tkI Fw Fs i1 m1))))])) 0 0 := by
  refine g_start2 (lo := [(0, .ref h0), (1, .int (iI k)), (2, .int (iI w)), (3, .int (iI i1)), (4, .int (iI m1))]) (by decide +kernel) rfl rfl (Nat.le_of_ble_eq_true rfl) (fun p e s m args below meth c A C => ?_)
  refine r_aload_n C dX5_waves_0 0 rfl ?_
  refine r_iload_n C dX5_waves_1 1 rfl ?_
  refine r_iload_n C dX5_waves_2 2 rfl ?_
  refine r_iload_n C dX5_waves_3 3 rfl ?_
  refine r_iload C dX5_waves_4 4 rfl ?_
  refine r_bipush C dX5_waves_6 (by decide) ?_
  refine r_bipush C dX5_waves_8 (by decide) ?_
  refine g_V_i (ws2 := (fun _ => [(h0, .inr (5, [.ref s1, .int (iI sc), .ref w0, .ref t0, .ref k0, .ref r0, .int (iI gf), .int (iI gs), .ref rp, .int (iI rc), .ref sh1, .int (iI tc), .int (iI 0)])), (sh1, .inl (X.2.1.2.2, 4, .inr (.inr (.inr (.inr shf))))), (sa, .inr (2, [.ref sb, .int (iI so), .int (iI la), .int (iI ln)])), (sb, .inl (X.2.1.1, 60, .inl (iF Fs))), (w0, .inr (4, [.int (iI l1), .int (iI l2), .int (iI l3), .int (iI l4), .int (iI l5), .int (iI l6), .ref w1, .int (iI wc), .int (iI sh)])), (w1, .inl (X.2.1.1, 20, .inl (iF Fw)))])) (As := [.int (iI k), .int (iI w), .int (iI i1), .int (iI m1), .int (iI (-9)), .int (iI 9)]) C (c_X5_refusalOfRow_ok l X h0 s1 w0 t0 k0 r0 rp sh1 sc gf gs rc tc ft shf sa sb so la ln Fs k w i1 m1 (-9) 9 (by first | assumption | omega) (by first | assumption | omega) (by first | assumption | omega) (by first | assumption | omega) (by first | assumption | omega) (by assumption) (by first | assumption | omega) (by first | assumption | omega) (by first | assumption | omega) (by first | assumption | omega) (by first | assumption | omega) (by first | assumption | omega) (by first | assumption | omega) hall) gX5_waves_X5_refusalOfRow rfl rfl rfl hd_V_X5_refusalOfRow_X5_waves (by decide) dX5_waves_10 [0, 1, 2, 3] [4, 5] [2, 3, 4, 5, 0, 1] rfl rfl rfl rfl (by decide) rfl 0 5 rfl rfl rfl rfl (Nat.le_of_ble_eq_true rfl) (by decide) (fun _ => rfl) (fun _ hy_ => ?_)
  clear hy_
  refine r_istore (lo2 := [(5, .int (iI 0)), (0, .ref h0), (1, .int (iI k)), (2, .int (iI w)), (3, .int (iI i1)), (4, .int (iI m1))]) C dX5_waves_13 (by decide) rfl ?_
  refine r_iload C dX5_waves_15 0 rfl ?_
  refine r_if_eq (tgt := 23) C dX5_waves_17 (by decide) (by decide) (fun h_1 => ?_) (fun h_1 => absurd h_1 (by decide))
  refine r_aload_n C dX5_waves_23 1 rfl ?_
  refine r_iload_n C dX5_waves_24 2 rfl ?_
  refine r_iload_n C dX5_waves_25 4 rfl ?_
  refine r_iload C dX5_waves_26 5 rfl ?_
  refine r_aload_n C dX5_waves_28 1 rfl ?_
  refine gf_5_2 C hi_X5_waves_5 kw_X5_waves_0 dX5_waves_29 0 rfl rfl ?_
  refine gf_4_6 C hi_X5_waves_4 kw_X5_waves_1 dX5_waves_32 4 rfl rfl ?_
  refine g_V_v (ws2 := (fun _ => [(h0, .inr (5, [.ref s1, .int (iI sc), .ref w0, .ref t0, .ref k0, .ref r0, .int (iI gf), .int (iI gs), .ref rp, .int (iI rc), .ref sh1, .int (iI tc), .int (iI 0)])), (sh1, .inl (X.2.1.2.2, 4, .inr (.inr (.inr (.inr shf))))), (sa, .inr (2, [.ref sb, .int (iI so), .int (iI la), .int (iI ln)])), (sb, .inl (X.2.1.1, 60, .inl (iF Fs))), (w0, .inr (4, [.int (iI l1), .int (iI l2), .int (iI l3), .int (iI l4), .int (iI l5), .int (iI l6), .ref w1, .int (iI wc), .int (iI sh)])), (w1, .inl (X.2.1.1, 20, .inl (iF (tkI Fw Fs i1 m1))))])) (As := [.int (iI k), .int (iI i1), .int (iI m1), .ref w1]) C (c_X5_takeCells l X h0 s1 w0 t0 k0 r0 rp sh1 sc gf gs rc tc 0 shf sa sb so la ln Fs w1 Fw k i1 m1 (by first | assumption | omega) (by first | assumption | omega) (by first | assumption | omega) (by first | assumption | omega) (by first | assumption | omega) (by assumption) (by first | assumption | omega)) gX5_waves_X5_takeCells rfl rfl rfl hd_V_X5_takeCells_X5_waves (by decide) dX5_waves_35 [0, 1, 2, 3, 5] [4] [1, 2, 3, 4, 0, 5] rfl rfl rfl rfl (by decide) rfl 0 5 rfl rfl rfl rfl (Nat.le_of_ble_eq_true rfl) (by decide) (fun _ => rfl) (fun _ hy_ => ?_)
  clear hy_
  refine r_aload_n C dX5_waves_38 1 rfl ?_
  refine gf_5_2 C hi_X5_waves_5 kw_X5_waves_0 dX5_waves_39 0 rfl rfl ?_
  refine r_iload C dX5_waves_42 5 rfl ?_
  refine pf_4_7 (ws2 := [(h0, .inr (5, [.ref s1, .int (iI sc), .ref w0, .ref t0, .ref k0, .ref r0, .int (iI gf), .int (iI gs), .ref rp, .int (iI rc), .ref sh1, .int (iI tc), .int (iI 0)])), (sh1, .inl (X.2.1.2.2, 4, .inr (.inr (.inr (.inr shf))))), (sa, .inr (2, [.ref sb, .int (iI so), .int (iI la), .int (iI ln)])), (sb, .inl (X.2.1.1, 60, .inl (iF Fs))), (w0, .inr (4, [.int (iI l1), .int (iI l2), .int (iI l3), .int (iI l4), .int (iI l5), .int (iI l6), .ref w1, .int (iI m1), .int (iI sh)])), (w1, .inl (X.2.1.1, 20, .inl (iF (tkI Fw Fs i1 m1))))]) C hi_X5_waves_4 kw_X5_waves_2 dX5_waves_44 4 rfl rfl rfl (Nat.le_of_ble_eq_true rfl) rfl ?_
  refine r_iload C dX5_waves_47 5 rfl ?_
  exact g_ret_i C rfl dX5_waves_49 () trivial (by (repeat' split) <;> first | rfl | omega) [0, 1, 2, 3, 4, 5] rfl (by (repeat' split) <;> first | rfl | omega)

set_option maxHeartbeats 4000000 in
set_option maxRecDepth 100000 in
theorem c_X5_waves_out (l : Launch) (X : gX) (h0 : Nat) (s1 : Nat) (w0 : Nat) (t0 : Nat) (k0 : Nat) (r0 : Nat) (rp : Nat) (sh1 : Nat) (sc : Int) (gf : Int) (gs : Int) (rc : Int) (tc : Int) (ft : Int) (shf : Nat → Option Nat) (k : Int) (w : Int) (i1 : Int) (m1 : Int) (hx : ¬ (0 ≤ k ∧ k < 4)) (hbk : inB k) : gM l yX5_waves wsX5_waves (gr 4 0 0) X [(h0, .inr (5, [.ref s1, .int (iI sc), .ref w0, .ref t0, .ref k0, .ref r0, .int (iI gf), .int (iI gs), .ref rp, .int (iI rc), .ref sh1, .int (iI tc), .int (iI ft)])), (sh1, .inl (X.2.1.2.2, 4, .inr (.inr (.inr (.inr shf)))))] [.ref h0, .int (iI k), .int (iI w), .int (iI i1), .int (iI m1)] (gQi X (Y := Unit) (fun _ => True) (fun _ => -1) (fun _ => [(h0, .inr (5, [.ref s1, .int (iI sc), .ref w0, .ref t0, .ref k0, .ref r0, .int (iI gf), .int (iI gs), .ref rp, .int (iI rc), .ref sh1, .int (iI tc), .int (iI 0)])), (sh1, .inl (X.2.1.2.2, 4, .inr (.inr (.inr (.inr shf)))))])) 0 0 := by
  refine g_start2 (lo := [(0, .ref h0), (1, .int (iI k)), (2, .int (iI w)), (3, .int (iI i1)), (4, .int (iI m1))]) (by decide +kernel) rfl rfl (Nat.le_of_ble_eq_true rfl) (fun p e s m args below meth c A C => ?_)
  refine r_aload_n C dX5_waves_0 0 rfl ?_
  refine r_iload_n C dX5_waves_1 1 rfl ?_
  refine r_iload_n C dX5_waves_2 2 rfl ?_
  refine r_iload_n C dX5_waves_3 3 rfl ?_
  refine r_iload C dX5_waves_4 4 rfl ?_
  refine r_bipush C dX5_waves_6 (by decide) ?_
  refine r_bipush C dX5_waves_8 (by decide) ?_
  refine g_V_i (ws2 := (fun _ => [(h0, .inr (5, [.ref s1, .int (iI sc), .ref w0, .ref t0, .ref k0, .ref r0, .int (iI gf), .int (iI gs), .ref rp, .int (iI rc), .ref sh1, .int (iI tc), .int (iI 0)])), (sh1, .inl (X.2.1.2.2, 4, .inr (.inr (.inr (.inr shf)))))])) (As := [.int (iI k), .int (iI w), .int (iI i1), .int (iI m1), .int (iI (-9)), .int (iI 9)]) C (c_X5_refusalOfRow_out l X h0 s1 w0 t0 k0 r0 rp sh1 sc gf gs rc tc ft shf k w i1 m1 (-9) 9 (by first | assumption | omega) (by first | assumption | omega)) gX5_waves_X5_refusalOfRow rfl rfl rfl hd_V_X5_refusalOfRow_X5_waves (by decide) dX5_waves_10 [0, 1] [] [0, 1] rfl rfl rfl rfl (by decide) rfl 0 5 rfl rfl rfl rfl (Nat.le_of_ble_eq_true rfl) (by decide) (fun _ => rfl) (fun _ hy_ => ?_)
  clear hy_
  refine r_istore (lo2 := [(5, .int (iI (-1))), (0, .ref h0), (1, .int (iI k)), (2, .int (iI w)), (3, .int (iI i1)), (4, .int (iI m1))]) C dX5_waves_13 (by decide) rfl ?_
  refine r_iload C dX5_waves_15 0 rfl ?_
  refine r_if_eq (tgt := 23) C dX5_waves_17 (by decide) (by omega) (fun h_1 => absurd h_1 (by omega)) (fun h_1 => ?_)
  refine r_iload C dX5_waves_20 0 rfl ?_
  exact g_ret_i C rfl dX5_waves_22 () trivial (by (repeat' split) <;> first | rfl | omega) [0, 1] rfl (by (repeat' split) <;> first | rfl | omega)

set_option maxRecDepth 20000 in
theorem kw_X5_rings_0 : Cond.constant RX5 209 (2147483647) ∈ wsX5_rings := List.mem_of_getElem? (i := 1) rfl
set_option maxRecDepth 20000 in
theorem hd_V_X5_refusalOfRow_X5_rings : yX5_refusalOfRow.cls = yX5_refusalOfRow.cls ∧ yX5_refusalOfRow.cls ≠ "java/lang/invoke/MethodHandle" ∧ yX5_refusalOfRow.cls ≠ "java/lang/invoke/VarHandle" ∧ (parseMethodDescriptor yX5_refusalOfRow.desc).map (fun d => d.parameters.length) = some 6 := by decide +kernel
set_option maxHeartbeats 4000000 in
set_option maxRecDepth 100000 in
theorem c_X5_rings_no (l : Launch) (X : gX) (h0 : Nat) (s1 : Nat) (w0 : Nat) (t0 : Nat) (k0 : Nat) (r0 : Nat) (rp : Nat) (sh1 : Nat) (sc : Int) (gf : Int) (gs : Int) (rc : Int) (tc : Int) (ft : Int) (shf : Nat → Option Nat) (sa : Nat) (sb : Nat) (so : Int) (la : Int) (ln : Int) (Fs : Nat → Int) (Pr : Nat → Int) (k : Int) (w : Int) (i1 : Int) (m1 : Int) (hx : 0 ≤ k ∧ k < 4) (hsf : shf (Int.toNat k) = some sa) (hso : so = 0 ∨ so = 1) (hla : 0 ≤ la ∧ la ≤ 2) (hln : 0 ≤ ln ∧ ln ≤ 60) (hFs : ∀ i, inB (Fs i)) (hb_w : inB w) (hb_i1 : inB i1) (hb_m1 : inB m1) (hok : ¬ (0 ≤ w ∧ w ≤ 2 ∧ ¬ so = 0 ∧ la = w ∧ 0 ≤ i1 ∧ 0 ≤ m1 ∧ i1 + m1 ≤ ln)) : gM l yX5_rings wsX5_rings (gr 4 0 0) X [(h0, .inr (5, [.ref s1, .int (iI sc), .ref w0, .ref t0, .ref k0, .ref r0, .int (iI gf), .int (iI gs), .ref rp, .int (iI rc), .ref sh1, .int (iI tc), .int (iI ft)])), (sh1, .inl (X.2.1.2.2, 4, .inr (.inr (.inr (.inr shf))))), (sa, .inr (2, [.ref sb, .int (iI so), .int (iI la), .int (iI ln)])), (sb, .inl (X.2.1.1, 60, .inl (iF Fs))), (rp, .inl (X.2.1.1, 20, .inl (iF Pr)))] [.ref h0, .int (iI k), .int (iI w), .int (iI i1), .int (iI m1)] (gQi X (Y := Unit) (fun _ => True) (fun _ => (if ¬ (0 ≤ w ∧ w ≤ 2) then -2 else if so = 0 then -11 else if ¬ la = w then -12 else if m1 < 0 then -14 else -13)) (fun _ => [(h0, .inr (5, [.ref s1, .int (iI sc), .ref w0, .ref t0, .ref k0, .ref r0, .int (iI gf), .int (iI gs), .ref rp, .int (iI rc), .ref sh1, .int (iI tc), .int (iI (if ¬ (0 ≤ w ∧ w ≤ 2) then 0 else if so = 0 then 1 else if ¬ la = w then 2 else if m1 < 0 then 4 else 3))])), (sh1, .inl (X.2.1.2.2, 4, .inr (.inr (.inr (.inr shf))))), (sa, .inr (2, [.ref sb, .int (iI so), .int (iI la), .int (iI ln)])), (sb, .inl (X.2.1.1, 60, .inl (iF Fs))), (rp, .inl (X.2.1.1, 20, .inl (iF Pr)))])) 0 0 := by
  refine g_start2 (lo := [(0, .ref h0), (1, .int (iI k)), (2, .int (iI w)), (3, .int (iI i1)), (4, .int (iI m1))]) (by decide +kernel) rfl rfl (Nat.le_of_ble_eq_true rfl) (fun p e s m args below meth c A C => ?_)
  refine r_aload_n C dX5_rings_0 0 rfl ?_
  refine r_iload_n C dX5_rings_1 1 rfl ?_
  refine r_iload_n C dX5_rings_2 2 rfl ?_
  refine r_iload_n C dX5_rings_3 3 rfl ?_
  refine r_iload C dX5_rings_4 4 rfl ?_
  refine r_iconst C dX5_rings_6 ?_
  refine r_ldc (z := 2147483647) C dX5_rings_7 kw_X5_rings_0 rfl ?_
  refine g_V_i (ws2 := (fun y_1 => [(h0, .inr (5, [.ref s1, .int (iI sc), .ref w0, .ref t0, .ref k0, .ref r0, .int (iI gf), .int (iI gs), .ref rp, .int (iI rc), .ref sh1, .int (iI tc), .int (iI (if ¬ (0 ≤ w ∧ w ≤ 2) then 0 else if so = 0 then 1 else if ¬ la = w then 2 else if m1 < 0 then 4 else 3))])), (sh1, .inl (X.2.1.2.2, 4, .inr (.inr (.inr (.inr shf))))), (sa, .inr (2, [.ref sb, .int (iI so), .int (iI la), .int (iI ln)])), (sb, .inl (X.2.1.1, 60, .inl (iF Fs))), (rp, .inl (X.2.1.1, 20, .inl (iF Pr)))])) (As := [.int (iI k), .int (iI w), .int (iI i1), .int (iI m1), .int (iI 1), .int (iI 2147483647)]) C (c_X5_refusalOfRow_no l X h0 s1 w0 t0 k0 r0 rp sh1 sc gf gs rc tc ft shf sa sb so la ln Fs k w i1 m1 1 2147483647 (by first | assumption | omega) (by first | assumption | omega) (by first | assumption | omega) (by first | assumption | omega) (by first | assumption | omega) (by assumption) (by first | assumption | omega) (by first | assumption | omega) (by first | assumption | omega) (by first | assumption | omega) (by first | assumption | omega) (by first | assumption | omega)) gX5_rings_X5_refusalOfRow rfl rfl rfl hd_V_X5_refusalOfRow_X5_rings (by decide) dX5_rings_9 [0, 1, 2, 3] [4] [1, 2, 3, 4, 0] rfl rfl rfl rfl (by decide) rfl 0 5 rfl rfl rfl rfl (Nat.le_of_ble_eq_true rfl) (by decide) (fun _ => rfl) (fun y_1 hy_ => ?_)
  have y_2 := hy_
  obtain ⟨y_3, y_4⟩ := y_2
  clear hy_
  refine r_istore (lo2 := [(5, .int (iI y_1)), (0, .ref h0), (1, .int (iI k)), (2, .int (iI w)), (3, .int (iI i1)), (4, .int (iI m1))]) C dX5_rings_12 (by decide) rfl ?_
  refine r_iload C dX5_rings_14 0 rfl ?_
  refine r_if_eq (tgt := 22) C dX5_rings_16 (by decide) (by omega) (fun h_5 => absurd h_5 (by omega)) (fun h_5 => ?_)
  refine r_iload C dX5_rings_19 0 rfl ?_
  exact g_ret_i C rfl dX5_rings_21 () trivial (by (repeat' split) <;> first | rfl | omega) [0, 1, 2, 3, 4] rfl (by (repeat' split) <;> first | rfl | omega)

set_option maxHeartbeats 4000000 in
set_option maxRecDepth 100000 in
theorem c_X5_rings_bad (l : Launch) (X : gX) (h0 : Nat) (s1 : Nat) (w0 : Nat) (t0 : Nat) (k0 : Nat) (r0 : Nat) (rp : Nat) (sh1 : Nat) (sc : Int) (gf : Int) (gs : Int) (rc : Int) (tc : Int) (ft : Int) (shf : Nat → Option Nat) (sa : Nat) (sb : Nat) (so : Int) (la : Int) (ln : Int) (Fs : Nat → Int) (Pr : Nat → Int) (k : Int) (w : Int) (i1 : Int) (m1 : Int) (hx : 0 ≤ k ∧ k < 4) (hsf : shf (Int.toNat k) = some sa) (hso : so = 0 ∨ so = 1) (hla : 0 ≤ la ∧ la ≤ 2) (hln : 0 ≤ ln ∧ ln ≤ 60) (hFs : ∀ i, inB (Fs i)) (hb_w : inB w) (hb_i1 : inB i1) (hb_m1 : inB m1) (hok : (0 ≤ w ∧ w ≤ 2 ∧ ¬ so = 0 ∧ la = w ∧ 0 ≤ i1 ∧ 0 ≤ m1 ∧ i1 + m1 ≤ ln)) (hbad : ¬ ((1 ≤ m1 ∧ m1 ≤ 20) ∧ ∀ c : Int, 0 ≤ c → c < m1 → 1 ≤ Fs (Int.toNat (i1 + c)) ∧ Fs (Int.toNat (i1 + c)) ≤ 2147483647)) : gM l yX5_rings wsX5_rings (gr 4 0 0) X [(h0, .inr (5, [.ref s1, .int (iI sc), .ref w0, .ref t0, .ref k0, .ref r0, .int (iI gf), .int (iI gs), .ref rp, .int (iI rc), .ref sh1, .int (iI tc), .int (iI ft)])), (sh1, .inl (X.2.1.2.2, 4, .inr (.inr (.inr (.inr shf))))), (sa, .inr (2, [.ref sb, .int (iI so), .int (iI la), .int (iI ln)])), (sb, .inl (X.2.1.1, 60, .inl (iF Fs))), (rp, .inl (X.2.1.1, 20, .inl (iF Pr)))] [.ref h0, .int (iI k), .int (iI w), .int (iI i1), .int (iI m1)] (gQi X (Y := Unit) (fun _ => True) (fun _ => -2) (fun _ => [(h0, .inr (5, [.ref s1, .int (iI sc), .ref w0, .ref t0, .ref k0, .ref r0, .int (iI gf), .int (iI gs), .ref rp, .int (iI rc), .ref sh1, .int (iI tc), .int (iI 0)])), (sh1, .inl (X.2.1.2.2, 4, .inr (.inr (.inr (.inr shf))))), (sa, .inr (2, [.ref sb, .int (iI so), .int (iI la), .int (iI ln)])), (sb, .inl (X.2.1.1, 60, .inl (iF Fs))), (rp, .inl (X.2.1.1, 20, .inl (iF Pr)))])) 0 0 := by
  refine g_start2 (lo := [(0, .ref h0), (1, .int (iI k)), (2, .int (iI w)), (3, .int (iI i1)), (4, .int (iI m1))]) (by decide +kernel) rfl rfl (Nat.le_of_ble_eq_true rfl) (fun p e s m args below meth c A C => ?_)
  refine r_aload_n C dX5_rings_0 0 rfl ?_
  refine r_iload_n C dX5_rings_1 1 rfl ?_
  refine r_iload_n C dX5_rings_2 2 rfl ?_
  refine r_iload_n C dX5_rings_3 3 rfl ?_
  refine r_iload C dX5_rings_4 4 rfl ?_
  refine r_iconst C dX5_rings_6 ?_
  refine r_ldc (z := 2147483647) C dX5_rings_7 kw_X5_rings_0 rfl ?_
  refine g_V_i (ws2 := (fun _ => [(h0, .inr (5, [.ref s1, .int (iI sc), .ref w0, .ref t0, .ref k0, .ref r0, .int (iI gf), .int (iI gs), .ref rp, .int (iI rc), .ref sh1, .int (iI tc), .int (iI 0)])), (sh1, .inl (X.2.1.2.2, 4, .inr (.inr (.inr (.inr shf))))), (sa, .inr (2, [.ref sb, .int (iI so), .int (iI la), .int (iI ln)])), (sb, .inl (X.2.1.1, 60, .inl (iF Fs))), (rp, .inl (X.2.1.1, 20, .inl (iF Pr)))])) (As := [.int (iI k), .int (iI w), .int (iI i1), .int (iI m1), .int (iI 1), .int (iI 2147483647)]) C (c_X5_refusalOfRow_bad l X h0 s1 w0 t0 k0 r0 rp sh1 sc gf gs rc tc ft shf sa sb so la ln Fs k w i1 m1 1 2147483647 (by first | assumption | omega) (by first | assumption | omega) (by first | assumption | omega) (by first | assumption | omega) (by first | assumption | omega) (by assumption) (by first | assumption | omega) (by first | assumption | omega) (by first | assumption | omega) (by first | assumption | omega) (by first | assumption | omega) (by first | assumption | omega) hbad) gX5_rings_X5_refusalOfRow rfl rfl rfl hd_V_X5_refusalOfRow_X5_rings (by decide) dX5_rings_9 [0, 1, 2, 3] [4] [1, 2, 3, 4, 0] rfl rfl rfl rfl (by decide) rfl 0 5 rfl rfl rfl rfl (Nat.le_of_ble_eq_true rfl) (by decide) (fun _ => rfl) (fun _ hy_ => ?_)
  clear hy_
  refine r_istore (lo2 := [(5, .int (iI (-2))), (0, .ref h0), (1, .int (iI k)), (2, .int (iI w)), (3, .int (iI i1)), (4, .int (iI m1))]) C dX5_rings_12 (by decide) rfl ?_
  refine r_iload C dX5_rings_14 0 rfl ?_
  refine r_if_eq (tgt := 22) C dX5_rings_16 (by decide) (by omega) (fun h_1 => absurd h_1 (by omega)) (fun h_1 => ?_)
  refine r_iload C dX5_rings_19 0 rfl ?_
  exact g_ret_i C rfl dX5_rings_21 () trivial (by (repeat' split) <;> first | rfl | omega) [0, 1, 2, 3, 4] rfl (by (repeat' split) <;> first | rfl | omega)

set_option maxRecDepth 20000 in
theorem kw_X5_rings_1 : Cond.fieldLink RX5 51 "SkipStones" "ringPlaces" "[I" ∈ wsX5_rings := List.mem_of_getElem? (i := 2) rfl
set_option maxRecDepth 20000 in
theorem hd_V_X5_takeCells_X5_rings : yX5_takeCells.cls = yX5_takeCells.cls ∧ yX5_takeCells.cls ≠ "java/lang/invoke/MethodHandle" ∧ yX5_takeCells.cls ≠ "java/lang/invoke/VarHandle" ∧ (parseMethodDescriptor yX5_takeCells.desc).map (fun d => d.parameters.length) = some 4 := by decide +kernel
set_option maxRecDepth 20000 in
theorem kw_X5_rings_2 : Cond.fieldLink RX5 55 "SkipStones" "ringCount" "I" ∈ wsX5_rings := List.mem_of_getElem? (i := 3) rfl
set_option maxRecDepth 20000 in
theorem hi_X5_rings_5 : ∀ w ∈ wsX50, w ∈ wsX5_rings := fun _ h => List.mem_cons_of_mem _ (List.mem_append_left _ (List.mem_append_right _ h))
set_option maxHeartbeats 4000000 in
set_option maxRecDepth 100000 in
theorem c_X5_rings_ok (l : Launch) (X : gX) (h0 : Nat) (s1 : Nat) (w0 : Nat) (t0 : Nat) (k0 : Nat) (r0 : Nat) (rp : Nat) (sh1 : Nat) (sc : Int) (gf : Int) (gs : Int) (rc : Int) (tc : Int) (ft : Int) (shf : Nat → Option Nat) (sa : Nat) (sb : Nat) (so : Int) (la : Int) (ln : Int) (Fs : Nat → Int) (Pr : Nat → Int) (k : Int) (w : Int) (i1 : Int) (m1 : Int) (hx : 0 ≤ k ∧ k < 4) (hsf : shf (Int.toNat k) = some sa) (hso : so = 0 ∨ so = 1) (hla : 0 ≤ la ∧ la ≤ 2) (hln : 0 ≤ ln ∧ ln ≤ 60) (hFs : ∀ i, inB (Fs i)) (hb_w : inB w) (hb_i1 : inB i1) (hb_m1 : inB m1) (hok : (0 ≤ w ∧ w ≤ 2 ∧ ¬ so = 0 ∧ la = w ∧ 0 ≤ i1 ∧ 0 ≤ m1 ∧ i1 + m1 ≤ ln)) (hm : 1 ≤ m1 ∧ m1 ≤ 20) (hall : ∀ c : Int, 0 ≤ c → c < m1 → 1 ≤ Fs (Int.toNat (i1 + c)) ∧ Fs (Int.toNat (i1 + c)) ≤ 2147483647) : gM l yX5_rings wsX5_rings (gr 4 0 0) X [(h0, .inr (5, [.ref s1, .int (iI sc), .ref w0, .ref t0, .ref k0, .ref r0, .int (iI gf), .int (iI gs), .ref rp, .int (iI rc), .ref sh1, .int (iI tc), .int (iI ft)])), (sh1, .inl (X.2.1.2.2, 4, .inr (.inr (.inr (.inr shf))))), (sa, .inr (2, [.ref sb, .int (iI so), .int (iI la), .int (iI ln)])), (sb, .inl (X.2.1.1, 60, .inl (iF Fs))), (rp, .inl (X.2.1.1, 20, .inl (iF Pr)))] [.ref h0, .int (iI k), .int (iI w), .int (iI i1), .int (iI m1)] (gQi X (Y := Unit) (fun _ => True) (fun _ => m1) (fun _ => [(h0, .inr (5, [.ref s1, .int (iI sc), .ref w0, .ref t0, .ref k0, .ref r0, .int (iI gf), .int (iI gs), .ref rp, .int (iI m1), .ref sh1, .int (iI tc), .int (iI 0)])), (sh1, .inl (X.2.1.2.2, 4, .inr (.inr (.inr (.inr shf))))), (sa, .inr (2, [.ref sb, .int (iI so), .int (iI la), .int (iI ln)])), (sb, .inl (X.2.1.1, 60, .inl (iF Fs))), (rp, .inl (X.2.1.1, 20, .inl (iF (tkI Pr Fs i1 m1))))])) 0 0 := by
  refine g_start2 (lo := [(0, .ref h0), (1, .int (iI k)), (2, .int (iI w)), (3, .int (iI i1)), (4, .int (iI m1))]) (by decide +kernel) rfl rfl (Nat.le_of_ble_eq_true rfl) (fun p e s m args below meth c A C => ?_)
  refine r_aload_n C dX5_rings_0 0 rfl ?_
  refine r_iload_n C dX5_rings_1 1 rfl ?_
  refine r_iload_n C dX5_rings_2 2 rfl ?_
  refine r_iload_n C dX5_rings_3 3 rfl ?_
  refine r_iload C dX5_rings_4 4 rfl ?_
  refine r_iconst C dX5_rings_6 ?_
  refine r_ldc (z := 2147483647) C dX5_rings_7 kw_X5_rings_0 rfl ?_
  refine g_V_i (ws2 := (fun _ => [(h0, .inr (5, [.ref s1, .int (iI sc), .ref w0, .ref t0, .ref k0, .ref r0, .int (iI gf), .int (iI gs), .ref rp, .int (iI rc), .ref sh1, .int (iI tc), .int (iI 0)])), (sh1, .inl (X.2.1.2.2, 4, .inr (.inr (.inr (.inr shf))))), (sa, .inr (2, [.ref sb, .int (iI so), .int (iI la), .int (iI ln)])), (sb, .inl (X.2.1.1, 60, .inl (iF Fs))), (rp, .inl (X.2.1.1, 20, .inl (iF Pr)))])) (As := [.int (iI k), .int (iI w), .int (iI i1), .int (iI m1), .int (iI 1), .int (iI 2147483647)]) C (c_X5_refusalOfRow_ok l X h0 s1 w0 t0 k0 r0 rp sh1 sc gf gs rc tc ft shf sa sb so la ln Fs k w i1 m1 1 2147483647 (by first | assumption | omega) (by first | assumption | omega) (by first | assumption | omega) (by first | assumption | omega) (by first | assumption | omega) (by assumption) (by first | assumption | omega) (by first | assumption | omega) (by first | assumption | omega) (by first | assumption | omega) (by first | assumption | omega) (by first | assumption | omega) (by first | assumption | omega) hall) gX5_rings_X5_refusalOfRow rfl rfl rfl hd_V_X5_refusalOfRow_X5_rings (by decide) dX5_rings_9 [0, 1, 2, 3] [4] [1, 2, 3, 4, 0] rfl rfl rfl rfl (by decide) rfl 0 5 rfl rfl rfl rfl (Nat.le_of_ble_eq_true rfl) (by decide) (fun _ => rfl) (fun _ hy_ => ?_)
  clear hy_
  refine r_istore (lo2 := [(5, .int (iI 0)), (0, .ref h0), (1, .int (iI k)), (2, .int (iI w)), (3, .int (iI i1)), (4, .int (iI m1))]) C dX5_rings_12 (by decide) rfl ?_
  refine r_iload C dX5_rings_14 0 rfl ?_
  refine r_if_eq (tgt := 22) C dX5_rings_16 (by decide) (by decide) (fun h_1 => ?_) (fun h_1 => absurd h_1 (by decide))
  refine r_aload_n C dX5_rings_22 1 rfl ?_
  refine r_iload_n C dX5_rings_23 2 rfl ?_
  refine r_iload_n C dX5_rings_24 4 rfl ?_
  refine r_iload C dX5_rings_25 5 rfl ?_
  refine r_aload_n C dX5_rings_27 1 rfl ?_
  refine gf_5_8 C hi_X5_rings_5 kw_X5_rings_1 dX5_rings_28 0 rfl rfl ?_
  refine g_V_v (ws2 := (fun _ => [(h0, .inr (5, [.ref s1, .int (iI sc), .ref w0, .ref t0, .ref k0, .ref r0, .int (iI gf), .int (iI gs), .ref rp, .int (iI rc), .ref sh1, .int (iI tc), .int (iI 0)])), (sh1, .inl (X.2.1.2.2, 4, .inr (.inr (.inr (.inr shf))))), (sa, .inr (2, [.ref sb, .int (iI so), .int (iI la), .int (iI ln)])), (sb, .inl (X.2.1.1, 60, .inl (iF Fs))), (rp, .inl (X.2.1.1, 20, .inl (iF (tkI Pr Fs i1 m1))))])) (As := [.int (iI k), .int (iI i1), .int (iI m1), .ref rp]) C (c_X5_takeCells l X h0 s1 w0 t0 k0 r0 rp sh1 sc gf gs rc tc 0 shf sa sb so la ln Fs rp Pr k i1 m1 (by first | assumption | omega) (by first | assumption | omega) (by first | assumption | omega) (by first | assumption | omega) (by first | assumption | omega) (by assumption) (by first | assumption | omega)) gX5_rings_X5_takeCells rfl rfl rfl hd_V_X5_takeCells_X5_rings (by decide) dX5_rings_31 [0, 1, 2, 3, 4] [] [0, 1, 2, 3, 4] rfl rfl rfl rfl (by decide) rfl 0 5 rfl rfl rfl rfl (Nat.le_of_ble_eq_true rfl) (by decide) (fun _ => rfl) (fun _ hy_ => ?_)
  clear hy_
  refine r_aload_n C dX5_rings_34 1 rfl ?_
  refine r_iload C dX5_rings_35 5 rfl ?_
  refine pf_5_9 (ws2 := [(h0, .inr (5, [.ref s1, .int (iI sc), .ref w0, .ref t0, .ref k0, .ref r0, .int (iI gf), .int (iI gs), .ref rp, .int (iI m1), .ref sh1, .int (iI tc), .int (iI 0)])), (sh1, .inl (X.2.1.2.2, 4, .inr (.inr (.inr (.inr shf))))), (sa, .inr (2, [.ref sb, .int (iI so), .int (iI la), .int (iI ln)])), (sb, .inl (X.2.1.1, 60, .inl (iF Fs))), (rp, .inl (X.2.1.1, 20, .inl (iF (tkI Pr Fs i1 m1))))]) C hi_X5_rings_5 kw_X5_rings_2 dX5_rings_37 0 rfl rfl rfl (Nat.le_of_ble_eq_true rfl) rfl ?_
  refine r_iload C dX5_rings_40 5 rfl ?_
  exact g_ret_i C rfl dX5_rings_42 () trivial (by (repeat' split) <;> first | rfl | omega) [0, 1, 2, 3, 4] rfl (by (repeat' split) <;> first | rfl | omega)

set_option maxHeartbeats 4000000 in
set_option maxRecDepth 100000 in
theorem c_X5_rings_out (l : Launch) (X : gX) (h0 : Nat) (s1 : Nat) (w0 : Nat) (t0 : Nat) (k0 : Nat) (r0 : Nat) (rp : Nat) (sh1 : Nat) (sc : Int) (gf : Int) (gs : Int) (rc : Int) (tc : Int) (ft : Int) (shf : Nat → Option Nat) (k : Int) (w : Int) (i1 : Int) (m1 : Int) (hx : ¬ (0 ≤ k ∧ k < 4)) (hbk : inB k) : gM l yX5_rings wsX5_rings (gr 4 0 0) X [(h0, .inr (5, [.ref s1, .int (iI sc), .ref w0, .ref t0, .ref k0, .ref r0, .int (iI gf), .int (iI gs), .ref rp, .int (iI rc), .ref sh1, .int (iI tc), .int (iI ft)])), (sh1, .inl (X.2.1.2.2, 4, .inr (.inr (.inr (.inr shf)))))] [.ref h0, .int (iI k), .int (iI w), .int (iI i1), .int (iI m1)] (gQi X (Y := Unit) (fun _ => True) (fun _ => -1) (fun _ => [(h0, .inr (5, [.ref s1, .int (iI sc), .ref w0, .ref t0, .ref k0, .ref r0, .int (iI gf), .int (iI gs), .ref rp, .int (iI rc), .ref sh1, .int (iI tc), .int (iI 0)])), (sh1, .inl (X.2.1.2.2, 4, .inr (.inr (.inr (.inr shf)))))])) 0 0 := by
  refine g_start2 (lo := [(0, .ref h0), (1, .int (iI k)), (2, .int (iI w)), (3, .int (iI i1)), (4, .int (iI m1))]) (by decide +kernel) rfl rfl (Nat.le_of_ble_eq_true rfl) (fun p e s m args below meth c A C => ?_)
  refine r_aload_n C dX5_rings_0 0 rfl ?_
  refine r_iload_n C dX5_rings_1 1 rfl ?_
  refine r_iload_n C dX5_rings_2 2 rfl ?_
  refine r_iload_n C dX5_rings_3 3 rfl ?_
  refine r_iload C dX5_rings_4 4 rfl ?_
  refine r_iconst C dX5_rings_6 ?_
  refine r_ldc (z := 2147483647) C dX5_rings_7 kw_X5_rings_0 rfl ?_
  refine g_V_i (ws2 := (fun _ => [(h0, .inr (5, [.ref s1, .int (iI sc), .ref w0, .ref t0, .ref k0, .ref r0, .int (iI gf), .int (iI gs), .ref rp, .int (iI rc), .ref sh1, .int (iI tc), .int (iI 0)])), (sh1, .inl (X.2.1.2.2, 4, .inr (.inr (.inr (.inr shf)))))])) (As := [.int (iI k), .int (iI w), .int (iI i1), .int (iI m1), .int (iI 1), .int (iI 2147483647)]) C (c_X5_refusalOfRow_out l X h0 s1 w0 t0 k0 r0 rp sh1 sc gf gs rc tc ft shf k w i1 m1 1 2147483647 (by first | assumption | omega) (by first | assumption | omega)) gX5_rings_X5_refusalOfRow rfl rfl rfl hd_V_X5_refusalOfRow_X5_rings (by decide) dX5_rings_9 [0, 1] [] [0, 1] rfl rfl rfl rfl (by decide) rfl 0 5 rfl rfl rfl rfl (Nat.le_of_ble_eq_true rfl) (by decide) (fun _ => rfl) (fun _ hy_ => ?_)
  clear hy_
  refine r_istore (lo2 := [(5, .int (iI (-1))), (0, .ref h0), (1, .int (iI k)), (2, .int (iI w)), (3, .int (iI i1)), (4, .int (iI m1))]) C dX5_rings_12 (by decide) rfl ?_
  refine r_iload C dX5_rings_14 0 rfl ?_
  refine r_if_eq (tgt := 22) C dX5_rings_16 (by decide) (by omega) (fun h_1 => absurd h_1 (by omega)) (fun h_1 => ?_)
  refine r_iload C dX5_rings_19 0 rfl ?_
  exact g_ret_i C rfl dX5_rings_21 () trivial (by (repeat' split) <;> first | rfl | omega) [0, 1] rfl (by (repeat' split) <;> first | rfl | omega)
end M7
