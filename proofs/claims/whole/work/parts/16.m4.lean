section M4
set_option maxRecDepth 20000 in
theorem hd_S_X5_within_X5_isLane : yX5_within.cls ≠ "java/lang/invoke/MethodHandle" ∧ yX5_within.cls ≠ "java/lang/invoke/VarHandle" ∧ (parseMethodDescriptor yX5_within.desc).map (fun d => d.parameters.length) = some 3 := by decide +kernel
set_option maxHeartbeats 4000000 in
set_option maxRecDepth 100000 in
theorem c_X5_isLane (l : Launch) (X : gX) (k : Int) (hk : inB k) : gM l yX5_isLane wsX5_isLane (gr 1 0 0) X [] [.int (iI k)] (gQi X (Y := Unit) (fun _ => True) (fun _ => (if (0 ≤ k ∧ k ≤ 2) then 1 else 0)) (fun _ => [])) 0 0 := by
  refine g_start2 (lo := [(0, .int (iI k))]) (by decide +kernel) rfl rfl (Nat.le_of_ble_eq_true rfl) (fun p e s m args below meth c A C => ?_)
  refine r_iload_n C dX5_isLane_0 0 rfl ?_
  refine r_iconst C dX5_isLane_1 ?_
  refine r_iconst C dX5_isLane_2 ?_
  refine g_S_i (ws2 := (fun _ => [])) (As := [.int (iI k), .int (iI 0), .int (iI 2)]) C (c_X5_within l X k 0 2 (by first | assumption | omega) (by first | assumption | omega) (by first | assumption | omega)) gX5_isLane_X5_within rfl rfl rfl hd_S_X5_within_X5_isLane (by decide) dX5_isLane_3 [] [] [] rfl rfl rfl rfl (by decide) rfl rfl rfl (Nat.le_of_ble_eq_true rfl) (by decide) (fun _ => rfl) (fun _ hy_ => ?_)
  clear hy_
  refine r_ite (fun h_1 => ?_) (fun h_1 => ?_)
  · skip
    exact g_ret_z C rfl (by decide) dX5_isLane_6 () trivial (by first | rfl | omega | ((repeat' split) <;> first | rfl | omega)) [] rfl rfl
  · skip
    exact g_ret_z C rfl (by decide) dX5_isLane_6 () trivial (by first | rfl | omega | ((repeat' split) <;> first | rfl | omega)) [] rfl rfl

set_option maxRecDepth 20000 in
theorem hd_S_X5_within_X5_isJudge : yX5_within.cls ≠ "java/lang/invoke/MethodHandle" ∧ yX5_within.cls ≠ "java/lang/invoke/VarHandle" ∧ (parseMethodDescriptor yX5_within.desc).map (fun d => d.parameters.length) = some 3 := by decide +kernel
set_option maxHeartbeats 4000000 in
set_option maxRecDepth 100000 in
theorem c_X5_isJudge (l : Launch) (X : gX) (k : Int) (hk : inB k) : gM l yX5_isJudge wsX5_isJudge (gr 1 0 0) X [] [.int (iI k)] (gQi X (Y := Unit) (fun _ => True) (fun _ => (if (0 ≤ k ∧ k ≤ 4) then 1 else 0)) (fun _ => [])) 0 0 := by
  refine g_start2 (lo := [(0, .int (iI k))]) (by decide +kernel) rfl rfl (Nat.le_of_ble_eq_true rfl) (fun p e s m args below meth c A C => ?_)
  refine r_iload_n C dX5_isJudge_0 0 rfl ?_
  refine r_iconst C dX5_isJudge_1 ?_
  refine r_iconst C dX5_isJudge_2 ?_
  refine g_S_i (ws2 := (fun _ => [])) (As := [.int (iI k), .int (iI 0), .int (iI 4)]) C (c_X5_within l X k 0 4 (by first | assumption | omega) (by first | assumption | omega) (by first | assumption | omega)) gX5_isJudge_X5_within rfl rfl rfl hd_S_X5_within_X5_isJudge (by decide) dX5_isJudge_3 [] [] [] rfl rfl rfl rfl (by decide) rfl rfl rfl (Nat.le_of_ble_eq_true rfl) (by decide) (fun _ => rfl) (fun _ hy_ => ?_)
  clear hy_
  refine r_ite (fun h_1 => ?_) (fun h_1 => ?_)
  · skip
    exact g_ret_z C rfl (by decide) dX5_isJudge_6 () trivial (by first | rfl | omega | ((repeat' split) <;> first | rfl | omega)) [] rfl rfl
  · skip
    exact g_ret_z C rfl (by decide) dX5_isJudge_6 () trivial (by first | rfl | omega | ((repeat' split) <;> first | rfl | omega)) [] rfl rfl

set_option maxHeartbeats 4000000 in
set_option maxRecDepth 100000 in
theorem c_X5_pick (l : Launch) (X : gX) (w : Int) (p1 : Int) (p2 : Int) (p3 : Int) (hk : inB w) : gM l yX5_pick wsX5_pick (gr 0 0 0) X [] [.int (iI w), .int (iI p1), .int (iI p2), .int (iI p3)] (gQi X (Y := Unit) (fun _ => True) (fun _ => (if w = 0 then p1 else if w = 1 then p2 else p3)) (fun _ => [])) 0 0 := by
  refine g_start2 (lo := [(0, .int (iI w)), (1, .int (iI p1)), (2, .int (iI p2)), (3, .int (iI p3))]) (by decide +kernel) rfl rfl (Nat.le_of_ble_eq_true rfl) (fun p e s m args below meth c A C => ?_)
  refine r_iload_n C dX5_pick_0 0 rfl ?_
  refine r_if_ne (tgt := 8) C dX5_pick_1 (by decide) (by omega) (fun h_1 => ?_) (fun h_1 => ?_)
  · skip
    refine r_iload_n C dX5_pick_8 0 rfl ?_
    refine r_iconst C dX5_pick_9 ?_
    refine r_icmp_ne (tgt := 17) C dX5_pick_10 (by decide) (by omega) (by decide) (fun h_2 => ?_) (fun h_2 => ?_)
    · skip
      refine r_iload_n C dX5_pick_17 3 rfl ?_
      exact g_ret_i C rfl dX5_pick_18 () trivial (by first | rfl | omega | ((repeat' split) <;> first | rfl | omega)) [] rfl rfl
    · skip
      refine r_iload_n C dX5_pick_13 2 rfl ?_
      refine r_goto (tgt := 18) C dX5_pick_14 (by decide) ?_
      exact g_ret_i C rfl dX5_pick_18 () trivial (by first | rfl | omega | ((repeat' split) <;> first | rfl | omega)) [] rfl rfl
  · skip
    refine r_iload_n C dX5_pick_4 1 rfl ?_
    refine r_goto (tgt := 18) C dX5_pick_5 (by decide) ?_
    exact g_ret_i C rfl dX5_pick_18 () trivial (by first | rfl | omega | ((repeat' split) <;> first | rfl | omega)) [] rfl rfl

set_option maxHeartbeats 4000000 in
set_option maxRecDepth 100000 in
theorem c_X5_throwsOf (l : Launch) (X : gX) (p1 : Int) (p2 : Int) : gM l yX5_throwsOf wsX5_throwsOf (gr 0 0 0) X [] [.int (iI p1), .int (iI p2)] (gQi X (Y := Unit) (fun _ => True) (fun _ => ((p1 + 1) * (p2 + 1))) (fun _ => [])) 0 0 := by
  refine g_start2 (lo := [(0, .int (iI p1)), (1, .int (iI p2))]) (by decide +kernel) rfl rfl (Nat.le_of_ble_eq_true rfl) (fun p e s m args below meth c A C => ?_)
  refine r_iload_n C dX5_throwsOf_0 0 rfl ?_
  refine r_iconst C dX5_throwsOf_1 ?_
  refine r_iadd C dX5_throwsOf_2 ?_
  refine r_iload_n C dX5_throwsOf_3 1 rfl ?_
  refine r_iconst C dX5_throwsOf_4 ?_
  refine r_iadd C dX5_throwsOf_5 ?_
  refine r_imul C dX5_throwsOf_6 ?_
  exact g_ret_i C rfl dX5_throwsOf_7 () trivial (by first | rfl | omega | ((repeat' split) <;> first | rfl | omega)) [] rfl rfl

set_option maxRecDepth 20000 in
theorem hd_S_X5_within_X5_isGrid : yX5_within.cls ≠ "java/lang/invoke/MethodHandle" ∧ yX5_within.cls ≠ "java/lang/invoke/VarHandle" ∧ (parseMethodDescriptor yX5_within.desc).map (fun d => d.parameters.length) = some 3 := by decide +kernel
set_option maxHeartbeats 4000000 in
set_option maxRecDepth 100000 in
theorem c_X5_isGrid (l : Launch) (X : gX) (v : Int) (dv : Int) (n : Int) (dn : Int) (hv : inB v) (hdv : inB dv) (hn : inB n) (hdn : inB dn) : gM l yX5_isGrid wsX5_isGrid (gr 1 0 0) X [] [.int (iI v), .int (iI dv), .int (iI n), .int (iI dn)] (gQi X (Y := Unit) (fun _ => True) (fun _ => (if (0 ≤ dv ∧ dv ≤ 20 ∧ 0 ≤ dn ∧ dn ≤ 10 ∧ 1 ≤ v ∧ v ≤ 300 - dv ∧ 0 ≤ n ∧ n ≤ 45 - dn) then 1 else 0)) (fun _ => [])) 0 0 := by
  refine g_start2 (lo := [(0, .int (iI v)), (1, .int (iI dv)), (2, .int (iI n)), (3, .int (iI dn))]) (by decide +kernel) rfl rfl (Nat.le_of_ble_eq_true rfl) (fun p e s m args below meth c A C => ?_)
  refine r_iload_n C dX5_isGrid_0 1 rfl ?_
  refine r_iconst C dX5_isGrid_1 ?_
  refine r_bipush C dX5_isGrid_2 (by decide) ?_
  refine g_S_i (ws2 := (fun _ => [])) (As := [.int (iI dv), .int (iI 0), .int (iI 20)]) C (c_X5_within l X dv 0 20 (by first | assumption | omega) (by first | assumption | omega) (by first | assumption | omega)) gX5_isGrid_X5_within rfl rfl rfl hd_S_X5_within_X5_isGrid (by decide) dX5_isGrid_4 [] [] [] rfl rfl rfl rfl (by decide) rfl rfl rfl (Nat.le_of_ble_eq_true rfl) (by decide) (fun _ => rfl) (fun _ hy_ => ?_)
  clear hy_
  refine r_ite (fun h_1 => ?_) (fun h_1 => ?_)
  · skip
    refine r_if_eq (tgt := 49) C dX5_isGrid_7 (by decide) (by decide) (fun h_2 => absurd h_2 (by decide)) (fun h_2 => ?_)
    refine r_iload_n C dX5_isGrid_10 3 rfl ?_
    refine r_iconst C dX5_isGrid_11 ?_
    refine r_bipush C dX5_isGrid_12 (by decide) ?_
    refine g_S_i (ws2 := (fun _ => [])) (As := [.int (iI dn), .int (iI 0), .int (iI 10)]) C (c_X5_within l X dn 0 10 (by first | assumption | omega) (by first | assumption | omega) (by first | assumption | omega)) gX5_isGrid_X5_within rfl rfl rfl hd_S_X5_within_X5_isGrid (by decide) dX5_isGrid_14 [] [] [] rfl rfl rfl rfl (by decide) rfl rfl rfl (Nat.le_of_ble_eq_true rfl) (by decide) (fun _ => rfl) (fun _ hy_ => ?_)
    clear hy_
    refine r_ite (fun h_3 => ?_) (fun h_3 => ?_)
    · skip
      refine r_if_eq (tgt := 49) C dX5_isGrid_17 (by decide) (by decide) (fun h_4 => absurd h_4 (by decide)) (fun h_4 => ?_)
      refine r_iload_n C dX5_isGrid_20 0 rfl ?_
      refine r_iconst C dX5_isGrid_21 ?_
      refine r_sipush C dX5_isGrid_22 (by decide) ?_
      refine r_iload_n C dX5_isGrid_25 1 rfl ?_
      refine r_isub C dX5_isGrid_26 ?_
      refine g_S_i (ws2 := (fun _ => [])) (As := [.int (iI v), .int (iI 1), .int (iI (300 - dv))]) C (c_X5_within l X v 1 (300 - dv) (by first | assumption | omega) (by first | assumption | omega) (by first | assumption | omega)) gX5_isGrid_X5_within rfl rfl rfl hd_S_X5_within_X5_isGrid (by decide) dX5_isGrid_27 [] [] [] rfl rfl rfl rfl (by decide) rfl rfl rfl (Nat.le_of_ble_eq_true rfl) (by decide) (fun _ => rfl) (fun _ hy_ => ?_)
      clear hy_
      refine r_ite (fun h_5 => ?_) (fun h_5 => ?_)
      · skip
        refine r_if_eq (tgt := 49) C dX5_isGrid_30 (by decide) (by decide) (fun h_6 => absurd h_6 (by decide)) (fun h_6 => ?_)
        refine r_iload_n C dX5_isGrid_33 2 rfl ?_
        refine r_iconst C dX5_isGrid_34 ?_
        refine r_bipush C dX5_isGrid_35 (by decide) ?_
        refine r_iload_n C dX5_isGrid_37 3 rfl ?_
        refine r_isub C dX5_isGrid_38 ?_
        refine g_S_i (ws2 := (fun _ => [])) (As := [.int (iI n), .int (iI 0), .int (iI (45 - dn))]) C (c_X5_within l X n 0 (45 - dn) (by first | assumption | omega) (by first | assumption | omega) (by first | assumption | omega)) gX5_isGrid_X5_within rfl rfl rfl hd_S_X5_within_X5_isGrid (by decide) dX5_isGrid_39 [] [] [] rfl rfl rfl rfl (by decide) rfl rfl rfl (Nat.le_of_ble_eq_true rfl) (by decide) (fun _ => rfl) (fun _ hy_ => ?_)
        clear hy_
        refine r_ite (fun h_7 => ?_) (fun h_7 => ?_)
        · skip
          refine r_if_eq (tgt := 49) C dX5_isGrid_42 (by decide) (by decide) (fun h_8 => absurd h_8 (by decide)) (fun h_8 => ?_)
          refine r_iconst C dX5_isGrid_45 ?_
          refine r_goto (tgt := 50) C dX5_isGrid_46 (by decide) ?_
          exact g_ret_z C rfl (by decide) dX5_isGrid_50 () trivial (by first | rfl | omega | ((repeat' split) <;> first | rfl | omega)) [] rfl rfl
        · skip
          refine r_if_eq (tgt := 49) C dX5_isGrid_42 (by decide) (by decide) (fun h_9 => ?_) (fun h_9 => absurd h_9 (by decide))
          refine r_iconst C dX5_isGrid_49 ?_
          exact g_ret_z C rfl (by decide) dX5_isGrid_50 () trivial (by first | rfl | omega | ((repeat' split) <;> first | rfl | omega)) [] rfl rfl
      · skip
        refine r_if_eq (tgt := 49) C dX5_isGrid_30 (by decide) (by decide) (fun h_10 => ?_) (fun h_10 => absurd h_10 (by decide))
        refine r_iconst C dX5_isGrid_49 ?_
        exact g_ret_z C rfl (by decide) dX5_isGrid_50 () trivial (by first | rfl | omega | ((repeat' split) <;> first | rfl | omega)) [] rfl rfl
    · skip
      refine r_if_eq (tgt := 49) C dX5_isGrid_17 (by decide) (by decide) (fun h_11 => ?_) (fun h_11 => absurd h_11 (by decide))
      refine r_iconst C dX5_isGrid_49 ?_
      exact g_ret_z C rfl (by decide) dX5_isGrid_50 () trivial (by first | rfl | omega | ((repeat' split) <;> first | rfl | omega)) [] rfl rfl
  · skip
    refine r_if_eq (tgt := 49) C dX5_isGrid_7 (by decide) (by decide) (fun h_12 => ?_) (fun h_12 => absurd h_12 (by decide))
    refine r_iconst C dX5_isGrid_49 ?_
    exact g_ret_z C rfl (by decide) dX5_isGrid_50 () trivial (by first | rfl | omega | ((repeat' split) <;> first | rfl | omega)) [] rfl rfl

set_option maxRecDepth 20000 in
theorem kw_X5_stoneAt_0 : Cond.fieldLink RX5 17 "SkipStones" "stoneCount" "I" ∈ wsX5_stoneAt := List.mem_of_getElem? (i := 1) rfl
set_option maxRecDepth 20000 in
theorem kw_X5_stoneAt_1 : Cond.fieldLink RX5 13 "SkipStones" "stones" "[LSkipStones$Stone;" ∈ wsX5_stoneAt := List.mem_of_getElem? (i := 2) rfl
set_option maxRecDepth 20000 in
theorem hi_X5_stoneAt_5 : ∀ w ∈ wsX50, w ∈ wsX5_stoneAt := fun _ h => List.mem_cons_of_mem _ (List.mem_append_right _ h)
set_option maxHeartbeats 4000000 in
set_option maxRecDepth 100000 in
theorem c_X5_stoneAt_in (l : Launch) (X : gX) (h0 : Nat) (s1 : Nat) (w0 : Nat) (t0 : Nat) (k0 : Nat) (r0 : Nat) (rp : Nat) (sh1 : Nat) (sc : Int) (gf : Int) (gs : Int) (rc : Int) (tc : Int) (ft : Int) (sf : Nat → Option Nat) (sa : Nat) (x : Int) (hx : 0 ≤ x ∧ x < sc ∧ sc ≤ 8) (hsf : sf (Int.toNat x) = some sa) : gM l yX5_stoneAt wsX5_stoneAt (gr 0 0 0) X [(h0, .inr (5, [.ref s1, .int (iI sc), .ref w0, .ref t0, .ref k0, .ref r0, .int (iI gf), .int (iI gs), .ref rp, .int (iI rc), .ref sh1, .int (iI tc), .int (iI ft)])), (s1, .inl (X.2.1.2.1, 8, .inr (.inr (.inr (.inr sf)))))] [.ref h0, .int (iI x)] (gQq X (Y := Unit) (fun _ => True) (fun _ => (some sa)) (fun _ => [(h0, .inr (5, [.ref s1, .int (iI sc), .ref w0, .ref t0, .ref k0, .ref r0, .int (iI gf), .int (iI gs), .ref rp, .int (iI rc), .ref sh1, .int (iI tc), .int (iI ft)])), (s1, .inl (X.2.1.2.1, 8, .inr (.inr (.inr (.inr sf)))))])) 0 0 := by
  refine g_start2 (lo := [(0, .ref h0), (1, .int (iI x))]) (by decide +kernel) rfl rfl (Nat.le_of_ble_eq_true rfl) (fun p e s m args below meth c A C => ?_)
  refine r_iload_n C dX5_stoneAt_0 1 rfl ?_
  refine r_if_lt (tgt := 21) C dX5_stoneAt_1 (by decide) (by omega) (fun h_1 => absurd h_1 (by omega)) (fun h_1 => ?_)
  refine r_iload_n C dX5_stoneAt_4 1 rfl ?_
  refine r_aload_n C dX5_stoneAt_5 0 rfl ?_
  refine gf_5_1 C hi_X5_stoneAt_5 kw_X5_stoneAt_0 dX5_stoneAt_6 0 rfl rfl ?_
  refine r_icmp_ge (tgt := 21) C dX5_stoneAt_9 (by decide) (by omega) (by omega) (fun h_2 => absurd h_2 (by omega)) (fun h_2 => ?_)
  refine r_iload_n C dX5_stoneAt_12 1 rfl ?_
  refine r_aload_n C dX5_stoneAt_13 0 rfl ?_
  refine gf_5_0 C hi_X5_stoneAt_5 kw_X5_stoneAt_1 dX5_stoneAt_14 0 rfl rfl ?_
  refine r_alen (z := 8) C dX5_stoneAt_17 1 1 rfl rfl rfl ?_
  refine r_icmp_lt (tgt := 25) C dX5_stoneAt_18 (by decide) (by omega) (by decide) (fun h_3 => ?_) (fun h_3 => absurd h_3 (by omega))
  refine r_aload_n C dX5_stoneAt_25 0 rfl ?_
  refine gf_5_0 C hi_X5_stoneAt_5 kw_X5_stoneAt_1 dX5_stoneAt_26 0 rfl rfl ?_
  refine r_iload_n C dX5_stoneAt_29 1 rfl ?_
  refine r_aldq (t := 1) (v := .ref sa) C dX5_stoneAt_30 1 rfl rfl (by omega) (by decide) (by rw [hsf]; rfl) ?_
  exact g_ret_q C rfl dX5_stoneAt_31 () trivial (by first | rfl | omega | ((repeat' split) <;> first | rfl | omega)) [0, 1] rfl rfl

set_option maxHeartbeats 4000000 in
set_option maxRecDepth 100000 in
theorem c_X5_stoneAt_out (l : Launch) (X : gX) (h0 : Nat) (s1 : Nat) (w0 : Nat) (t0 : Nat) (k0 : Nat) (r0 : Nat) (rp : Nat) (sh1 : Nat) (sc : Int) (gf : Int) (gs : Int) (rc : Int) (tc : Int) (ft : Int) (sf : Nat → Option Nat) (x : Int) (hx : ¬ (0 ≤ x ∧ x < sc)) (hb : inB x) (hc : 0 ≤ sc ∧ sc ≤ 8) : gM l yX5_stoneAt wsX5_stoneAt (gr 0 0 0) X [(h0, .inr (5, [.ref s1, .int (iI sc), .ref w0, .ref t0, .ref k0, .ref r0, .int (iI gf), .int (iI gs), .ref rp, .int (iI rc), .ref sh1, .int (iI tc), .int (iI ft)])), (s1, .inl (X.2.1.2.1, 8, .inr (.inr (.inr (.inr sf)))))] [.ref h0, .int (iI x)] (gQq X (Y := Unit) (fun _ => True) (fun _ => (none)) (fun _ => [(h0, .inr (5, [.ref s1, .int (iI sc), .ref w0, .ref t0, .ref k0, .ref r0, .int (iI gf), .int (iI gs), .ref rp, .int (iI rc), .ref sh1, .int (iI tc), .int (iI ft)])), (s1, .inl (X.2.1.2.1, 8, .inr (.inr (.inr (.inr sf)))))])) 0 0 := by
  refine g_start2 (lo := [(0, .ref h0), (1, .int (iI x))]) (by decide +kernel) rfl rfl (Nat.le_of_ble_eq_true rfl) (fun p e s m args below meth c A C => ?_)
  refine r_iload_n C dX5_stoneAt_0 1 rfl ?_
  refine r_if_lt (tgt := 21) C dX5_stoneAt_1 (by decide) (by omega) (fun h_1 => ?_) (fun h_1 => ?_)
  · skip
    refine r_null C dX5_stoneAt_21 ?_
    refine r_goto (tgt := 31) C dX5_stoneAt_22 (by decide) ?_
    exact g_ret_q C rfl dX5_stoneAt_31 () trivial (by first | rfl | omega | ((repeat' split) <;> first | rfl | omega)) [0, 1] rfl rfl
  · skip
    refine r_iload_n C dX5_stoneAt_4 1 rfl ?_
    refine r_aload_n C dX5_stoneAt_5 0 rfl ?_
    refine gf_5_1 C hi_X5_stoneAt_5 kw_X5_stoneAt_0 dX5_stoneAt_6 0 rfl rfl ?_
    refine r_icmp_ge (tgt := 21) C dX5_stoneAt_9 (by decide) (by omega) (by omega) (fun h_2 => ?_) (fun h_2 => absurd h_2 (by omega))
    refine r_null C dX5_stoneAt_21 ?_
    refine r_goto (tgt := 31) C dX5_stoneAt_22 (by decide) ?_
    exact g_ret_q C rfl dX5_stoneAt_31 () trivial (by first | rfl | omega | ((repeat' split) <;> first | rfl | omega)) [0, 1] rfl rfl

set_option maxRecDepth 20000 in
theorem kw_X5_sheetAt_0 : Cond.fieldLink RX5 60 "SkipStones" "sheets" "[LSkipStones$Sheet;" ∈ wsX5_sheetAt := List.mem_of_getElem? (i := 1) rfl
set_option maxRecDepth 20000 in
theorem hi_X5_sheetAt_5 : ∀ w ∈ wsX50, w ∈ wsX5_sheetAt := fun _ h => List.mem_cons_of_mem _ (List.mem_append_right _ h)
set_option maxHeartbeats 4000000 in
set_option maxRecDepth 100000 in
theorem c_X5_sheetAt_in (l : Launch) (X : gX) (h0 : Nat) (s1 : Nat) (w0 : Nat) (t0 : Nat) (k0 : Nat) (r0 : Nat) (rp : Nat) (sh1 : Nat) (sc : Int) (gf : Int) (gs : Int) (rc : Int) (tc : Int) (ft : Int) (shf : Nat → Option Nat) (sa : Nat) (x : Int) (hx : 0 ≤ x ∧ x < 4) (hsf : shf (Int.toNat x) = some sa) : gM l yX5_sheetAt wsX5_sheetAt (gr 0 0 0) X [(h0, .inr (5, [.ref s1, .int (iI sc), .ref w0, .ref t0, .ref k0, .ref r0, .int (iI gf), .int (iI gs), .ref rp, .int (iI rc), .ref sh1, .int (iI tc), .int (iI ft)])), (sh1, .inl (X.2.1.2.2, 4, .inr (.inr (.inr (.inr shf)))))] [.ref h0, .int (iI x)] (gQq X (Y := Unit) (fun _ => True) (fun _ => (some sa)) (fun _ => [(h0, .inr (5, [.ref s1, .int (iI sc), .ref w0, .ref t0, .ref k0, .ref r0, .int (iI gf), .int (iI gs), .ref rp, .int (iI rc), .ref sh1, .int (iI tc), .int (iI ft)])), (sh1, .inl (X.2.1.2.2, 4, .inr (.inr (.inr (.inr shf)))))])) 0 0 := by
  refine g_start2 (lo := [(0, .ref h0), (1, .int (iI x))]) (by decide +kernel) rfl rfl (Nat.le_of_ble_eq_true rfl) (fun p e s m args below meth c A C => ?_)
  refine r_iload_n C dX5_sheetAt_0 1 rfl ?_
  refine r_if_lt (tgt := 13) C dX5_sheetAt_1 (by decide) (by omega) (fun h_1 => absurd h_1 (by omega)) (fun h_1 => ?_)
  refine r_iload_n C dX5_sheetAt_4 1 rfl ?_
  refine r_aload_n C dX5_sheetAt_5 0 rfl ?_
  refine gf_5_10 C hi_X5_sheetAt_5 kw_X5_sheetAt_0 dX5_sheetAt_6 0 rfl rfl ?_
  refine r_alen (z := 4) C dX5_sheetAt_9 1 2 rfl rfl rfl ?_
  refine r_icmp_lt (tgt := 17) C dX5_sheetAt_10 (by decide) (by omega) (by decide) (fun h_2 => ?_) (fun h_2 => absurd h_2 (by omega))
  refine r_aload_n C dX5_sheetAt_17 0 rfl ?_
  refine gf_5_10 C hi_X5_sheetAt_5 kw_X5_sheetAt_0 dX5_sheetAt_18 0 rfl rfl ?_
  refine r_iload_n C dX5_sheetAt_21 1 rfl ?_
  refine r_aldq (t := 2) (v := .ref sa) C dX5_sheetAt_22 1 rfl rfl (by omega) (by decide) (by rw [hsf]; rfl) ?_
  exact g_ret_q C rfl dX5_sheetAt_23 () trivial (by first | rfl | omega | ((repeat' split) <;> first | rfl | omega)) [0, 1] rfl rfl

set_option maxHeartbeats 4000000 in
set_option maxRecDepth 100000 in
theorem c_X5_sheetAt_out (l : Launch) (X : gX) (h0 : Nat) (s1 : Nat) (w0 : Nat) (t0 : Nat) (k0 : Nat) (r0 : Nat) (rp : Nat) (sh1 : Nat) (sc : Int) (gf : Int) (gs : Int) (rc : Int) (tc : Int) (ft : Int) (shf : Nat → Option Nat) (x : Int) (hx : ¬ (0 ≤ x ∧ x < 4)) (hb : inB x) : gM l yX5_sheetAt wsX5_sheetAt (gr 0 0 0) X [(h0, .inr (5, [.ref s1, .int (iI sc), .ref w0, .ref t0, .ref k0, .ref r0, .int (iI gf), .int (iI gs), .ref rp, .int (iI rc), .ref sh1, .int (iI tc), .int (iI ft)])), (sh1, .inl (X.2.1.2.2, 4, .inr (.inr (.inr (.inr shf)))))] [.ref h0, .int (iI x)] (gQq X (Y := Unit) (fun _ => True) (fun _ => (none)) (fun _ => [(h0, .inr (5, [.ref s1, .int (iI sc), .ref w0, .ref t0, .ref k0, .ref r0, .int (iI gf), .int (iI gs), .ref rp, .int (iI rc), .ref sh1, .int (iI tc), .int (iI ft)])), (sh1, .inl (X.2.1.2.2, 4, .inr (.inr (.inr (.inr shf)))))])) 0 0 := by
  refine g_start2 (lo := [(0, .ref h0), (1, .int (iI x))]) (by decide +kernel) rfl rfl (Nat.le_of_ble_eq_true rfl) (fun p e s m args below meth c A C => ?_)
  refine r_iload_n C dX5_sheetAt_0 1 rfl ?_
  refine r_if_lt (tgt := 13) C dX5_sheetAt_1 (by decide) (by omega) (fun h_1 => ?_) (fun h_1 => ?_)
  · skip
    refine r_null C dX5_sheetAt_13 ?_
    refine r_goto (tgt := 23) C dX5_sheetAt_14 (by decide) ?_
    exact g_ret_q C rfl dX5_sheetAt_23 () trivial (by first | rfl | omega | ((repeat' split) <;> first | rfl | omega)) [0, 1] rfl rfl
  · skip
    refine r_iload_n C dX5_sheetAt_4 1 rfl ?_
    refine r_aload_n C dX5_sheetAt_5 0 rfl ?_
    refine gf_5_10 C hi_X5_sheetAt_5 kw_X5_sheetAt_0 dX5_sheetAt_6 0 rfl rfl ?_
    refine r_alen (z := 4) C dX5_sheetAt_9 1 2 rfl rfl rfl ?_
    refine r_icmp_lt (tgt := 17) C dX5_sheetAt_10 (by decide) (by omega) (by decide) (fun h_2 => absurd h_2 (by omega)) (fun h_2 => ?_)
    refine r_null C dX5_sheetAt_13 ?_
    refine r_goto (tgt := 23) C dX5_sheetAt_14 (by decide) ?_
    exact g_ret_q C rfl dX5_sheetAt_23 () trivial (by first | rfl | omega | ((repeat' split) <;> first | rfl | omega)) [0, 1] rfl rfl

set_option maxRecDepth 20000 in
theorem kw_X5_faulted_0 : Cond.fieldLink RX5 67 "SkipStones" "lastFault" "I" ∈ wsX5_faulted := List.mem_of_getElem? (i := 1) rfl
set_option maxRecDepth 20000 in
theorem hi_X5_faulted_5 : ∀ w ∈ wsX50, w ∈ wsX5_faulted := fun _ h => List.mem_cons_of_mem _ (List.mem_append_right _ h)
set_option maxHeartbeats 4000000 in
set_option maxRecDepth 100000 in
theorem c_X5_faulted (l : Launch) (X : gX) (h0 : Nat) (s1 : Nat) (w0 : Nat) (t0 : Nat) (k0 : Nat) (r0 : Nat) (rp : Nat) (sh1 : Nat) (sc : Int) (gf : Int) (gs : Int) (rc : Int) (tc : Int) (ft : Int) (k : Int) : gM l yX5_faulted wsX5_faulted (gr 0 0 0) X [(h0, .inr (5, [.ref s1, .int (iI sc), .ref w0, .ref t0, .ref k0, .ref r0, .int (iI gf), .int (iI gs), .ref rp, .int (iI rc), .ref sh1, .int (iI tc), .int (iI ft)]))] [.ref h0, .int (iI k)] (gQi X (Y := Unit) (fun _ => True) (fun _ => (-10 - k)) (fun _ => [(h0, .inr (5, [.ref s1, .int (iI sc), .ref w0, .ref t0, .ref k0, .ref r0, .int (iI gf), .int (iI gs), .ref rp, .int (iI rc), .ref sh1, .int (iI tc), .int (iI k)]))])) 0 0 := by
  refine g_start2 (lo := [(0, .ref h0), (1, .int (iI k))]) (by decide +kernel) rfl rfl (Nat.le_of_ble_eq_true rfl) (fun p e s m args below meth c A C => ?_)
  refine r_aload_n C dX5_faulted_0 0 rfl ?_
  refine r_iload_n C dX5_faulted_1 1 rfl ?_
  refine pf_5_12 (ws2 := [(h0, .inr (5, [.ref s1, .int (iI sc), .ref w0, .ref t0, .ref k0, .ref r0, .int (iI gf), .int (iI gs), .ref rp, .int (iI rc), .ref sh1, .int (iI tc), .int (iI k)]))]) C hi_X5_faulted_5 kw_X5_faulted_0 dX5_faulted_2 0 rfl rfl rfl (Nat.le_of_ble_eq_true rfl) rfl ?_
  refine r_bipush C dX5_faulted_5 (by decide) ?_
  refine r_iload_n C dX5_faulted_7 1 rfl ?_
  refine r_isub C dX5_faulted_8 ?_
  exact g_ret_i C rfl dX5_faulted_9 () trivial (by first | rfl | omega | ((repeat' split) <;> first | rfl | omega)) [0] rfl rfl

set_option maxRecDepth 20000 in
theorem kw_X5_leave_0 : Cond.fieldLink RX5 64 "SkipStones" "traced" "I" ∈ wsX5_leave := List.mem_of_getElem? (i := 1) rfl
set_option maxRecDepth 20000 in
theorem hi_X5_leave_5 : ∀ w ∈ wsX50, w ∈ wsX5_leave := fun _ h => List.mem_cons_of_mem _ (List.mem_append_right _ h)
set_option maxHeartbeats 4000000 in
set_option maxRecDepth 100000 in
theorem c_X5_leave (l : Launch) (X : gX) (h0 : Nat) (s1 : Nat) (w0 : Nat) (t0 : Nat) (k0 : Nat) (r0 : Nat) (rp : Nat) (sh1 : Nat) (sc : Int) (gf : Int) (gs : Int) (rc : Int) (tc : Int) (ft : Int) (k : Int) : gM l yX5_leave wsX5_leave (gr 0 0 0) X [(h0, .inr (5, [.ref s1, .int (iI sc), .ref w0, .ref t0, .ref k0, .ref r0, .int (iI gf), .int (iI gs), .ref rp, .int (iI rc), .ref sh1, .int (iI tc), .int (iI ft)]))] [.ref h0, .int (iI k)] (gQv X (Y := Unit) (fun _ => True) (fun _ => [(h0, .inr (5, [.ref s1, .int (iI sc), .ref w0, .ref t0, .ref k0, .ref r0, .int (iI gf), .int (iI gs), .ref rp, .int (iI rc), .ref sh1, .int (iI ((31 * tc) + k)), .int (iI ft)]))])) 0 0 := by
  refine g_start2 (lo := [(0, .ref h0), (1, .int (iI k))]) (by decide +kernel) rfl rfl (Nat.le_of_ble_eq_true rfl) (fun p e s m args below meth c A C => ?_)
  refine r_aload_n C dX5_leave_0 0 rfl ?_
  refine r_bipush C dX5_leave_1 (by decide) ?_
  refine r_aload_n C dX5_leave_3 0 rfl ?_
  refine gf_5_11 C hi_X5_leave_5 kw_X5_leave_0 dX5_leave_4 0 rfl rfl ?_
  refine r_imul C dX5_leave_7 ?_
  refine r_iload_n C dX5_leave_8 1 rfl ?_
  refine r_iadd C dX5_leave_9 ?_
  refine pf_5_11 (ws2 := [(h0, .inr (5, [.ref s1, .int (iI sc), .ref w0, .ref t0, .ref k0, .ref r0, .int (iI gf), .int (iI gs), .ref rp, .int (iI rc), .ref sh1, .int (iI ((31 * tc) + k)), .int (iI ft)]))]) C hi_X5_leave_5 kw_X5_leave_0 dX5_leave_10 0 rfl rfl rfl (Nat.le_of_ble_eq_true rfl) rfl ?_
  exact g_ret_v C rfl dX5_leave_13 () trivial [0] rfl rfl
end M4
