section M1
set_option maxHeartbeats 4000000 in
set_option maxRecDepth 100000 in
/-- within -/
theorem c_X5_within (l : Launch) (X : gX) (v : Int) (lw : Int) (hi : Int) (hv : inB v) (hl : inB lw) (hh : inB hi) : gM l yX5_within wsX5_within (gr 0 0 0) X [] [.int (iI v), .int (iI lw), .int (iI hi)] (gQi X (Y := Unit) (fun _ => True) (fun _ => (if lw ≤ v ∧ v ≤ hi then 1 else 0)) (fun _ => [])) 0 0 := by
  refine g_start2 (lo := [(0, .int (iI v)), (1, .int (iI lw)), (2, .int (iI hi))]) (by decide +kernel) rfl rfl (Nat.le_of_ble_eq_true rfl) (fun p e s m args below meth c A C => ?_)
  refine r_iload_n C dX5_within_0 0 rfl ?_
  refine r_iload_n C dX5_within_1 1 rfl ?_
  refine r_icmp_lt (tgt := 14) C dX5_within_2 (by decide) (by omega) (by omega) (fun h_1 => ?_) (fun h_1 => ?_)
  · skip
    refine r_iconst C dX5_within_14 ?_
    exact g_ret_z C rfl (by decide) dX5_within_15 () trivial (by first | rfl | omega | ((repeat' split) <;> first | rfl | omega)) [] rfl rfl
  · skip
    refine r_iload_n C dX5_within_5 0 rfl ?_
    refine r_iload_n C dX5_within_6 2 rfl ?_
    refine r_icmp_gt (tgt := 14) C dX5_within_7 (by decide) (by omega) (by omega) (fun h_2 => ?_) (fun h_2 => ?_)
    · skip
      refine r_iconst C dX5_within_14 ?_
      exact g_ret_z C rfl (by decide) dX5_within_15 () trivial (by first | rfl | omega | ((repeat' split) <;> first | rfl | omega)) [] rfl rfl
    · skip
      refine r_iconst C dX5_within_10 ?_
      refine r_goto (tgt := 15) C dX5_within_11 (by decide) ?_
      exact g_ret_z C rfl (by decide) dX5_within_15 () trivial (by first | rfl | omega | ((repeat' split) <;> first | rfl | omega)) [] rfl rfl

set_option maxRecDepth 20000 in
theorem kw_X0_value_0 : Cond.fieldLink RX0 15 "SkipStones$Flight" "count" "I" ∈ wsX0_value := List.mem_of_getElem? (i := 1) rfl
set_option maxRecDepth 20000 in
theorem kw_X0_value_1 : Cond.fieldLink RX0 11 "SkipStones$Flight" "values" "[I" ∈ wsX0_value := List.mem_of_getElem? (i := 2) rfl
set_option maxRecDepth 20000 in
theorem hi_X0_value_0 : ∀ w ∈ wsX00, w ∈ wsX0_value := fun _ h => List.mem_cons_of_mem _ (List.mem_append_right _ h)
set_option maxHeartbeats 4000000 in
set_option maxRecDepth 100000 in
/-- value -/
theorem c_X0_value (l : Launch) (X : gX) (h0 : Nat) (h1 : Nat) (cnt : Int) (xx : Int) (sp : Int) (fa : Int) (sl : Int) (sn : Int) (bt : Int) (F : Nat → Int) (k : Int) (w : Int) (hk : 0 ≤ k ∧ k < cnt ∧ cnt ≤ 90) (hw : 0 ≤ w ∧ w < 9) : gM l yX0_value wsX0_value (gr 0 0 0) X [(h0, .inr (0, [.ref h1, .int (iI cnt), .int (iI xx), .int (iI sp), .int (iI fa), .int (iI sl), .int (iI sn), .int (iI bt)])), (h1, .inl (X.2.1.1, 810, .inl (iF F)))] [.ref h0, .int (iI k), .int (iI w)] (gQi X (Y := Unit) (fun _ => True) (fun _ => (F (Int.toNat (k * 9 + w)))) (fun _ => [(h0, .inr (0, [.ref h1, .int (iI cnt), .int (iI xx), .int (iI sp), .int (iI fa), .int (iI sl), .int (iI sn), .int (iI bt)])), (h1, .inl (X.2.1.1, 810, .inl (iF F)))])) 0 0 := by
  refine g_start2 (lo := [(0, .ref h0), (1, .int (iI k)), (2, .int (iI w))]) (by decide +kernel) rfl rfl (Nat.le_of_ble_eq_true rfl) (fun p e s m args below meth c A C => ?_)
  refine r_iload_n C dX0_value_0 1 rfl ?_
  refine r_if_lt (tgt := 28) C dX0_value_1 (by decide) (by omega) (fun h_1 => absurd h_1 (by omega)) (fun h_1 => ?_)
  refine r_iload_n C dX0_value_4 1 rfl ?_
  refine r_aload_n C dX0_value_5 0 rfl ?_
  refine gf_0_1 C hi_X0_value_0 kw_X0_value_0 dX0_value_6 0 rfl rfl ?_
  refine r_icmp_ge (tgt := 28) C dX0_value_9 (by decide) (by omega) (by omega) (fun h_2 => absurd h_2 (by omega)) (fun h_2 => ?_)
  refine r_iload_n C dX0_value_12 1 rfl ?_
  refine r_bipush C dX0_value_13 (by decide) ?_
  refine r_icmp_ge (tgt := 28) C dX0_value_15 (by decide) (by omega) (by decide) (fun h_3 => absurd h_3 (by omega)) (fun h_3 => ?_)
  refine r_iload_n C dX0_value_18 2 rfl ?_
  refine r_if_lt (tgt := 28) C dX0_value_19 (by decide) (by omega) (fun h_4 => absurd h_4 (by omega)) (fun h_4 => ?_)
  refine r_iload_n C dX0_value_22 2 rfl ?_
  refine r_bipush C dX0_value_23 (by decide) ?_
  refine r_icmp_lt (tgt := 30) C dX0_value_25 (by decide) (by omega) (by decide) (fun h_5 => ?_) (fun h_5 => absurd h_5 (by omega))
  refine r_iload_n C dX0_value_30 1 rfl ?_
  refine r_bipush C dX0_value_31 (by decide) ?_
  refine r_imul C dX0_value_33 ?_
  refine r_iload_n C dX0_value_34 2 rfl ?_
  refine r_iadd C dX0_value_35 ?_
  refine r_istore_n (lo2 := [(3, .int (iI ((k * 9) + w))), (0, .ref h0), (1, .int (iI k)), (2, .int (iI w))]) C dX0_value_36 rfl (by decide) rfl ?_
  refine r_iload_n C dX0_value_37 0 rfl ?_
  refine r_if_lt (tgt := 50) C dX0_value_38 (by decide) (by omega) (fun h_6 => absurd h_6 (by omega)) (fun h_6 => ?_)
  refine r_iload_n C dX0_value_41 0 rfl ?_
  refine r_aload_n C dX0_value_42 1 rfl ?_
  refine gf_0_0 C hi_X0_value_0 kw_X0_value_1 dX0_value_43 0 rfl rfl ?_
  refine r_alen (z := 810) C dX0_value_46 1 0 rfl rfl rfl ?_
  refine r_icmp_lt (tgt := 54) C dX0_value_47 (by decide) (by omega) (by decide) (fun h_7 => ?_) (fun h_7 => absurd h_7 (by omega))
  refine r_aload_n C dX0_value_54 1 rfl ?_
  refine gf_0_0 C hi_X0_value_0 kw_X0_value_1 dX0_value_55 0 rfl rfl ?_
  refine r_iload_n C dX0_value_58 0 rfl ?_
  refine r_iald C dX0_value_59 1 rfl (by omega) (by decide) ?_
  exact g_ret_i C rfl dX0_value_60 () trivial (by first | rfl | omega | ((repeat' split) <;> first | rfl | omega)) [0, 1] rfl rfl

set_option maxRecDepth 20000 in
theorem kw_X0_begin_0 : Cond.fieldLink RX0 22 "SkipStones$Flight" "speed" "I" ∈ wsX0_begin := List.mem_of_getElem? (i := 1) rfl
set_option maxRecDepth 20000 in
theorem kw_X0_begin_1 : Cond.fieldLink RX0 25 "SkipStones$Flight" "fall" "I" ∈ wsX0_begin := List.mem_of_getElem? (i := 2) rfl
set_option maxRecDepth 20000 in
theorem kw_X0_begin_2 : Cond.fieldLink RX0 28 "SkipStones$Flight" "slant" "I" ∈ wsX0_begin := List.mem_of_getElem? (i := 3) rfl
set_option maxRecDepth 20000 in
theorem kw_X0_begin_3 : Cond.fieldLink RX0 31 "SkipStones$Flight" "spin" "I" ∈ wsX0_begin := List.mem_of_getElem? (i := 4) rfl
set_option maxRecDepth 20000 in
theorem kw_X0_begin_4 : Cond.fieldLink RX0 19 "SkipStones$Flight" "x" "I" ∈ wsX0_begin := List.mem_of_getElem? (i := 5) rfl
set_option maxRecDepth 20000 in
theorem kw_X0_begin_5 : Cond.fieldLink RX0 34 "SkipStones$Flight" "beat" "I" ∈ wsX0_begin := List.mem_of_getElem? (i := 6) rfl
set_option maxRecDepth 20000 in
theorem kw_X0_begin_6 : Cond.fieldLink RX0 15 "SkipStones$Flight" "count" "I" ∈ wsX0_begin := List.mem_of_getElem? (i := 7) rfl
set_option maxRecDepth 20000 in
theorem hi_X0_begin_0 : ∀ w ∈ wsX00, w ∈ wsX0_begin := fun _ h => List.mem_cons_of_mem _ (List.mem_append_right _ h)
set_option maxHeartbeats 4000000 in
set_option maxRecDepth 100000 in
/-- begin -/
theorem c_X0_begin (l : Launch) (X : gX) (h0 : Nat) (h1 : Nat) (cnt : Int) (xx : Int) (sp : Int) (fa : Int) (sl : Int) (sn : Int) (bt : Int) (F : Nat → Int) (p1 : Int) (p2 : Int) (p3 : Int) (p4 : Int) : gM l yX0_begin wsX0_begin (gr 0 0 0) X [(h0, .inr (0, [.ref h1, .int (iI cnt), .int (iI xx), .int (iI sp), .int (iI fa), .int (iI sl), .int (iI sn), .int (iI bt)])), (h1, .inl (X.2.1.1, 810, .inl (iF F)))] [.ref h0, .int (iI p1), .int (iI p2), .int (iI p3), .int (iI p4)] (gQv X (Y := Unit) (fun _ => True) (fun _ => [(h0, .inr (0, [.ref h1, .int (iI 0), .int (iI 0), .int (iI p1), .int (iI p2), .int (iI p3), .int (iI p4), .int (iI 0)])), (h1, .inl (X.2.1.1, 810, .inl (iF F)))])) 0 0 := by
  refine g_start2 (lo := [(0, .ref h0), (1, .int (iI p1)), (2, .int (iI p2)), (3, .int (iI p3)), (4, .int (iI p4))]) (by decide +kernel) rfl rfl (Nat.le_of_ble_eq_true rfl) (fun p e s m args below meth c A C => ?_)
  refine r_aload_n C dX0_begin_0 0 rfl ?_
  refine r_iload_n C dX0_begin_1 1 rfl ?_
  refine pf_0_3 (ws2 := [(h0, .inr (0, [.ref h1, .int (iI cnt), .int (iI xx), .int (iI p1), .int (iI fa), .int (iI sl), .int (iI sn), .int (iI bt)])), (h1, .inl (X.2.1.1, 810, .inl (iF F)))]) C hi_X0_begin_0 kw_X0_begin_0 dX0_begin_2 0 rfl rfl rfl (Nat.le_of_ble_eq_true rfl) rfl ?_
  refine r_aload_n C dX0_begin_5 0 rfl ?_
  refine r_iload_n C dX0_begin_6 2 rfl ?_
  refine pf_0_4 (ws2 := [(h0, .inr (0, [.ref h1, .int (iI cnt), .int (iI xx), .int (iI p1), .int (iI p2), .int (iI sl), .int (iI sn), .int (iI bt)])), (h1, .inl (X.2.1.1, 810, .inl (iF F)))]) C hi_X0_begin_0 kw_X0_begin_1 dX0_begin_7 0 rfl rfl rfl (Nat.le_of_ble_eq_true rfl) rfl ?_
  refine r_aload_n C dX0_begin_10 0 rfl ?_
  refine r_iload_n C dX0_begin_11 3 rfl ?_
  refine pf_0_5 (ws2 := [(h0, .inr (0, [.ref h1, .int (iI cnt), .int (iI xx), .int (iI p1), .int (iI p2), .int (iI p3), .int (iI sn), .int (iI bt)])), (h1, .inl (X.2.1.1, 810, .inl (iF F)))]) C hi_X0_begin_0 kw_X0_begin_2 dX0_begin_12 0 rfl rfl rfl (Nat.le_of_ble_eq_true rfl) rfl ?_
  refine r_aload_n C dX0_begin_15 0 rfl ?_
  refine r_iload C dX0_begin_16 4 rfl ?_
  refine pf_0_6 (ws2 := [(h0, .inr (0, [.ref h1, .int (iI cnt), .int (iI xx), .int (iI p1), .int (iI p2), .int (iI p3), .int (iI p4), .int (iI bt)])), (h1, .inl (X.2.1.1, 810, .inl (iF F)))]) C hi_X0_begin_0 kw_X0_begin_3 dX0_begin_18 0 rfl rfl rfl (Nat.le_of_ble_eq_true rfl) rfl ?_
  refine r_aload_n C dX0_begin_21 0 rfl ?_
  refine r_iconst C dX0_begin_22 ?_
  refine pf_0_2 (ws2 := [(h0, .inr (0, [.ref h1, .int (iI cnt), .int (iI 0), .int (iI p1), .int (iI p2), .int (iI p3), .int (iI p4), .int (iI bt)])), (h1, .inl (X.2.1.1, 810, .inl (iF F)))]) C hi_X0_begin_0 kw_X0_begin_4 dX0_begin_23 0 rfl rfl rfl (Nat.le_of_ble_eq_true rfl) rfl ?_
  refine r_aload_n C dX0_begin_26 0 rfl ?_
  refine r_iconst C dX0_begin_27 ?_
  refine pf_0_7 (ws2 := [(h0, .inr (0, [.ref h1, .int (iI cnt), .int (iI 0), .int (iI p1), .int (iI p2), .int (iI p3), .int (iI p4), .int (iI 0)])), (h1, .inl (X.2.1.1, 810, .inl (iF F)))]) C hi_X0_begin_0 kw_X0_begin_5 dX0_begin_28 0 rfl rfl rfl (Nat.le_of_ble_eq_true rfl) rfl ?_
  refine r_aload_n C dX0_begin_31 0 rfl ?_
  refine r_iconst C dX0_begin_32 ?_
  refine pf_0_1 (ws2 := [(h0, .inr (0, [.ref h1, .int (iI 0), .int (iI 0), .int (iI p1), .int (iI p2), .int (iI p3), .int (iI p4), .int (iI 0)])), (h1, .inl (X.2.1.1, 810, .inl (iF F)))]) C hi_X0_begin_0 kw_X0_begin_6 dX0_begin_33 0 rfl rfl rfl (Nat.le_of_ble_eq_true rfl) rfl ?_
  exact g_ret_v C rfl dX0_begin_36 () trivial [0, 1] rfl rfl

set_option maxRecDepth 20000 in
theorem kw_X2_has_0 : Cond.fieldLink RX2 23 "SkipStones$Sheet" "length" "I" ∈ wsX2_has := List.mem_of_getElem? (i := 1) rfl
set_option maxRecDepth 20000 in
theorem kw_X2_has_1 : Cond.fieldLink RX2 9 "SkipStones$Sheet" "cells" "[I" ∈ wsX2_has := List.mem_of_getElem? (i := 2) rfl
set_option maxRecDepth 20000 in
theorem hi_X2_has_2 : ∀ w ∈ wsX20, w ∈ wsX2_has := fun _ h => List.mem_cons_of_mem _ (List.mem_append_right _ h)
set_option maxHeartbeats 4000000 in
set_option maxRecDepth 100000 in
/-- has -/
theorem c_X2_has (l : Launch) (X : gX) (h0 : Nat) (h1 : Nat) (so : Int) (la : Int) (ln : Int) (F : Nat → Int) (k : Int) (hk : inB k) (hl : 0 ≤ ln ∧ ln ≤ 60) : gM l yX2_has wsX2_has (gr 0 0 0) X [(h0, .inr (2, [.ref h1, .int (iI so), .int (iI la), .int (iI ln)])), (h1, .inl (X.2.1.1, 60, .inl (iF F)))] [.ref h0, .int (iI k)] (gQi X (Y := Unit) (fun _ => True) (fun _ => (if 0 ≤ k ∧ k < ln then 1 else 0)) (fun _ => [(h0, .inr (2, [.ref h1, .int (iI so), .int (iI la), .int (iI ln)])), (h1, .inl (X.2.1.1, 60, .inl (iF F)))])) 0 0 := by
  refine g_start2 (lo := [(0, .ref h0), (1, .int (iI k))]) (by decide +kernel) rfl rfl (Nat.le_of_ble_eq_true rfl) (fun p e s m args below meth c A C => ?_)
  refine r_iload_n C dX2_has_0 1 rfl ?_
  refine r_if_lt (tgt := 25) C dX2_has_1 (by decide) (by omega) (fun h_1 => ?_) (fun h_1 => ?_)
  · skip
    refine r_iconst C dX2_has_25 ?_
    exact g_ret_z C rfl (by decide) dX2_has_26 () trivial (by first | rfl | omega | ((repeat' split) <;> first | rfl | omega)) [0, 1] rfl rfl
  · skip
    refine r_iload_n C dX2_has_4 1 rfl ?_
    refine r_aload_n C dX2_has_5 0 rfl ?_
    refine gf_2_3 C hi_X2_has_2 kw_X2_has_0 dX2_has_6 0 rfl rfl ?_
    refine r_icmp_ge (tgt := 25) C dX2_has_9 (by decide) (by omega) (by omega) (fun h_2 => ?_) (fun h_2 => ?_)
    · skip
      refine r_iconst C dX2_has_25 ?_
      exact g_ret_z C rfl (by decide) dX2_has_26 () trivial (by first | rfl | omega | ((repeat' split) <;> first | rfl | omega)) [0, 1] rfl rfl
    · skip
      refine r_iload_n C dX2_has_12 1 rfl ?_
      refine r_aload_n C dX2_has_13 0 rfl ?_
      refine gf_2_0 C hi_X2_has_2 kw_X2_has_1 dX2_has_14 0 rfl rfl ?_
      refine r_alen (z := 60) C dX2_has_17 1 0 rfl rfl rfl ?_
      refine r_icmp_ge (tgt := 25) C dX2_has_18 (by decide) (by omega) (by decide) (fun h_3 => absurd h_3 (by omega)) (fun h_3 => ?_)
      refine r_iconst C dX2_has_21 ?_
      refine r_goto (tgt := 26) C dX2_has_22 (by decide) ?_
      exact g_ret_z C rfl (by decide) dX2_has_26 () trivial (by first | rfl | omega | ((repeat' split) <;> first | rfl | omega)) [0, 1] rfl rfl

set_option maxRecDepth 20000 in
theorem kw_X2_hasFrom_0 : Cond.fieldLink RX2 23 "SkipStones$Sheet" "length" "I" ∈ wsX2_hasFrom := List.mem_of_getElem? (i := 1) rfl
set_option maxRecDepth 20000 in
theorem hi_X2_hasFrom_2 : ∀ w ∈ wsX20, w ∈ wsX2_hasFrom := fun _ h => List.mem_cons_of_mem _ (List.mem_append_right _ h)
set_option maxHeartbeats 4000000 in
set_option maxRecDepth 100000 in
/-- hasFrom -/
theorem c_X2_hasFrom (l : Launch) (X : gX) (h0 : Nat) (h1 : Nat) (so : Int) (la : Int) (ln : Int) (F : Nat → Int) (k : Int) (n : Int) (hk : inB k) (hn : inB n) (hl : 0 ≤ ln ∧ ln ≤ 60) : gM l yX2_hasFrom wsX2_hasFrom (gr 0 0 0) X [(h0, .inr (2, [.ref h1, .int (iI so), .int (iI la), .int (iI ln)])), (h1, .inl (X.2.1.1, 60, .inl (iF F)))] [.ref h0, .int (iI k), .int (iI n)] (gQi X (Y := Unit) (fun _ => True) (fun _ => (if 0 ≤ k ∧ 0 ≤ n ∧ k + n ≤ ln then 1 else 0)) (fun _ => [(h0, .inr (2, [.ref h1, .int (iI so), .int (iI la), .int (iI ln)])), (h1, .inl (X.2.1.1, 60, .inl (iF F)))])) 0 0 := by
  refine g_start2 (lo := [(0, .ref h0), (1, .int (iI k)), (2, .int (iI n))]) (by decide +kernel) rfl rfl (Nat.le_of_ble_eq_true rfl) (fun p e s m args below meth c A C => ?_)
  refine r_iload_n C dX2_hasFrom_0 1 rfl ?_
  refine r_if_lt (tgt := 30) C dX2_hasFrom_1 (by decide) (by omega) (fun h_1 => ?_) (fun h_1 => ?_)
  · skip
    refine r_iconst C dX2_hasFrom_30 ?_
    exact g_ret_z C rfl (by decide) dX2_hasFrom_31 () trivial (by first | rfl | omega | ((repeat' split) <;> first | rfl | omega)) [0, 1] rfl rfl
  · skip
    refine r_iload_n C dX2_hasFrom_4 1 rfl ?_
    refine r_aload_n C dX2_hasFrom_5 0 rfl ?_
    refine gf_2_3 C hi_X2_hasFrom_2 kw_X2_hasFrom_0 dX2_hasFrom_6 0 rfl rfl ?_
    refine r_icmp_gt (tgt := 30) C dX2_hasFrom_9 (by decide) (by omega) (by omega) (fun h_2 => ?_) (fun h_2 => ?_)
    · skip
      refine r_iconst C dX2_hasFrom_30 ?_
      exact g_ret_z C rfl (by decide) dX2_hasFrom_31 () trivial (by first | rfl | omega | ((repeat' split) <;> first | rfl | omega)) [0, 1] rfl rfl
    · skip
      refine r_iload_n C dX2_hasFrom_12 2 rfl ?_
      refine r_if_lt (tgt := 30) C dX2_hasFrom_13 (by decide) (by omega) (fun h_3 => ?_) (fun h_3 => ?_)
      · skip
        refine r_iconst C dX2_hasFrom_30 ?_
        exact g_ret_z C rfl (by decide) dX2_hasFrom_31 () trivial (by first | rfl | omega | ((repeat' split) <;> first | rfl | omega)) [0, 1] rfl rfl
      · skip
        refine r_iload_n C dX2_hasFrom_16 2 rfl ?_
        refine r_aload_n C dX2_hasFrom_17 0 rfl ?_
        refine gf_2_3 C hi_X2_hasFrom_2 kw_X2_hasFrom_0 dX2_hasFrom_18 0 rfl rfl ?_
        refine r_iload_n C dX2_hasFrom_21 1 rfl ?_
        refine r_isub C dX2_hasFrom_22 ?_
        refine r_icmp_gt (tgt := 30) C dX2_hasFrom_23 (by decide) (by omega) (by omega) (fun h_4 => ?_) (fun h_4 => ?_)
        · skip
          refine r_iconst C dX2_hasFrom_30 ?_
          exact g_ret_z C rfl (by decide) dX2_hasFrom_31 () trivial (by first | rfl | omega | ((repeat' split) <;> first | rfl | omega)) [0, 1] rfl rfl
        · skip
          refine r_iconst C dX2_hasFrom_26 ?_
          refine r_goto (tgt := 31) C dX2_hasFrom_27 (by decide) ?_
          exact g_ret_z C rfl (by decide) dX2_hasFrom_31 () trivial (by first | rfl | omega | ((repeat' split) <;> first | rfl | omega)) [0, 1] rfl rfl

set_option maxRecDepth 20000 in
theorem kw_X2_faultAs_0 : Cond.fieldLink RX2 15 "SkipStones$Sheet" "something" "Z" ∈ wsX2_faultAs := List.mem_of_getElem? (i := 1) rfl
set_option maxRecDepth 20000 in
theorem kw_X2_faultAs_1 : Cond.fieldLink RX2 19 "SkipStones$Sheet" "lane" "I" ∈ wsX2_faultAs := List.mem_of_getElem? (i := 2) rfl
set_option maxRecDepth 20000 in
theorem hi_X2_faultAs_2 : ∀ w ∈ wsX20, w ∈ wsX2_faultAs := fun _ h => List.mem_cons_of_mem _ (List.mem_append_right _ h)
set_option maxHeartbeats 4000000 in
set_option maxRecDepth 100000 in
/-- faultAs -/
theorem c_X2_faultAs (l : Launch) (X : gX) (h0 : Nat) (h1 : Nat) (so : Int) (la : Int) (ln : Int) (F : Nat → Int) (k : Int) (hk : inB k) (hs : so = 0 ∨ so = 1) (hl : 0 ≤ la ∧ la ≤ 2) : gM l yX2_faultAs wsX2_faultAs (gr 0 0 0) X [(h0, .inr (2, [.ref h1, .int (iI so), .int (iI la), .int (iI ln)])), (h1, .inl (X.2.1.1, 60, .inl (iF F)))] [.ref h0, .int (iI k)] (gQi X (Y := Unit) (fun _ => True) (fun _ => (if so = 0 then 1 else if la = k then 0 else 2)) (fun _ => [(h0, .inr (2, [.ref h1, .int (iI so), .int (iI la), .int (iI ln)])), (h1, .inl (X.2.1.1, 60, .inl (iF F)))])) 0 0 := by
  refine g_start2 (lo := [(0, .ref h0), (1, .int (iI k))]) (by decide +kernel) rfl rfl (Nat.le_of_ble_eq_true rfl) (fun p e s m args below meth c A C => ?_)
  refine r_aload_n C dX2_faultAs_0 0 rfl ?_
  refine gf_2_1 C hi_X2_faultAs_2 kw_X2_faultAs_0 dX2_faultAs_1 0 rfl rfl ?_
  refine r_if_ne (tgt := 9) C dX2_faultAs_4 (by decide) (by omega) (fun h_1 => ?_) (fun h_1 => ?_)
  · skip
    refine r_aload_n C dX2_faultAs_9 0 rfl ?_
    refine gf_2_2 C hi_X2_faultAs_2 kw_X2_faultAs_1 dX2_faultAs_10 0 rfl rfl ?_
    refine r_iload_n C dX2_faultAs_13 1 rfl ?_
    refine r_icmp_ne (tgt := 21) C dX2_faultAs_14 (by decide) (by omega) (by omega) (fun h_2 => ?_) (fun h_2 => ?_)
    · skip
      refine r_iconst C dX2_faultAs_21 ?_
      exact g_ret_i C rfl dX2_faultAs_22 () trivial (by first | rfl | omega | ((repeat' split) <;> first | rfl | omega)) [0, 1] rfl rfl
    · skip
      refine r_iconst C dX2_faultAs_17 ?_
      refine r_goto (tgt := 22) C dX2_faultAs_18 (by decide) ?_
      exact g_ret_i C rfl dX2_faultAs_22 () trivial (by first | rfl | omega | ((repeat' split) <;> first | rfl | omega)) [0, 1] rfl rfl
  · skip
    refine r_iconst C dX2_faultAs_7 ?_
    exact g_ret_i C rfl dX2_faultAs_8 () trivial (by first | rfl | omega | ((repeat' split) <;> first | rfl | omega)) [0, 1] rfl rfl

set_option maxRecDepth 20000 in
theorem hd_V_X2_has_X2_number : yX2_has.cls = yX2_has.cls ∧ yX2_has.cls ≠ "java/lang/invoke/MethodHandle" ∧ yX2_has.cls ≠ "java/lang/invoke/VarHandle" ∧ (parseMethodDescriptor yX2_has.desc).map (fun d => d.parameters.length) = some 1 := by decide +kernel
set_option maxRecDepth 20000 in
theorem kw_X2_number_0 : Cond.fieldLink RX2 9 "SkipStones$Sheet" "cells" "[I" ∈ wsX2_number := List.mem_of_getElem? (i := 1) rfl
set_option maxRecDepth 20000 in
theorem hi_X2_number_2 : ∀ w ∈ wsX20, w ∈ wsX2_number := fun _ h => List.mem_cons_of_mem _ (List.mem_append_right _ h)
set_option maxHeartbeats 4000000 in
set_option maxRecDepth 100000 in
/-- number -/
theorem c_X2_number (l : Launch) (X : gX) (h0 : Nat) (h1 : Nat) (so : Int) (la : Int) (ln : Int) (F : Nat → Int) (k : Int) (hk : inB k) (hl : 0 ≤ ln ∧ ln ≤ 60) : gM l yX2_number wsX2_number (gr 1 0 0) X [(h0, .inr (2, [.ref h1, .int (iI so), .int (iI la), .int (iI ln)])), (h1, .inl (X.2.1.1, 60, .inl (iF F)))] [.ref h0, .int (iI k)] (gQi X (Y := Unit) (fun _ => True) (fun _ => (if 0 ≤ k ∧ k < ln then F (Int.toNat k) else 0)) (fun _ => [(h0, .inr (2, [.ref h1, .int (iI so), .int (iI la), .int (iI ln)])), (h1, .inl (X.2.1.1, 60, .inl (iF F)))])) 0 0 := by
  refine g_start2 (lo := [(0, .ref h0), (1, .int (iI k))]) (by decide +kernel) rfl rfl (Nat.le_of_ble_eq_true rfl) (fun p e s m args below meth c A C => ?_)
  refine r_aload_n C dX2_number_0 0 rfl ?_
  refine r_iload_n C dX2_number_1 1 rfl ?_
  refine g_V_i (ws2 := (fun _ => [(h0, .inr (2, [.ref h1, .int (iI so), .int (iI la), .int (iI ln)])), (h1, .inl (X.2.1.1, 60, .inl (iF F)))])) (As := [.int (iI k)]) C (c_X2_has l X h0 h1 so la ln F k (by first | assumption | omega) (by first | assumption | omega)) gX2_number_X2_has rfl rfl rfl hd_V_X2_has_X2_number (by decide) dX2_number_2 [0, 1] [] [0, 1] rfl rfl rfl rfl (by decide) rfl 0 2 rfl rfl rfl rfl (Nat.le_of_ble_eq_true rfl) (by decide) (fun _ => rfl) (fun _ hy_ => ?_)
  clear hy_
  refine r_ite (fun h_1 => ?_) (fun h_1 => ?_)
  · skip
    refine r_if_eq (tgt := 17) C dX2_number_5 (by decide) (by decide) (fun h_2 => absurd h_2 (by decide)) (fun h_2 => ?_)
    refine r_aload_n C dX2_number_8 0 rfl ?_
    refine gf_2_0 C hi_X2_number_2 kw_X2_number_0 dX2_number_9 0 rfl rfl ?_
    refine r_iload_n C dX2_number_12 1 rfl ?_
    refine r_iald C dX2_number_13 1 rfl (by omega) (by decide) ?_
    refine r_goto (tgt := 18) C dX2_number_14 (by decide) ?_
    exact g_ret_i C rfl dX2_number_18 () trivial (by first | rfl | omega | ((repeat' split) <;> first | rfl | omega)) [0, 1] rfl rfl
  · skip
    refine r_if_eq (tgt := 17) C dX2_number_5 (by decide) (by decide) (fun h_3 => ?_) (fun h_3 => absurd h_3 (by decide))
    refine r_iconst C dX2_number_17 ?_
    exact g_ret_i C rfl dX2_number_18 () trivial (by first | rfl | omega | ((repeat' split) <;> first | rfl | omega)) [0, 1] rfl rfl

set_option maxRecDepth 20000 in
theorem kw_X4_waveAt_0 : Cond.fieldLink RX4 34 "SkipStones$Water" "waveCount" "I" ∈ wsX4_waveAt := List.mem_of_getElem? (i := 1) rfl
set_option maxRecDepth 20000 in
theorem kw_X4_waveAt_1 : Cond.fieldLink RX4 30 "SkipStones$Water" "waveRow" "[I" ∈ wsX4_waveAt := List.mem_of_getElem? (i := 2) rfl
set_option maxRecDepth 20000 in
theorem hi_X4_waveAt_4 : ∀ w ∈ wsX40, w ∈ wsX4_waveAt := fun _ h => List.mem_cons_of_mem _ (List.mem_append_right _ h)
set_option maxHeartbeats 4000000 in
set_option maxRecDepth 100000 in
/-- waveAt -/
theorem c_X4_waveAt (l : Launch) (X : gX) (h0 : Nat) (h1 : Nat) (l1 : Int) (l2 : Int) (l3 : Int) (l4 : Int) (l5 : Int) (l6 : Int) (wc : Int) (sh : Int) (F : Nat → Int) (k : Int) (by1 : Int) (hk : 0 ≤ k ∧ k < 1000000000) (hb : 0 ≤ by1 ∧ by1 < 20) (hw : 1 ≤ wc ∧ wc ≤ 20) : gM l yX4_waveAt wsX4_waveAt (gr 0 0 0) X [(h0, .inr (4, [.int (iI l1), .int (iI l2), .int (iI l3), .int (iI l4), .int (iI l5), .int (iI l6), .ref h1, .int (iI wc), .int (iI sh)])), (h1, .inl (X.2.1.1, 20, .inl (iF F)))] [.ref h0, .int (iI k), .int (iI by1)] (gQi X (Y := Unit) (fun _ => True) (fun _ => (F (Int.toNat ((k + by1) % wc)))) (fun _ => [(h0, .inr (4, [.int (iI l1), .int (iI l2), .int (iI l3), .int (iI l4), .int (iI l5), .int (iI l6), .ref h1, .int (iI wc), .int (iI sh)])), (h1, .inl (X.2.1.1, 20, .inl (iF F)))])) 0 0 := by
  refine g_start2 (lo := [(0, .ref h0), (1, .int (iI k)), (2, .int (iI by1))]) (by decide +kernel) rfl rfl (Nat.le_of_ble_eq_true rfl) (fun p e s m args below meth c A C => ?_)
  refine r_aload_n C dX4_waveAt_0 0 rfl ?_
  refine gf_4_7 C hi_X4_waveAt_4 kw_X4_waveAt_0 dX4_waveAt_1 0 rfl rfl ?_
  refine r_iconst C dX4_waveAt_4 ?_
  refine r_icmp_ge (tgt := 10) C dX4_waveAt_5 (by decide) (by omega) (by decide) (fun h_1 => ?_) (fun h_1 => absurd h_1 (by omega))
  refine r_iload_n C dX4_waveAt_10 1 rfl ?_
  refine r_iload_n C dX4_waveAt_11 2 rfl ?_
  refine r_iadd C dX4_waveAt_12 ?_
  refine r_aload_n C dX4_waveAt_13 0 rfl ?_
  refine gf_4_7 C hi_X4_waveAt_4 kw_X4_waveAt_0 dX4_waveAt_14 0 rfl rfl ?_
  refine r_irem C dX4_waveAt_17 (by omega) (by omega) ?_
  refine r_istore_n (lo2 := [(3, .int (iI ((k + by1) % wc))), (0, .ref h0), (1, .int (iI k)), (2, .int (iI by1))]) C dX4_waveAt_18 rfl (by decide) rfl ?_
  have r1 := modB (a := k + by1) (b := wc) (by omega)
  refine r_iload_n C dX4_waveAt_19 0 rfl ?_
  refine r_if_lt (tgt := 32) C dX4_waveAt_20 (by decide) (by omega) (fun h_2 => absurd h_2 (by omega)) (fun h_2 => ?_)
  refine r_iload_n C dX4_waveAt_23 0 rfl ?_
  refine r_aload_n C dX4_waveAt_24 1 rfl ?_
  refine gf_4_6 C hi_X4_waveAt_4 kw_X4_waveAt_1 dX4_waveAt_25 0 rfl rfl ?_
  refine r_alen (z := 20) C dX4_waveAt_28 1 0 rfl rfl rfl ?_
  refine r_icmp_lt (tgt := 36) C dX4_waveAt_29 (by decide) (by omega) (by decide) (fun h_3 => ?_) (fun h_3 => absurd h_3 (by omega))
  refine r_aload_n C dX4_waveAt_36 1 rfl ?_
  refine gf_4_6 C hi_X4_waveAt_4 kw_X4_waveAt_1 dX4_waveAt_37 0 rfl rfl ?_
  refine r_iload_n C dX4_waveAt_40 0 rfl ?_
  refine r_iald C dX4_waveAt_41 1 rfl (by omega) (by decide) ?_
  exact g_ret_i C rfl dX4_waveAt_42 () trivial (by first | rfl | omega | ((repeat' split) <;> first | rfl | omega)) [0, 1] rfl rfl
end M1
