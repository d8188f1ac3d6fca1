section M2
set_option maxHeartbeats 4000000 in
set_option maxRecDepth 100000 in
/-- fill -/
theorem c_J7_fill_6 (l : Launch) (X : gX) (r1 : Nat) (F : Nat → Int) (v : Int) : gM l yJ7_fill_53178 wsJ7_fill_53178 (gr 0 0 0) X [(r1, .inl (X.2.1.1, 6, .inl (iF F)))] [.ref r1, .int (iI v)] (gQv X (Y := Unit) (fun _ => True) (fun _ => [(r1, .inl (X.2.1.1, 6, .inl (iF (fillI F 6 v))))])) 0 0 := by
  refine g_start2 (lo := [(0, .ref r1), (1, .int (iI v))]) (by decide +kernel) rfl rfl (Nat.le_of_ble_eq_true rfl) (fun p e s m args below meth c A C => ?_)
  refine r_iconst C dJ7_fill_53178_0 ?_
  refine r_istore_n (lo2 := [(2, .int (iI 0)), (0, .ref r1), (1, .int (iI v))]) C dJ7_fill_53178_1 rfl (by decide) rfl ?_
  refine r_aload_n C dJ7_fill_53178_2 1 rfl ?_
  refine r_alen (z := 6) C dJ7_fill_53178_3 0 0 rfl rfl rfl ?_
  refine r_istore_n (lo2 := [(3, .int (iI 6)), (2, .int (iI 0)), (0, .ref r1), (1, .int (iI v))]) C dJ7_fill_53178_4 rfl (by decide) rfl ?_
  have L5 : ∀ (fu5 : Nat) (i1 : Int) (G : Nat → Int), (0 ≤ i1 ∧ i1 ≤ 6) → (G = fillI F i1 v) → (6 - i1).toNat < fu5 → gW p l e (gr 0 0 0) s m args below meth c X A 4 (MQ below ((gQv X (Y := Unit) (fun _ => True) (fun _ => [(r1, .inl (X.2.1.1, 6, .inl (iF (fillI F 6 v))))])) A) args s 0 0 A) 0 0 [(r1, .inl (X.2.1.1, 6, .inl (iF G)))] 5 [(3, .int (iI 6)), (0, .ref r1), (1, .int (iI v)), (2, .int (iI i1))] [] := by
    intro fu5
    induction fu5 with
    | zero => intro i1 G ik iG hm5; exact absurd hm5 (Nat.not_lt_zero _)
    | succ fu5 ih5 =>
      intro i1 G ik iG hm5
      refine r_iload_n C dJ7_fill_53178_5 3 rfl ?_
      refine r_iload_n C dJ7_fill_53178_6 0 rfl ?_
      refine r_icmp_ge (tgt := 20) C dJ7_fill_53178_7 (by decide) (by omega) (by decide) (fun h_1 => ?_) (fun h_1 => ?_)
      · skip
        exact g_ret_v C rfl dJ7_fill_53178_20 () trivial [0] rfl (by rw [iG, show i1 = 6 by omega] <;> rfl)
      · skip
        refine r_aload_n C dJ7_fill_53178_10 1 rfl ?_
        refine r_iload_n C dJ7_fill_53178_11 3 rfl ?_
        refine r_iload_n C dJ7_fill_53178_12 2 rfl ?_
        refine r_iast (ws2 := [(r1, .inl (X.2.1.1, 6, .inl (iF (updI G (Int.toNat i1) v))))]) C dJ7_fill_53178_13 0 rfl (by omega) (by decide) rfl ?_
        refine r_iinc (lo2 := [(2, .int (iI (i1 + 1))), (3, .int (iI 6)), (0, .ref r1), (1, .int (iI v))]) C dJ7_fill_53178_14 3 rfl (by decide) rfl ?_
        refine r_goto (tgt := 5) C dJ7_fill_53178_17 (by decide) ?_
        refine r_lo [1, 2, 3, 0] (lo2 := [(3, .int (iI 6)), (0, .ref r1), (1, .int (iI v)), (2, .int (iI (i1 + 1)))]) rfl ?_
        exact ih5 (i1 + 1) (updI G (Int.toNat i1) v) (by omega) (by rw [iG]; exact fillI_step (by omega)) (by omega)
  refine r_lo [0, 2, 3, 1] (lo2 := [(3, .int (iI 6)), (0, .ref r1), (1, .int (iI v)), (2, .int (iI 0))]) rfl ?_
  exact L5 ((6 - (0 : Int)).toNat + 1) 0 F (by omega) (fillI_0 F v).symm (Nat.lt_succ_self _)

set_option maxHeartbeats 4000000 in
set_option maxRecDepth 100000 in
/-- fill -/
theorem c_J7_fill_60 (l : Launch) (X : gX) (r1 : Nat) (F : Nat → Int) (v : Int) : gM l yJ7_fill_53178 wsJ7_fill_53178 (gr 0 0 0) X [(r1, .inl (X.2.1.1, 60, .inl (iF F)))] [.ref r1, .int (iI v)] (gQv X (Y := Unit) (fun _ => True) (fun _ => [(r1, .inl (X.2.1.1, 60, .inl (iF (fillI F 60 v))))])) 0 0 := by
  refine g_start2 (lo := [(0, .ref r1), (1, .int (iI v))]) (by decide +kernel) rfl rfl (Nat.le_of_ble_eq_true rfl) (fun p e s m args below meth c A C => ?_)
  refine r_iconst C dJ7_fill_53178_0 ?_
  refine r_istore_n (lo2 := [(2, .int (iI 0)), (0, .ref r1), (1, .int (iI v))]) C dJ7_fill_53178_1 rfl (by decide) rfl ?_
  refine r_aload_n C dJ7_fill_53178_2 1 rfl ?_
  refine r_alen (z := 60) C dJ7_fill_53178_3 0 0 rfl rfl rfl ?_
  refine r_istore_n (lo2 := [(3, .int (iI 60)), (2, .int (iI 0)), (0, .ref r1), (1, .int (iI v))]) C dJ7_fill_53178_4 rfl (by decide) rfl ?_
  have L5 : ∀ (fu5 : Nat) (i1 : Int) (G : Nat → Int), (0 ≤ i1 ∧ i1 ≤ 60) → (G = fillI F i1 v) → (60 - i1).toNat < fu5 → gW p l e (gr 0 0 0) s m args below meth c X A 4 (MQ below ((gQv X (Y := Unit) (fun _ => True) (fun _ => [(r1, .inl (X.2.1.1, 60, .inl (iF (fillI F 60 v))))])) A) args s 0 0 A) 0 0 [(r1, .inl (X.2.1.1, 60, .inl (iF G)))] 5 [(3, .int (iI 60)), (0, .ref r1), (1, .int (iI v)), (2, .int (iI i1))] [] := by
    intro fu5
    induction fu5 with
    | zero => intro i1 G ik iG hm5; exact absurd hm5 (Nat.not_lt_zero _)
    | succ fu5 ih5 =>
      intro i1 G ik iG hm5
      refine r_iload_n C dJ7_fill_53178_5 3 rfl ?_
      refine r_iload_n C dJ7_fill_53178_6 0 rfl ?_
      refine r_icmp_ge (tgt := 20) C dJ7_fill_53178_7 (by decide) (by omega) (by decide) (fun h_1 => ?_) (fun h_1 => ?_)
      · skip
        exact g_ret_v C rfl dJ7_fill_53178_20 () trivial [0] rfl (by rw [iG, show i1 = 60 by omega] <;> rfl)
      · skip
        refine r_aload_n C dJ7_fill_53178_10 1 rfl ?_
        refine r_iload_n C dJ7_fill_53178_11 3 rfl ?_
        refine r_iload_n C dJ7_fill_53178_12 2 rfl ?_
        refine r_iast (ws2 := [(r1, .inl (X.2.1.1, 60, .inl (iF (updI G (Int.toNat i1) v))))]) C dJ7_fill_53178_13 0 rfl (by omega) (by decide) rfl ?_
        refine r_iinc (lo2 := [(2, .int (iI (i1 + 1))), (3, .int (iI 60)), (0, .ref r1), (1, .int (iI v))]) C dJ7_fill_53178_14 3 rfl (by decide) rfl ?_
        refine r_goto (tgt := 5) C dJ7_fill_53178_17 (by decide) ?_
        refine r_lo [1, 2, 3, 0] (lo2 := [(3, .int (iI 60)), (0, .ref r1), (1, .int (iI v)), (2, .int (iI (i1 + 1)))]) rfl ?_
        exact ih5 (i1 + 1) (updI G (Int.toNat i1) v) (by omega) (by rw [iG]; exact fillI_step (by omega)) (by omega)
  refine r_lo [0, 2, 3, 1] (lo2 := [(3, .int (iI 60)), (0, .ref r1), (1, .int (iI v)), (2, .int (iI 0))]) rfl ?_
  exact L5 ((60 - (0 : Int)).toNat + 1) 0 F (by omega) (fillI_0 F v).symm (Nat.lt_succ_self _)

set_option maxRecDepth 20000 in
theorem kw_X2_renew_0 : Cond.fieldLink RX2 9 "SkipStones$Sheet" "cells" "[I" ∈ wsX2_renew := List.mem_of_getElem? (i := 1) rfl
set_option maxRecDepth 20000 in
theorem hd_S_J7_fill_53178_X2_renew : yJ7_fill_53178.cls ≠ "java/lang/invoke/MethodHandle" ∧ yJ7_fill_53178.cls ≠ "java/lang/invoke/VarHandle" ∧ (parseMethodDescriptor yJ7_fill_53178.desc).map (fun d => d.parameters.length) = some 2 := by decide +kernel
set_option maxRecDepth 20000 in
theorem kw_X2_renew_1 : Cond.fieldLink RX2 19 "SkipStones$Sheet" "lane" "I" ∈ wsX2_renew := List.mem_of_getElem? (i := 2) rfl
set_option maxRecDepth 20000 in
theorem kw_X2_renew_2 : Cond.fieldLink RX2 23 "SkipStones$Sheet" "length" "I" ∈ wsX2_renew := List.mem_of_getElem? (i := 3) rfl
set_option maxRecDepth 20000 in
theorem kw_X2_renew_3 : Cond.fieldLink RX2 15 "SkipStones$Sheet" "something" "Z" ∈ wsX2_renew := List.mem_of_getElem? (i := 4) rfl
set_option maxRecDepth 20000 in
theorem hi_X2_renew_2 : ∀ w ∈ wsX20, w ∈ wsX2_renew := fun _ h => List.mem_cons_of_mem _ (List.mem_append_right _ h)
set_option maxHeartbeats 4000000 in
set_option maxRecDepth 100000 in
/-- renew -/
theorem c_X2_renew (l : Launch) (X : gX) (h0 : Nat) (h1 : Nat) (so : Int) (la : Int) (ln : Int) (F : Nat → Int) (p1 : Int) (p2 : Int) : gM l yX2_renew wsX2_renew (gr 1 0 0) X [(h0, .inr (2, [.ref h1, .int (iI so), .int (iI la), .int (iI ln)])), (h1, .inl (X.2.1.1, 60, .inl (iF F)))] [.ref h0, .int (iI p1), .int (iI p2)] (gQv X (Y := Unit) (fun _ => True) (fun _ => [(h0, .inr (2, [.ref h1, .int (iI 1), .int (iI p1), .int (iI p2)])), (h1, .inl (X.2.1.1, 60, .inl (iF (fillI F 60 0))))])) 0 0 := by
  refine g_start2 (lo := [(0, .ref h0), (1, .int (iI p1)), (2, .int (iI p2))]) (by decide +kernel) rfl rfl (Nat.le_of_ble_eq_true rfl) (fun p e s m args below meth c A C => ?_)
  refine r_aload_n C dX2_renew_0 0 rfl ?_
  refine gf_2_0 C hi_X2_renew_2 kw_X2_renew_0 dX2_renew_1 0 rfl rfl ?_
  refine r_iconst C dX2_renew_4 ?_
  refine g_S_v (ws2 := (fun _ => [(h0, .inr (2, [.ref h1, .int (iI so), .int (iI la), .int (iI ln)])), (h1, .inl (X.2.1.1, 60, .inl (iF (fillI F 60 0))))])) (As := [.ref h1, .int (iI 0)]) C (c_J7_fill_60 l X h1 F 0 ) gX2_renew_J7_fill_53178 rfl rfl rfl hd_S_J7_fill_53178_X2_renew (by decide) dX2_renew_5 [1] [0] [0, 1] rfl rfl rfl rfl (by decide) rfl rfl rfl (Nat.le_of_ble_eq_true rfl) (by decide) (fun _ => rfl) (fun _ hy_ => ?_)
  clear hy_
  refine r_aload_n C dX2_renew_8 0 rfl ?_
  refine r_iload_n C dX2_renew_9 1 rfl ?_
  refine pf_2_2 (ws2 := [(h0, .inr (2, [.ref h1, .int (iI so), .int (iI p1), .int (iI ln)])), (h1, .inl (X.2.1.1, 60, .inl (iF (fillI F 60 0))))]) C hi_X2_renew_2 kw_X2_renew_1 dX2_renew_10 0 rfl rfl rfl (Nat.le_of_ble_eq_true rfl) rfl ?_
  refine r_aload_n C dX2_renew_13 0 rfl ?_
  refine r_iload_n C dX2_renew_14 2 rfl ?_
  refine pf_2_3 (ws2 := [(h0, .inr (2, [.ref h1, .int (iI so), .int (iI p1), .int (iI p2)])), (h1, .inl (X.2.1.1, 60, .inl (iF (fillI F 60 0))))]) C hi_X2_renew_2 kw_X2_renew_2 dX2_renew_15 0 rfl rfl rfl (Nat.le_of_ble_eq_true rfl) rfl ?_
  refine r_aload_n C dX2_renew_18 0 rfl ?_
  refine r_iconst C dX2_renew_19 ?_
  refine pf_2_1 (ws2 := [(h0, .inr (2, [.ref h1, .int (iI 1), .int (iI p1), .int (iI p2)])), (h1, .inl (X.2.1.1, 60, .inl (iF (fillI F 60 0))))]) C hi_X2_renew_2 kw_X2_renew_3 dX2_renew_20 0 rfl rfl rfl (Nat.le_of_ble_eq_true rfl) rfl ?_
  exact g_ret_v C rfl dX2_renew_23 () trivial [0, 1] rfl rfl

set_option maxRecDepth 20000 in
theorem hd_V_X2_has_X2_write : yX2_has.cls = yX2_has.cls ∧ yX2_has.cls ≠ "java/lang/invoke/MethodHandle" ∧ yX2_has.cls ≠ "java/lang/invoke/VarHandle" ∧ (parseMethodDescriptor yX2_has.desc).map (fun d => d.parameters.length) = some 1 := by decide +kernel
set_option maxRecDepth 20000 in
theorem kw_X2_write_0 : Cond.fieldLink RX2 9 "SkipStones$Sheet" "cells" "[I" ∈ wsX2_write := List.mem_of_getElem? (i := 1) rfl
set_option maxRecDepth 20000 in
theorem kw_X2_write_1 : Cond.fieldLink RX2 19 "SkipStones$Sheet" "lane" "I" ∈ wsX2_write := List.mem_of_getElem? (i := 2) rfl
set_option maxRecDepth 20000 in
theorem hi_X2_write_2 : ∀ w ∈ wsX20, w ∈ wsX2_write := fun _ h => List.mem_cons_of_mem _ (List.mem_append_right _ h)
set_option maxHeartbeats 4000000 in
set_option maxRecDepth 100000 in
/-- write -/
theorem c_X2_write (l : Launch) (X : gX) (h0 : Nat) (h1 : Nat) (so : Int) (la : Int) (ln : Int) (F : Nat → Int) (k : Int) (v : Int) (hk : 0 ≤ k ∧ k < ln ∧ ln ≤ 60) (hl : 0 ≤ la ∧ la ≤ 2) : gM l yX2_write wsX2_write (gr 1 0 0) X [(h0, .inr (2, [.ref h1, .int (iI so), .int (iI la), .int (iI ln)])), (h1, .inl (X.2.1.1, 60, .inl (iF F)))] [.ref h0, .int (iI k), .int (iI v)] (gQv X (Y := Unit) (fun _ => True) (fun _ => [(h0, .inr (2, [.ref h1, .int (iI so), .int (iI la), .int (iI ln)])), (h1, .inl (X.2.1.1, 60, .inl (iF (updI F (Int.toNat k) (cutL la v)))))])) 0 0 := by
  refine g_start2 (lo := [(0, .ref h0), (1, .int (iI k)), (2, .int (iI v))]) (by decide +kernel) rfl rfl (Nat.le_of_ble_eq_true rfl) (fun p e s m args below meth c A C => ?_)
  refine r_aload_n C dX2_write_0 0 rfl ?_
  refine r_iload_n C dX2_write_1 1 rfl ?_
  refine g_V_i (ws2 := (fun _ => [(h0, .inr (2, [.ref h1, .int (iI so), .int (iI la), .int (iI ln)])), (h1, .inl (X.2.1.1, 60, .inl (iF F)))])) (As := [.int (iI k)]) C (c_X2_has l X h0 h1 so la ln F k (by first | assumption | omega) (by first | assumption | omega)) gX2_write_X2_has rfl rfl rfl hd_V_X2_has_X2_write (by decide) dX2_write_2 [0, 1] [] [0, 1] rfl rfl rfl rfl (by decide) rfl 0 2 rfl rfl rfl rfl (Nat.le_of_ble_eq_true rfl) (by decide) (fun _ => rfl) (fun _ hy_ => ?_)
  clear hy_
  refine r_ite (fun h_1 => ?_) (fun h_1 => absurd h_1 (by omega))
  refine r_if_eq (tgt := 40) C dX2_write_5 (by decide) (by decide) (fun h_2 => absurd h_2 (by decide)) (fun h_2 => ?_)
  refine r_aload_n C dX2_write_8 0 rfl ?_
  refine gf_2_0 C hi_X2_write_2 kw_X2_write_0 dX2_write_9 0 rfl rfl ?_
  refine r_iload_n C dX2_write_12 1 rfl ?_
  refine r_aload_n C dX2_write_13 0 rfl ?_
  refine gf_2_2 C hi_X2_write_2 kw_X2_write_1 dX2_write_14 0 rfl rfl ?_
  refine r_if_ne (tgt := 25) C dX2_write_17 (by decide) (by omega) (fun h_3 => ?_) (fun h_3 => ?_)
  · skip
    refine r_aload_n C dX2_write_25 0 rfl ?_
    refine gf_2_2 C hi_X2_write_2 kw_X2_write_1 dX2_write_26 0 rfl rfl ?_
    refine r_iconst C dX2_write_29 ?_
    refine r_icmp_ne (tgt := 38) C dX2_write_30 (by decide) (by omega) (by decide) (fun h_4 => ?_) (fun h_4 => ?_)
    · skip
      refine r_iload_n C dX2_write_38 2 rfl ?_
      refine r_topi (z := (cutL la v)) (by unfold cutL; first | (rw [if_pos (by omega)]; done) | (rw [if_neg (by omega), if_pos (by omega)]; done) | (rw [if_neg (by omega), if_neg (by omega)]; done)) ?_
      refine r_iast (ws2 := [(h0, .inr (2, [.ref h1, .int (iI so), .int (iI la), .int (iI ln)])), (h1, .inl (X.2.1.1, 60, .inl (iF (updI F (Int.toNat k) (cutL la v)))))]) C dX2_write_39 1 rfl (by omega) (by decide) rfl ?_
      exact g_ret_v C rfl dX2_write_40 () trivial [0, 1] rfl rfl
    · skip
      refine r_iload_n C dX2_write_33 2 rfl ?_
      refine r_i2s C dX2_write_34 ?_
      refine r_goto (tgt := 39) C dX2_write_35 (by decide) ?_
      refine r_topi (z := (cutL la v)) (by unfold cutL; first | (rw [if_pos (by omega)]; done) | (rw [if_neg (by omega), if_pos (by omega)]; done) | (rw [if_neg (by omega), if_neg (by omega)]; done)) ?_
      refine r_iast (ws2 := [(h0, .inr (2, [.ref h1, .int (iI so), .int (iI la), .int (iI ln)])), (h1, .inl (X.2.1.1, 60, .inl (iF (updI F (Int.toNat k) (cutL la v)))))]) C dX2_write_39 1 rfl (by omega) (by decide) rfl ?_
      exact g_ret_v C rfl dX2_write_40 () trivial [0, 1] rfl rfl
  · skip
    refine r_iload_n C dX2_write_20 2 rfl ?_
    refine r_i2b C dX2_write_21 ?_
    refine r_goto (tgt := 39) C dX2_write_22 (by decide) ?_
    refine r_topi (z := (cutL la v)) (by unfold cutL; first | (rw [if_pos (by omega)]; done) | (rw [if_neg (by omega), if_pos (by omega)]; done) | (rw [if_neg (by omega), if_neg (by omega)]; done)) ?_
    refine r_iast (ws2 := [(h0, .inr (2, [.ref h1, .int (iI so), .int (iI la), .int (iI ln)])), (h1, .inl (X.2.1.1, 60, .inl (iF (updI F (Int.toNat k) (cutL la v)))))]) C dX2_write_39 1 rfl (by omega) (by decide) rfl ?_
    exact g_ret_v C rfl dX2_write_40 () trivial [0, 1] rfl rfl

set_option maxHeartbeats 4000000 in
set_option maxRecDepth 100000 in
/-- faultAs -/
theorem c_X2_faultAs_1 (l : Launch) (X : gX) (h0 : Nat) (h1 : Nat) (so : Int) (la : Int) (ln : Int) (F : Nat → Int) (k : Int) (hk : inB k) (hs : so = 0 ∨ so = 1) (hl : 0 ≤ la ∧ la ≤ 2) (hq : so = 0) : gM l yX2_faultAs wsX2_faultAs (gr 0 0 0) X [(h0, .inr (2, [.ref h1, .int (iI so), .int (iI la), .int (iI ln)])), (h1, .inl (X.2.1.1, 60, .inl (iF F)))] [.ref h0, .int (iI k)] (gQi X (Y := Unit) (fun _ => True) (fun _ => 1) (fun _ => [(h0, .inr (2, [.ref h1, .int (iI so), .int (iI la), .int (iI ln)])), (h1, .inl (X.2.1.1, 60, .inl (iF F)))])) 0 0 := by
  refine g_start2 (lo := [(0, .ref h0), (1, .int (iI k))]) (by decide +kernel) rfl rfl (Nat.le_of_ble_eq_true rfl) (fun p e s m args below meth c A C => ?_)
  refine r_aload_n C dX2_faultAs_0 0 rfl ?_
  refine gf_2_1 C hi_X2_faultAs_2 kw_X2_faultAs_0 dX2_faultAs_1 0 rfl rfl ?_
  refine r_if_ne (tgt := 9) C dX2_faultAs_4 (by decide) (by omega) (fun h_1 => absurd h_1 (by omega)) (fun h_1 => ?_)
  refine r_iconst C dX2_faultAs_7 ?_
  exact g_ret_i C rfl dX2_faultAs_8 () trivial (by first | rfl | omega | ((repeat' split) <;> first | rfl | omega)) [0, 1] rfl rfl

set_option maxHeartbeats 4000000 in
set_option maxRecDepth 100000 in
/-- faultAs -/
theorem c_X2_faultAs_0 (l : Launch) (X : gX) (h0 : Nat) (h1 : Nat) (so : Int) (la : Int) (ln : Int) (F : Nat → Int) (k : Int) (hk : inB k) (hs : so = 0 ∨ so = 1) (hl : 0 ≤ la ∧ la ≤ 2) (hq : ¬ so = 0 ∧ la = k) : gM l yX2_faultAs wsX2_faultAs (gr 0 0 0) X [(h0, .inr (2, [.ref h1, .int (iI so), .int (iI la), .int (iI ln)])), (h1, .inl (X.2.1.1, 60, .inl (iF F)))] [.ref h0, .int (iI k)] (gQi X (Y := Unit) (fun _ => True) (fun _ => 0) (fun _ => [(h0, .inr (2, [.ref h1, .int (iI so), .int (iI la), .int (iI ln)])), (h1, .inl (X.2.1.1, 60, .inl (iF F)))])) 0 0 := by
  refine g_start2 (lo := [(0, .ref h0), (1, .int (iI k))]) (by decide +kernel) rfl rfl (Nat.le_of_ble_eq_true rfl) (fun p e s m args below meth c A C => ?_)
  refine r_aload_n C dX2_faultAs_0 0 rfl ?_
  refine gf_2_1 C hi_X2_faultAs_2 kw_X2_faultAs_0 dX2_faultAs_1 0 rfl rfl ?_
  refine r_if_ne (tgt := 9) C dX2_faultAs_4 (by decide) (by omega) (fun h_1 => ?_) (fun h_1 => absurd h_1 (by omega))
  refine r_aload_n C dX2_faultAs_9 0 rfl ?_
  refine gf_2_2 C hi_X2_faultAs_2 kw_X2_faultAs_1 dX2_faultAs_10 0 rfl rfl ?_
  refine r_iload_n C dX2_faultAs_13 1 rfl ?_
  refine r_icmp_ne (tgt := 21) C dX2_faultAs_14 (by decide) (by omega) (by omega) (fun h_2 => absurd h_2 (by omega)) (fun h_2 => ?_)
  refine r_iconst C dX2_faultAs_17 ?_
  refine r_goto (tgt := 22) C dX2_faultAs_18 (by decide) ?_
  exact g_ret_i C rfl dX2_faultAs_22 () trivial (by first | rfl | omega | ((repeat' split) <;> first | rfl | omega)) [0, 1] rfl rfl

set_option maxHeartbeats 4000000 in
set_option maxRecDepth 100000 in
/-- faultAs -/
theorem c_X2_faultAs_2 (l : Launch) (X : gX) (h0 : Nat) (h1 : Nat) (so : Int) (la : Int) (ln : Int) (F : Nat → Int) (k : Int) (hk : inB k) (hs : so = 0 ∨ so = 1) (hl : 0 ≤ la ∧ la ≤ 2) (hq : ¬ so = 0 ∧ ¬ la = k) : gM l yX2_faultAs wsX2_faultAs (gr 0 0 0) X [(h0, .inr (2, [.ref h1, .int (iI so), .int (iI la), .int (iI ln)])), (h1, .inl (X.2.1.1, 60, .inl (iF F)))] [.ref h0, .int (iI k)] (gQi X (Y := Unit) (fun _ => True) (fun _ => 2) (fun _ => [(h0, .inr (2, [.ref h1, .int (iI so), .int (iI la), .int (iI ln)])), (h1, .inl (X.2.1.1, 60, .inl (iF F)))])) 0 0 := by
  refine g_start2 (lo := [(0, .ref h0), (1, .int (iI k))]) (by decide +kernel) rfl rfl (Nat.le_of_ble_eq_true rfl) (fun p e s m args below meth c A C => ?_)
  refine r_aload_n C dX2_faultAs_0 0 rfl ?_
  refine gf_2_1 C hi_X2_faultAs_2 kw_X2_faultAs_0 dX2_faultAs_1 0 rfl rfl ?_
  refine r_if_ne (tgt := 9) C dX2_faultAs_4 (by decide) (by omega) (fun h_1 => ?_) (fun h_1 => absurd h_1 (by omega))
  refine r_aload_n C dX2_faultAs_9 0 rfl ?_
  refine gf_2_2 C hi_X2_faultAs_2 kw_X2_faultAs_1 dX2_faultAs_10 0 rfl rfl ?_
  refine r_iload_n C dX2_faultAs_13 1 rfl ?_
  refine r_icmp_ne (tgt := 21) C dX2_faultAs_14 (by decide) (by omega) (by omega) (fun h_2 => ?_) (fun h_2 => absurd h_2 (by omega))
  refine r_iconst C dX2_faultAs_21 ?_
  exact g_ret_i C rfl dX2_faultAs_22 () trivial (by first | rfl | omega | ((repeat' split) <;> first | rfl | omega)) [0, 1] rfl rfl

set_option maxRecDepth 20000 in
theorem kw_X2_init_0 : Cond.methodLink RX2 3 objectInit ∈ wsX2_init := List.mem_of_getElem? (i := 1) rfl
set_option maxRecDepth 20000 in
theorem kw_X2_init_1 : Cond.instanceMethod objectInit ∈ wsX2_init := List.mem_of_getElem? (i := 2) rfl
set_option maxRecDepth 20000 in
theorem kw_X2_init_2 : Cond.code objectInit ⟨#[0xb1]⟩ 1 none ∈ wsX2_init := List.mem_of_getElem? (i := 3) rfl
set_option maxRecDepth 20000 in
theorem kw_X2_init_3 : Cond.arrayClass .int ∈ wsX2_init := List.mem_of_getElem? (i := 4) rfl
set_option maxRecDepth 20000 in
theorem kw_X2_init_4 : Cond.fieldLink RX2 9 "SkipStones$Sheet" "cells" "[I" ∈ wsX2_init := List.mem_of_getElem? (i := 5) rfl
set_option maxRecDepth 20000 in
theorem kw_X2_init_5 : Cond.fieldLink RX2 15 "SkipStones$Sheet" "something" "Z" ∈ wsX2_init := List.mem_of_getElem? (i := 6) rfl
set_option maxRecDepth 20000 in
theorem kw_X2_init_6 : Cond.fieldLink RX2 19 "SkipStones$Sheet" "lane" "I" ∈ wsX2_init := List.mem_of_getElem? (i := 7) rfl
set_option maxRecDepth 20000 in
theorem kw_X2_init_7 : Cond.fieldLink RX2 23 "SkipStones$Sheet" "length" "I" ∈ wsX2_init := List.mem_of_getElem? (i := 8) rfl
set_option maxRecDepth 20000 in
theorem hi_X2_init_2 : ∀ w ∈ wsX20, w ∈ wsX2_init := fun _ h => List.mem_cons_of_mem _ (List.mem_append_right _ h)
set_option maxHeartbeats 4000000 in
set_option maxRecDepth 100000 in
/-- Sheet() -/
theorem c_X2_init (l : Launch) (X : gX) (h0 : Nat) : gM l yX2_init wsX2_init (gr 1 1 60) X [(h0, .inr (2, [.null, .int (iI 0), .int (iI 0), .int (iI 0)]))] [.ref h0] (gQv X (Y := Nat) (fun y => True) (fun y => [(h0, .inr (2, [.ref y, .int (iI 0), .int (iI 0), .int (iI 0)])), (y, .inl (X.2.1.1, 60, .inl (iF (fun _ => 0))))])) 1 60 := by
  refine g_start2 (lo := [(0, .ref h0)]) (by decide +kernel) rfl rfl (Nat.le_of_ble_eq_true rfl) (fun p e s m args below meth c A C => ?_)
  refine r_aload_n C dX2_init_0 0 rfl ?_
  refine r_objInit C kw_X2_init_0 kw_X2_init_1 kw_X2_init_2 dX2_init_1 (Nat.le_of_ble_eq_true rfl) (Nat.le_of_ble_eq_true rfl) ?_
  refine r_aload_n C dX2_init_4 0 rfl ?_
  refine r_bipush C dX2_init_5 (by decide) ?_
  refine r_newa (n := 60) (ws2 := fun q_1 => [(h0, .inr (2, [.null, .int (iI 0), .int (iI 0), .int (iI 0)])), (q_1, .inl (X.2.1.1, 60, .inl (iF (fun _ => 0))))]) C kw_X2_init_3 dX2_init_7 rfl (by decide) (by decide) (by decide) (fun _ => rfl) (fun q_1 => ?_)
  refine pf_2_0 (ws2 := [(h0, .inr (2, [.ref q_1, .int (iI 0), .int (iI 0), .int (iI 0)])), (q_1, .inl (X.2.1.1, 60, .inl (iF (fun _ => 0))))]) C hi_X2_init_2 kw_X2_init_4 dX2_init_9 0 rfl rfl rfl (Nat.le_of_ble_eq_true rfl) rfl ?_
  refine r_aload_n C dX2_init_12 0 rfl ?_
  refine r_iconst C dX2_init_13 ?_
  refine pf_2_1 (ws2 := [(h0, .inr (2, [.ref q_1, .int (iI 0), .int (iI 0), .int (iI 0)])), (q_1, .inl (X.2.1.1, 60, .inl (iF (fun _ => 0))))]) C hi_X2_init_2 kw_X2_init_5 dX2_init_14 0 rfl rfl rfl (Nat.le_of_ble_eq_true rfl) rfl ?_
  refine r_aload_n C dX2_init_17 0 rfl ?_
  refine r_iconst C dX2_init_18 ?_
  refine pf_2_2 (ws2 := [(h0, .inr (2, [.ref q_1, .int (iI 0), .int (iI 0), .int (iI 0)])), (q_1, .inl (X.2.1.1, 60, .inl (iF (fun _ => 0))))]) C hi_X2_init_2 kw_X2_init_6 dX2_init_19 0 rfl rfl rfl (Nat.le_of_ble_eq_true rfl) rfl ?_
  refine r_aload_n C dX2_init_22 0 rfl ?_
  refine r_iconst C dX2_init_23 ?_
  refine pf_2_3 (ws2 := [(h0, .inr (2, [.ref q_1, .int (iI 0), .int (iI 0), .int (iI 0)])), (q_1, .inl (X.2.1.1, 60, .inl (iF (fun _ => 0))))]) C hi_X2_init_2 kw_X2_init_7 dX2_init_24 0 rfl rfl rfl (Nat.le_of_ble_eq_true rfl) rfl ?_
  exact g_ret_v C rfl dX2_init_27 q_1 trivial [0, 1] rfl rfl

set_option maxRecDepth 20000 in
theorem kw_X3_init_0 : Cond.methodLink RX3 1 objectInit ∈ wsX3_init := List.mem_of_getElem? (i := 1) rfl
set_option maxRecDepth 20000 in
theorem kw_X3_init_1 : Cond.instanceMethod objectInit ∈ wsX3_init := List.mem_of_getElem? (i := 2) rfl
set_option maxRecDepth 20000 in
theorem kw_X3_init_2 : Cond.code objectInit ⟨#[0xb1]⟩ 1 none ∈ wsX3_init := List.mem_of_getElem? (i := 3) rfl
set_option maxRecDepth 20000 in
theorem kw_X3_init_3 : Cond.fieldLink RX3 7 "SkipStones$Stone" "lying" "I" ∈ wsX3_init := List.mem_of_getElem? (i := 4) rfl
set_option maxRecDepth 20000 in
theorem kw_X3_init_4 : Cond.fieldLink RX3 13 "SkipStones$Stone" "worth" "I" ∈ wsX3_init := List.mem_of_getElem? (i := 5) rfl
set_option maxRecDepth 20000 in
theorem kw_X3_init_5 : Cond.fieldLink RX3 16 "SkipStones$Stone" "weight" "I" ∈ wsX3_init := List.mem_of_getElem? (i := 6) rfl
set_option maxRecDepth 20000 in
theorem kw_X3_init_6 : Cond.fieldLink RX3 19 "SkipStones$Stone" "wide" "I" ∈ wsX3_init := List.mem_of_getElem? (i := 7) rfl
set_option maxRecDepth 20000 in
theorem kw_X3_init_7 : Cond.fieldLink RX3 22 "SkipStones$Stone" "rough" "I" ∈ wsX3_init := List.mem_of_getElem? (i := 8) rfl
set_option maxRecDepth 20000 in
theorem hi_X3_init_3 : ∀ w ∈ wsX30, w ∈ wsX3_init := fun _ h => List.mem_cons_of_mem _ (List.mem_append_right _ h)
set_option maxHeartbeats 4000000 in
set_option maxRecDepth 100000 in
/-- Stone() -/
theorem c_X3_init (l : Launch) (X : gX) (h0 : Nat) (p1 : Int) (p2 : Int) (p3 : Int) : gM l yX3_init wsX3_init (gr 1 0 0) X [(h0, .inr (3, [.int (iI 0), .int (iI 0), .int (iI 0), .int (iI 0), .int (iI 0)]))] [.ref h0, .int (iI p1), .int (iI p2), .int (iI p3)] (gQv X (Y := Unit) (fun _ => True) (fun _ => [(h0, .inr (3, [.int (iI p1), .int (iI p2), .int (iI p3), .int (iI 0), .int (iI 0)]))])) 0 0 := by
  refine g_start2 (lo := [(0, .ref h0), (1, .int (iI p1)), (2, .int (iI p2)), (3, .int (iI p3))]) (by decide +kernel) rfl rfl (Nat.le_of_ble_eq_true rfl) (fun p e s m args below meth c A C => ?_)
  refine r_aload_n C dX3_init_0 0 rfl ?_
  refine r_objInit C kw_X3_init_0 kw_X3_init_1 kw_X3_init_2 dX3_init_1 (Nat.le_of_ble_eq_true rfl) (Nat.le_of_ble_eq_true rfl) ?_
  refine r_aload_n C dX3_init_4 0 rfl ?_
  refine r_iconst C dX3_init_5 ?_
  refine pf_3_3 (ws2 := [(h0, .inr (3, [.int (iI 0), .int (iI 0), .int (iI 0), .int (iI 0), .int (iI 0)]))]) C hi_X3_init_3 kw_X3_init_3 dX3_init_6 0 rfl rfl rfl (Nat.le_of_ble_eq_true rfl) rfl ?_
  refine r_aload_n C dX3_init_9 0 rfl ?_
  refine r_iconst C dX3_init_10 ?_
  refine pf_3_4 (ws2 := [(h0, .inr (3, [.int (iI 0), .int (iI 0), .int (iI 0), .int (iI 0), .int (iI 0)]))]) C hi_X3_init_3 kw_X3_init_4 dX3_init_11 0 rfl rfl rfl (Nat.le_of_ble_eq_true rfl) rfl ?_
  refine r_aload_n C dX3_init_14 0 rfl ?_
  refine r_iload_n C dX3_init_15 1 rfl ?_
  refine pf_3_0 (ws2 := [(h0, .inr (3, [.int (iI p1), .int (iI 0), .int (iI 0), .int (iI 0), .int (iI 0)]))]) C hi_X3_init_3 kw_X3_init_5 dX3_init_16 0 rfl rfl rfl (Nat.le_of_ble_eq_true rfl) rfl ?_
  refine r_aload_n C dX3_init_19 0 rfl ?_
  refine r_iload_n C dX3_init_20 2 rfl ?_
  refine pf_3_1 (ws2 := [(h0, .inr (3, [.int (iI p1), .int (iI p2), .int (iI 0), .int (iI 0), .int (iI 0)]))]) C hi_X3_init_3 kw_X3_init_6 dX3_init_21 0 rfl rfl rfl (Nat.le_of_ble_eq_true rfl) rfl ?_
  refine r_aload_n C dX3_init_24 0 rfl ?_
  refine r_iload_n C dX3_init_25 3 rfl ?_
  refine pf_3_2 (ws2 := [(h0, .inr (3, [.int (iI p1), .int (iI p2), .int (iI p3), .int (iI 0), .int (iI 0)]))]) C hi_X3_init_3 kw_X3_init_7 dX3_init_26 0 rfl rfl rfl (Nat.le_of_ble_eq_true rfl) rfl ?_
  exact g_ret_v C rfl dX3_init_29 () trivial [0] rfl rfl

set_option maxRecDepth 20000 in
theorem kw_X0_init_0 : Cond.methodLink RX0 3 objectInit ∈ wsX0_init := List.mem_of_getElem? (i := 1) rfl
set_option maxRecDepth 20000 in
theorem kw_X0_init_1 : Cond.instanceMethod objectInit ∈ wsX0_init := List.mem_of_getElem? (i := 2) rfl
set_option maxRecDepth 20000 in
theorem kw_X0_init_2 : Cond.code objectInit ⟨#[0xb1]⟩ 1 none ∈ wsX0_init := List.mem_of_getElem? (i := 3) rfl
set_option maxRecDepth 20000 in
theorem kw_X0_init_3 : Cond.arrayClass .int ∈ wsX0_init := List.mem_of_getElem? (i := 4) rfl
set_option maxRecDepth 20000 in
theorem kw_X0_init_4 : Cond.fieldLink RX0 11 "SkipStones$Flight" "values" "[I" ∈ wsX0_init := List.mem_of_getElem? (i := 5) rfl
set_option maxRecDepth 20000 in
theorem kw_X0_init_5 : Cond.fieldLink RX0 15 "SkipStones$Flight" "count" "I" ∈ wsX0_init := List.mem_of_getElem? (i := 6) rfl
set_option maxRecDepth 20000 in
theorem kw_X0_init_6 : Cond.fieldLink RX0 19 "SkipStones$Flight" "x" "I" ∈ wsX0_init := List.mem_of_getElem? (i := 7) rfl
set_option maxRecDepth 20000 in
theorem kw_X0_init_7 : Cond.fieldLink RX0 22 "SkipStones$Flight" "speed" "I" ∈ wsX0_init := List.mem_of_getElem? (i := 8) rfl
set_option maxRecDepth 20000 in
theorem kw_X0_init_8 : Cond.fieldLink RX0 25 "SkipStones$Flight" "fall" "I" ∈ wsX0_init := List.mem_of_getElem? (i := 9) rfl
set_option maxRecDepth 20000 in
theorem kw_X0_init_9 : Cond.fieldLink RX0 28 "SkipStones$Flight" "slant" "I" ∈ wsX0_init := List.mem_of_getElem? (i := 10) rfl
set_option maxRecDepth 20000 in
theorem kw_X0_init_10 : Cond.fieldLink RX0 31 "SkipStones$Flight" "spin" "I" ∈ wsX0_init := List.mem_of_getElem? (i := 11) rfl
set_option maxRecDepth 20000 in
theorem kw_X0_init_11 : Cond.fieldLink RX0 34 "SkipStones$Flight" "beat" "I" ∈ wsX0_init := List.mem_of_getElem? (i := 12) rfl
set_option maxRecDepth 20000 in
theorem hi_X0_init_0 : ∀ w ∈ wsX00, w ∈ wsX0_init := fun _ h => List.mem_cons_of_mem _ (List.mem_append_right _ h)
set_option maxHeartbeats 4000000 in
set_option maxRecDepth 100000 in
/-- Flight() -/
theorem c_X0_init (l : Launch) (X : gX) (h0 : Nat) : gM l yX0_init wsX0_init (gr 1 1 810) X [(h0, .inr (0, [.null, .int (iI 0), .int (iI 0), .int (iI 0), .int (iI 0), .int (iI 0), .int (iI 0), .int (iI 0)]))] [.ref h0] (gQv X (Y := Nat) (fun y => True) (fun y => [(h0, .inr (0, [.ref y, .int (iI 0), .int (iI 0), .int (iI 0), .int (iI 0), .int (iI 0), .int (iI 0), .int (iI 0)])), (y, .inl (X.2.1.1, 810, .inl (iF (fun _ => 0))))])) 1 810 := by
  refine g_start2 (lo := [(0, .ref h0)]) (by decide +kernel) rfl rfl (Nat.le_of_ble_eq_true rfl) (fun p e s m args below meth c A C => ?_)
  refine r_aload_n C dX0_init_0 0 rfl ?_
  refine r_objInit C kw_X0_init_0 kw_X0_init_1 kw_X0_init_2 dX0_init_1 (Nat.le_of_ble_eq_true rfl) (Nat.le_of_ble_eq_true rfl) ?_
  refine r_aload_n C dX0_init_4 0 rfl ?_
  refine r_sipush C dX0_init_5 (by decide) ?_
  refine r_newa (n := 810) (ws2 := fun q_1 => [(h0, .inr (0, [.null, .int (iI 0), .int (iI 0), .int (iI 0), .int (iI 0), .int (iI 0), .int (iI 0), .int (iI 0)])), (q_1, .inl (X.2.1.1, 810, .inl (iF (fun _ => 0))))]) C kw_X0_init_3 dX0_init_8 rfl (by decide) (by decide) (by decide) (fun _ => rfl) (fun q_1 => ?_)
  refine pf_0_0 (ws2 := [(h0, .inr (0, [.ref q_1, .int (iI 0), .int (iI 0), .int (iI 0), .int (iI 0), .int (iI 0), .int (iI 0), .int (iI 0)])), (q_1, .inl (X.2.1.1, 810, .inl (iF (fun _ => 0))))]) C hi_X0_init_0 kw_X0_init_4 dX0_init_10 0 rfl rfl rfl (Nat.le_of_ble_eq_true rfl) rfl ?_
  refine r_aload_n C dX0_init_13 0 rfl ?_
  refine r_iconst C dX0_init_14 ?_
  refine pf_0_1 (ws2 := [(h0, .inr (0, [.ref q_1, .int (iI 0), .int (iI 0), .int (iI 0), .int (iI 0), .int (iI 0), .int (iI 0), .int (iI 0)])), (q_1, .inl (X.2.1.1, 810, .inl (iF (fun _ => 0))))]) C hi_X0_init_0 kw_X0_init_5 dX0_init_15 0 rfl rfl rfl (Nat.le_of_ble_eq_true rfl) rfl ?_
  refine r_aload_n C dX0_init_18 0 rfl ?_
  refine r_iconst C dX0_init_19 ?_
  refine pf_0_2 (ws2 := [(h0, .inr (0, [.ref q_1, .int (iI 0), .int (iI 0), .int (iI 0), .int (iI 0), .int (iI 0), .int (iI 0), .int (iI 0)])), (q_1, .inl (X.2.1.1, 810, .inl (iF (fun _ => 0))))]) C hi_X0_init_0 kw_X0_init_6 dX0_init_20 0 rfl rfl rfl (Nat.le_of_ble_eq_true rfl) rfl ?_
  refine r_aload_n C dX0_init_23 0 rfl ?_
  refine r_iconst C dX0_init_24 ?_
  refine pf_0_3 (ws2 := [(h0, .inr (0, [.ref q_1, .int (iI 0), .int (iI 0), .int (iI 0), .int (iI 0), .int (iI 0), .int (iI 0), .int (iI 0)])), (q_1, .inl (X.2.1.1, 810, .inl (iF (fun _ => 0))))]) C hi_X0_init_0 kw_X0_init_7 dX0_init_25 0 rfl rfl rfl (Nat.le_of_ble_eq_true rfl) rfl ?_
  refine r_aload_n C dX0_init_28 0 rfl ?_
  refine r_iconst C dX0_init_29 ?_
  refine pf_0_4 (ws2 := [(h0, .inr (0, [.ref q_1, .int (iI 0), .int (iI 0), .int (iI 0), .int (iI 0), .int (iI 0), .int (iI 0), .int (iI 0)])), (q_1, .inl (X.2.1.1, 810, .inl (iF (fun _ => 0))))]) C hi_X0_init_0 kw_X0_init_8 dX0_init_30 0 rfl rfl rfl (Nat.le_of_ble_eq_true rfl) rfl ?_
  refine r_aload_n C dX0_init_33 0 rfl ?_
  refine r_iconst C dX0_init_34 ?_
  refine pf_0_5 (ws2 := [(h0, .inr (0, [.ref q_1, .int (iI 0), .int (iI 0), .int (iI 0), .int (iI 0), .int (iI 0), .int (iI 0), .int (iI 0)])), (q_1, .inl (X.2.1.1, 810, .inl (iF (fun _ => 0))))]) C hi_X0_init_0 kw_X0_init_9 dX0_init_35 0 rfl rfl rfl (Nat.le_of_ble_eq_true rfl) rfl ?_
  refine r_aload_n C dX0_init_38 0 rfl ?_
  refine r_iconst C dX0_init_39 ?_
  refine pf_0_6 (ws2 := [(h0, .inr (0, [.ref q_1, .int (iI 0), .int (iI 0), .int (iI 0), .int (iI 0), .int (iI 0), .int (iI 0), .int (iI 0)])), (q_1, .inl (X.2.1.1, 810, .inl (iF (fun _ => 0))))]) C hi_X0_init_0 kw_X0_init_10 dX0_init_40 0 rfl rfl rfl (Nat.le_of_ble_eq_true rfl) rfl ?_
  refine r_aload_n C dX0_init_43 0 rfl ?_
  refine r_iconst C dX0_init_44 ?_
  refine pf_0_7 (ws2 := [(h0, .inr (0, [.ref q_1, .int (iI 0), .int (iI 0), .int (iI 0), .int (iI 0), .int (iI 0), .int (iI 0), .int (iI 0)])), (q_1, .inl (X.2.1.1, 810, .inl (iF (fun _ => 0))))]) C hi_X0_init_0 kw_X0_init_11 dX0_init_45 0 rfl rfl rfl (Nat.le_of_ble_eq_true rfl) rfl ?_
  exact g_ret_v C rfl dX0_init_48 q_1 trivial [0, 1] rfl rfl

set_option maxRecDepth 20000 in
theorem kw_X4_init_0 : Cond.methodLink RX4 3 objectInit ∈ wsX4_init := List.mem_of_getElem? (i := 1) rfl
set_option maxRecDepth 20000 in
theorem kw_X4_init_1 : Cond.instanceMethod objectInit ∈ wsX4_init := List.mem_of_getElem? (i := 2) rfl
set_option maxRecDepth 20000 in
theorem kw_X4_init_2 : Cond.code objectInit ⟨#[0xb1]⟩ 1 none ∈ wsX4_init := List.mem_of_getElem? (i := 3) rfl
set_option maxRecDepth 20000 in
theorem kw_X4_init_3 : Cond.fieldLink RX4 9 "SkipStones$Water" "lift" "I" ∈ wsX4_init := List.mem_of_getElem? (i := 4) rfl
set_option maxRecDepth 20000 in
theorem kw_X4_init_4 : Cond.fieldLink RX4 15 "SkipStones$Water" "rub" "I" ∈ wsX4_init := List.mem_of_getElem? (i := 5) rfl
set_option maxRecDepth 20000 in
theorem kw_X4_init_5 : Cond.fieldLink RX4 18 "SkipStones$Water" "up" "I" ∈ wsX4_init := List.mem_of_getElem? (i := 6) rfl
set_option maxRecDepth 20000 in
theorem kw_X4_init_6 : Cond.fieldLink RX4 21 "SkipStones$Water" "needed" "I" ∈ wsX4_init := List.mem_of_getElem? (i := 7) rfl
set_option maxRecDepth 20000 in
theorem kw_X4_init_7 : Cond.fieldLink RX4 24 "SkipStones$Water" "near" "I" ∈ wsX4_init := List.mem_of_getElem? (i := 8) rfl
set_option maxRecDepth 20000 in
theorem kw_X4_init_8 : Cond.fieldLink RX4 27 "SkipStones$Water" "hard" "I" ∈ wsX4_init := List.mem_of_getElem? (i := 9) rfl
set_option maxRecDepth 20000 in
theorem kw_X4_init_9 : Cond.arrayClass .int ∈ wsX4_init := List.mem_of_getElem? (i := 10) rfl
set_option maxRecDepth 20000 in
theorem kw_X4_init_10 : Cond.fieldLink RX4 30 "SkipStones$Water" "waveRow" "[I" ∈ wsX4_init := List.mem_of_getElem? (i := 11) rfl
set_option maxRecDepth 20000 in
theorem kw_X4_init_11 : Cond.fieldLink RX4 34 "SkipStones$Water" "waveCount" "I" ∈ wsX4_init := List.mem_of_getElem? (i := 12) rfl
set_option maxRecDepth 20000 in
theorem kw_X4_init_12 : Cond.fieldLink RX4 37 "SkipStones$Water" "shifted" "I" ∈ wsX4_init := List.mem_of_getElem? (i := 13) rfl
set_option maxRecDepth 20000 in
theorem hi_X4_init_4 : ∀ w ∈ wsX40, w ∈ wsX4_init := fun _ h => List.mem_cons_of_mem _ (List.mem_append_right _ h)
set_option maxHeartbeats 4000000 in
set_option maxRecDepth 100000 in
/-- Water() -/
theorem c_X4_init (l : Launch) (X : gX) (h0 : Nat) : gM l yX4_init wsX4_init (gr 1 1 20) X [(h0, .inr (4, [.int (iI 0), .int (iI 0), .int (iI 0), .int (iI 0), .int (iI 0), .int (iI 0), .null, .int (iI 0), .int (iI 0)]))] [.ref h0] (gQv X (Y := Nat) (fun y => True) (fun y => [(h0, .inr (4, [.int (iI 0), .int (iI 0), .int (iI 0), .int (iI 0), .int (iI 0), .int (iI 0), .ref y, .int (iI 1), .int (iI 0)])), (y, .inl (X.2.1.1, 20, .inl (iF (fun _ => 0))))])) 1 20 := by
  refine g_start2 (lo := [(0, .ref h0)]) (by decide +kernel) rfl rfl (Nat.le_of_ble_eq_true rfl) (fun p e s m args below meth c A C => ?_)
  refine r_aload_n C dX4_init_0 0 rfl ?_
  refine r_objInit C kw_X4_init_0 kw_X4_init_1 kw_X4_init_2 dX4_init_1 (Nat.le_of_ble_eq_true rfl) (Nat.le_of_ble_eq_true rfl) ?_
  refine r_aload_n C dX4_init_4 0 rfl ?_
  refine r_iconst C dX4_init_5 ?_
  refine pf_4_0 (ws2 := [(h0, .inr (4, [.int (iI 0), .int (iI 0), .int (iI 0), .int (iI 0), .int (iI 0), .int (iI 0), .null, .int (iI 0), .int (iI 0)]))]) C hi_X4_init_4 kw_X4_init_3 dX4_init_6 0 rfl rfl rfl (Nat.le_of_ble_eq_true rfl) rfl ?_
  refine r_aload_n C dX4_init_9 0 rfl ?_
  refine r_iconst C dX4_init_10 ?_
  refine pf_4_1 (ws2 := [(h0, .inr (4, [.int (iI 0), .int (iI 0), .int (iI 0), .int (iI 0), .int (iI 0), .int (iI 0), .null, .int (iI 0), .int (iI 0)]))]) C hi_X4_init_4 kw_X4_init_4 dX4_init_11 0 rfl rfl rfl (Nat.le_of_ble_eq_true rfl) rfl ?_
  refine r_aload_n C dX4_init_14 0 rfl ?_
  refine r_iconst C dX4_init_15 ?_
  refine pf_4_2 (ws2 := [(h0, .inr (4, [.int (iI 0), .int (iI 0), .int (iI 0), .int (iI 0), .int (iI 0), .int (iI 0), .null, .int (iI 0), .int (iI 0)]))]) C hi_X4_init_4 kw_X4_init_5 dX4_init_16 0 rfl rfl rfl (Nat.le_of_ble_eq_true rfl) rfl ?_
  refine r_aload_n C dX4_init_19 0 rfl ?_
  refine r_iconst C dX4_init_20 ?_
  refine pf_4_3 (ws2 := [(h0, .inr (4, [.int (iI 0), .int (iI 0), .int (iI 0), .int (iI 0), .int (iI 0), .int (iI 0), .null, .int (iI 0), .int (iI 0)]))]) C hi_X4_init_4 kw_X4_init_6 dX4_init_21 0 rfl rfl rfl (Nat.le_of_ble_eq_true rfl) rfl ?_
  refine r_aload_n C dX4_init_24 0 rfl ?_
  refine r_iconst C dX4_init_25 ?_
  refine pf_4_4 (ws2 := [(h0, .inr (4, [.int (iI 0), .int (iI 0), .int (iI 0), .int (iI 0), .int (iI 0), .int (iI 0), .null, .int (iI 0), .int (iI 0)]))]) C hi_X4_init_4 kw_X4_init_7 dX4_init_26 0 rfl rfl rfl (Nat.le_of_ble_eq_true rfl) rfl ?_
  refine r_aload_n C dX4_init_29 0 rfl ?_
  refine r_iconst C dX4_init_30 ?_
  refine pf_4_5 (ws2 := [(h0, .inr (4, [.int (iI 0), .int (iI 0), .int (iI 0), .int (iI 0), .int (iI 0), .int (iI 0), .null, .int (iI 0), .int (iI 0)]))]) C hi_X4_init_4 kw_X4_init_8 dX4_init_31 0 rfl rfl rfl (Nat.le_of_ble_eq_true rfl) rfl ?_
  refine r_aload_n C dX4_init_34 0 rfl ?_
  refine r_bipush C dX4_init_35 (by decide) ?_
  refine r_newa (n := 20) (ws2 := fun q_1 => [(h0, .inr (4, [.int (iI 0), .int (iI 0), .int (iI 0), .int (iI 0), .int (iI 0), .int (iI 0), .null, .int (iI 0), .int (iI 0)])), (q_1, .inl (X.2.1.1, 20, .inl (iF (fun _ => 0))))]) C kw_X4_init_9 dX4_init_37 rfl (by decide) (by decide) (by decide) (fun _ => rfl) (fun q_1 => ?_)
  refine pf_4_6 (ws2 := [(h0, .inr (4, [.int (iI 0), .int (iI 0), .int (iI 0), .int (iI 0), .int (iI 0), .int (iI 0), .ref q_1, .int (iI 0), .int (iI 0)])), (q_1, .inl (X.2.1.1, 20, .inl (iF (fun _ => 0))))]) C hi_X4_init_4 kw_X4_init_10 dX4_init_39 0 rfl rfl rfl (Nat.le_of_ble_eq_true rfl) rfl ?_
  refine r_aload_n C dX4_init_42 0 rfl ?_
  refine r_iconst C dX4_init_43 ?_
  refine pf_4_7 (ws2 := [(h0, .inr (4, [.int (iI 0), .int (iI 0), .int (iI 0), .int (iI 0), .int (iI 0), .int (iI 0), .ref q_1, .int (iI 1), .int (iI 0)])), (q_1, .inl (X.2.1.1, 20, .inl (iF (fun _ => 0))))]) C hi_X4_init_4 kw_X4_init_11 dX4_init_44 0 rfl rfl rfl (Nat.le_of_ble_eq_true rfl) rfl ?_
  refine r_aload_n C dX4_init_47 0 rfl ?_
  refine r_iconst C dX4_init_48 ?_
  refine pf_4_8 (ws2 := [(h0, .inr (4, [.int (iI 0), .int (iI 0), .int (iI 0), .int (iI 0), .int (iI 0), .int (iI 0), .ref q_1, .int (iI 1), .int (iI 0)])), (q_1, .inl (X.2.1.1, 20, .inl (iF (fun _ => 0))))]) C hi_X4_init_4 kw_X4_init_12 dX4_init_49 0 rfl rfl rfl (Nat.le_of_ble_eq_true rfl) rfl ?_
  exact g_ret_v C rfl dX4_init_52 q_1 trivial [0, 1] rfl rfl

set_option maxRecDepth 20000 in
theorem kw_X1_init_0 : Cond.methodLink RX1 3 objectInit ∈ wsX1_init := List.mem_of_getElem? (i := 1) rfl
set_option maxRecDepth 20000 in
theorem kw_X1_init_1 : Cond.instanceMethod objectInit ∈ wsX1_init := List.mem_of_getElem? (i := 2) rfl
set_option maxRecDepth 20000 in
theorem kw_X1_init_2 : Cond.code objectInit ⟨#[0xb1]⟩ 1 none ∈ wsX1_init := List.mem_of_getElem? (i := 3) rfl
set_option maxRecDepth 20000 in
theorem kw_X1_init_3 : Cond.methodLink RX1 13 ⟨"[I", "clone", "()Ljava/lang/Object;"⟩ ∈ wsX1_init := List.mem_of_getElem? (i := 4) rfl
set_option maxRecDepth 20000 in
theorem kw_X1_init_4 : Cond.sameMethod "[I" "java/lang/Object" "clone" "()Ljava/lang/Object;" ∈ wsX1_init := List.mem_of_getElem? (i := 5) rfl
set_option maxRecDepth 20000 in
theorem kw_X1_init_5 : Cond.native ⟨"java/lang/Object", "clone", "()Ljava/lang/Object;"⟩ ∈ wsX1_init := List.mem_of_getElem? (i := 6) rfl
set_option maxRecDepth 20000 in
theorem kw_X1_init_6 : Cond.instanceMethod ⟨"java/lang/Object", "clone", "()Ljava/lang/Object;"⟩ ∈ wsX1_init := List.mem_of_getElem? (i := 7) rfl
set_option maxRecDepth 20000 in
theorem kw_X1_init_7 : Cond.selects "[I" ⟨"[I", "clone", "()Ljava/lang/Object;"⟩ ⟨"java/lang/Object", "clone", "()Ljava/lang/Object;"⟩ ∈ wsX1_init := List.mem_of_getElem? (i := 8) rfl
set_option maxRecDepth 20000 in
theorem kw_X1_init_8 : Cond.classLink RX1 14 "[I" ∈ wsX1_init := List.mem_of_getElem? (i := 9) rfl
set_option maxRecDepth 20000 in
theorem kw_X1_init_9 : Cond.fieldLink RX1 18 "SkipStones$LawText" "numbers" "[I" ∈ wsX1_init := List.mem_of_getElem? (i := 10) rfl
set_option maxRecDepth 20000 in
theorem kw_X1_init_10 : Cond.arrayClass .int ∈ wsX1_init := List.mem_of_getElem? (i := 11) rfl
set_option maxRecDepth 20000 in
theorem kw_X1_init_11 : Cond.fieldLink RX1 23 "SkipStones$LawText" "timesTold" "[I" ∈ wsX1_init := List.mem_of_getElem? (i := 12) rfl
set_option maxRecDepth 20000 in
theorem kw_X1_init_12 : Cond.fieldLink RX1 26 "SkipStones$LawText" "from" "LSkipStones$Sheet;" ∈ wsX1_init := List.mem_of_getElem? (i := 13) rfl
set_option maxRecDepth 20000 in
theorem kw_X1_init_13 : Cond.fieldLink RX1 30 "SkipStones$LawText" "start" "I" ∈ wsX1_init := List.mem_of_getElem? (i := 14) rfl
set_option maxRecDepth 20000 in
theorem kw_X1_init_14 : Cond.fieldLink RX1 34 "SkipStones$LawText" "length" "I" ∈ wsX1_init := List.mem_of_getElem? (i := 15) rfl
set_option maxRecDepth 20000 in
theorem kw_X1_init_15 : Cond.fieldLink RX1 37 "SkipStones$LawText" "at" "I" ∈ wsX1_init := List.mem_of_getElem? (i := 16) rfl
set_option maxRecDepth 20000 in
theorem kw_X1_init_16 : Cond.fieldLink RX1 40 "SkipStones$LawText" "items" "I" ∈ wsX1_init := List.mem_of_getElem? (i := 17) rfl
set_option maxRecDepth 20000 in
theorem hi_X1_init_1 : ∀ w ∈ wsX10, w ∈ wsX1_init := fun _ h => List.mem_cons_of_mem _ (List.mem_append_right _ h)
set_option maxHeartbeats 4000000 in
set_option maxRecDepth 100000 in
/-- LawText() -/
theorem c_X1_init (l : Launch) (X : gX) (h0 : Nat) : gM l yX1_init wsX1_init (gr 1 2 12) X [(h0, .inr (1, [.null, .null, .null, .int (iI 0), .int (iI 0), .int (iI 0), .int (iI 0)]))] [.ref h0] (gQv X (Y := Nat → Nat) (fun y => True) (fun y => [(h0, .inr (1, [.ref (y 0), .ref (y 1), .null, .int (iI 0), .int (iI 0), .int (iI 0), .int (iI 0)])), ((y 0), .inl (X.2.1.1, 6, .inl (iF gAF))), ((y 1), .inl (X.2.1.1, 6, .inl (iF (fun _ => 0))))])) 2 12 := by
  refine g_start2 (lo := [(0, .ref h0)]) (by decide +kernel) rfl rfl (Nat.le_of_ble_eq_true rfl) (fun p e s m args below meth c A C => ?_)
  refine r_aload_n C dX1_init_0 0 rfl ?_
  refine r_objInit C kw_X1_init_0 kw_X1_init_1 kw_X1_init_2 dX1_init_1 (Nat.le_of_ble_eq_true rfl) (Nat.le_of_ble_eq_true rfl) ?_
  refine r_aload_n C dX1_init_4 0 rfl ?_
  refine r_gets_AT_FIRST C dX1_init_5 ?_
  refine r_cloneAF (ws2 := fun q_1 => [(h0, .inr (1, [.null, .null, .null, .int (iI 0), .int (iI 0), .int (iI 0), .int (iI 0)])), (q_1, .inl (X.2.1.1, 6, .inl (iF gAF)))]) C kw_X1_init_3 kw_X1_init_4 kw_X1_init_5 kw_X1_init_6 kw_X1_init_7 dX1_init_8 (by decide) (Nat.le_of_ble_eq_true rfl) (by decide) (by decide) (fun _ => rfl) (fun q_1 => ?_)
  refine r_castI C kw_X1_init_8 dX1_init_11 1 rfl ?_
  refine pf_1_0 (ws2 := [(h0, .inr (1, [.ref q_1, .null, .null, .int (iI 0), .int (iI 0), .int (iI 0), .int (iI 0)])), (q_1, .inl (X.2.1.1, 6, .inl (iF gAF)))]) C hi_X1_init_1 kw_X1_init_9 dX1_init_14 0 rfl rfl rfl (Nat.le_of_ble_eq_true rfl) rfl ?_
  refine r_aload_n C dX1_init_17 0 rfl ?_
  refine r_bipush C dX1_init_18 (by decide) ?_
  refine r_newa (n := 6) (ws2 := fun q_2 => [(h0, .inr (1, [.ref q_1, .null, .null, .int (iI 0), .int (iI 0), .int (iI 0), .int (iI 0)])), (q_1, .inl (X.2.1.1, 6, .inl (iF gAF))), (q_2, .inl (X.2.1.1, 6, .inl (iF (fun _ => 0))))]) C kw_X1_init_10 dX1_init_20 rfl (by decide) (by decide) (by decide) (fun _ => rfl) (fun q_2 => ?_)
  refine pf_1_1 (ws2 := [(h0, .inr (1, [.ref q_1, .ref q_2, .null, .int (iI 0), .int (iI 0), .int (iI 0), .int (iI 0)])), (q_1, .inl (X.2.1.1, 6, .inl (iF gAF))), (q_2, .inl (X.2.1.1, 6, .inl (iF (fun _ => 0))))]) C hi_X1_init_1 kw_X1_init_11 dX1_init_22 0 rfl rfl rfl (Nat.le_of_ble_eq_true rfl) rfl ?_
  refine r_aload_n C dX1_init_25 0 rfl ?_
  refine r_null C dX1_init_26 ?_
  refine pf_1_2 (ws2 := [(h0, .inr (1, [.ref q_1, .ref q_2, .null, .int (iI 0), .int (iI 0), .int (iI 0), .int (iI 0)])), (q_1, .inl (X.2.1.1, 6, .inl (iF gAF))), (q_2, .inl (X.2.1.1, 6, .inl (iF (fun _ => 0))))]) C hi_X1_init_1 kw_X1_init_12 dX1_init_27 0 rfl rfl rfl (Nat.le_of_ble_eq_true rfl) rfl ?_
  refine r_aload_n C dX1_init_30 0 rfl ?_
  refine r_iconst C dX1_init_31 ?_
  refine pf_1_3 (ws2 := [(h0, .inr (1, [.ref q_1, .ref q_2, .null, .int (iI 0), .int (iI 0), .int (iI 0), .int (iI 0)])), (q_1, .inl (X.2.1.1, 6, .inl (iF gAF))), (q_2, .inl (X.2.1.1, 6, .inl (iF (fun _ => 0))))]) C hi_X1_init_1 kw_X1_init_13 dX1_init_32 0 rfl rfl rfl (Nat.le_of_ble_eq_true rfl) rfl ?_
  refine r_aload_n C dX1_init_35 0 rfl ?_
  refine r_iconst C dX1_init_36 ?_
  refine pf_1_4 (ws2 := [(h0, .inr (1, [.ref q_1, .ref q_2, .null, .int (iI 0), .int (iI 0), .int (iI 0), .int (iI 0)])), (q_1, .inl (X.2.1.1, 6, .inl (iF gAF))), (q_2, .inl (X.2.1.1, 6, .inl (iF (fun _ => 0))))]) C hi_X1_init_1 kw_X1_init_14 dX1_init_37 0 rfl rfl rfl (Nat.le_of_ble_eq_true rfl) rfl ?_
  refine r_aload_n C dX1_init_40 0 rfl ?_
  refine r_iconst C dX1_init_41 ?_
  refine pf_1_5 (ws2 := [(h0, .inr (1, [.ref q_1, .ref q_2, .null, .int (iI 0), .int (iI 0), .int (iI 0), .int (iI 0)])), (q_1, .inl (X.2.1.1, 6, .inl (iF gAF))), (q_2, .inl (X.2.1.1, 6, .inl (iF (fun _ => 0))))]) C hi_X1_init_1 kw_X1_init_15 dX1_init_42 0 rfl rfl rfl (Nat.le_of_ble_eq_true rfl) rfl ?_
  refine r_aload_n C dX1_init_45 0 rfl ?_
  refine r_iconst C dX1_init_46 ?_
  refine pf_1_6 (ws2 := [(h0, .inr (1, [.ref q_1, .ref q_2, .null, .int (iI 0), .int (iI 0), .int (iI 0), .int (iI 0)])), (q_1, .inl (X.2.1.1, 6, .inl (iF gAF))), (q_2, .inl (X.2.1.1, 6, .inl (iF (fun _ => 0))))]) C hi_X1_init_1 kw_X1_init_16 dX1_init_47 0 rfl rfl rfl (Nat.le_of_ble_eq_true rfl) rfl ?_
  exact g_ret_v C rfl dX1_init_50 (fun i => if i = 0 then q_1 else q_2) trivial [0, 1, 2] rfl rfl
end M2
