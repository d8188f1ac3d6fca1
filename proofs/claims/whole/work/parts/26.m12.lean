section M12
set_option maxHeartbeats 4000000 in
set_option maxRecDepth 100000 in
theorem c_X6_in (l : Launch) (X : gX) (v : Int) (lw : Int) (hi : Int) (hb_v : inL v) (hb_lw : inL lw) (hb_hi : inL hi) : gM l yX6_in wsX6_in (gr 0 0 0) X [] [.long (lI v), .long (lI lw), .long (lI hi)] (gQi X (Y := Unit) (fun _ => True) (fun _ => (if (lw ≤ v ∧ v ≤ hi) then 1 else 0)) (fun _ => [])) 0 0 := by
  refine g_start2 (lo := [(0, .long (lI v)), (2, .long (lI lw)), (4, .long (lI hi))]) (by decide +kernel) rfl rfl (Nat.le_of_ble_eq_true rfl) (fun p e s m args below meth c A C => ?_)
  refine r_lload_n C dX6_in_0 0 rfl ?_
  refine r_lload_n C dX6_in_1 1 rfl ?_
  refine r_lcmp_lt (tgt := 17) C dX6_in_2 dX6_in_3 (by decide) (by omega) (by omega) (fun h_1 => ?_) (fun h_1 => ?_)
  · skip
    refine r_iconst C dX6_in_17 ?_
    exact g_ret_z C rfl (by decide) dX6_in_18 () trivial (by (repeat' split) <;> first | rfl | omega) [] rfl (by (repeat' split) <;> first | rfl | omega)
  · skip
    refine r_lload_n C dX6_in_6 0 rfl ?_
    refine r_lload C dX6_in_7 2 rfl ?_
    refine r_lcmp_gt (tgt := 17) C dX6_in_9 dX6_in_10 (by decide) (by omega) (by omega) (fun h_2 => ?_) (fun h_2 => ?_)
    · skip
      refine r_iconst C dX6_in_17 ?_
      exact g_ret_z C rfl (by decide) dX6_in_18 () trivial (by (repeat' split) <;> first | rfl | omega) [] rfl (by (repeat' split) <;> first | rfl | omega)
    · skip
      refine r_iconst C dX6_in_13 ?_
      refine r_goto (tgt := 18) C dX6_in_14 (by decide) ?_
      exact g_ret_z C rfl (by decide) dX6_in_18 () trivial (by (repeat' split) <;> first | rfl | omega) [] rfl (by (repeat' split) <;> first | rfl | omega)

set_option maxRecDepth 20000 in
theorem kw_X6_lost_0 : Cond.constantLong RX6 69 (-9223372036854775808) ∈ wsX6_lost := List.mem_of_getElem? (i := 1) rfl
set_option maxHeartbeats 4000000 in
set_option maxRecDepth 100000 in
theorem c_X6_lost (l : Launch) (X : gX) : gM l yX6_lost wsX6_lost (gr 0 0 0) X [] [] (gQl X (Y := Unit) (fun _ => True) (fun _ => -9223372036854775808) (fun _ => [])) 0 0 := by
  refine g_start2 (lo := []) (by decide +kernel) rfl rfl (Nat.le_of_ble_eq_true rfl) (fun p e s m args below meth c A C => ?_)
  refine r_ldc2 (z := -9223372036854775808) C dX6_lost_0 kw_X6_lost_0 rfl ?_
  exact g_ret_l C rfl dX6_lost_3 () trivial (by (repeat' split) <;> first | rfl | omega) [] rfl (by (repeat' split) <;> first | rfl | omega)

set_option maxHeartbeats 4000000 in
set_option maxRecDepth 100000 in
theorem c_X6_greater (l : Launch) (X : gX) (p1 : Int) (p2 : Int) (hb_p1 : inB p1) (hb_p2 : inB p2) : gM l yX6_greater wsX6_greater (gr 0 0 0) X [] [.int (iI p1), .int (iI p2)] (gQi X (Y := Unit) (fun _ => True) (fun _ => (max p1 p2)) (fun _ => [])) 0 0 := by
  refine g_start2 (lo := [(0, .int (iI p1)), (1, .int (iI p2))]) (by decide +kernel) rfl rfl (Nat.le_of_ble_eq_true rfl) (fun p e s m args below meth c A C => ?_)
  refine r_iload_n C dX6_greater_0 0 rfl ?_
  refine r_iload_n C dX6_greater_1 1 rfl ?_
  refine r_icmp_le (tgt := 9) C dX6_greater_2 (by decide) (by omega) (by omega) (fun h_1 => ?_) (fun h_1 => ?_)
  · skip
    refine r_iload_n C dX6_greater_9 1 rfl ?_
    exact g_ret_i C rfl dX6_greater_10 () trivial (by omega) [] rfl (by (repeat' split) <;> first | rfl | omega)
  · skip
    refine r_iload_n C dX6_greater_5 0 rfl ?_
    refine r_goto (tgt := 10) C dX6_greater_6 (by decide) ?_
    exact g_ret_i C rfl dX6_greater_10 () trivial (by omega) [] rfl (by (repeat' split) <;> first | rfl | omega)

set_option maxHeartbeats 4000000 in
set_option maxRecDepth 100000 in
theorem c_X6_share (l : Launch) (X : gX) (p1 : Int) (p2 : Int) (w : Int) (h1 : 0 ≤ p1 ∧ p1 < 4611686018427387904) (h2 : 1 ≤ p2 ∧ p2 < 4611686018427387904) (hw : inB w) : gM l yX6_share wsX6_share (gr 0 0 0) X [] [.long (lI p1), .long (lI p2), .int (iI w)] (gQl X (Y := Unit) (fun _ => True) (fun _ => (shV p1 p2 w)) (fun _ => [])) 0 0 := by
  refine g_start2 (lo := [(0, .long (lI p1)), (2, .long (lI p2)), (4, .int (iI w))]) (by decide +kernel) rfl rfl (Nat.le_of_ble_eq_true rfl) (fun p e s m args below meth c A C => ?_)
  refine r_lload_n C dX6_share_0 0 rfl ?_
  refine r_lstore (lo2 := [(5, .long (lI p1)), (0, .long (lI p1)), (2, .long (lI p2)), (4, .int (iI w))]) C dX6_share_1 (by decide) rfl ?_
  refine r_lload_n C dX6_share_3 2 rfl ?_
  refine r_lstore (lo2 := [(7, .long (lI p2)), (5, .long (lI p1)), (0, .long (lI p1)), (2, .long (lI p2)), (4, .int (iI w))]) C dX6_share_4 (by decide) rfl ?_
  have L6 : ∀ (fu6 : Nat) (a1 : Int) (b1 : Int), (0 ≤ a1 ∧ a1 < 4611686018427387904) → (0 ≤ b1 ∧ b1 < 4611686018427387904) → (gcV p1 p2 = gcV a1 b1) → b1.toNat < fu6 → gW p l e (gr 0 0 0) s m args below meth c X A 11 (MQ below ((gQl X (Y := Unit) (fun _ => True) (fun _ => (shV p1 p2 w)) (fun _ => [])) A) args s 0 0 A) 0 0 [] 6 [(0, .long (lI p1)), (2, .long (lI p2)), (4, .int (iI w)), (5, .long (lI a1)), (7, .long (lI b1))] [] := by
    intro fu6
    induction fu6 with
    | zero => intro a1 b1 ia ib iE hm6; exact absurd hm6 (Nat.not_lt_zero _)
    | succ fu6 ih6 =>
      intro a1 b1 ia ib iE hm6
      refine r_lload C dX6_share_6 4 rfl ?_
      refine r_lconst (z := 0) C dX6_share_8 rfl ?_
      refine r_lcmp_eq (tgt := 31) C dX6_share_9 dX6_share_10 (by decide) (by omega) (by decide) (fun h_1 => ?_) (fun h_1 => ?_)
      · skip
        have hg := gcV_B p2.toNat p1 p2 (Nat.le_refl _) (by omega) (by omega) (Or.inr (by omega))
        have he : gcV p1 p2 = a1 := by rw [iE, show b1 = 0 by omega, gcV_0]
        have ha1 : 1 ≤ a1 := by omega
        refine r_iload C dX6_share_31 2 rfl ?_
        refine r_if_ne (tgt := 40) C dX6_share_33 (by decide) (by omega) (fun h_2 => ?_) (fun h_2 => ?_)
        · skip
          refine r_lload_n C dX6_share_40 1 rfl ?_
          refine r_lload C dX6_share_41 3 rfl ?_
          refine r_ldiv C dX6_share_43 (by omega) (by omega) ?_
          exact g_ret_l C rfl dX6_share_44 () trivial (by unfold shV; rw [he]; first | (rw [if_pos (by omega)]; done) | (rw [if_neg (by omega)]; done)) [] rfl (by (repeat' split) <;> first | rfl | omega)
        · skip
          refine r_lload_n C dX6_share_36 0 rfl ?_
          refine r_goto (tgt := 41) C dX6_share_37 (by decide) ?_
          refine r_lload C dX6_share_41 3 rfl ?_
          refine r_ldiv C dX6_share_43 (by omega) (by omega) ?_
          exact g_ret_l C rfl dX6_share_44 () trivial (by unfold shV; rw [he]; first | (rw [if_pos (by omega)]; done) | (rw [if_neg (by omega)]; done)) [] rfl (by (repeat' split) <;> first | rfl | omega)
      · skip
        have hm := modB (a := a1) (b := b1) (by omega)
        refine r_lload C dX6_share_13 3 rfl ?_
        refine r_lload C dX6_share_15 4 rfl ?_
        refine r_lrem C dX6_share_17 (by omega) (by omega) ?_
        refine r_lstore (lo2 := [(9, .long (lI (a1 % b1))), (0, .long (lI p1)), (2, .long (lI p2)), (4, .int (iI w)), (5, .long (lI a1)), (7, .long (lI b1))]) C dX6_share_18 (by decide) rfl ?_
        refine r_lload C dX6_share_20 5 rfl ?_
        refine r_lstore (lo2 := [(5, .long (lI b1)), (9, .long (lI (a1 % b1))), (0, .long (lI p1)), (2, .long (lI p2)), (4, .int (iI w)), (7, .long (lI b1))]) C dX6_share_22 (by decide) rfl ?_
        refine r_lload C dX6_share_24 1 rfl ?_
        refine r_lstore (lo2 := [(7, .long (lI (a1 % b1))), (5, .long (lI b1)), (9, .long (lI (a1 % b1))), (0, .long (lI p1)), (2, .long (lI p2)), (4, .int (iI w))]) C dX6_share_26 (by decide) rfl ?_
        refine r_goto (tgt := 6) C dX6_share_28 (by decide) ?_
        refine r_lo [3, 4, 5, 1, 0] (lo2 := [(0, .long (lI p1)), (2, .long (lI p2)), (4, .int (iI w)), (5, .long (lI b1)), (7, .long (lI (a1 % b1)))]) rfl ?_
        exact ih6 b1 (a1 % b1) (by omega) (by omega) (by rw [iE, gcV_go (by omega)]) (by omega)
  refine r_lo [2, 3, 4, 1, 0] (lo2 := [(0, .long (lI p1)), (2, .long (lI p2)), (4, .int (iI w)), (5, .long (lI p1)), (7, .long (lI p2))]) rfl ?_
  exact L6 (p2.toNat + 1) p1 p2 (by omega) (by omega) rfl (Nat.lt_succ_self _)

set_option maxRecDepth 20000 in
theorem kw_X6_refused_0 : Cond.fieldLink RX6 71 "SkipStonesModel" "fault" "I" ∈ wsX6_refused := List.mem_of_getElem? (i := 1) rfl
set_option maxRecDepth 20000 in
theorem hi_X6_refused_6 : ∀ w ∈ wsX60, w ∈ wsX6_refused := fun _ h => List.mem_cons_of_mem _ (List.mem_append_right _ h)
set_option maxHeartbeats 4000000 in
set_option maxRecDepth 100000 in
theorem c_X6_refused (l : Launch) (X : gX) (h0 : Nat) (u2 : Nat) (u3 : Nat) (u4 : Nat) (u5 : Nat) (u6 : Nat) (u7 : Nat) (u8 : Nat) (u11 : Nat) (u14 : Nat) (u16 : Nat) (u20 : Nat) (u21 : Nat) (u22 : Nat) (u23 : Nat) (u24 : Nat) (ft : Int) (sc : Int) (rm : Int) (wc : Int) (sh : Int) (tq : Int) (cnt : Int) (gf : Int) (gs : Int) (rc : Int) (tc : Int) (k : Int) : gM l yX6_refused wsX6_refused (gr 0 0 0) X [(h0, .inr (6, [.int (iI ft), .int (iI sc), .ref u2, .ref u3, .ref u4, .ref u5, .ref u6, .ref u7, .ref u8, .int (iI rm), .int (iI wc), .ref u11, .int (iI sh), .int (iI tq), .ref u14, .int (iI cnt), .ref u16, .int (iI gf), .int (iI gs), .int (iI rc), .ref u20, .ref u21, .ref u22, .ref u23, .ref u24, .int (iI tc)]))] [.ref h0, .int (iI k)] (gQi X (Y := Unit) (fun _ => True) (fun _ => k) (fun _ => [(h0, .inr (6, [.int (iI 0), .int (iI sc), .ref u2, .ref u3, .ref u4, .ref u5, .ref u6, .ref u7, .ref u8, .int (iI rm), .int (iI wc), .ref u11, .int (iI sh), .int (iI tq), .ref u14, .int (iI cnt), .ref u16, .int (iI gf), .int (iI gs), .int (iI rc), .ref u20, .ref u21, .ref u22, .ref u23, .ref u24, .int (iI tc)]))])) 0 0 := by
  refine g_start2 (lo := [(0, .ref h0), (1, .int (iI k))]) (by decide +kernel) rfl rfl (Nat.le_of_ble_eq_true rfl) (fun p e s m args below meth c A C => ?_)
  refine r_aload_n C dX6_refused_0 0 rfl ?_
  refine r_iconst C dX6_refused_1 ?_
  refine pf_6_0 (ws2 := [(h0, .inr (6, [.int (iI 0), .int (iI sc), .ref u2, .ref u3, .ref u4, .ref u5, .ref u6, .ref u7, .ref u8, .int (iI rm), .int (iI wc), .ref u11, .int (iI sh), .int (iI tq), .ref u14, .int (iI cnt), .ref u16, .int (iI gf), .int (iI gs), .int (iI rc), .ref u20, .ref u21, .ref u22, .ref u23, .ref u24, .int (iI tc)]))]) C hi_X6_refused_6 kw_X6_refused_0 dX6_refused_2 0 rfl rfl rfl (Nat.le_of_ble_eq_true rfl) rfl ?_
  refine r_iload_n C dX6_refused_5 1 rfl ?_
  exact g_ret_i C rfl dX6_refused_6 () trivial (by (repeat' split) <;> first | rfl | omega) [0] rfl (by (repeat' split) <;> first | rfl | omega)

set_option maxRecDepth 20000 in
theorem kw_X6_failed_0 : Cond.fieldLink RX6 71 "SkipStonesModel" "fault" "I" ∈ wsX6_failed := List.mem_of_getElem? (i := 1) rfl
set_option maxRecDepth 20000 in
theorem hi_X6_failed_6 : ∀ w ∈ wsX60, w ∈ wsX6_failed := fun _ h => List.mem_cons_of_mem _ (List.mem_append_right _ h)
set_option maxHeartbeats 4000000 in
set_option maxRecDepth 100000 in
theorem c_X6_failed (l : Launch) (X : gX) (h0 : Nat) (u2 : Nat) (u3 : Nat) (u4 : Nat) (u5 : Nat) (u6 : Nat) (u7 : Nat) (u8 : Nat) (u11 : Nat) (u14 : Nat) (u16 : Nat) (u20 : Nat) (u21 : Nat) (u22 : Nat) (u23 : Nat) (u24 : Nat) (ft : Int) (sc : Int) (rm : Int) (wc : Int) (sh : Int) (tq : Int) (cnt : Int) (gf : Int) (gs : Int) (rc : Int) (tc : Int) (k : Int) : gM l yX6_failed wsX6_failed (gr 0 0 0) X [(h0, .inr (6, [.int (iI ft), .int (iI sc), .ref u2, .ref u3, .ref u4, .ref u5, .ref u6, .ref u7, .ref u8, .int (iI rm), .int (iI wc), .ref u11, .int (iI sh), .int (iI tq), .ref u14, .int (iI cnt), .ref u16, .int (iI gf), .int (iI gs), .int (iI rc), .ref u20, .ref u21, .ref u22, .ref u23, .ref u24, .int (iI tc)]))] [.ref h0, .int (iI k)] (gQi X (Y := Unit) (fun _ => True) (fun _ => (-10 - k)) (fun _ => [(h0, .inr (6, [.int (iI k), .int (iI sc), .ref u2, .ref u3, .ref u4, .ref u5, .ref u6, .ref u7, .ref u8, .int (iI rm), .int (iI wc), .ref u11, .int (iI sh), .int (iI tq), .ref u14, .int (iI cnt), .ref u16, .int (iI gf), .int (iI gs), .int (iI rc), .ref u20, .ref u21, .ref u22, .ref u23, .ref u24, .int (iI tc)]))])) 0 0 := by
  refine g_start2 (lo := [(0, .ref h0), (1, .int (iI k))]) (by decide +kernel) rfl rfl (Nat.le_of_ble_eq_true rfl) (fun p e s m args below meth c A C => ?_)
  refine r_aload_n C dX6_failed_0 0 rfl ?_
  refine r_iload_n C dX6_failed_1 1 rfl ?_
  refine pf_6_0 (ws2 := [(h0, .inr (6, [.int (iI k), .int (iI sc), .ref u2, .ref u3, .ref u4, .ref u5, .ref u6, .ref u7, .ref u8, .int (iI rm), .int (iI wc), .ref u11, .int (iI sh), .int (iI tq), .ref u14, .int (iI cnt), .ref u16, .int (iI gf), .int (iI gs), .int (iI rc), .ref u20, .ref u21, .ref u22, .ref u23, .ref u24, .int (iI tc)]))]) C hi_X6_failed_6 kw_X6_failed_0 dX6_failed_2 0 rfl rfl rfl (Nat.le_of_ble_eq_true rfl) rfl ?_
  refine r_bipush C dX6_failed_5 (by decide) ?_
  refine r_iload_n C dX6_failed_7 1 rfl ?_
  refine r_isub C dX6_failed_8 ?_
  exact g_ret_i C rfl dX6_failed_9 () trivial (by (repeat' split) <;> first | rfl | omega) [0] rfl (by (repeat' split) <;> first | rfl | omega)

set_option maxRecDepth 20000 in
theorem kw_X6_failedLong_0 : Cond.fieldLink RX6 71 "SkipStonesModel" "fault" "I" ∈ wsX6_failedLong := List.mem_of_getElem? (i := 1) rfl
set_option maxRecDepth 20000 in
theorem hd_S_X6_lost_X6_failedLong : yX6_lost.cls ≠ "java/lang/invoke/MethodHandle" ∧ yX6_lost.cls ≠ "java/lang/invoke/VarHandle" ∧ (parseMethodDescriptor yX6_lost.desc).map (fun d => d.parameters.length) = some 0 := by decide +kernel
set_option maxRecDepth 20000 in
theorem hi_X6_failedLong_6 : ∀ w ∈ wsX60, w ∈ wsX6_failedLong := fun _ h => List.mem_cons_of_mem _ (List.mem_append_right _ h)
set_option maxHeartbeats 4000000 in
set_option maxRecDepth 100000 in
theorem c_X6_failedLong (l : Launch) (X : gX) (h0 : Nat) (u2 : Nat) (u3 : Nat) (u4 : Nat) (u5 : Nat) (u6 : Nat) (u7 : Nat) (u8 : Nat) (u11 : Nat) (u14 : Nat) (u16 : Nat) (u20 : Nat) (u21 : Nat) (u22 : Nat) (u23 : Nat) (u24 : Nat) (ft : Int) (sc : Int) (rm : Int) (wc : Int) (sh : Int) (tq : Int) (cnt : Int) (gf : Int) (gs : Int) (rc : Int) (tc : Int) (k : Int) : gM l yX6_failedLong wsX6_failedLong (gr 1 0 0) X [(h0, .inr (6, [.int (iI ft), .int (iI sc), .ref u2, .ref u3, .ref u4, .ref u5, .ref u6, .ref u7, .ref u8, .int (iI rm), .int (iI wc), .ref u11, .int (iI sh), .int (iI tq), .ref u14, .int (iI cnt), .ref u16, .int (iI gf), .int (iI gs), .int (iI rc), .ref u20, .ref u21, .ref u22, .ref u23, .ref u24, .int (iI tc)]))] [.ref h0, .int (iI k)] (gQl X (Y := Unit) (fun _ => True) (fun _ => -9223372036854775808) (fun _ => [(h0, .inr (6, [.int (iI k), .int (iI sc), .ref u2, .ref u3, .ref u4, .ref u5, .ref u6, .ref u7, .ref u8, .int (iI rm), .int (iI wc), .ref u11, .int (iI sh), .int (iI tq), .ref u14, .int (iI cnt), .ref u16, .int (iI gf), .int (iI gs), .int (iI rc), .ref u20, .ref u21, .ref u22, .ref u23, .ref u24, .int (iI tc)]))])) 0 0 := by
  refine g_start2 (lo := [(0, .ref h0), (1, .int (iI k))]) (by decide +kernel) rfl rfl (Nat.le_of_ble_eq_true rfl) (fun p e s m args below meth c A C => ?_)
  refine r_aload_n C dX6_failedLong_0 0 rfl ?_
  refine r_iload_n C dX6_failedLong_1 1 rfl ?_
  refine pf_6_0 (ws2 := [(h0, .inr (6, [.int (iI k), .int (iI sc), .ref u2, .ref u3, .ref u4, .ref u5, .ref u6, .ref u7, .ref u8, .int (iI rm), .int (iI wc), .ref u11, .int (iI sh), .int (iI tq), .ref u14, .int (iI cnt), .ref u16, .int (iI gf), .int (iI gs), .int (iI rc), .ref u20, .ref u21, .ref u22, .ref u23, .ref u24, .int (iI tc)]))]) C hi_X6_failedLong_6 kw_X6_failedLong_0 dX6_failedLong_2 0 rfl rfl rfl (Nat.le_of_ble_eq_true rfl) rfl ?_
  refine g_S_l (ws2 := (fun _ => [(h0, .inr (6, [.int (iI k), .int (iI sc), .ref u2, .ref u3, .ref u4, .ref u5, .ref u6, .ref u7, .ref u8, .int (iI rm), .int (iI wc), .ref u11, .int (iI sh), .int (iI tq), .ref u14, .int (iI cnt), .ref u16, .int (iI gf), .int (iI gs), .int (iI rc), .ref u20, .ref u21, .ref u22, .ref u23, .ref u24, .int (iI tc)]))])) (As := []) C (c_X6_lost l X  ) gX6_failedLong_X6_lost rfl rfl rfl hd_S_X6_lost_X6_failedLong (by decide) dX6_failedLong_5 [] [0] [0] rfl rfl rfl rfl (by decide) rfl rfl rfl (Nat.le_of_ble_eq_true rfl) (by decide) (fun _ => rfl) (fun _ hy_ => ?_)
  clear hy_
  exact g_ret_l C rfl dX6_failedLong_8 () trivial (by (repeat' split) <;> first | rfl | omega) [0] rfl (by (repeat' split) <;> first | rfl | omega)

set_option maxRecDepth 20000 in
theorem kw_X6_noStone_0 : Cond.fieldLink RX6 98 "SkipStonesModel" "stones" "I" ∈ wsX6_noStone := List.mem_of_getElem? (i := 1) rfl
set_option maxRecDepth 20000 in
theorem hd_S_X6_in_X6_noStone : yX6_in.cls ≠ "java/lang/invoke/MethodHandle" ∧ yX6_in.cls ≠ "java/lang/invoke/VarHandle" ∧ (parseMethodDescriptor yX6_in.desc).map (fun d => d.parameters.length) = some 3 := by decide +kernel
set_option maxRecDepth 20000 in
theorem hi_X6_noStone_6 : ∀ w ∈ wsX60, w ∈ wsX6_noStone := fun _ h => List.mem_cons_of_mem _ (List.mem_append_right _ h)
set_option maxHeartbeats 4000000 in
set_option maxRecDepth 100000 in
theorem c_X6_noStone (l : Launch) (X : gX) (h0 : Nat) (u2 : Nat) (u3 : Nat) (u4 : Nat) (u5 : Nat) (u6 : Nat) (u7 : Nat) (u8 : Nat) (u11 : Nat) (u14 : Nat) (u16 : Nat) (u20 : Nat) (u21 : Nat) (u22 : Nat) (u23 : Nat) (u24 : Nat) (ft : Int) (sc : Int) (rm : Int) (wc : Int) (sh : Int) (tq : Int) (cnt : Int) (gf : Int) (gs : Int) (rc : Int) (tc : Int) (x : Int) (hb_x : inB x) (hsc : 0 ≤ sc ∧ sc ≤ 8) : gM l yX6_noStone wsX6_noStone (gr 1 0 0) X [(h0, .inr (6, [.int (iI ft), .int (iI sc), .ref u2, .ref u3, .ref u4, .ref u5, .ref u6, .ref u7, .ref u8, .int (iI rm), .int (iI wc), .ref u11, .int (iI sh), .int (iI tq), .ref u14, .int (iI cnt), .ref u16, .int (iI gf), .int (iI gs), .int (iI rc), .ref u20, .ref u21, .ref u22, .ref u23, .ref u24, .int (iI tc)]))] [.ref h0, .int (iI x)] (gQi X (Y := Unit) (fun _ => True) (fun _ => (if (¬ (0 ≤ x ∧ x < sc)) then 1 else 0)) (fun _ => [(h0, .inr (6, [.int (iI ft), .int (iI sc), .ref u2, .ref u3, .ref u4, .ref u5, .ref u6, .ref u7, .ref u8, .int (iI rm), .int (iI wc), .ref u11, .int (iI sh), .int (iI tq), .ref u14, .int (iI cnt), .ref u16, .int (iI gf), .int (iI gs), .int (iI rc), .ref u20, .ref u21, .ref u22, .ref u23, .ref u24, .int (iI tc)]))])) 0 0 := by
  refine g_start2 (lo := [(0, .ref h0), (1, .int (iI x))]) (by decide +kernel) rfl rfl (Nat.le_of_ble_eq_true rfl) (fun p e s m args below meth c A C => ?_)
  refine r_iload_n C dX6_noStone_0 1 rfl ?_
  refine r_i2l C dX6_noStone_1 (by omega) ?_
  refine r_lconst (z := 0) C dX6_noStone_2 rfl ?_
  refine r_aload_n C dX6_noStone_3 0 rfl ?_
  refine gf_6_1 C hi_X6_noStone_6 kw_X6_noStone_0 dX6_noStone_4 0 rfl rfl ?_
  refine r_i2l C dX6_noStone_7 (by omega) ?_
  refine r_lconst (z := 1) C dX6_noStone_8 rfl ?_
  refine r_lsub C dX6_noStone_9 ?_
  refine g_S_i (ws2 := (fun _ => [(h0, .inr (6, [.int (iI ft), .int (iI sc), .ref u2, .ref u3, .ref u4, .ref u5, .ref u6, .ref u7, .ref u8, .int (iI rm), .int (iI wc), .ref u11, .int (iI sh), .int (iI tq), .ref u14, .int (iI cnt), .ref u16, .int (iI gf), .int (iI gs), .int (iI rc), .ref u20, .ref u21, .ref u22, .ref u23, .ref u24, .int (iI tc)]))])) (As := [.long (lI x), .long (lI 0), .long (lI (sc - 1))]) C (c_X6_in l X x 0 (sc - 1) (by first | assumption | omega) (by first | assumption | omega) (by first | assumption | omega)) gX6_noStone_X6_in rfl rfl rfl hd_S_X6_in_X6_noStone (by decide) dX6_noStone_10 [] [0] [0] rfl rfl rfl rfl (by decide) rfl rfl rfl (Nat.le_of_ble_eq_true rfl) (by decide) (fun _ => rfl) (fun _ hy_ => ?_)
  clear hy_
  refine r_ite (fun h_1 => ?_) (fun h_1 => ?_)
  · skip
    refine r_if_ne (tgt := 20) C dX6_noStone_13 (by decide) (by decide) (fun h_2 => ?_) (fun h_2 => absurd h_2 (by decide))
    refine r_iconst C dX6_noStone_20 ?_
    exact g_ret_z C rfl (by decide) dX6_noStone_21 () trivial (by (repeat' split) <;> first | rfl | omega) [0] rfl (by (repeat' split) <;> first | rfl | omega)
  · skip
    refine r_if_ne (tgt := 20) C dX6_noStone_13 (by decide) (by decide) (fun h_3 => absurd h_3 (by decide)) (fun h_3 => ?_)
    refine r_iconst C dX6_noStone_16 ?_
    refine r_goto (tgt := 21) C dX6_noStone_17 (by decide) ?_
    exact g_ret_z C rfl (by decide) dX6_noStone_21 () trivial (by (repeat' split) <;> first | rfl | omega) [0] rfl (by (repeat' split) <;> first | rfl | omega)

set_option maxRecDepth 20000 in
theorem kw_X6_stone_0 : Cond.constantLong RX6 101 (99) ∈ wsX6_stone := List.mem_of_getElem? (i := 1) rfl
set_option maxRecDepth 20000 in
theorem hd_S_X6_in_X6_stone : yX6_in.cls ≠ "java/lang/invoke/MethodHandle" ∧ yX6_in.cls ≠ "java/lang/invoke/VarHandle" ∧ (parseMethodDescriptor yX6_in.desc).map (fun d => d.parameters.length) = some 3 := by decide +kernel
set_option maxRecDepth 20000 in
theorem kw_X6_stone_1 : Cond.constantLong RX6 103 (9) ∈ wsX6_stone := List.mem_of_getElem? (i := 2) rfl
set_option maxRecDepth 20000 in
theorem kw_X6_stone_2 : Cond.fieldLink RX6 98 "SkipStonesModel" "stones" "I" ∈ wsX6_stone := List.mem_of_getElem? (i := 3) rfl
set_option maxRecDepth 20000 in
theorem hi_X6_stone_6 : ∀ w ∈ wsX60, w ∈ wsX6_stone := fun _ h => List.mem_cons_of_mem _ (List.mem_append_right _ h)
set_option maxHeartbeats 4000000 in
set_option maxRecDepth 100000 in
theorem c_X6_stone_no (l : Launch) (X : gX) (h0 : Nat) (u2 : Nat) (u3 : Nat) (u4 : Nat) (u5 : Nat) (u6 : Nat) (u7 : Nat) (u8 : Nat) (u11 : Nat) (u14 : Nat) (u16 : Nat) (u20 : Nat) (u21 : Nat) (u22 : Nat) (u23 : Nat) (u24 : Nat) (ft : Int) (sc : Int) (rm : Int) (wc : Int) (sh : Int) (tq : Int) (cnt : Int) (gf : Int) (gs : Int) (rc : Int) (tc : Int) (Wt : Nat → Int) (Wd : Nat → Int) (Rg : Nat → Int) (p1 : Int) (p2 : Int) (p3 : Int) (hb_p1 : inB p1) (hb_p2 : inB p2) (hb_p3 : inB p3) (hsc : 0 ≤ sc ∧ sc ≤ 8) (hv : ¬ (1 ≤ p1 ∧ p1 ≤ 99 ∧ 1 ≤ p2 ∧ p2 ≤ 99 ∧ 0 ≤ p3 ∧ p3 ≤ 9) ∨ sc = 8) : gM l yX6_stone wsX6_stone (gr 1 0 0) X [(h0, .inr (6, [.int (iI ft), .int (iI sc), .ref u2, .ref u3, .ref u4, .ref u5, .ref u6, .ref u7, .ref u8, .int (iI rm), .int (iI wc), .ref u11, .int (iI sh), .int (iI tq), .ref u14, .int (iI cnt), .ref u16, .int (iI gf), .int (iI gs), .int (iI rc), .ref u20, .ref u21, .ref u22, .ref u23, .ref u24, .int (iI tc)])), (u2, .inl (X.2.1.1, 8, .inl (iF Wt))), (u3, .inl (X.2.1.1, 8, .inl (iF Wd))), (u4, .inl (X.2.1.1, 8, .inl (iF Rg)))] [.ref h0, .int (iI p1), .int (iI p2), .int (iI p3)] (gQi X (Y := Unit) (fun _ => True) (fun _ => (if (1 ≤ p1 ∧ p1 ≤ 99 ∧ 1 ≤ p2 ∧ p2 ≤ 99 ∧ 0 ≤ p3 ∧ p3 ≤ 9) then -4 else -2)) (fun _ => [(h0, .inr (6, [.int (iI ft), .int (iI sc), .ref u2, .ref u3, .ref u4, .ref u5, .ref u6, .ref u7, .ref u8, .int (iI rm), .int (iI wc), .ref u11, .int (iI sh), .int (iI tq), .ref u14, .int (iI cnt), .ref u16, .int (iI gf), .int (iI gs), .int (iI rc), .ref u20, .ref u21, .ref u22, .ref u23, .ref u24, .int (iI tc)])), (u2, .inl (X.2.1.1, 8, .inl (iF Wt))), (u3, .inl (X.2.1.1, 8, .inl (iF Wd))), (u4, .inl (X.2.1.1, 8, .inl (iF Rg)))])) 0 0 := by
  refine g_start2 (lo := [(0, .ref h0), (1, .int (iI p1)), (2, .int (iI p2)), (3, .int (iI p3))]) (by decide +kernel) rfl rfl (Nat.le_of_ble_eq_true rfl) (fun p e s m args below meth c A C => ?_)
  refine r_iload_n C dX6_stone_0 1 rfl ?_
  refine r_i2l C dX6_stone_1 (by omega) ?_
  refine r_lconst (z := 1) C dX6_stone_2 rfl ?_
  refine r_ldc2 (z := 99) C dX6_stone_3 kw_X6_stone_0 rfl ?_
  refine g_S_i (ws2 := (fun _ => [(h0, .inr (6, [.int (iI ft), .int (iI sc), .ref u2, .ref u3, .ref u4, .ref u5, .ref u6, .ref u7, .ref u8, .int (iI rm), .int (iI wc), .ref u11, .int (iI sh), .int (iI tq), .ref u14, .int (iI cnt), .ref u16, .int (iI gf), .int (iI gs), .int (iI rc), .ref u20, .ref u21, .ref u22, .ref u23, .ref u24, .int (iI tc)])), (u2, .inl (X.2.1.1, 8, .inl (iF Wt))), (u3, .inl (X.2.1.1, 8, .inl (iF Wd))), (u4, .inl (X.2.1.1, 8, .inl (iF Rg)))])) (As := [.long (lI p1), .long (lI 1), .long (lI 99)]) C (c_X6_in l X p1 1 99 (by first | assumption | omega) (by first | assumption | omega) (by first | assumption | omega)) gX6_stone_X6_in rfl rfl rfl hd_S_X6_in_X6_stone (by decide) dX6_stone_6 [] [0, 1, 2, 3] [0, 1, 2, 3] rfl rfl rfl rfl (by decide) rfl rfl rfl (Nat.le_of_ble_eq_true rfl) (by decide) (fun _ => rfl) (fun _ hy_ => ?_)
  clear hy_
  refine r_ite (fun h_1 => ?_) (fun h_1 => ?_)
  · skip
    refine r_if_eq (tgt := 36) C dX6_stone_9 (by decide) (by decide) (fun h_2 => absurd h_2 (by decide)) (fun h_2 => ?_)
    refine r_iload_n C dX6_stone_12 2 rfl ?_
    refine r_i2l C dX6_stone_13 (by omega) ?_
    refine r_lconst (z := 1) C dX6_stone_14 rfl ?_
    refine r_ldc2 (z := 99) C dX6_stone_15 kw_X6_stone_0 rfl ?_
    refine g_S_i (ws2 := (fun _ => [(h0, .inr (6, [.int (iI ft), .int (iI sc), .ref u2, .ref u3, .ref u4, .ref u5, .ref u6, .ref u7, .ref u8, .int (iI rm), .int (iI wc), .ref u11, .int (iI sh), .int (iI tq), .ref u14, .int (iI cnt), .ref u16, .int (iI gf), .int (iI gs), .int (iI rc), .ref u20, .ref u21, .ref u22, .ref u23, .ref u24, .int (iI tc)])), (u2, .inl (X.2.1.1, 8, .inl (iF Wt))), (u3, .inl (X.2.1.1, 8, .inl (iF Wd))), (u4, .inl (X.2.1.1, 8, .inl (iF Rg)))])) (As := [.long (lI p2), .long (lI 1), .long (lI 99)]) C (c_X6_in l X p2 1 99 (by first | assumption | omega) (by first | assumption | omega) (by first | assumption | omega)) gX6_stone_X6_in rfl rfl rfl hd_S_X6_in_X6_stone (by decide) dX6_stone_18 [] [0, 1, 2, 3] [0, 1, 2, 3] rfl rfl rfl rfl (by decide) rfl rfl rfl (Nat.le_of_ble_eq_true rfl) (by decide) (fun _ => rfl) (fun _ hy_ => ?_)
    clear hy_
    refine r_ite (fun h_3 => ?_) (fun h_3 => ?_)
    · skip
      refine r_if_eq (tgt := 36) C dX6_stone_21 (by decide) (by decide) (fun h_4 => absurd h_4 (by decide)) (fun h_4 => ?_)
      refine r_iload_n C dX6_stone_24 3 rfl ?_
      refine r_i2l C dX6_stone_25 (by omega) ?_
      refine r_lconst (z := 0) C dX6_stone_26 rfl ?_
      refine r_ldc2 (z := 9) C dX6_stone_27 kw_X6_stone_1 rfl ?_
      refine g_S_i (ws2 := (fun _ => [(h0, .inr (6, [.int (iI ft), .int (iI sc), .ref u2, .ref u3, .ref u4, .ref u5, .ref u6, .ref u7, .ref u8, .int (iI rm), .int (iI wc), .ref u11, .int (iI sh), .int (iI tq), .ref u14, .int (iI cnt), .ref u16, .int (iI gf), .int (iI gs), .int (iI rc), .ref u20, .ref u21, .ref u22, .ref u23, .ref u24, .int (iI tc)])), (u2, .inl (X.2.1.1, 8, .inl (iF Wt))), (u3, .inl (X.2.1.1, 8, .inl (iF Wd))), (u4, .inl (X.2.1.1, 8, .inl (iF Rg)))])) (As := [.long (lI p3), .long (lI 0), .long (lI 9)]) C (c_X6_in l X p3 0 9 (by first | assumption | omega) (by first | assumption | omega) (by first | assumption | omega)) gX6_stone_X6_in rfl rfl rfl hd_S_X6_in_X6_stone (by decide) dX6_stone_30 [] [0, 1, 2, 3] [0, 1, 2, 3] rfl rfl rfl rfl (by decide) rfl rfl rfl (Nat.le_of_ble_eq_true rfl) (by decide) (fun _ => rfl) (fun _ hy_ => ?_)
      clear hy_
      refine r_ite (fun h_5 => ?_) (fun h_5 => ?_)
      · skip
        refine r_if_ne (tgt := 39) C dX6_stone_33 (by decide) (by decide) (fun h_6 => ?_) (fun h_6 => absurd h_6 (by decide))
        refine r_aload_n C dX6_stone_39 0 rfl ?_
        refine gf_6_1 C hi_X6_stone_6 kw_X6_stone_2 dX6_stone_40 0 rfl rfl ?_
        refine r_bipush C dX6_stone_43 (by decide) ?_
        refine r_icmp_ne (tgt := 51) C dX6_stone_45 (by decide) (by omega) (by decide) (fun h_7 => absurd h_7 (by omega)) (fun h_7 => ?_)
        refine r_bipush C dX6_stone_48 (by decide) ?_
        exact g_ret_i C rfl dX6_stone_50 () trivial (by (repeat' split) <;> first | rfl | omega) [0, 1, 2, 3] rfl (by (repeat' split) <;> first | rfl | omega)
      · skip
        refine r_if_ne (tgt := 39) C dX6_stone_33 (by decide) (by decide) (fun h_8 => absurd h_8 (by decide)) (fun h_8 => ?_)
        refine r_bipush C dX6_stone_36 (by decide) ?_
        exact g_ret_i C rfl dX6_stone_38 () trivial (by (repeat' split) <;> first | rfl | omega) [0, 1, 2, 3] rfl (by (repeat' split) <;> first | rfl | omega)
    · skip
      refine r_if_eq (tgt := 36) C dX6_stone_21 (by decide) (by decide) (fun h_9 => ?_) (fun h_9 => absurd h_9 (by decide))
      refine r_bipush C dX6_stone_36 (by decide) ?_
      exact g_ret_i C rfl dX6_stone_38 () trivial (by (repeat' split) <;> first | rfl | omega) [0, 1, 2, 3] rfl (by (repeat' split) <;> first | rfl | omega)
  · skip
    refine r_if_eq (tgt := 36) C dX6_stone_9 (by decide) (by decide) (fun h_10 => ?_) (fun h_10 => absurd h_10 (by decide))
    refine r_bipush C dX6_stone_36 (by decide) ?_
    exact g_ret_i C rfl dX6_stone_38 () trivial (by (repeat' split) <;> first | rfl | omega) [0, 1, 2, 3] rfl (by (repeat' split) <;> first | rfl | omega)

set_option maxRecDepth 20000 in
theorem kw_X6_stone_3 : Cond.fieldLink RX6 7 "SkipStonesModel" "weightOf" "[I" ∈ wsX6_stone := List.mem_of_getElem? (i := 4) rfl
set_option maxRecDepth 20000 in
theorem kw_X6_stone_4 : Cond.fieldLink RX6 13 "SkipStonesModel" "wideOf" "[I" ∈ wsX6_stone := List.mem_of_getElem? (i := 5) rfl
set_option maxRecDepth 20000 in
theorem kw_X6_stone_5 : Cond.fieldLink RX6 16 "SkipStonesModel" "roughOf" "[I" ∈ wsX6_stone := List.mem_of_getElem? (i := 6) rfl
set_option maxHeartbeats 4000000 in
set_option maxRecDepth 100000 in
theorem c_X6_stone_add (l : Launch) (X : gX) (h0 : Nat) (u2 : Nat) (u3 : Nat) (u4 : Nat) (u5 : Nat) (u6 : Nat) (u7 : Nat) (u8 : Nat) (u11 : Nat) (u14 : Nat) (u16 : Nat) (u20 : Nat) (u21 : Nat) (u22 : Nat) (u23 : Nat) (u24 : Nat) (ft : Int) (sc : Int) (rm : Int) (wc : Int) (sh : Int) (tq : Int) (cnt : Int) (gf : Int) (gs : Int) (rc : Int) (tc : Int) (Wt : Nat → Int) (Wd : Nat → Int) (Rg : Nat → Int) (p1 : Int) (p2 : Int) (p3 : Int) (hc : 0 ≤ sc ∧ sc < 8) (hv : 1 ≤ p1 ∧ p1 ≤ 99 ∧ 1 ≤ p2 ∧ p2 ≤ 99 ∧ 0 ≤ p3 ∧ p3 ≤ 9) : gM l yX6_stone wsX6_stone (gr 1 0 0) X [(h0, .inr (6, [.int (iI ft), .int (iI sc), .ref u2, .ref u3, .ref u4, .ref u5, .ref u6, .ref u7, .ref u8, .int (iI rm), .int (iI wc), .ref u11, .int (iI sh), .int (iI tq), .ref u14, .int (iI cnt), .ref u16, .int (iI gf), .int (iI gs), .int (iI rc), .ref u20, .ref u21, .ref u22, .ref u23, .ref u24, .int (iI tc)])), (u2, .inl (X.2.1.1, 8, .inl (iF Wt))), (u3, .inl (X.2.1.1, 8, .inl (iF Wd))), (u4, .inl (X.2.1.1, 8, .inl (iF Rg)))] [.ref h0, .int (iI p1), .int (iI p2), .int (iI p3)] (gQi X (Y := Unit) (fun _ => True) (fun _ => sc) (fun _ => [(h0, .inr (6, [.int (iI ft), .int (iI (sc + 1)), .ref u2, .ref u3, .ref u4, .ref u5, .ref u6, .ref u7, .ref u8, .int (iI rm), .int (iI wc), .ref u11, .int (iI sh), .int (iI tq), .ref u14, .int (iI cnt), .ref u16, .int (iI gf), .int (iI gs), .int (iI rc), .ref u20, .ref u21, .ref u22, .ref u23, .ref u24, .int (iI tc)])), (u2, .inl (X.2.1.1, 8, .inl (iF (updI Wt (Int.toNat sc) p1)))), (u3, .inl (X.2.1.1, 8, .inl (iF (updI Wd (Int.toNat sc) p2)))), (u4, .inl (X.2.1.1, 8, .inl (iF (updI Rg (Int.toNat sc) p3))))])) 0 0 := by
  refine g_start2 (lo := [(0, .ref h0), (1, .int (iI p1)), (2, .int (iI p2)), (3, .int (iI p3))]) (by decide +kernel) rfl rfl (Nat.le_of_ble_eq_true rfl) (fun p e s m args below meth c A C => ?_)
  refine r_iload_n C dX6_stone_0 1 rfl ?_
  refine r_i2l C dX6_stone_1 (by omega) ?_
  refine r_lconst (z := 1) C dX6_stone_2 rfl ?_
  refine r_ldc2 (z := 99) C dX6_stone_3 kw_X6_stone_0 rfl ?_
  refine g_S_i (ws2 := (fun _ => [(h0, .inr (6, [.int (iI ft), .int (iI sc), .ref u2, .ref u3, .ref u4, .ref u5, .ref u6, .ref u7, .ref u8, .int (iI rm), .int (iI wc), .ref u11, .int (iI sh), .int (iI tq), .ref u14, .int (iI cnt), .ref u16, .int (iI gf), .int (iI gs), .int (iI rc), .ref u20, .ref u21, .ref u22, .ref u23, .ref u24, .int (iI tc)])), (u2, .inl (X.2.1.1, 8, .inl (iF Wt))), (u3, .inl (X.2.1.1, 8, .inl (iF Wd))), (u4, .inl (X.2.1.1, 8, .inl (iF Rg)))])) (As := [.long (lI p1), .long (lI 1), .long (lI 99)]) C (c_X6_in l X p1 1 99 (by first | assumption | omega) (by first | assumption | omega) (by first | assumption | omega)) gX6_stone_X6_in rfl rfl rfl hd_S_X6_in_X6_stone (by decide) dX6_stone_6 [] [0, 1, 2, 3] [0, 1, 2, 3] rfl rfl rfl rfl (by decide) rfl rfl rfl (Nat.le_of_ble_eq_true rfl) (by decide) (fun _ => rfl) (fun _ hy_ => ?_)
  clear hy_
  refine r_ite (fun h_1 => ?_) (fun h_1 => absurd h_1 (by omega))
  refine r_if_eq (tgt := 36) C dX6_stone_9 (by decide) (by decide) (fun h_2 => absurd h_2 (by decide)) (fun h_2 => ?_)
  refine r_iload_n C dX6_stone_12 2 rfl ?_
  refine r_i2l C dX6_stone_13 (by omega) ?_
  refine r_lconst (z := 1) C dX6_stone_14 rfl ?_
  refine r_ldc2 (z := 99) C dX6_stone_15 kw_X6_stone_0 rfl ?_
  refine g_S_i (ws2 := (fun _ => [(h0, .inr (6, [.int (iI ft), .int (iI sc), .ref u2, .ref u3, .ref u4, .ref u5, .ref u6, .ref u7, .ref u8, .int (iI rm), .int (iI wc), .ref u11, .int (iI sh), .int (iI tq), .ref u14, .int (iI cnt), .ref u16, .int (iI gf), .int (iI gs), .int (iI rc), .ref u20, .ref u21, .ref u22, .ref u23, .ref u24, .int (iI tc)])), (u2, .inl (X.2.1.1, 8, .inl (iF Wt))), (u3, .inl (X.2.1.1, 8, .inl (iF Wd))), (u4, .inl (X.2.1.1, 8, .inl (iF Rg)))])) (As := [.long (lI p2), .long (lI 1), .long (lI 99)]) C (c_X6_in l X p2 1 99 (by first | assumption | omega) (by first | assumption | omega) (by first | assumption | omega)) gX6_stone_X6_in rfl rfl rfl hd_S_X6_in_X6_stone (by decide) dX6_stone_18 [] [0, 1, 2, 3] [0, 1, 2, 3] rfl rfl rfl rfl (by decide) rfl rfl rfl (Nat.le_of_ble_eq_true rfl) (by decide) (fun _ => rfl) (fun _ hy_ => ?_)
  clear hy_
  refine r_ite (fun h_3 => ?_) (fun h_3 => absurd h_3 (by omega))
  refine r_if_eq (tgt := 36) C dX6_stone_21 (by decide) (by decide) (fun h_4 => absurd h_4 (by decide)) (fun h_4 => ?_)
  refine r_iload_n C dX6_stone_24 3 rfl ?_
  refine r_i2l C dX6_stone_25 (by omega) ?_
  refine r_lconst (z := 0) C dX6_stone_26 rfl ?_
  refine r_ldc2 (z := 9) C dX6_stone_27 kw_X6_stone_1 rfl ?_
  refine g_S_i (ws2 := (fun _ => [(h0, .inr (6, [.int (iI ft), .int (iI sc), .ref u2, .ref u3, .ref u4, .ref u5, .ref u6, .ref u7, .ref u8, .int (iI rm), .int (iI wc), .ref u11, .int (iI sh), .int (iI tq), .ref u14, .int (iI cnt), .ref u16, .int (iI gf), .int (iI gs), .int (iI rc), .ref u20, .ref u21, .ref u22, .ref u23, .ref u24, .int (iI tc)])), (u2, .inl (X.2.1.1, 8, .inl (iF Wt))), (u3, .inl (X.2.1.1, 8, .inl (iF Wd))), (u4, .inl (X.2.1.1, 8, .inl (iF Rg)))])) (As := [.long (lI p3), .long (lI 0), .long (lI 9)]) C (c_X6_in l X p3 0 9 (by first | assumption | omega) (by first | assumption | omega) (by first | assumption | omega)) gX6_stone_X6_in rfl rfl rfl hd_S_X6_in_X6_stone (by decide) dX6_stone_30 [] [0, 1, 2, 3] [0, 1, 2, 3] rfl rfl rfl rfl (by decide) rfl rfl rfl (Nat.le_of_ble_eq_true rfl) (by decide) (fun _ => rfl) (fun _ hy_ => ?_)
  clear hy_
  refine r_ite (fun h_5 => ?_) (fun h_5 => absurd h_5 (by omega))
  refine r_if_ne (tgt := 39) C dX6_stone_33 (by decide) (by decide) (fun h_6 => ?_) (fun h_6 => absurd h_6 (by decide))
  refine r_aload_n C dX6_stone_39 0 rfl ?_
  refine gf_6_1 C hi_X6_stone_6 kw_X6_stone_2 dX6_stone_40 0 rfl rfl ?_
  refine r_bipush C dX6_stone_43 (by decide) ?_
  refine r_icmp_ne (tgt := 51) C dX6_stone_45 (by decide) (by omega) (by decide) (fun h_7 => ?_) (fun h_7 => absurd h_7 (by omega))
  refine r_aload_n C dX6_stone_51 0 rfl ?_
  refine gf_6_2 C hi_X6_stone_6 kw_X6_stone_3 dX6_stone_52 0 rfl rfl ?_
  refine r_aload_n C dX6_stone_55 0 rfl ?_
  refine gf_6_1 C hi_X6_stone_6 kw_X6_stone_2 dX6_stone_56 0 rfl rfl ?_
  refine r_iload_n C dX6_stone_59 1 rfl ?_
  refine r_iast (ws2 := [(h0, .inr (6, [.int (iI ft), .int (iI sc), .ref u2, .ref u3, .ref u4, .ref u5, .ref u6, .ref u7, .ref u8, .int (iI rm), .int (iI wc), .ref u11, .int (iI sh), .int (iI tq), .ref u14, .int (iI cnt), .ref u16, .int (iI gf), .int (iI gs), .int (iI rc), .ref u20, .ref u21, .ref u22, .ref u23, .ref u24, .int (iI tc)])), (u2, .inl (X.2.1.1, 8, .inl (iF (updI Wt (Int.toNat sc) p1)))), (u3, .inl (X.2.1.1, 8, .inl (iF Wd))), (u4, .inl (X.2.1.1, 8, .inl (iF Rg)))]) C dX6_stone_60 1 rfl (by omega) (by decide) rfl ?_
  refine r_aload_n C dX6_stone_61 0 rfl ?_
  refine gf_6_3 C hi_X6_stone_6 kw_X6_stone_4 dX6_stone_62 0 rfl rfl ?_
  refine r_aload_n C dX6_stone_65 0 rfl ?_
  refine gf_6_1 C hi_X6_stone_6 kw_X6_stone_2 dX6_stone_66 0 rfl rfl ?_
  refine r_iload_n C dX6_stone_69 2 rfl ?_
  refine r_iast (ws2 := [(h0, .inr (6, [.int (iI ft), .int (iI sc), .ref u2, .ref u3, .ref u4, .ref u5, .ref u6, .ref u7, .ref u8, .int (iI rm), .int (iI wc), .ref u11, .int (iI sh), .int (iI tq), .ref u14, .int (iI cnt), .ref u16, .int (iI gf), .int (iI gs), .int (iI rc), .ref u20, .ref u21, .ref u22, .ref u23, .ref u24, .int (iI tc)])), (u2, .inl (X.2.1.1, 8, .inl (iF (updI Wt (Int.toNat sc) p1)))), (u3, .inl (X.2.1.1, 8, .inl (iF (updI Wd (Int.toNat sc) p2)))), (u4, .inl (X.2.1.1, 8, .inl (iF Rg)))]) C dX6_stone_70 2 rfl (by omega) (by decide) rfl ?_
  refine r_aload_n C dX6_stone_71 0 rfl ?_
  refine gf_6_4 C hi_X6_stone_6 kw_X6_stone_5 dX6_stone_72 0 rfl rfl ?_
  refine r_aload_n C dX6_stone_75 0 rfl ?_
  refine gf_6_1 C hi_X6_stone_6 kw_X6_stone_2 dX6_stone_76 0 rfl rfl ?_
  refine r_iload_n C dX6_stone_79 3 rfl ?_
  refine r_iast (ws2 := [(h0, .inr (6, [.int (iI ft), .int (iI sc), .ref u2, .ref u3, .ref u4, .ref u5, .ref u6, .ref u7, .ref u8, .int (iI rm), .int (iI wc), .ref u11, .int (iI sh), .int (iI tq), .ref u14, .int (iI cnt), .ref u16, .int (iI gf), .int (iI gs), .int (iI rc), .ref u20, .ref u21, .ref u22, .ref u23, .ref u24, .int (iI tc)])), (u2, .inl (X.2.1.1, 8, .inl (iF (updI Wt (Int.toNat sc) p1)))), (u3, .inl (X.2.1.1, 8, .inl (iF (updI Wd (Int.toNat sc) p2)))), (u4, .inl (X.2.1.1, 8, .inl (iF (updI Rg (Int.toNat sc) p3))))]) C dX6_stone_80 3 rfl (by omega) (by decide) rfl ?_
  refine r_aload_n C dX6_stone_81 0 rfl ?_
  refine r_dup C dX6_stone_82 rfl ?_
  refine gf_6_1 C hi_X6_stone_6 kw_X6_stone_2 dX6_stone_83 0 rfl rfl ?_
  refine r_iconst C dX6_stone_86 ?_
  refine r_iadd C dX6_stone_87 ?_
  refine pf_6_1 (ws2 := [(h0, .inr (6, [.int (iI ft), .int (iI (sc + 1)), .ref u2, .ref u3, .ref u4, .ref u5, .ref u6, .ref u7, .ref u8, .int (iI rm), .int (iI wc), .ref u11, .int (iI sh), .int (iI tq), .ref u14, .int (iI cnt), .ref u16, .int (iI gf), .int (iI gs), .int (iI rc), .ref u20, .ref u21, .ref u22, .ref u23, .ref u24, .int (iI tc)])), (u2, .inl (X.2.1.1, 8, .inl (iF (updI Wt (Int.toNat sc) p1)))), (u3, .inl (X.2.1.1, 8, .inl (iF (updI Wd (Int.toNat sc) p2)))), (u4, .inl (X.2.1.1, 8, .inl (iF (updI Rg (Int.toNat sc) p3))))]) C hi_X6_stone_6 kw_X6_stone_2 dX6_stone_88 0 rfl rfl rfl (Nat.le_of_ble_eq_true rfl) rfl ?_
  refine r_aload_n C dX6_stone_91 0 rfl ?_
  refine gf_6_1 C hi_X6_stone_6 kw_X6_stone_2 dX6_stone_92 0 rfl rfl ?_
  refine r_iconst C dX6_stone_95 ?_
  refine r_isub C dX6_stone_96 ?_
  exact g_ret_i C rfl dX6_stone_97 () trivial (by omega) [0, 1, 2, 3] rfl rfl

set_option maxRecDepth 20000 in
theorem hd_V_X6_noStone_X6_ofStone : yX6_noStone.cls = yX6_noStone.cls ∧ yX6_noStone.cls ≠ "java/lang/invoke/MethodHandle" ∧ yX6_noStone.cls ≠ "java/lang/invoke/VarHandle" ∧ (parseMethodDescriptor yX6_noStone.desc).map (fun d => d.parameters.length) = some 1 := by decide +kernel
set_option maxRecDepth 20000 in
theorem kw_X6_ofStone_0 : Cond.fieldLink RX6 7 "SkipStonesModel" "weightOf" "[I" ∈ wsX6_ofStone := List.mem_of_getElem? (i := 1) rfl
set_option maxRecDepth 20000 in
theorem kw_X6_ofStone_1 : Cond.fieldLink RX6 13 "SkipStonesModel" "wideOf" "[I" ∈ wsX6_ofStone := List.mem_of_getElem? (i := 2) rfl
set_option maxRecDepth 20000 in
theorem kw_X6_ofStone_2 : Cond.fieldLink RX6 16 "SkipStonesModel" "roughOf" "[I" ∈ wsX6_ofStone := List.mem_of_getElem? (i := 3) rfl
set_option maxRecDepth 20000 in
theorem kw_X6_ofStone_3 : Cond.fieldLink RX6 19 "SkipStonesModel" "lieMany" "[I" ∈ wsX6_ofStone := List.mem_of_getElem? (i := 4) rfl
set_option maxRecDepth 20000 in
theorem kw_X6_ofStone_4 : Cond.fieldLink RX6 22 "SkipStonesModel" "lieWorth" "[I" ∈ wsX6_ofStone := List.mem_of_getElem? (i := 5) rfl
set_option maxRecDepth 20000 in
theorem hi_X6_ofStone_6 : ∀ w ∈ wsX60, w ∈ wsX6_ofStone := fun _ h => List.mem_cons_of_mem _ (List.mem_append_right _ h)
set_option maxHeartbeats 4000000 in
set_option maxRecDepth 100000 in
theorem c_X6_ofStone (l : Launch) (X : gX) (h0 : Nat) (u2 : Nat) (u3 : Nat) (u4 : Nat) (u5 : Nat) (u6 : Nat) (u7 : Nat) (u8 : Nat) (u11 : Nat) (u14 : Nat) (u16 : Nat) (u20 : Nat) (u21 : Nat) (u22 : Nat) (u23 : Nat) (u24 : Nat) (ft : Int) (sc : Int) (rm : Int) (wc : Int) (sh : Int) (tq : Int) (cnt : Int) (gf : Int) (gs : Int) (rc : Int) (tc : Int) (Wt : Nat → Int) (Wd : Nat → Int) (Rg : Nat → Int) (Ly : Nat → Int) (Wo : Nat → Int) (x : Int) (w : Int) (hb_x : inB x) (hb_w : inB w) (hsc : 0 ≤ sc ∧ sc ≤ 8) : gM l yX6_ofStone wsX6_ofStone (gr 2 0 0) X [(h0, .inr (6, [.int (iI ft), .int (iI sc), .ref u2, .ref u3, .ref u4, .ref u5, .ref u6, .ref u7, .ref u8, .int (iI rm), .int (iI wc), .ref u11, .int (iI sh), .int (iI tq), .ref u14, .int (iI cnt), .ref u16, .int (iI gf), .int (iI gs), .int (iI rc), .ref u20, .ref u21, .ref u22, .ref u23, .ref u24, .int (iI tc)])), (u2, .inl (X.2.1.1, 8, .inl (iF Wt))), (u3, .inl (X.2.1.1, 8, .inl (iF Wd))), (u4, .inl (X.2.1.1, 8, .inl (iF Rg))), (u5, .inl (X.2.1.1, 8, .inl (iF Ly))), (u6, .inl (X.2.1.1, 8, .inl (iF Wo)))] [.ref h0, .int (iI x), .int (iI w)] (gQi X (Y := Unit) (fun _ => True) (fun _ => (if ¬ (0 ≤ x ∧ x < sc) then -1 else if w = 0 then (Wt (Int.toNat x)) else if w = 1 then (Wd (Int.toNat x)) else if w = 2 then (Rg (Int.toNat x)) else if w = 3 then (Ly (Int.toNat x)) else if w = 4 then (Wo (Int.toNat x)) else -2)) (fun _ => [(h0, .inr (6, [.int (iI ft), .int (iI sc), .ref u2, .ref u3, .ref u4, .ref u5, .ref u6, .ref u7, .ref u8, .int (iI rm), .int (iI wc), .ref u11, .int (iI sh), .int (iI tq), .ref u14, .int (iI cnt), .ref u16, .int (iI gf), .int (iI gs), .int (iI rc), .ref u20, .ref u21, .ref u22, .ref u23, .ref u24, .int (iI tc)])), (u2, .inl (X.2.1.1, 8, .inl (iF Wt))), (u3, .inl (X.2.1.1, 8, .inl (iF Wd))), (u4, .inl (X.2.1.1, 8, .inl (iF Rg))), (u5, .inl (X.2.1.1, 8, .inl (iF Ly))), (u6, .inl (X.2.1.1, 8, .inl (iF Wo)))])) 0 0 := by
  refine g_start2 (lo := [(0, .ref h0), (1, .int (iI x)), (2, .int (iI w))]) (by decide +kernel) rfl rfl (Nat.le_of_ble_eq_true rfl) (fun p e s m args below meth c A C => ?_)
  refine r_aload_n C dX6_ofStone_0 0 rfl ?_
  refine r_iload_n C dX6_ofStone_1 1 rfl ?_
  refine g_V_i (ws2 := (fun _ => [(h0, .inr (6, [.int (iI ft), .int (iI sc), .ref u2, .ref u3, .ref u4, .ref u5, .ref u6, .ref u7, .ref u8, .int (iI rm), .int (iI wc), .ref u11, .int (iI sh), .int (iI tq), .ref u14, .int (iI cnt), .ref u16, .int (iI gf), .int (iI gs), .int (iI rc), .ref u20, .ref u21, .ref u22, .ref u23, .ref u24, .int (iI tc)])), (u2, .inl (X.2.1.1, 8, .inl (iF Wt))), (u3, .inl (X.2.1.1, 8, .inl (iF Wd))), (u4, .inl (X.2.1.1, 8, .inl (iF Rg))), (u5, .inl (X.2.1.1, 8, .inl (iF Ly))), (u6, .inl (X.2.1.1, 8, .inl (iF Wo)))])) (As := [.int (iI x)]) C (c_X6_noStone l X h0 u2 u3 u4 u5 u6 u7 u8 u11 u14 u16 u20 u21 u22 u23 u24 ft sc rm wc sh tq cnt gf gs rc tc x (by first | assumption | omega) (by first | assumption | omega)) gX6_ofStone_X6_noStone rfl rfl rfl hd_V_X6_noStone_X6_ofStone (by decide) dX6_ofStone_2 [0] [1, 2, 3, 4, 5] [5, 0, 1, 2, 3, 4] rfl rfl rfl rfl (by decide) rfl 0 6 rfl rfl rfl rfl (Nat.le_of_ble_eq_true rfl) (by decide) (fun _ => rfl) (fun _ hy_ => ?_)
  clear hy_
  refine r_ite (fun h_1 => ?_) (fun h_1 => ?_)
  · skip
    refine r_if_eq (tgt := 10) C dX6_ofStone_5 (by decide) (by decide) (fun h_2 => absurd h_2 (by decide)) (fun h_2 => ?_)
    refine r_iconst C dX6_ofStone_8 ?_
    exact g_ret_i C rfl dX6_ofStone_9 () trivial (by (repeat' split) <;> first | rfl | omega) [0, 1, 2, 3, 4, 5] rfl (by (repeat' split) <;> first | rfl | omega)
  · skip
    refine r_if_eq (tgt := 10) C dX6_ofStone_5 (by decide) (by decide) (fun h_3 => ?_) (fun h_3 => absurd h_3 (by decide))
    refine r_iload_n C dX6_ofStone_10 2 rfl ?_
    by_cases h_4 : w = 0
    · refine r_tabIn (tgt := 44) C dX6_ofStone_11 0 h_4 (by decide) rfl (by decide) ?_
      refine r_aload_n C dX6_ofStone_44 0 rfl ?_
      refine gf_6_2 C hi_X6_ofStone_6 kw_X6_ofStone_0 dX6_ofStone_45 0 rfl rfl ?_
      refine r_iload_n C dX6_ofStone_48 1 rfl ?_
      refine r_iald C dX6_ofStone_49 1 rfl (by omega) (by decide) ?_
      exact g_ret_i C rfl dX6_ofStone_50 () trivial (by (repeat' split) <;> first | rfl | omega) [0, 1, 2, 3, 4, 5] rfl (by (repeat' split) <;> first | rfl | omega)
    by_cases h_5 : w = 1
    · refine r_tabIn (tgt := 51) C dX6_ofStone_11 1 h_5 (by decide) rfl (by decide) ?_
      refine r_aload_n C dX6_ofStone_51 0 rfl ?_
      refine gf_6_3 C hi_X6_ofStone_6 kw_X6_ofStone_1 dX6_ofStone_52 0 rfl rfl ?_
      refine r_iload_n C dX6_ofStone_55 1 rfl ?_
      refine r_iald C dX6_ofStone_56 2 rfl (by omega) (by decide) ?_
      exact g_ret_i C rfl dX6_ofStone_57 () trivial (by (repeat' split) <;> first | rfl | omega) [0, 1, 2, 3, 4, 5] rfl (by (repeat' split) <;> first | rfl | omega)
    by_cases h_6 : w = 2
    · refine r_tabIn (tgt := 58) C dX6_ofStone_11 2 h_6 (by decide) rfl (by decide) ?_
      refine r_aload_n C dX6_ofStone_58 0 rfl ?_
      refine gf_6_4 C hi_X6_ofStone_6 kw_X6_ofStone_2 dX6_ofStone_59 0 rfl rfl ?_
      refine r_iload_n C dX6_ofStone_62 1 rfl ?_
      refine r_iald C dX6_ofStone_63 3 rfl (by omega) (by decide) ?_
      exact g_ret_i C rfl dX6_ofStone_64 () trivial (by (repeat' split) <;> first | rfl | omega) [0, 1, 2, 3, 4, 5] rfl (by (repeat' split) <;> first | rfl | omega)
    by_cases h_7 : w = 3
    · refine r_tabIn (tgt := 65) C dX6_ofStone_11 3 h_7 (by decide) rfl (by decide) ?_
      refine r_aload_n C dX6_ofStone_65 0 rfl ?_
      refine gf_6_5 C hi_X6_ofStone_6 kw_X6_ofStone_3 dX6_ofStone_66 0 rfl rfl ?_
      refine r_iload_n C dX6_ofStone_69 1 rfl ?_
      refine r_iald C dX6_ofStone_70 4 rfl (by omega) (by decide) ?_
      exact g_ret_i C rfl dX6_ofStone_71 () trivial (by (repeat' split) <;> first | rfl | omega) [0, 1, 2, 3, 4, 5] rfl (by (repeat' split) <;> first | rfl | omega)
    by_cases h_8 : w = 4
    · refine r_tabIn (tgt := 72) C dX6_ofStone_11 4 h_8 (by decide) rfl (by decide) ?_
      refine r_aload_n C dX6_ofStone_72 0 rfl ?_
      refine gf_6_6 C hi_X6_ofStone_6 kw_X6_ofStone_4 dX6_ofStone_73 0 rfl rfl ?_
      refine r_iload_n C dX6_ofStone_76 1 rfl ?_
      refine r_iald C dX6_ofStone_77 5 rfl (by omega) (by decide) ?_
      exact g_ret_i C rfl dX6_ofStone_78 () trivial (by (repeat' split) <;> first | rfl | omega) [0, 1, 2, 3, 4, 5] rfl (by (repeat' split) <;> first | rfl | omega)
    refine r_tabOut (tgt := 79) C dX6_ofStone_11 (by omega) (by omega) (by decide) ?_
    refine r_bipush C dX6_ofStone_79 (by decide) ?_
    exact g_ret_i C rfl dX6_ofStone_81 () trivial (by (repeat' split) <;> first | rfl | omega) [0, 1, 2, 3, 4, 5] rfl (by (repeat' split) <;> first | rfl | omega)

set_option maxHeartbeats 4000000 in
set_option maxRecDepth 100000 in
theorem c_X6_firstOf (l : Launch) (X : gX) (k : Int) (hk : 0 ≤ k ∧ k < 6) : gM l yX6_firstOf wsX6_firstOf (gr 0 0 0) X [] [.int (iI k)] (gQi X (Y := Unit) (fun _ => True) (fun _ => (gAF (Int.toNat k))) (fun _ => [])) 0 0 := by
  refine g_start2 (lo := [(0, .int (iI k))]) (by decide +kernel) rfl rfl (Nat.le_of_ble_eq_true rfl) (fun p e s m args below meth c A C => ?_)
  refine r_iload_n C dX6_firstOf_0 0 rfl ?_
  refine r_if_eq (tgt := 14) C dX6_firstOf_1 (by decide) (by omega) (fun h_1 => ?_) (fun h_1 => ?_)
  · skip
    refine r_bipush C dX6_firstOf_14 (by decide) ?_
    refine r_goto (tgt := 40) C dX6_firstOf_16 (by decide) ?_
    exact g_ret_i C rfl dX6_firstOf_40 () trivial (gAF_c (by omega)) [] rfl (by (repeat' split) <;> first | rfl | omega)
  · skip
    refine r_iload_n C dX6_firstOf_4 0 rfl ?_
    refine r_iconst C dX6_firstOf_5 ?_
    refine r_icmp_eq (tgt := 14) C dX6_firstOf_6 (by decide) (by omega) (by decide) (fun h_2 => ?_) (fun h_2 => ?_)
    · skip
      refine r_bipush C dX6_firstOf_14 (by decide) ?_
      refine r_goto (tgt := 40) C dX6_firstOf_16 (by decide) ?_
      exact g_ret_i C rfl dX6_firstOf_40 () trivial (gAF_c (by omega)) [] rfl (by (repeat' split) <;> first | rfl | omega)
    · skip
      refine r_iload_n C dX6_firstOf_9 0 rfl ?_
      refine r_iconst C dX6_firstOf_10 ?_
      refine r_icmp_ne (tgt := 19) C dX6_firstOf_11 (by decide) (by omega) (by decide) (fun h_3 => ?_) (fun h_3 => ?_)
      · skip
        refine r_iload_n C dX6_firstOf_19 0 rfl ?_
        refine r_iconst C dX6_firstOf_20 ?_
        refine r_icmp_ne (tgt := 28) C dX6_firstOf_21 (by decide) (by omega) (by decide) (fun h_4 => ?_) (fun h_4 => ?_)
        · skip
          refine r_iload_n C dX6_firstOf_28 0 rfl ?_
          refine r_iconst C dX6_firstOf_29 ?_
          refine r_icmp_ne (tgt := 38) C dX6_firstOf_30 (by decide) (by omega) (by decide) (fun h_5 => ?_) (fun h_5 => ?_)
          · skip
            refine r_bipush C dX6_firstOf_38 (by decide) ?_
            exact g_ret_i C rfl dX6_firstOf_40 () trivial (gAF_c (by omega)) [] rfl (by (repeat' split) <;> first | rfl | omega)
          · skip
            refine r_bipush C dX6_firstOf_33 (by decide) ?_
            refine r_goto (tgt := 40) C dX6_firstOf_35 (by decide) ?_
            exact g_ret_i C rfl dX6_firstOf_40 () trivial (gAF_c (by omega)) [] rfl (by (repeat' split) <;> first | rfl | omega)
        · skip
          refine r_iconst C dX6_firstOf_24 ?_
          refine r_goto (tgt := 40) C dX6_firstOf_25 (by decide) ?_
          exact g_ret_i C rfl dX6_firstOf_40 () trivial (gAF_c (by omega)) [] rfl (by (repeat' split) <;> first | rfl | omega)
      · skip
        refine r_bipush C dX6_firstOf_14 (by decide) ?_
        refine r_goto (tgt := 40) C dX6_firstOf_16 (by decide) ?_
        exact g_ret_i C rfl dX6_firstOf_40 () trivial (gAF_c (by omega)) [] rfl (by (repeat' split) <;> first | rfl | omega)

set_option maxRecDepth 20000 in
theorem hd_S_X6_in_X6_isRule : yX6_in.cls ≠ "java/lang/invoke/MethodHandle" ∧ yX6_in.cls ≠ "java/lang/invoke/VarHandle" ∧ (parseMethodDescriptor yX6_in.desc).map (fun d => d.parameters.length) = some 3 := by decide +kernel
set_option maxHeartbeats 4000000 in
set_option maxRecDepth 100000 in
theorem c_X6_isRule (l : Launch) (X : gX) (k : Int) (v : Int) (hk : 0 ≤ k ∧ k < 6) (hv : inB v) : gM l yX6_isRule wsX6_isRule (gr 1 0 0) X [] [.int (iI k), .int (iI v)] (gQi X (Y := Unit) (fun _ => True) (fun _ => (if (lwf k v) then 1 else 0)) (fun _ => [])) 0 0 := by
  refine g_start2 (lo := [(0, .int (iI k)), (1, .int (iI v))]) (by decide +kernel) rfl rfl (Nat.le_of_ble_eq_true rfl) (fun p e s m args below meth c A C => ?_)
  refine r_iload_n C dX6_isRule_0 0 rfl ?_
  refine r_iconst C dX6_isRule_1 ?_
  refine r_icmp_ne (tgt := 10) C dX6_isRule_2 (by decide) (by omega) (by decide) (fun h_1 => ?_) (fun h_1 => ?_)
  · skip
    refine r_iload_n C dX6_isRule_10 0 rfl ?_
    refine r_iconst C dX6_isRule_11 ?_
    refine r_icmp_eq (tgt := 20) C dX6_isRule_12 (by decide) (by omega) (by decide) (fun h_2 => ?_) (fun h_2 => ?_)
    · skip
      refine r_bipush C dX6_isRule_20 (by decide) ?_
      refine r_goto (tgt := 27) C dX6_isRule_22 (by decide) ?_
      refine r_istore_n (lo2 := [(2, .int (iI 50)), (0, .int (iI k)), (1, .int (iI v))]) C dX6_isRule_27 rfl (by decide) rfl ?_
      refine r_iload_n C dX6_isRule_28 2 rfl ?_
      refine r_i2l C dX6_isRule_29 (by omega) ?_
      refine r_iload_n C dX6_isRule_30 1 rfl ?_
      refine r_if_eq (tgt := 44) C dX6_isRule_31 (by decide) (by omega) (fun h_3 => absurd h_3 (by omega)) (fun h_3 => ?_)
      refine r_iload_n C dX6_isRule_34 1 rfl ?_
      refine r_iconst C dX6_isRule_35 ?_
      refine r_icmp_eq (tgt := 44) C dX6_isRule_36 (by decide) (by omega) (by decide) (fun h_4 => absurd h_4 (by omega)) (fun h_4 => ?_)
      refine r_iload_n C dX6_isRule_39 1 rfl ?_
      refine r_iconst C dX6_isRule_40 ?_
      refine r_icmp_ne (tgt := 48) C dX6_isRule_41 (by decide) (by omega) (by decide) (fun h_5 => ?_) (fun h_5 => absurd h_5 (by omega))
      refine r_lconst (z := 0) C dX6_isRule_48 rfl ?_
      refine r_iload_n C dX6_isRule_49 0 rfl ?_
      refine r_i2l C dX6_isRule_50 (by decide) ?_
      refine g_S_i (ws2 := (fun _ => [])) (As := [.long (lI v), .long (lI 0), .long (lI 50)]) C (c_X6_in l X v 0 50 (by first | assumption | omega) (by first | assumption | omega) (by first | assumption | omega)) gX6_isRule_X6_in rfl rfl rfl hd_S_X6_in_X6_isRule (by decide) dX6_isRule_51 [] [] [] rfl rfl rfl rfl (by decide) rfl rfl rfl (Nat.le_of_ble_eq_true rfl) (by decide) (fun _ => rfl) (fun _ hy_ => ?_)
      clear hy_
      refine r_ite (fun h_6 => ?_) (fun h_6 => ?_)
      · skip
        exact g_ret_z C rfl (by decide) dX6_isRule_54 () trivial (by first | (rw [if_pos (by unfold lwf; rw [gLE_c (by omega), gGR_c (by omega)]; (repeat' split) <;> omega)]; done) | (rw [if_neg (by unfold lwf; rw [gLE_c (by omega), gGR_c (by omega)]; (repeat' split) <;> omega)]; done)) [] rfl (by (repeat' split) <;> first | rfl | omega)
      · skip
        exact g_ret_z C rfl (by decide) dX6_isRule_54 () trivial (by first | (rw [if_pos (by unfold lwf; rw [gLE_c (by omega), gGR_c (by omega)]; (repeat' split) <;> omega)]; done) | (rw [if_neg (by unfold lwf; rw [gLE_c (by omega), gGR_c (by omega)]; (repeat' split) <;> omega)]; done)) [] rfl (by (repeat' split) <;> first | rfl | omega)
    · skip
      refine r_iload_n C dX6_isRule_15 0 rfl ?_
      refine r_iconst C dX6_isRule_16 ?_
      refine r_icmp_ne (tgt := 25) C dX6_isRule_17 (by decide) (by omega) (by decide) (fun h_7 => ?_) (fun h_7 => ?_)
      · skip
        refine r_bipush C dX6_isRule_25 (by decide) ?_
        refine r_istore_n (lo2 := [(2, .int (iI 99)), (0, .int (iI k)), (1, .int (iI v))]) C dX6_isRule_27 rfl (by decide) rfl ?_
        refine r_iload_n C dX6_isRule_28 2 rfl ?_
        refine r_i2l C dX6_isRule_29 (by omega) ?_
        refine r_iload_n C dX6_isRule_30 1 rfl ?_
        refine r_if_eq (tgt := 44) C dX6_isRule_31 (by decide) (by omega) (fun h_8 => ?_) (fun h_8 => ?_)
        · skip
          refine r_lconst (z := 1) C dX6_isRule_44 rfl ?_
          refine r_goto (tgt := 49) C dX6_isRule_45 (by decide) ?_
          refine r_iload_n C dX6_isRule_49 0 rfl ?_
          refine r_i2l C dX6_isRule_50 (by decide) ?_
          refine g_S_i (ws2 := (fun _ => [])) (As := [.long (lI v), .long (lI 1), .long (lI 99)]) C (c_X6_in l X v 1 99 (by first | assumption | omega) (by first | assumption | omega) (by first | assumption | omega)) gX6_isRule_X6_in rfl rfl rfl hd_S_X6_in_X6_isRule (by decide) dX6_isRule_51 [] [] [] rfl rfl rfl rfl (by decide) rfl rfl rfl (Nat.le_of_ble_eq_true rfl) (by decide) (fun _ => rfl) (fun _ hy_ => ?_)
          clear hy_
          refine r_ite (fun h_9 => ?_) (fun h_9 => ?_)
          · skip
            exact g_ret_z C rfl (by decide) dX6_isRule_54 () trivial (by first | (rw [if_pos (by unfold lwf; rw [gLE_c (by omega), gGR_c (by omega)]; (repeat' split) <;> omega)]; done) | (rw [if_neg (by unfold lwf; rw [gLE_c (by omega), gGR_c (by omega)]; (repeat' split) <;> omega)]; done)) [] rfl (by (repeat' split) <;> first | rfl | omega)
          · skip
            exact g_ret_z C rfl (by decide) dX6_isRule_54 () trivial (by first | (rw [if_pos (by unfold lwf; rw [gLE_c (by omega), gGR_c (by omega)]; (repeat' split) <;> omega)]; done) | (rw [if_neg (by unfold lwf; rw [gLE_c (by omega), gGR_c (by omega)]; (repeat' split) <;> omega)]; done)) [] rfl (by (repeat' split) <;> first | rfl | omega)
        · skip
          refine r_iload_n C dX6_isRule_34 1 rfl ?_
          refine r_iconst C dX6_isRule_35 ?_
          refine r_icmp_eq (tgt := 44) C dX6_isRule_36 (by decide) (by omega) (by decide) (fun h_10 => ?_) (fun h_10 => ?_)
          · skip
            refine r_lconst (z := 1) C dX6_isRule_44 rfl ?_
            refine r_goto (tgt := 49) C dX6_isRule_45 (by decide) ?_
            refine r_iload_n C dX6_isRule_49 0 rfl ?_
            refine r_i2l C dX6_isRule_50 (by decide) ?_
            refine g_S_i (ws2 := (fun _ => [])) (As := [.long (lI v), .long (lI 1), .long (lI 99)]) C (c_X6_in l X v 1 99 (by first | assumption | omega) (by first | assumption | omega) (by first | assumption | omega)) gX6_isRule_X6_in rfl rfl rfl hd_S_X6_in_X6_isRule (by decide) dX6_isRule_51 [] [] [] rfl rfl rfl rfl (by decide) rfl rfl rfl (Nat.le_of_ble_eq_true rfl) (by decide) (fun _ => rfl) (fun _ hy_ => ?_)
            clear hy_
            refine r_ite (fun h_11 => ?_) (fun h_11 => ?_)
            · skip
              exact g_ret_z C rfl (by decide) dX6_isRule_54 () trivial (by first | (rw [if_pos (by unfold lwf; rw [gLE_c (by omega), gGR_c (by omega)]; (repeat' split) <;> omega)]; done) | (rw [if_neg (by unfold lwf; rw [gLE_c (by omega), gGR_c (by omega)]; (repeat' split) <;> omega)]; done)) [] rfl (by (repeat' split) <;> first | rfl | omega)
            · skip
              exact g_ret_z C rfl (by decide) dX6_isRule_54 () trivial (by first | (rw [if_pos (by unfold lwf; rw [gLE_c (by omega), gGR_c (by omega)]; (repeat' split) <;> omega)]; done) | (rw [if_neg (by unfold lwf; rw [gLE_c (by omega), gGR_c (by omega)]; (repeat' split) <;> omega)]; done)) [] rfl (by (repeat' split) <;> first | rfl | omega)
          · skip
            refine r_iload_n C dX6_isRule_39 1 rfl ?_
            refine r_iconst C dX6_isRule_40 ?_
            refine r_icmp_ne (tgt := 48) C dX6_isRule_41 (by decide) (by omega) (by decide) (fun h_12 => ?_) (fun h_12 => absurd h_12 (by omega))
            refine r_lconst (z := 0) C dX6_isRule_48 rfl ?_
            refine r_iload_n C dX6_isRule_49 0 rfl ?_
            refine r_i2l C dX6_isRule_50 (by decide) ?_
            refine g_S_i (ws2 := (fun _ => [])) (As := [.long (lI v), .long (lI 0), .long (lI 99)]) C (c_X6_in l X v 0 99 (by first | assumption | omega) (by first | assumption | omega) (by first | assumption | omega)) gX6_isRule_X6_in rfl rfl rfl hd_S_X6_in_X6_isRule (by decide) dX6_isRule_51 [] [] [] rfl rfl rfl rfl (by decide) rfl rfl rfl (Nat.le_of_ble_eq_true rfl) (by decide) (fun _ => rfl) (fun _ hy_ => ?_)
            clear hy_
            refine r_ite (fun h_13 => ?_) (fun h_13 => ?_)
            · skip
              exact g_ret_z C rfl (by decide) dX6_isRule_54 () trivial (by first | (rw [if_pos (by unfold lwf; rw [gLE_c (by omega), gGR_c (by omega)]; (repeat' split) <;> omega)]; done) | (rw [if_neg (by unfold lwf; rw [gLE_c (by omega), gGR_c (by omega)]; (repeat' split) <;> omega)]; done)) [] rfl (by (repeat' split) <;> first | rfl | omega)
            · skip
              exact g_ret_z C rfl (by decide) dX6_isRule_54 () trivial (by first | (rw [if_pos (by unfold lwf; rw [gLE_c (by omega), gGR_c (by omega)]; (repeat' split) <;> omega)]; done) | (rw [if_neg (by unfold lwf; rw [gLE_c (by omega), gGR_c (by omega)]; (repeat' split) <;> omega)]; done)) [] rfl (by (repeat' split) <;> first | rfl | omega)
      · skip
        refine r_bipush C dX6_isRule_20 (by decide) ?_
        refine r_goto (tgt := 27) C dX6_isRule_22 (by decide) ?_
        refine r_istore_n (lo2 := [(2, .int (iI 50)), (0, .int (iI k)), (1, .int (iI v))]) C dX6_isRule_27 rfl (by decide) rfl ?_
        refine r_iload_n C dX6_isRule_28 2 rfl ?_
        refine r_i2l C dX6_isRule_29 (by omega) ?_
        refine r_iload_n C dX6_isRule_30 1 rfl ?_
        refine r_if_eq (tgt := 44) C dX6_isRule_31 (by decide) (by omega) (fun h_14 => absurd h_14 (by omega)) (fun h_14 => ?_)
        refine r_iload_n C dX6_isRule_34 1 rfl ?_
        refine r_iconst C dX6_isRule_35 ?_
        refine r_icmp_eq (tgt := 44) C dX6_isRule_36 (by decide) (by omega) (by decide) (fun h_15 => absurd h_15 (by omega)) (fun h_15 => ?_)
        refine r_iload_n C dX6_isRule_39 1 rfl ?_
        refine r_iconst C dX6_isRule_40 ?_
        refine r_icmp_ne (tgt := 48) C dX6_isRule_41 (by decide) (by omega) (by decide) (fun h_16 => ?_) (fun h_16 => absurd h_16 (by omega))
        refine r_lconst (z := 0) C dX6_isRule_48 rfl ?_
        refine r_iload_n C dX6_isRule_49 0 rfl ?_
        refine r_i2l C dX6_isRule_50 (by decide) ?_
        refine g_S_i (ws2 := (fun _ => [])) (As := [.long (lI v), .long (lI 0), .long (lI 50)]) C (c_X6_in l X v 0 50 (by first | assumption | omega) (by first | assumption | omega) (by first | assumption | omega)) gX6_isRule_X6_in rfl rfl rfl hd_S_X6_in_X6_isRule (by decide) dX6_isRule_51 [] [] [] rfl rfl rfl rfl (by decide) rfl rfl rfl (Nat.le_of_ble_eq_true rfl) (by decide) (fun _ => rfl) (fun _ hy_ => ?_)
        clear hy_
        refine r_ite (fun h_17 => ?_) (fun h_17 => ?_)
        · skip
          exact g_ret_z C rfl (by decide) dX6_isRule_54 () trivial (by first | (rw [if_pos (by unfold lwf; rw [gLE_c (by omega), gGR_c (by omega)]; (repeat' split) <;> omega)]; done) | (rw [if_neg (by unfold lwf; rw [gLE_c (by omega), gGR_c (by omega)]; (repeat' split) <;> omega)]; done)) [] rfl (by (repeat' split) <;> first | rfl | omega)
        · skip
          exact g_ret_z C rfl (by decide) dX6_isRule_54 () trivial (by first | (rw [if_pos (by unfold lwf; rw [gLE_c (by omega), gGR_c (by omega)]; (repeat' split) <;> omega)]; done) | (rw [if_neg (by unfold lwf; rw [gLE_c (by omega), gGR_c (by omega)]; (repeat' split) <;> omega)]; done)) [] rfl (by (repeat' split) <;> first | rfl | omega)
  · skip
    refine r_bipush C dX6_isRule_5 (by decide) ?_
    refine r_goto (tgt := 27) C dX6_isRule_7 (by decide) ?_
    refine r_istore_n (lo2 := [(2, .int (iI 45)), (0, .int (iI k)), (1, .int (iI v))]) C dX6_isRule_27 rfl (by decide) rfl ?_
    refine r_iload_n C dX6_isRule_28 2 rfl ?_
    refine r_i2l C dX6_isRule_29 (by omega) ?_
    refine r_iload_n C dX6_isRule_30 1 rfl ?_
    refine r_if_eq (tgt := 44) C dX6_isRule_31 (by decide) (by omega) (fun h_18 => absurd h_18 (by omega)) (fun h_18 => ?_)
    refine r_iload_n C dX6_isRule_34 1 rfl ?_
    refine r_iconst C dX6_isRule_35 ?_
    refine r_icmp_eq (tgt := 44) C dX6_isRule_36 (by decide) (by omega) (by decide) (fun h_19 => absurd h_19 (by omega)) (fun h_19 => ?_)
    refine r_iload_n C dX6_isRule_39 1 rfl ?_
    refine r_iconst C dX6_isRule_40 ?_
    refine r_icmp_ne (tgt := 48) C dX6_isRule_41 (by decide) (by omega) (by decide) (fun h_20 => absurd h_20 (by omega)) (fun h_20 => ?_)
    refine r_lconst (z := 1) C dX6_isRule_44 rfl ?_
    refine r_goto (tgt := 49) C dX6_isRule_45 (by decide) ?_
    refine r_iload_n C dX6_isRule_49 0 rfl ?_
    refine r_i2l C dX6_isRule_50 (by decide) ?_
    refine g_S_i (ws2 := (fun _ => [])) (As := [.long (lI v), .long (lI 1), .long (lI 45)]) C (c_X6_in l X v 1 45 (by first | assumption | omega) (by first | assumption | omega) (by first | assumption | omega)) gX6_isRule_X6_in rfl rfl rfl hd_S_X6_in_X6_isRule (by decide) dX6_isRule_51 [] [] [] rfl rfl rfl rfl (by decide) rfl rfl rfl (Nat.le_of_ble_eq_true rfl) (by decide) (fun _ => rfl) (fun _ hy_ => ?_)
    clear hy_
    refine r_ite (fun h_21 => ?_) (fun h_21 => ?_)
    · skip
      exact g_ret_z C rfl (by decide) dX6_isRule_54 () trivial (by first | (rw [if_pos (by unfold lwf; rw [gLE_c (by omega), gGR_c (by omega)]; (repeat' split) <;> omega)]; done) | (rw [if_neg (by unfold lwf; rw [gLE_c (by omega), gGR_c (by omega)]; (repeat' split) <;> omega)]; done)) [] rfl (by (repeat' split) <;> first | rfl | omega)
    · skip
      exact g_ret_z C rfl (by decide) dX6_isRule_54 () trivial (by first | (rw [if_pos (by unfold lwf; rw [gLE_c (by omega), gGR_c (by omega)]; (repeat' split) <;> omega)]; done) | (rw [if_neg (by unfold lwf; rw [gLE_c (by omega), gGR_c (by omega)]; (repeat' split) <;> omega)]; done)) [] rfl (by (repeat' split) <;> first | rfl | omega)

set_option maxHeartbeats 4000000 in
set_option maxRecDepth 100000 in
theorem c_X6_ruleBy (l : Launch) (X : gX) (k : Int) (hb_k : inB k) : gM l yX6_ruleBy wsX6_ruleBy (gr 0 0 0) X [] [.int (iI k)] (gQi X (Y := Unit) (fun _ => True) (fun _ => (if ltr k < 0 then -9 else ltr k)) (fun _ => [])) 0 0 := by
  refine g_start2 (lo := [(0, .int (iI k))]) (by decide +kernel) rfl rfl (Nat.le_of_ble_eq_true rfl) (fun p e s m args below meth c A C => ?_)
  refine r_iload_n C dX6_ruleBy_0 0 rfl ?_
  by_cases h_1 : k = 104
  · refine r_tabIn (tgt := 82) C dX6_ruleBy_1 104 h_1 (by decide) rfl (by decide) ?_
    refine r_iconst C dX6_ruleBy_82 ?_
    exact g_ret_i C rfl dX6_ruleBy_83 () trivial (by unfold ltr; (repeat' split) <;> omega) [] rfl (by (repeat' split) <;> first | rfl | omega)
  by_cases h_2 : k = 105
  · refine r_tabIn (tgt := 84) C dX6_ruleBy_1 105 h_2 (by decide) rfl (by decide) ?_
    refine r_bipush C dX6_ruleBy_84 (by decide) ?_
    exact g_ret_i C rfl dX6_ruleBy_86 () trivial (by unfold ltr; (repeat' split) <;> omega) [] rfl (by (repeat' split) <;> first | rfl | omega)
  by_cases h_3 : k = 106
  · refine r_tabIn (tgt := 84) C dX6_ruleBy_1 106 h_3 (by decide) rfl (by decide) ?_
    refine r_bipush C dX6_ruleBy_84 (by decide) ?_
    exact g_ret_i C rfl dX6_ruleBy_86 () trivial (by unfold ltr; (repeat' split) <;> omega) [] rfl (by (repeat' split) <;> first | rfl | omega)
  by_cases h_4 : k = 107
  · refine r_tabIn (tgt := 80) C dX6_ruleBy_1 107 h_4 (by decide) rfl (by decide) ?_
    refine r_iconst C dX6_ruleBy_80 ?_
    exact g_ret_i C rfl dX6_ruleBy_81 () trivial (by unfold ltr; (repeat' split) <;> omega) [] rfl (by (repeat' split) <;> first | rfl | omega)
  by_cases h_5 : k = 108
  · refine r_tabIn (tgt := 72) C dX6_ruleBy_1 108 h_5 (by decide) rfl (by decide) ?_
    refine r_iconst C dX6_ruleBy_72 ?_
    exact g_ret_i C rfl dX6_ruleBy_73 () trivial (by unfold ltr; (repeat' split) <;> omega) [] rfl (by (repeat' split) <;> first | rfl | omega)
  by_cases h_6 : k = 109
  · refine r_tabIn (tgt := 84) C dX6_ruleBy_1 109 h_6 (by decide) rfl (by decide) ?_
    refine r_bipush C dX6_ruleBy_84 (by decide) ?_
    exact g_ret_i C rfl dX6_ruleBy_86 () trivial (by unfold ltr; (repeat' split) <;> omega) [] rfl (by (repeat' split) <;> first | rfl | omega)
  by_cases h_7 : k = 110
  · refine r_tabIn (tgt := 84) C dX6_ruleBy_1 110 h_7 (by decide) rfl (by decide) ?_
    refine r_bipush C dX6_ruleBy_84 (by decide) ?_
    exact g_ret_i C rfl dX6_ruleBy_86 () trivial (by unfold ltr; (repeat' split) <;> omega) [] rfl (by (repeat' split) <;> first | rfl | omega)
  by_cases h_8 : k = 111
  · refine r_tabIn (tgt := 84) C dX6_ruleBy_1 111 h_8 (by decide) rfl (by decide) ?_
    refine r_bipush C dX6_ruleBy_84 (by decide) ?_
    exact g_ret_i C rfl dX6_ruleBy_86 () trivial (by unfold ltr; (repeat' split) <;> omega) [] rfl (by (repeat' split) <;> first | rfl | omega)
  by_cases h_9 : k = 112
  · refine r_tabIn (tgt := 84) C dX6_ruleBy_1 112 h_9 (by decide) rfl (by decide) ?_
    refine r_bipush C dX6_ruleBy_84 (by decide) ?_
    exact g_ret_i C rfl dX6_ruleBy_86 () trivial (by unfold ltr; (repeat' split) <;> omega) [] rfl (by (repeat' split) <;> first | rfl | omega)
  by_cases h_10 : k = 113
  · refine r_tabIn (tgt := 84) C dX6_ruleBy_1 113 h_10 (by decide) rfl (by decide) ?_
    refine r_bipush C dX6_ruleBy_84 (by decide) ?_
    exact g_ret_i C rfl dX6_ruleBy_86 () trivial (by unfold ltr; (repeat' split) <;> omega) [] rfl (by (repeat' split) <;> first | rfl | omega)
  by_cases h_11 : k = 114
  · refine r_tabIn (tgt := 74) C dX6_ruleBy_1 114 h_11 (by decide) rfl (by decide) ?_
    refine r_iconst C dX6_ruleBy_74 ?_
    exact g_ret_i C rfl dX6_ruleBy_75 () trivial (by unfold ltr; (repeat' split) <;> omega) [] rfl (by (repeat' split) <;> first | rfl | omega)
  by_cases h_12 : k = 115
  · refine r_tabIn (tgt := 78) C dX6_ruleBy_1 115 h_12 (by decide) rfl (by decide) ?_
    refine r_iconst C dX6_ruleBy_78 ?_
    exact g_ret_i C rfl dX6_ruleBy_79 () trivial (by unfold ltr; (repeat' split) <;> omega) [] rfl (by (repeat' split) <;> first | rfl | omega)
  by_cases h_13 : k = 116
  · refine r_tabIn (tgt := 84) C dX6_ruleBy_1 116 h_13 (by decide) rfl (by decide) ?_
    refine r_bipush C dX6_ruleBy_84 (by decide) ?_
    exact g_ret_i C rfl dX6_ruleBy_86 () trivial (by unfold ltr; (repeat' split) <;> omega) [] rfl (by (repeat' split) <;> first | rfl | omega)
  by_cases h_14 : k = 117
  · refine r_tabIn (tgt := 76) C dX6_ruleBy_1 117 h_14 (by decide) rfl (by decide) ?_
    refine r_iconst C dX6_ruleBy_76 ?_
    exact g_ret_i C rfl dX6_ruleBy_77 () trivial (by unfold ltr; (repeat' split) <;> omega) [] rfl (by (repeat' split) <;> first | rfl | omega)
  refine r_tabOut (tgt := 84) C dX6_ruleBy_1 (by omega) (by omega) (by decide) ?_
  refine r_bipush C dX6_ruleBy_84 (by decide) ?_
  exact g_ret_i C rfl dX6_ruleBy_86 () trivial (by unfold ltr; (repeat' split) <;> omega) [] rfl (by (repeat' split) <;> first | rfl | omega)

set_option maxRecDepth 20000 in
theorem kw_X6_rule_0 : Cond.constantLong RX6 130 (5) ∈ wsX6_rule := List.mem_of_getElem? (i := 1) rfl
set_option maxRecDepth 20000 in
theorem hd_S_X6_in_X6_rule : yX6_in.cls ≠ "java/lang/invoke/MethodHandle" ∧ yX6_in.cls ≠ "java/lang/invoke/VarHandle" ∧ (parseMethodDescriptor yX6_in.desc).map (fun d => d.parameters.length) = some 3 := by decide +kernel
set_option maxRecDepth 20000 in
theorem kw_X6_rule_1 : Cond.fieldLink RX6 25 "SkipStonesModel" "rules" "[I" ∈ wsX6_rule := List.mem_of_getElem? (i := 2) rfl
set_option maxRecDepth 20000 in
theorem hi_X6_rule_6 : ∀ w ∈ wsX60, w ∈ wsX6_rule := fun _ h => List.mem_cons_of_mem _ (List.mem_append_right _ h)
set_option maxHeartbeats 4000000 in
set_option maxRecDepth 100000 in
theorem c_X6_rule (l : Launch) (X : gX) (h0 : Nat) (u2 : Nat) (u3 : Nat) (u4 : Nat) (u5 : Nat) (u6 : Nat) (u7 : Nat) (u8 : Nat) (u11 : Nat) (u14 : Nat) (u16 : Nat) (u20 : Nat) (u21 : Nat) (u22 : Nat) (u23 : Nat) (u24 : Nat) (ft : Int) (sc : Int) (rm : Int) (wc : Int) (sh : Int) (tq : Int) (cnt : Int) (gf : Int) (gs : Int) (rc : Int) (tc : Int) (Ru : Nat → Int) (w : Int) (hb_w : inB w) : gM l yX6_rule wsX6_rule (gr 1 0 0) X [(h0, .inr (6, [.int (iI ft), .int (iI sc), .ref u2, .ref u3, .ref u4, .ref u5, .ref u6, .ref u7, .ref u8, .int (iI rm), .int (iI wc), .ref u11, .int (iI sh), .int (iI tq), .ref u14, .int (iI cnt), .ref u16, .int (iI gf), .int (iI gs), .int (iI rc), .ref u20, .ref u21, .ref u22, .ref u23, .ref u24, .int (iI tc)])), (u7, .inl (X.2.1.1, 6, .inl (iF Ru)))] [.ref h0, .int (iI w)] (gQi X (Y := Unit) (fun _ => True) (fun _ => (if 0 ≤ w ∧ w ≤ 5 then (Ru (Int.toNat w)) else -1)) (fun _ => [(h0, .inr (6, [.int (iI ft), .int (iI sc), .ref u2, .ref u3, .ref u4, .ref u5, .ref u6, .ref u7, .ref u8, .int (iI rm), .int (iI wc), .ref u11, .int (iI sh), .int (iI tq), .ref u14, .int (iI cnt), .ref u16, .int (iI gf), .int (iI gs), .int (iI rc), .ref u20, .ref u21, .ref u22, .ref u23, .ref u24, .int (iI tc)])), (u7, .inl (X.2.1.1, 6, .inl (iF Ru)))])) 0 0 := by
  refine g_start2 (lo := [(0, .ref h0), (1, .int (iI w))]) (by decide +kernel) rfl rfl (Nat.le_of_ble_eq_true rfl) (fun p e s m args below meth c A C => ?_)
  refine r_iload_n C dX6_rule_0 1 rfl ?_
  refine r_i2l C dX6_rule_1 (by omega) ?_
  refine r_lconst (z := 0) C dX6_rule_2 rfl ?_
  refine r_ldc2 (z := 5) C dX6_rule_3 kw_X6_rule_0 rfl ?_
  refine g_S_i (ws2 := (fun _ => [(h0, .inr (6, [.int (iI ft), .int (iI sc), .ref u2, .ref u3, .ref u4, .ref u5, .ref u6, .ref u7, .ref u8, .int (iI rm), .int (iI wc), .ref u11, .int (iI sh), .int (iI tq), .ref u14, .int (iI cnt), .ref u16, .int (iI gf), .int (iI gs), .int (iI rc), .ref u20, .ref u21, .ref u22, .ref u23, .ref u24, .int (iI tc)])), (u7, .inl (X.2.1.1, 6, .inl (iF Ru)))])) (As := [.long (lI w), .long (lI 0), .long (lI 5)]) C (c_X6_in l X w 0 5 (by first | assumption | omega) (by first | assumption | omega) (by first | assumption | omega)) gX6_rule_X6_in rfl rfl rfl hd_S_X6_in_X6_rule (by decide) dX6_rule_6 [] [0, 1] [0, 1] rfl rfl rfl rfl (by decide) rfl rfl rfl (Nat.le_of_ble_eq_true rfl) (by decide) (fun _ => rfl) (fun _ hy_ => ?_)
  clear hy_
  refine r_ite (fun h_1 => ?_) (fun h_1 => ?_)
  · skip
    refine r_if_eq (tgt := 21) C dX6_rule_9 (by decide) (by decide) (fun h_2 => absurd h_2 (by decide)) (fun h_2 => ?_)
    refine r_aload_n C dX6_rule_12 0 rfl ?_
    refine gf_6_7 C hi_X6_rule_6 kw_X6_rule_1 dX6_rule_13 0 rfl rfl ?_
    refine r_iload_n C dX6_rule_16 1 rfl ?_
    refine r_iald C dX6_rule_17 1 rfl (by omega) (by decide) ?_
    refine r_goto (tgt := 22) C dX6_rule_18 (by decide) ?_
    exact g_ret_i C rfl dX6_rule_22 () trivial (by (repeat' split) <;> first | rfl | omega) [0, 1] rfl (by (repeat' split) <;> first | rfl | omega)
  · skip
    refine r_if_eq (tgt := 21) C dX6_rule_9 (by decide) (by decide) (fun h_3 => ?_) (fun h_3 => absurd h_3 (by decide))
    refine r_iconst C dX6_rule_21 ?_
    exact g_ret_i C rfl dX6_rule_22 () trivial (by (repeat' split) <;> first | rfl | omega) [0, 1] rfl (by (repeat' split) <;> first | rfl | omega)

set_option maxRecDepth 20000 in
theorem kw_X6_shift_0 : Cond.constantLong RX6 138 (19) ∈ wsX6_shift := List.mem_of_getElem? (i := 1) rfl
set_option maxRecDepth 20000 in
theorem hd_S_X6_in_X6_shift : yX6_in.cls ≠ "java/lang/invoke/MethodHandle" ∧ yX6_in.cls ≠ "java/lang/invoke/VarHandle" ∧ (parseMethodDescriptor yX6_in.desc).map (fun d => d.parameters.length) = some 3 := by decide +kernel
set_option maxRecDepth 20000 in
theorem kw_X6_shift_1 : Cond.fieldLink RX6 140 "SkipStonesModel" "shiftNow" "I" ∈ wsX6_shift := List.mem_of_getElem? (i := 2) rfl
set_option maxRecDepth 20000 in
theorem hi_X6_shift_6 : ∀ w ∈ wsX60, w ∈ wsX6_shift := fun _ h => List.mem_cons_of_mem _ (List.mem_append_right _ h)
set_option maxHeartbeats 4000000 in
set_option maxRecDepth 100000 in
theorem c_X6_shift (l : Launch) (X : gX) (h0 : Nat) (u2 : Nat) (u3 : Nat) (u4 : Nat) (u5 : Nat) (u6 : Nat) (u7 : Nat) (u8 : Nat) (u11 : Nat) (u14 : Nat) (u16 : Nat) (u20 : Nat) (u21 : Nat) (u22 : Nat) (u23 : Nat) (u24 : Nat) (ft : Int) (sc : Int) (rm : Int) (wc : Int) (sh : Int) (tq : Int) (cnt : Int) (gf : Int) (gs : Int) (rc : Int) (tc : Int) (v : Int) (hb_v : inB v) : gM l yX6_shift wsX6_shift (gr 1 0 0) X [(h0, .inr (6, [.int (iI ft), .int (iI sc), .ref u2, .ref u3, .ref u4, .ref u5, .ref u6, .ref u7, .ref u8, .int (iI rm), .int (iI wc), .ref u11, .int (iI sh), .int (iI tq), .ref u14, .int (iI cnt), .ref u16, .int (iI gf), .int (iI gs), .int (iI rc), .ref u20, .ref u21, .ref u22, .ref u23, .ref u24, .int (iI tc)]))] [.ref h0, .int (iI v)] (gQi X (Y := Unit) (fun _ => True) (fun _ => (if 0 ≤ v ∧ v ≤ 19 then sh else -2)) (fun _ => [(h0, .inr (6, [.int (iI ft), .int (iI sc), .ref u2, .ref u3, .ref u4, .ref u5, .ref u6, .ref u7, .ref u8, .int (iI rm), .int (iI wc), .ref u11, .int (iI (if 0 ≤ v ∧ v ≤ 19 then v else sh)), .int (iI tq), .ref u14, .int (iI cnt), .ref u16, .int (iI gf), .int (iI gs), .int (iI rc), .ref u20, .ref u21, .ref u22, .ref u23, .ref u24, .int (iI tc)]))])) 0 0 := by
  refine g_start2 (lo := [(0, .ref h0), (1, .int (iI v))]) (by decide +kernel) rfl rfl (Nat.le_of_ble_eq_true rfl) (fun p e s m args below meth c A C => ?_)
  refine r_iload_n C dX6_shift_0 1 rfl ?_
  refine r_i2l C dX6_shift_1 (by omega) ?_
  refine r_lconst (z := 0) C dX6_shift_2 rfl ?_
  refine r_ldc2 (z := 19) C dX6_shift_3 kw_X6_shift_0 rfl ?_
  refine g_S_i (ws2 := (fun _ => [(h0, .inr (6, [.int (iI ft), .int (iI sc), .ref u2, .ref u3, .ref u4, .ref u5, .ref u6, .ref u7, .ref u8, .int (iI rm), .int (iI wc), .ref u11, .int (iI sh), .int (iI tq), .ref u14, .int (iI cnt), .ref u16, .int (iI gf), .int (iI gs), .int (iI rc), .ref u20, .ref u21, .ref u22, .ref u23, .ref u24, .int (iI tc)]))])) (As := [.long (lI v), .long (lI 0), .long (lI 19)]) C (c_X6_in l X v 0 19 (by first | assumption | omega) (by first | assumption | omega) (by first | assumption | omega)) gX6_shift_X6_in rfl rfl rfl hd_S_X6_in_X6_shift (by decide) dX6_shift_6 [] [0] [0] rfl rfl rfl rfl (by decide) rfl rfl rfl (Nat.le_of_ble_eq_true rfl) (by decide) (fun _ => rfl) (fun _ hy_ => ?_)
  clear hy_
  refine r_ite (fun h_1 => ?_) (fun h_1 => ?_)
  · skip
    refine r_if_ne (tgt := 15) C dX6_shift_9 (by decide) (by decide) (fun h_2 => ?_) (fun h_2 => absurd h_2 (by decide))
    refine r_aload_n C dX6_shift_15 0 rfl ?_
    refine gf_6_12 C hi_X6_shift_6 kw_X6_shift_1 dX6_shift_16 0 rfl rfl ?_
    refine r_istore_n (lo2 := [(2, .int (iI sh)), (0, .ref h0), (1, .int (iI v))]) C dX6_shift_19 rfl (by decide) rfl ?_
    refine r_aload_n C dX6_shift_20 1 rfl ?_
    refine r_iload_n C dX6_shift_21 2 rfl ?_
    refine pf_6_12 (ws2 := [(h0, .inr (6, [.int (iI ft), .int (iI sc), .ref u2, .ref u3, .ref u4, .ref u5, .ref u6, .ref u7, .ref u8, .int (iI rm), .int (iI wc), .ref u11, .int (iI v), .int (iI tq), .ref u14, .int (iI cnt), .ref u16, .int (iI gf), .int (iI gs), .int (iI rc), .ref u20, .ref u21, .ref u22, .ref u23, .ref u24, .int (iI tc)]))]) C hi_X6_shift_6 kw_X6_shift_1 dX6_shift_22 0 rfl rfl rfl (Nat.le_of_ble_eq_true rfl) rfl ?_
    refine r_iload_n C dX6_shift_25 0 rfl ?_
    exact g_ret_i C rfl dX6_shift_26 () trivial (by (repeat' split) <;> first | rfl | omega) [0] rfl (by (repeat' split) <;> first | rfl | omega)
  · skip
    refine r_if_ne (tgt := 15) C dX6_shift_9 (by decide) (by decide) (fun h_3 => absurd h_3 (by decide)) (fun h_3 => ?_)
    refine r_bipush C dX6_shift_12 (by decide) ?_
    exact g_ret_i C rfl dX6_shift_14 () trivial (by (repeat' split) <;> first | rfl | omega) [0] rfl (by (repeat' split) <;> first | rfl | omega)

set_option maxRecDepth 20000 in
theorem kw_X6_waveAt_0 : Cond.fieldLink RX6 31 "SkipStonesModel" "waveHigh" "[I" ∈ wsX6_waveAt := List.mem_of_getElem? (i := 1) rfl
set_option maxRecDepth 20000 in
theorem kw_X6_waveAt_1 : Cond.fieldLink RX6 140 "SkipStonesModel" "shiftNow" "I" ∈ wsX6_waveAt := List.mem_of_getElem? (i := 2) rfl
set_option maxRecDepth 20000 in
theorem kw_X6_waveAt_2 : Cond.fieldLink RX6 59 "SkipStonesModel" "waveMany" "I" ∈ wsX6_waveAt := List.mem_of_getElem? (i := 3) rfl
set_option maxRecDepth 20000 in
theorem hi_X6_waveAt_6 : ∀ w ∈ wsX60, w ∈ wsX6_waveAt := fun _ h => List.mem_cons_of_mem _ (List.mem_append_right _ h)
set_option maxHeartbeats 4000000 in
set_option maxRecDepth 100000 in
theorem c_X6_waveAt (l : Launch) (X : gX) (h0 : Nat) (u2 : Nat) (u3 : Nat) (u4 : Nat) (u5 : Nat) (u6 : Nat) (u7 : Nat) (u8 : Nat) (u11 : Nat) (u14 : Nat) (u16 : Nat) (u20 : Nat) (u21 : Nat) (u22 : Nat) (u23 : Nat) (u24 : Nat) (ft : Int) (sc : Int) (rm : Int) (wc : Int) (sh : Int) (tq : Int) (cnt : Int) (gf : Int) (gs : Int) (rc : Int) (tc : Int) (Fw : Nat → Int) (k : Int) (hk : 0 ≤ k ∧ k < 1000000000) (hwc : 1 ≤ wc ∧ wc ≤ 20) (hsh : 0 ≤ sh ∧ sh < 20) : gM l yX6_waveAt wsX6_waveAt (gr 0 0 0) X [(h0, .inr (6, [.int (iI ft), .int (iI sc), .ref u2, .ref u3, .ref u4, .ref u5, .ref u6, .ref u7, .ref u8, .int (iI rm), .int (iI wc), .ref u11, .int (iI sh), .int (iI tq), .ref u14, .int (iI cnt), .ref u16, .int (iI gf), .int (iI gs), .int (iI rc), .ref u20, .ref u21, .ref u22, .ref u23, .ref u24, .int (iI tc)])), (u11, .inl (X.2.1.1, 20, .inl (iF Fw)))] [.ref h0, .int (iI k)] (gQi X (Y := Unit) (fun _ => True) (fun _ => (Fw (Int.toNat ((k + sh) % wc)))) (fun _ => [(h0, .inr (6, [.int (iI ft), .int (iI sc), .ref u2, .ref u3, .ref u4, .ref u5, .ref u6, .ref u7, .ref u8, .int (iI rm), .int (iI wc), .ref u11, .int (iI sh), .int (iI tq), .ref u14, .int (iI cnt), .ref u16, .int (iI gf), .int (iI gs), .int (iI rc), .ref u20, .ref u21, .ref u22, .ref u23, .ref u24, .int (iI tc)])), (u11, .inl (X.2.1.1, 20, .inl (iF Fw)))])) 0 0 := by
  refine g_start2 (lo := [(0, .ref h0), (1, .int (iI k))]) (by decide +kernel) rfl rfl (Nat.le_of_ble_eq_true rfl) (fun p e s m args below meth c A C => ?_)
  refine r_aload_n C dX6_waveAt_0 0 rfl ?_
  refine gf_6_11 C hi_X6_waveAt_6 kw_X6_waveAt_0 dX6_waveAt_1 0 rfl rfl ?_
  refine r_iload_n C dX6_waveAt_4 1 rfl ?_
  refine r_aload_n C dX6_waveAt_5 0 rfl ?_
  refine gf_6_12 C hi_X6_waveAt_6 kw_X6_waveAt_1 dX6_waveAt_6 0 rfl rfl ?_
  refine r_iadd C dX6_waveAt_9 ?_
  refine r_aload_n C dX6_waveAt_10 0 rfl ?_
  refine gf_6_10 C hi_X6_waveAt_6 kw_X6_waveAt_2 dX6_waveAt_11 0 rfl rfl ?_
  refine r_irem C dX6_waveAt_14 (by omega) (by omega) ?_
  have hm := modB (a := k + sh) (b := wc) (by omega)
  refine r_iald C dX6_waveAt_15 1 rfl (by omega) (by decide) ?_
  exact g_ret_i C rfl dX6_waveAt_16 () trivial (by (repeat' split) <;> first | rfl | omega) [0, 1] rfl (by (repeat' split) <;> first | rfl | omega)

set_option maxRecDepth 20000 in
theorem kw_X6_wave_0 : Cond.constantLong RX6 143 (99999) ∈ wsX6_wave := List.mem_of_getElem? (i := 1) rfl
set_option maxRecDepth 20000 in
theorem hd_S_X6_in_X6_wave : yX6_in.cls ≠ "java/lang/invoke/MethodHandle" ∧ yX6_in.cls ≠ "java/lang/invoke/VarHandle" ∧ (parseMethodDescriptor yX6_in.desc).map (fun d => d.parameters.length) = some 3 := by decide +kernel
set_option maxRecDepth 20000 in
theorem hd_V_X6_waveAt_X6_wave : yX6_waveAt.cls = yX6_waveAt.cls ∧ yX6_waveAt.cls ≠ "java/lang/invoke/MethodHandle" ∧ yX6_waveAt.cls ≠ "java/lang/invoke/VarHandle" ∧ (parseMethodDescriptor yX6_waveAt.desc).map (fun d => d.parameters.length) = some 1 := by decide +kernel
set_option maxHeartbeats 4000000 in
set_option maxRecDepth 100000 in
theorem c_X6_wave (l : Launch) (X : gX) (h0 : Nat) (u2 : Nat) (u3 : Nat) (u4 : Nat) (u5 : Nat) (u6 : Nat) (u7 : Nat) (u8 : Nat) (u11 : Nat) (u14 : Nat) (u16 : Nat) (u20 : Nat) (u21 : Nat) (u22 : Nat) (u23 : Nat) (u24 : Nat) (ft : Int) (sc : Int) (rm : Int) (wc : Int) (sh : Int) (tq : Int) (cnt : Int) (gf : Int) (gs : Int) (rc : Int) (tc : Int) (Fw : Nat → Int) (x : Int) (hb_x : inB x) (hwc : 1 ≤ wc ∧ wc ≤ 20) (hsh : 0 ≤ sh ∧ sh < 20) : gM l yX6_wave wsX6_wave (gr 1 0 0) X [(h0, .inr (6, [.int (iI ft), .int (iI sc), .ref u2, .ref u3, .ref u4, .ref u5, .ref u6, .ref u7, .ref u8, .int (iI rm), .int (iI wc), .ref u11, .int (iI sh), .int (iI tq), .ref u14, .int (iI cnt), .ref u16, .int (iI gf), .int (iI gs), .int (iI rc), .ref u20, .ref u21, .ref u22, .ref u23, .ref u24, .int (iI tc)])), (u11, .inl (X.2.1.1, 20, .inl (iF Fw)))] [.ref h0, .int (iI x)] (gQi X (Y := Unit) (fun _ => True) (fun _ => (if 0 ≤ x ∧ x ≤ 99999 then Fw (Int.toNat ((x + sh) % wc)) else -99)) (fun _ => [(h0, .inr (6, [.int (iI ft), .int (iI sc), .ref u2, .ref u3, .ref u4, .ref u5, .ref u6, .ref u7, .ref u8, .int (iI rm), .int (iI wc), .ref u11, .int (iI sh), .int (iI tq), .ref u14, .int (iI cnt), .ref u16, .int (iI gf), .int (iI gs), .int (iI rc), .ref u20, .ref u21, .ref u22, .ref u23, .ref u24, .int (iI tc)])), (u11, .inl (X.2.1.1, 20, .inl (iF Fw)))])) 0 0 := by
  refine g_start2 (lo := [(0, .ref h0), (1, .int (iI x))]) (by decide +kernel) rfl rfl (Nat.le_of_ble_eq_true rfl) (fun p e s m args below meth c A C => ?_)
  refine r_iload_n C dX6_wave_0 1 rfl ?_
  refine r_i2l C dX6_wave_1 (by omega) ?_
  refine r_lconst (z := 0) C dX6_wave_2 rfl ?_
  refine r_ldc2 (z := 99999) C dX6_wave_3 kw_X6_wave_0 rfl ?_
  refine g_S_i (ws2 := (fun _ => [(h0, .inr (6, [.int (iI ft), .int (iI sc), .ref u2, .ref u3, .ref u4, .ref u5, .ref u6, .ref u7, .ref u8, .int (iI rm), .int (iI wc), .ref u11, .int (iI sh), .int (iI tq), .ref u14, .int (iI cnt), .ref u16, .int (iI gf), .int (iI gs), .int (iI rc), .ref u20, .ref u21, .ref u22, .ref u23, .ref u24, .int (iI tc)])), (u11, .inl (X.2.1.1, 20, .inl (iF Fw)))])) (As := [.long (lI x), .long (lI 0), .long (lI 99999)]) C (c_X6_in l X x 0 99999 (by first | assumption | omega) (by first | assumption | omega) (by first | assumption | omega)) gX6_wave_X6_in rfl rfl rfl hd_S_X6_in_X6_wave (by decide) dX6_wave_6 [] [0, 1] [0, 1] rfl rfl rfl rfl (by decide) rfl rfl rfl (Nat.le_of_ble_eq_true rfl) (by decide) (fun _ => rfl) (fun _ hy_ => ?_)
  clear hy_
  refine r_ite (fun h_1 => ?_) (fun h_1 => ?_)
  · skip
    refine r_if_eq (tgt := 20) C dX6_wave_9 (by decide) (by decide) (fun h_2 => absurd h_2 (by decide)) (fun h_2 => ?_)
    refine r_aload_n C dX6_wave_12 0 rfl ?_
    refine r_iload_n C dX6_wave_13 1 rfl ?_
    refine g_V_i (ws2 := (fun _ => [(h0, .inr (6, [.int (iI ft), .int (iI sc), .ref u2, .ref u3, .ref u4, .ref u5, .ref u6, .ref u7, .ref u8, .int (iI rm), .int (iI wc), .ref u11, .int (iI sh), .int (iI tq), .ref u14, .int (iI cnt), .ref u16, .int (iI gf), .int (iI gs), .int (iI rc), .ref u20, .ref u21, .ref u22, .ref u23, .ref u24, .int (iI tc)])), (u11, .inl (X.2.1.1, 20, .inl (iF Fw)))])) (As := [.int (iI x)]) C (c_X6_waveAt l X h0 u2 u3 u4 u5 u6 u7 u8 u11 u14 u16 u20 u21 u22 u23 u24 ft sc rm wc sh tq cnt gf gs rc tc Fw x (by first | assumption | omega) (by first | assumption | omega) (by first | assumption | omega)) gX6_wave_X6_waveAt rfl rfl rfl hd_V_X6_waveAt_X6_wave (by decide) dX6_wave_14 [0, 1] [] [0, 1] rfl rfl rfl rfl (by decide) rfl 0 6 rfl rfl rfl rfl (Nat.le_of_ble_eq_true rfl) (by decide) (fun _ => rfl) (fun _ hy_ => ?_)
    clear hy_
    refine r_goto (tgt := 22) C dX6_wave_17 (by decide) ?_
    exact g_ret_i C rfl dX6_wave_22 () trivial (by (repeat' split) <;> first | rfl | omega) [0, 1] rfl (by (repeat' split) <;> first | rfl | omega)
  · skip
    refine r_if_eq (tgt := 20) C dX6_wave_9 (by decide) (by decide) (fun h_3 => ?_) (fun h_3 => absurd h_3 (by decide))
    refine r_bipush C dX6_wave_20 (by decide) ?_
    exact g_ret_i C rfl dX6_wave_22 () trivial (by (repeat' split) <;> first | rfl | omega) [0, 1] rfl (by (repeat' split) <;> first | rfl | omega)

set_option maxRecDepth 20000 in
theorem kw_X6_isSpeed_0 : Cond.constantLong RX6 159 (300) ∈ wsX6_isSpeed := List.mem_of_getElem? (i := 1) rfl
set_option maxRecDepth 20000 in
theorem hd_S_X6_in_X6_isSpeed : yX6_in.cls ≠ "java/lang/invoke/MethodHandle" ∧ yX6_in.cls ≠ "java/lang/invoke/VarHandle" ∧ (parseMethodDescriptor yX6_in.desc).map (fun d => d.parameters.length) = some 3 := by decide +kernel
set_option maxHeartbeats 4000000 in
set_option maxRecDepth 100000 in
theorem c_X6_isSpeed (l : Launch) (X : gX) (v : Int) (hb_v : inB v) : gM l yX6_isSpeed wsX6_isSpeed (gr 1 0 0) X [] [.int (iI v)] (gQi X (Y := Unit) (fun _ => True) (fun _ => (if (1 ≤ v ∧ v ≤ 300) then 1 else 0)) (fun _ => [])) 0 0 := by
  refine g_start2 (lo := [(0, .int (iI v))]) (by decide +kernel) rfl rfl (Nat.le_of_ble_eq_true rfl) (fun p e s m args below meth c A C => ?_)
  refine r_iload_n C dX6_isSpeed_0 0 rfl ?_
  refine r_i2l C dX6_isSpeed_1 (by omega) ?_
  refine r_lconst (z := 1) C dX6_isSpeed_2 rfl ?_
  refine r_ldc2 (z := 300) C dX6_isSpeed_3 kw_X6_isSpeed_0 rfl ?_
  refine g_S_i (ws2 := (fun _ => [])) (As := [.long (lI v), .long (lI 1), .long (lI 300)]) C (c_X6_in l X v 1 300 (by first | assumption | omega) (by first | assumption | omega) (by first | assumption | omega)) gX6_isSpeed_X6_in rfl rfl rfl hd_S_X6_in_X6_isSpeed (by decide) dX6_isSpeed_6 [] [] [] rfl rfl rfl rfl (by decide) rfl rfl rfl (Nat.le_of_ble_eq_true rfl) (by decide) (fun _ => rfl) (fun _ hy_ => ?_)
  clear hy_
  refine r_ite (fun h_1 => ?_) (fun h_1 => ?_)
  · skip
    exact g_ret_z C rfl (by decide) dX6_isSpeed_9 () trivial (by (repeat' split) <;> first | rfl | omega) [] rfl (by (repeat' split) <;> first | rfl | omega)
  · skip
    exact g_ret_z C rfl (by decide) dX6_isSpeed_9 () trivial (by (repeat' split) <;> first | rfl | omega) [] rfl (by (repeat' split) <;> first | rfl | omega)

set_option maxRecDepth 20000 in
theorem kw_X6_isFall_0 : Cond.constantLong RX6 101 (99) ∈ wsX6_isFall := List.mem_of_getElem? (i := 1) rfl
set_option maxRecDepth 20000 in
theorem hd_S_X6_in_X6_isFall : yX6_in.cls ≠ "java/lang/invoke/MethodHandle" ∧ yX6_in.cls ≠ "java/lang/invoke/VarHandle" ∧ (parseMethodDescriptor yX6_in.desc).map (fun d => d.parameters.length) = some 3 := by decide +kernel
set_option maxHeartbeats 4000000 in
set_option maxRecDepth 100000 in
theorem c_X6_isFall (l : Launch) (X : gX) (v : Int) (hb_v : inB v) : gM l yX6_isFall wsX6_isFall (gr 1 0 0) X [] [.int (iI v)] (gQi X (Y := Unit) (fun _ => True) (fun _ => (if (1 ≤ v ∧ v ≤ 99) then 1 else 0)) (fun _ => [])) 0 0 := by
  refine g_start2 (lo := [(0, .int (iI v))]) (by decide +kernel) rfl rfl (Nat.le_of_ble_eq_true rfl) (fun p e s m args below meth c A C => ?_)
  refine r_iload_n C dX6_isFall_0 0 rfl ?_
  refine r_i2l C dX6_isFall_1 (by omega) ?_
  refine r_lconst (z := 1) C dX6_isFall_2 rfl ?_
  refine r_ldc2 (z := 99) C dX6_isFall_3 kw_X6_isFall_0 rfl ?_
  refine g_S_i (ws2 := (fun _ => [])) (As := [.long (lI v), .long (lI 1), .long (lI 99)]) C (c_X6_in l X v 1 99 (by first | assumption | omega) (by first | assumption | omega) (by first | assumption | omega)) gX6_isFall_X6_in rfl rfl rfl hd_S_X6_in_X6_isFall (by decide) dX6_isFall_6 [] [] [] rfl rfl rfl rfl (by decide) rfl rfl rfl (Nat.le_of_ble_eq_true rfl) (by decide) (fun _ => rfl) (fun _ hy_ => ?_)
  clear hy_
  refine r_ite (fun h_1 => ?_) (fun h_1 => ?_)
  · skip
    exact g_ret_z C rfl (by decide) dX6_isFall_9 () trivial (by (repeat' split) <;> first | rfl | omega) [] rfl (by (repeat' split) <;> first | rfl | omega)
  · skip
    exact g_ret_z C rfl (by decide) dX6_isFall_9 () trivial (by (repeat' split) <;> first | rfl | omega) [] rfl (by (repeat' split) <;> first | rfl | omega)

set_option maxRecDepth 20000 in
theorem kw_X6_isSlant_0 : Cond.constantLong RX6 148 (45) ∈ wsX6_isSlant := List.mem_of_getElem? (i := 1) rfl
set_option maxRecDepth 20000 in
theorem hd_S_X6_in_X6_isSlant : yX6_in.cls ≠ "java/lang/invoke/MethodHandle" ∧ yX6_in.cls ≠ "java/lang/invoke/VarHandle" ∧ (parseMethodDescriptor yX6_in.desc).map (fun d => d.parameters.length) = some 3 := by decide +kernel
set_option maxHeartbeats 4000000 in
set_option maxRecDepth 100000 in
theorem c_X6_isSlant (l : Launch) (X : gX) (v : Int) (hb_v : inB v) : gM l yX6_isSlant wsX6_isSlant (gr 1 0 0) X [] [.int (iI v)] (gQi X (Y := Unit) (fun _ => True) (fun _ => (if (0 ≤ v ∧ v ≤ 45) then 1 else 0)) (fun _ => [])) 0 0 := by
  refine g_start2 (lo := [(0, .int (iI v))]) (by decide +kernel) rfl rfl (Nat.le_of_ble_eq_true rfl) (fun p e s m args below meth c A C => ?_)
  refine r_iload_n C dX6_isSlant_0 0 rfl ?_
  refine r_i2l C dX6_isSlant_1 (by omega) ?_
  refine r_lconst (z := 0) C dX6_isSlant_2 rfl ?_
  refine r_ldc2 (z := 45) C dX6_isSlant_3 kw_X6_isSlant_0 rfl ?_
  refine g_S_i (ws2 := (fun _ => [])) (As := [.long (lI v), .long (lI 0), .long (lI 45)]) C (c_X6_in l X v 0 45 (by first | assumption | omega) (by first | assumption | omega) (by first | assumption | omega)) gX6_isSlant_X6_in rfl rfl rfl hd_S_X6_in_X6_isSlant (by decide) dX6_isSlant_6 [] [] [] rfl rfl rfl rfl (by decide) rfl rfl rfl (Nat.le_of_ble_eq_true rfl) (by decide) (fun _ => rfl) (fun _ hy_ => ?_)
  clear hy_
  refine r_ite (fun h_1 => ?_) (fun h_1 => ?_)
  · skip
    exact g_ret_z C rfl (by decide) dX6_isSlant_9 () trivial (by (repeat' split) <;> first | rfl | omega) [] rfl (by (repeat' split) <;> first | rfl | omega)
  · skip
    exact g_ret_z C rfl (by decide) dX6_isSlant_9 () trivial (by (repeat' split) <;> first | rfl | omega) [] rfl (by (repeat' split) <;> first | rfl | omega)

set_option maxRecDepth 20000 in
theorem kw_X6_isSpin_0 : Cond.constantLong RX6 101 (99) ∈ wsX6_isSpin := List.mem_of_getElem? (i := 1) rfl
set_option maxRecDepth 20000 in
theorem hd_S_X6_in_X6_isSpin : yX6_in.cls ≠ "java/lang/invoke/MethodHandle" ∧ yX6_in.cls ≠ "java/lang/invoke/VarHandle" ∧ (parseMethodDescriptor yX6_in.desc).map (fun d => d.parameters.length) = some 3 := by decide +kernel
set_option maxHeartbeats 4000000 in
set_option maxRecDepth 100000 in
theorem c_X6_isSpin (l : Launch) (X : gX) (v : Int) (hb_v : inB v) : gM l yX6_isSpin wsX6_isSpin (gr 1 0 0) X [] [.int (iI v)] (gQi X (Y := Unit) (fun _ => True) (fun _ => (if (0 ≤ v ∧ v ≤ 99) then 1 else 0)) (fun _ => [])) 0 0 := by
  refine g_start2 (lo := [(0, .int (iI v))]) (by decide +kernel) rfl rfl (Nat.le_of_ble_eq_true rfl) (fun p e s m args below meth c A C => ?_)
  refine r_iload_n C dX6_isSpin_0 0 rfl ?_
  refine r_i2l C dX6_isSpin_1 (by omega) ?_
  refine r_lconst (z := 0) C dX6_isSpin_2 rfl ?_
  refine r_ldc2 (z := 99) C dX6_isSpin_3 kw_X6_isSpin_0 rfl ?_
  refine g_S_i (ws2 := (fun _ => [])) (As := [.long (lI v), .long (lI 0), .long (lI 99)]) C (c_X6_in l X v 0 99 (by first | assumption | omega) (by first | assumption | omega) (by first | assumption | omega)) gX6_isSpin_X6_in rfl rfl rfl hd_S_X6_in_X6_isSpin (by decide) dX6_isSpin_6 [] [] [] rfl rfl rfl rfl (by decide) rfl rfl rfl (Nat.le_of_ble_eq_true rfl) (by decide) (fun _ => rfl) (fun _ hy_ => ?_)
  clear hy_
  refine r_ite (fun h_1 => ?_) (fun h_1 => ?_)
  · skip
    exact g_ret_z C rfl (by decide) dX6_isSpin_9 () trivial (by (repeat' split) <;> first | rfl | omega) [] rfl (by (repeat' split) <;> first | rfl | omega)
  · skip
    exact g_ret_z C rfl (by decide) dX6_isSpin_9 () trivial (by (repeat' split) <;> first | rfl | omega) [] rfl (by (repeat' split) <;> first | rfl | omega)

set_option maxRecDepth 20000 in
theorem kw_X6_noJudge_0 : Cond.constantLong RX6 161 (4) ∈ wsX6_noJudge := List.mem_of_getElem? (i := 1) rfl
set_option maxRecDepth 20000 in
theorem hd_S_X6_in_X6_noJudge : yX6_in.cls ≠ "java/lang/invoke/MethodHandle" ∧ yX6_in.cls ≠ "java/lang/invoke/VarHandle" ∧ (parseMethodDescriptor yX6_in.desc).map (fun d => d.parameters.length) = some 3 := by decide +kernel
set_option maxHeartbeats 4000000 in
set_option maxRecDepth 100000 in
theorem c_X6_noJudge (l : Launch) (X : gX) (v : Int) (hb_v : inB v) : gM l yX6_noJudge wsX6_noJudge (gr 1 0 0) X [] [.int (iI v)] (gQi X (Y := Unit) (fun _ => True) (fun _ => (if (¬ (0 ≤ v ∧ v ≤ 4)) then 1 else 0)) (fun _ => [])) 0 0 := by
  refine g_start2 (lo := [(0, .int (iI v))]) (by decide +kernel) rfl rfl (Nat.le_of_ble_eq_true rfl) (fun p e s m args below meth c A C => ?_)
  refine r_iload_n C dX6_noJudge_0 0 rfl ?_
  refine r_i2l C dX6_noJudge_1 (by omega) ?_
  refine r_lconst (z := 0) C dX6_noJudge_2 rfl ?_
  refine r_ldc2 (z := 4) C dX6_noJudge_3 kw_X6_noJudge_0 rfl ?_
  refine g_S_i (ws2 := (fun _ => [])) (As := [.long (lI v), .long (lI 0), .long (lI 4)]) C (c_X6_in l X v 0 4 (by first | assumption | omega) (by first | assumption | omega) (by first | assumption | omega)) gX6_noJudge_X6_in rfl rfl rfl hd_S_X6_in_X6_noJudge (by decide) dX6_noJudge_6 [] [] [] rfl rfl rfl rfl (by decide) rfl rfl rfl (Nat.le_of_ble_eq_true rfl) (by decide) (fun _ => rfl) (fun _ hy_ => ?_)
  clear hy_
  refine r_ite (fun h_1 => ?_) (fun h_1 => ?_)
  · skip
    refine r_if_ne (tgt := 16) C dX6_noJudge_9 (by decide) (by decide) (fun h_2 => ?_) (fun h_2 => absurd h_2 (by decide))
    refine r_iconst C dX6_noJudge_16 ?_
    exact g_ret_z C rfl (by decide) dX6_noJudge_17 () trivial (by (repeat' split) <;> first | rfl | omega) [] rfl (by (repeat' split) <;> first | rfl | omega)
  · skip
    refine r_if_ne (tgt := 16) C dX6_noJudge_9 (by decide) (by decide) (fun h_3 => absurd h_3 (by decide)) (fun h_3 => ?_)
    refine r_iconst C dX6_noJudge_12 ?_
    refine r_goto (tgt := 17) C dX6_noJudge_13 (by decide) ?_
    exact g_ret_z C rfl (by decide) dX6_noJudge_17 () trivial (by (repeat' split) <;> first | rfl | omega) [] rfl (by (repeat' split) <;> first | rfl | omega)

set_option maxRecDepth 20000 in
theorem kw_X6_noSheet_0 : Cond.constantLong RX6 227 (3) ∈ wsX6_noSheet := List.mem_of_getElem? (i := 1) rfl
set_option maxRecDepth 20000 in
theorem hd_S_X6_in_X6_noSheet : yX6_in.cls ≠ "java/lang/invoke/MethodHandle" ∧ yX6_in.cls ≠ "java/lang/invoke/VarHandle" ∧ (parseMethodDescriptor yX6_in.desc).map (fun d => d.parameters.length) = some 3 := by decide +kernel
set_option maxHeartbeats 4000000 in
set_option maxRecDepth 100000 in
theorem c_X6_noSheet (l : Launch) (X : gX) (v : Int) (hb_v : inB v) : gM l yX6_noSheet wsX6_noSheet (gr 1 0 0) X [] [.int (iI v)] (gQi X (Y := Unit) (fun _ => True) (fun _ => (if (¬ (0 ≤ v ∧ v ≤ 3)) then 1 else 0)) (fun _ => [])) 0 0 := by
  refine g_start2 (lo := [(0, .int (iI v))]) (by decide +kernel) rfl rfl (Nat.le_of_ble_eq_true rfl) (fun p e s m args below meth c A C => ?_)
  refine r_iload_n C dX6_noSheet_0 0 rfl ?_
  refine r_i2l C dX6_noSheet_1 (by omega) ?_
  refine r_lconst (z := 0) C dX6_noSheet_2 rfl ?_
  refine r_ldc2 (z := 3) C dX6_noSheet_3 kw_X6_noSheet_0 rfl ?_
  refine g_S_i (ws2 := (fun _ => [])) (As := [.long (lI v), .long (lI 0), .long (lI 3)]) C (c_X6_in l X v 0 3 (by first | assumption | omega) (by first | assumption | omega) (by first | assumption | omega)) gX6_noSheet_X6_in rfl rfl rfl hd_S_X6_in_X6_noSheet (by decide) dX6_noSheet_6 [] [] [] rfl rfl rfl rfl (by decide) rfl rfl rfl (Nat.le_of_ble_eq_true rfl) (by decide) (fun _ => rfl) (fun _ hy_ => ?_)
  clear hy_
  refine r_ite (fun h_1 => ?_) (fun h_1 => ?_)
  · skip
    refine r_if_ne (tgt := 16) C dX6_noSheet_9 (by decide) (by decide) (fun h_2 => ?_) (fun h_2 => absurd h_2 (by decide))
    refine r_iconst C dX6_noSheet_16 ?_
    exact g_ret_z C rfl (by decide) dX6_noSheet_17 () trivial (by (repeat' split) <;> first | rfl | omega) [] rfl (by (repeat' split) <;> first | rfl | omega)
  · skip
    refine r_if_ne (tgt := 16) C dX6_noSheet_9 (by decide) (by decide) (fun h_3 => absurd h_3 (by decide)) (fun h_3 => ?_)
    refine r_iconst C dX6_noSheet_12 ?_
    refine r_goto (tgt := 17) C dX6_noSheet_13 (by decide) ?_
    exact g_ret_z C rfl (by decide) dX6_noSheet_17 () trivial (by (repeat' split) <;> first | rfl | omega) [] rfl (by (repeat' split) <;> first | rfl | omega)

set_option maxRecDepth 20000 in
theorem kw_X6_isGrid_0 : Cond.constantLong RX6 132 (20) ∈ wsX6_isGrid := List.mem_of_getElem? (i := 1) rfl
set_option maxRecDepth 20000 in
theorem hd_S_X6_in_X6_isGrid : yX6_in.cls ≠ "java/lang/invoke/MethodHandle" ∧ yX6_in.cls ≠ "java/lang/invoke/VarHandle" ∧ (parseMethodDescriptor yX6_in.desc).map (fun d => d.parameters.length) = some 3 := by decide +kernel
set_option maxRecDepth 20000 in
theorem kw_X6_isGrid_1 : Cond.constantLong RX6 193 (10) ∈ wsX6_isGrid := List.mem_of_getElem? (i := 2) rfl
set_option maxRecDepth 20000 in
theorem hd_S_X6_isSpeed_X6_isGrid : yX6_isSpeed.cls ≠ "java/lang/invoke/MethodHandle" ∧ yX6_isSpeed.cls ≠ "java/lang/invoke/VarHandle" ∧ (parseMethodDescriptor yX6_isSpeed.desc).map (fun d => d.parameters.length) = some 1 := by decide +kernel
set_option maxRecDepth 20000 in
theorem hd_S_X6_isSlant_X6_isGrid : yX6_isSlant.cls ≠ "java/lang/invoke/MethodHandle" ∧ yX6_isSlant.cls ≠ "java/lang/invoke/VarHandle" ∧ (parseMethodDescriptor yX6_isSlant.desc).map (fun d => d.parameters.length) = some 1 := by decide +kernel
set_option maxHeartbeats 4000000 in
set_option maxRecDepth 100000 in
theorem c_X6_isGrid (l : Launch) (X : gX) (v : Int) (dv : Int) (n : Int) (dn : Int) (hb_v : inB v) (hb_dv : inB dv) (hb_n : inB n) (hb_dn : inB dn) : gM l yX6_isGrid wsX6_isGrid (gr 2 0 0) X [] [.int (iI v), .int (iI dv), .int (iI n), .int (iI dn)] (gQi X (Y := Unit) (fun _ => True) (fun _ => (if (0 ≤ dv ∧ dv ≤ 20 ∧ 0 ≤ dn ∧ dn ≤ 10 ∧ 1 ≤ v ∧ v ≤ 300 - dv ∧ 0 ≤ n ∧ n ≤ 45 - dn) then 1 else 0)) (fun _ => [])) 0 0 := by
  refine g_start2 (lo := [(0, .int (iI v)), (1, .int (iI dv)), (2, .int (iI n)), (3, .int (iI dn))]) (by decide +kernel) rfl rfl (Nat.le_of_ble_eq_true rfl) (fun p e s m args below meth c A C => ?_)
  refine r_iload_n C dX6_isGrid_0 1 rfl ?_
  refine r_i2l C dX6_isGrid_1 (by omega) ?_
  refine r_lconst (z := 0) C dX6_isGrid_2 rfl ?_
  refine r_ldc2 (z := 20) C dX6_isGrid_3 kw_X6_isGrid_0 rfl ?_
  refine g_S_i (ws2 := (fun _ => [])) (As := [.long (lI dv), .long (lI 0), .long (lI 20)]) C (c_X6_in l X dv 0 20 (by first | assumption | omega) (by first | assumption | omega) (by first | assumption | omega)) gX6_isGrid_X6_in rfl rfl rfl hd_S_X6_in_X6_isGrid (by decide) dX6_isGrid_6 [] [] [] rfl rfl rfl rfl (by decide) rfl rfl rfl (Nat.le_of_ble_eq_true rfl) (by decide) (fun _ => rfl) (fun _ hy_ => ?_)
  clear hy_
  refine r_ite (fun h_1 => ?_) (fun h_1 => ?_)
  · skip
    refine r_if_eq (tgt := 60) C dX6_isGrid_9 (by decide) (by decide) (fun h_2 => absurd h_2 (by decide)) (fun h_2 => ?_)
    refine r_iload_n C dX6_isGrid_12 3 rfl ?_
    refine r_i2l C dX6_isGrid_13 (by omega) ?_
    refine r_lconst (z := 0) C dX6_isGrid_14 rfl ?_
    refine r_ldc2 (z := 10) C dX6_isGrid_15 kw_X6_isGrid_1 rfl ?_
    refine g_S_i (ws2 := (fun _ => [])) (As := [.long (lI dn), .long (lI 0), .long (lI 10)]) C (c_X6_in l X dn 0 10 (by first | assumption | omega) (by first | assumption | omega) (by first | assumption | omega)) gX6_isGrid_X6_in rfl rfl rfl hd_S_X6_in_X6_isGrid (by decide) dX6_isGrid_18 [] [] [] rfl rfl rfl rfl (by decide) rfl rfl rfl (Nat.le_of_ble_eq_true rfl) (by decide) (fun _ => rfl) (fun _ hy_ => ?_)
    clear hy_
    refine r_ite (fun h_3 => ?_) (fun h_3 => ?_)
    · skip
      refine r_if_eq (tgt := 60) C dX6_isGrid_21 (by decide) (by decide) (fun h_4 => absurd h_4 (by decide)) (fun h_4 => ?_)
      refine r_iload_n C dX6_isGrid_24 0 rfl ?_
      refine g_S_i (ws2 := (fun _ => [])) (As := [.int (iI v)]) C (c_X6_isSpeed l X v (by first | assumption | omega)) gX6_isGrid_X6_isSpeed rfl rfl rfl hd_S_X6_isSpeed_X6_isGrid (by decide) dX6_isGrid_25 [] [] [] rfl rfl rfl rfl (by decide) rfl rfl rfl (Nat.le_of_ble_eq_true rfl) (by decide) (fun _ => rfl) (fun _ hy_ => ?_)
      clear hy_
      refine r_ite (fun h_5 => ?_) (fun h_5 => ?_)
      · skip
        refine r_if_eq (tgt := 60) C dX6_isGrid_28 (by decide) (by decide) (fun h_6 => absurd h_6 (by decide)) (fun h_6 => ?_)
        refine r_iload_n C dX6_isGrid_31 0 rfl ?_
        refine r_iload_n C dX6_isGrid_32 1 rfl ?_
        refine r_iadd C dX6_isGrid_33 ?_
        refine g_S_i (ws2 := (fun _ => [])) (As := [.int (iI (v + dv))]) C (c_X6_isSpeed l X (v + dv) (by first | assumption | omega)) gX6_isGrid_X6_isSpeed rfl rfl rfl hd_S_X6_isSpeed_X6_isGrid (by decide) dX6_isGrid_34 [] [] [] rfl rfl rfl rfl (by decide) rfl rfl rfl (Nat.le_of_ble_eq_true rfl) (by decide) (fun _ => rfl) (fun _ hy_ => ?_)
        clear hy_
        refine r_ite (fun h_7 => ?_) (fun h_7 => ?_)
        · skip
          refine r_if_eq (tgt := 60) C dX6_isGrid_37 (by decide) (by decide) (fun h_8 => absurd h_8 (by decide)) (fun h_8 => ?_)
          refine r_iload_n C dX6_isGrid_40 2 rfl ?_
          refine g_S_i (ws2 := (fun _ => [])) (As := [.int (iI n)]) C (c_X6_isSlant l X n (by first | assumption | omega)) gX6_isGrid_X6_isSlant rfl rfl rfl hd_S_X6_isSlant_X6_isGrid (by decide) dX6_isGrid_41 [] [] [] rfl rfl rfl rfl (by decide) rfl rfl rfl (Nat.le_of_ble_eq_true rfl) (by decide) (fun _ => rfl) (fun _ hy_ => ?_)
          clear hy_
          refine r_ite (fun h_9 => ?_) (fun h_9 => ?_)
          · skip
            refine r_if_eq (tgt := 60) C dX6_isGrid_44 (by decide) (by decide) (fun h_10 => absurd h_10 (by decide)) (fun h_10 => ?_)
            refine r_iload_n C dX6_isGrid_47 2 rfl ?_
            refine r_iload_n C dX6_isGrid_48 3 rfl ?_
            refine r_iadd C dX6_isGrid_49 ?_
            refine g_S_i (ws2 := (fun _ => [])) (As := [.int (iI (n + dn))]) C (c_X6_isSlant l X (n + dn) (by first | assumption | omega)) gX6_isGrid_X6_isSlant rfl rfl rfl hd_S_X6_isSlant_X6_isGrid (by decide) dX6_isGrid_50 [] [] [] rfl rfl rfl rfl (by decide) rfl rfl rfl (Nat.le_of_ble_eq_true rfl) (by decide) (fun _ => rfl) (fun _ hy_ => ?_)
            clear hy_
            refine r_ite (fun h_11 => ?_) (fun h_11 => ?_)
            · skip
              refine r_if_eq (tgt := 60) C dX6_isGrid_53 (by decide) (by decide) (fun h_12 => absurd h_12 (by decide)) (fun h_12 => ?_)
              refine r_iconst C dX6_isGrid_56 ?_
              refine r_goto (tgt := 61) C dX6_isGrid_57 (by decide) ?_
              exact g_ret_z C rfl (by decide) dX6_isGrid_61 () trivial (by (repeat' split) <;> first | rfl | omega) [] rfl (by (repeat' split) <;> first | rfl | omega)
            · skip
              refine r_if_eq (tgt := 60) C dX6_isGrid_53 (by decide) (by decide) (fun h_13 => ?_) (fun h_13 => absurd h_13 (by decide))
              refine r_iconst C dX6_isGrid_60 ?_
              exact g_ret_z C rfl (by decide) dX6_isGrid_61 () trivial (by (repeat' split) <;> first | rfl | omega) [] rfl (by (repeat' split) <;> first | rfl | omega)
          · skip
            refine r_if_eq (tgt := 60) C dX6_isGrid_44 (by decide) (by decide) (fun h_14 => ?_) (fun h_14 => absurd h_14 (by decide))
            refine r_iconst C dX6_isGrid_60 ?_
            exact g_ret_z C rfl (by decide) dX6_isGrid_61 () trivial (by (repeat' split) <;> first | rfl | omega) [] rfl (by (repeat' split) <;> first | rfl | omega)
        · skip
          refine r_if_eq (tgt := 60) C dX6_isGrid_37 (by decide) (by decide) (fun h_15 => ?_) (fun h_15 => absurd h_15 (by decide))
          refine r_iconst C dX6_isGrid_60 ?_
          exact g_ret_z C rfl (by decide) dX6_isGrid_61 () trivial (by (repeat' split) <;> first | rfl | omega) [] rfl (by (repeat' split) <;> first | rfl | omega)
      · skip
        refine r_if_eq (tgt := 60) C dX6_isGrid_28 (by decide) (by decide) (fun h_16 => ?_) (fun h_16 => absurd h_16 (by decide))
        refine r_iconst C dX6_isGrid_60 ?_
        exact g_ret_z C rfl (by decide) dX6_isGrid_61 () trivial (by (repeat' split) <;> first | rfl | omega) [] rfl (by (repeat' split) <;> first | rfl | omega)
    · skip
      refine r_if_eq (tgt := 60) C dX6_isGrid_21 (by decide) (by decide) (fun h_17 => ?_) (fun h_17 => absurd h_17 (by decide))
      refine r_iconst C dX6_isGrid_60 ?_
      exact g_ret_z C rfl (by decide) dX6_isGrid_61 () trivial (by (repeat' split) <;> first | rfl | omega) [] rfl (by (repeat' split) <;> first | rfl | omega)
  · skip
    refine r_if_eq (tgt := 60) C dX6_isGrid_9 (by decide) (by decide) (fun h_18 => ?_) (fun h_18 => absurd h_18 (by decide))
    refine r_iconst C dX6_isGrid_60 ?_
    exact g_ret_z C rfl (by decide) dX6_isGrid_61 () trivial (by (repeat' split) <;> first | rfl | omega) [] rfl (by (repeat' split) <;> first | rfl | omega)

set_option maxRecDepth 20000 in
theorem hd_S_X6_isFall_X6_grid : yX6_isFall.cls ≠ "java/lang/invoke/MethodHandle" ∧ yX6_isFall.cls ≠ "java/lang/invoke/VarHandle" ∧ (parseMethodDescriptor yX6_isFall.desc).map (fun d => d.parameters.length) = some 1 := by decide +kernel
set_option maxRecDepth 20000 in
theorem hd_S_X6_isSpin_X6_grid : yX6_isSpin.cls ≠ "java/lang/invoke/MethodHandle" ∧ yX6_isSpin.cls ≠ "java/lang/invoke/VarHandle" ∧ (parseMethodDescriptor yX6_isSpin.desc).map (fun d => d.parameters.length) = some 1 := by decide +kernel
set_option maxRecDepth 20000 in
theorem kw_X6_grid_0 : Cond.fieldLink RX6 63 "SkipStonesModel" "gridFall" "I" ∈ wsX6_grid := List.mem_of_getElem? (i := 1) rfl
set_option maxRecDepth 20000 in
theorem kw_X6_grid_1 : Cond.fieldLink RX6 66 "SkipStonesModel" "gridSpin" "I" ∈ wsX6_grid := List.mem_of_getElem? (i := 2) rfl
set_option maxRecDepth 20000 in
theorem hi_X6_grid_6 : ∀ w ∈ wsX60, w ∈ wsX6_grid := fun _ h => List.mem_cons_of_mem _ (List.mem_append_right _ h)
set_option maxHeartbeats 4000000 in
set_option maxRecDepth 100000 in
theorem c_X6_grid (l : Launch) (X : gX) (h0 : Nat) (u2 : Nat) (u3 : Nat) (u4 : Nat) (u5 : Nat) (u6 : Nat) (u7 : Nat) (u8 : Nat) (u11 : Nat) (u14 : Nat) (u16 : Nat) (u20 : Nat) (u21 : Nat) (u22 : Nat) (u23 : Nat) (u24 : Nat) (ft : Int) (sc : Int) (rm : Int) (wc : Int) (sh : Int) (tq : Int) (cnt : Int) (gf : Int) (gs : Int) (rc : Int) (tc : Int) (v : Int) (w : Int) (hb_v : inB v) (hb_w : inB w) (hb_gf : inB gf) (hb_gs : inB gs) : gM l yX6_grid wsX6_grid (gr 2 0 0) X [(h0, .inr (6, [.int (iI ft), .int (iI sc), .ref u2, .ref u3, .ref u4, .ref u5, .ref u6, .ref u7, .ref u8, .int (iI rm), .int (iI wc), .ref u11, .int (iI sh), .int (iI tq), .ref u14, .int (iI cnt), .ref u16, .int (iI gf), .int (iI gs), .int (iI rc), .ref u20, .ref u21, .ref u22, .ref u23, .ref u24, .int (iI tc)]))] [.ref h0, .int (iI v), .int (iI w)] (gQi X (Y := Unit) (fun _ => True) (fun _ => (if ¬ (1 ≤ v ∧ v ≤ 99 ∧ 0 ≤ w ∧ w ≤ 99) then -2 else if v = gf ∧ w = gs then 0 else 1)) (fun _ => [(h0, .inr (6, [.int (iI ft), .int (iI sc), .ref u2, .ref u3, .ref u4, .ref u5, .ref u6, .ref u7, .ref u8, .int (iI rm), .int (iI wc), .ref u11, .int (iI sh), .int (iI tq), .ref u14, .int (iI cnt), .ref u16, .int (iI (if 1 ≤ v ∧ v ≤ 99 ∧ 0 ≤ w ∧ w ≤ 99 then v else gf)), .int (iI (if 1 ≤ v ∧ v ≤ 99 ∧ 0 ≤ w ∧ w ≤ 99 then w else gs)), .int (iI rc), .ref u20, .ref u21, .ref u22, .ref u23, .ref u24, .int (iI tc)]))])) 0 0 := by
  refine g_start2 (lo := [(0, .ref h0), (1, .int (iI v)), (2, .int (iI w))]) (by decide +kernel) rfl rfl (Nat.le_of_ble_eq_true rfl) (fun p e s m args below meth c A C => ?_)
  refine r_iload_n C dX6_grid_0 1 rfl ?_
  refine g_S_i (ws2 := (fun _ => [(h0, .inr (6, [.int (iI ft), .int (iI sc), .ref u2, .ref u3, .ref u4, .ref u5, .ref u6, .ref u7, .ref u8, .int (iI rm), .int (iI wc), .ref u11, .int (iI sh), .int (iI tq), .ref u14, .int (iI cnt), .ref u16, .int (iI gf), .int (iI gs), .int (iI rc), .ref u20, .ref u21, .ref u22, .ref u23, .ref u24, .int (iI tc)]))])) (As := [.int (iI v)]) C (c_X6_isFall l X v (by first | assumption | omega)) gX6_grid_X6_isFall rfl rfl rfl hd_S_X6_isFall_X6_grid (by decide) dX6_grid_1 [] [0] [0] rfl rfl rfl rfl (by decide) rfl rfl rfl (Nat.le_of_ble_eq_true rfl) (by decide) (fun _ => rfl) (fun _ hy_ => ?_)
  clear hy_
  refine r_ite (fun h_1 => ?_) (fun h_1 => ?_)
  · skip
    refine r_if_eq (tgt := 14) C dX6_grid_4 (by decide) (by decide) (fun h_2 => absurd h_2 (by decide)) (fun h_2 => ?_)
    refine r_iload_n C dX6_grid_7 2 rfl ?_
    refine g_S_i (ws2 := (fun _ => [(h0, .inr (6, [.int (iI ft), .int (iI sc), .ref u2, .ref u3, .ref u4, .ref u5, .ref u6, .ref u7, .ref u8, .int (iI rm), .int (iI wc), .ref u11, .int (iI sh), .int (iI tq), .ref u14, .int (iI cnt), .ref u16, .int (iI gf), .int (iI gs), .int (iI rc), .ref u20, .ref u21, .ref u22, .ref u23, .ref u24, .int (iI tc)]))])) (As := [.int (iI w)]) C (c_X6_isSpin l X w (by first | assumption | omega)) gX6_grid_X6_isSpin rfl rfl rfl hd_S_X6_isSpin_X6_grid (by decide) dX6_grid_8 [] [0] [0] rfl rfl rfl rfl (by decide) rfl rfl rfl (Nat.le_of_ble_eq_true rfl) (by decide) (fun _ => rfl) (fun _ hy_ => ?_)
    clear hy_
    refine r_ite (fun h_3 => ?_) (fun h_3 => ?_)
    · skip
      refine r_if_ne (tgt := 17) C dX6_grid_11 (by decide) (by decide) (fun h_4 => ?_) (fun h_4 => absurd h_4 (by decide))
      refine r_aload_n C dX6_grid_17 0 rfl ?_
      refine gf_6_17 C hi_X6_grid_6 kw_X6_grid_0 dX6_grid_18 0 rfl rfl ?_
      refine r_iload_n C dX6_grid_21 1 rfl ?_
      refine r_icmp_ne (tgt := 37) C dX6_grid_22 (by decide) (by omega) (by omega) (fun h_5 => ?_) (fun h_5 => ?_)
      · skip
        refine r_iconst C dX6_grid_37 ?_
        refine r_istore_n (lo2 := [(3, .int (iI 0)), (0, .ref h0), (1, .int (iI v)), (2, .int (iI w))]) C dX6_grid_38 rfl (by decide) rfl ?_
        refine r_aload_n C dX6_grid_39 1 rfl ?_
        refine r_iload_n C dX6_grid_40 2 rfl ?_
        refine pf_6_17 (ws2 := [(h0, .inr (6, [.int (iI ft), .int (iI sc), .ref u2, .ref u3, .ref u4, .ref u5, .ref u6, .ref u7, .ref u8, .int (iI rm), .int (iI wc), .ref u11, .int (iI sh), .int (iI tq), .ref u14, .int (iI cnt), .ref u16, .int (iI v), .int (iI gs), .int (iI rc), .ref u20, .ref u21, .ref u22, .ref u23, .ref u24, .int (iI tc)]))]) C hi_X6_grid_6 kw_X6_grid_0 dX6_grid_41 0 rfl rfl rfl (Nat.le_of_ble_eq_true rfl) rfl ?_
        refine r_aload_n C dX6_grid_44 1 rfl ?_
        refine r_iload_n C dX6_grid_45 3 rfl ?_
        refine pf_6_18 (ws2 := [(h0, .inr (6, [.int (iI ft), .int (iI sc), .ref u2, .ref u3, .ref u4, .ref u5, .ref u6, .ref u7, .ref u8, .int (iI rm), .int (iI wc), .ref u11, .int (iI sh), .int (iI tq), .ref u14, .int (iI cnt), .ref u16, .int (iI v), .int (iI w), .int (iI rc), .ref u20, .ref u21, .ref u22, .ref u23, .ref u24, .int (iI tc)]))]) C hi_X6_grid_6 kw_X6_grid_1 dX6_grid_46 0 rfl rfl rfl (Nat.le_of_ble_eq_true rfl) rfl ?_
        refine r_iload_n C dX6_grid_49 0 rfl ?_
        refine r_if_eq (tgt := 57) C dX6_grid_50 (by decide) (by decide) (fun h_6 => ?_) (fun h_6 => absurd h_6 (by decide))
        refine r_iconst C dX6_grid_57 ?_
        exact g_ret_i C rfl dX6_grid_58 () trivial (by (repeat' split) <;> first | rfl | omega) [0] rfl (by (repeat' split) <;> first | rfl | omega)
      · skip
        refine r_aload_n C dX6_grid_25 0 rfl ?_
        refine gf_6_18 C hi_X6_grid_6 kw_X6_grid_1 dX6_grid_26 0 rfl rfl ?_
        refine r_iload_n C dX6_grid_29 2 rfl ?_
        refine r_icmp_ne (tgt := 37) C dX6_grid_30 (by decide) (by omega) (by omega) (fun h_7 => ?_) (fun h_7 => ?_)
        · skip
          refine r_iconst C dX6_grid_37 ?_
          refine r_istore_n (lo2 := [(3, .int (iI 0)), (0, .ref h0), (1, .int (iI v)), (2, .int (iI w))]) C dX6_grid_38 rfl (by decide) rfl ?_
          refine r_aload_n C dX6_grid_39 1 rfl ?_
          refine r_iload_n C dX6_grid_40 2 rfl ?_
          refine pf_6_17 (ws2 := [(h0, .inr (6, [.int (iI ft), .int (iI sc), .ref u2, .ref u3, .ref u4, .ref u5, .ref u6, .ref u7, .ref u8, .int (iI rm), .int (iI wc), .ref u11, .int (iI sh), .int (iI tq), .ref u14, .int (iI cnt), .ref u16, .int (iI v), .int (iI gs), .int (iI rc), .ref u20, .ref u21, .ref u22, .ref u23, .ref u24, .int (iI tc)]))]) C hi_X6_grid_6 kw_X6_grid_0 dX6_grid_41 0 rfl rfl rfl (Nat.le_of_ble_eq_true rfl) rfl ?_
          refine r_aload_n C dX6_grid_44 1 rfl ?_
          refine r_iload_n C dX6_grid_45 3 rfl ?_
          refine pf_6_18 (ws2 := [(h0, .inr (6, [.int (iI ft), .int (iI sc), .ref u2, .ref u3, .ref u4, .ref u5, .ref u6, .ref u7, .ref u8, .int (iI rm), .int (iI wc), .ref u11, .int (iI sh), .int (iI tq), .ref u14, .int (iI cnt), .ref u16, .int (iI v), .int (iI w), .int (iI rc), .ref u20, .ref u21, .ref u22, .ref u23, .ref u24, .int (iI tc)]))]) C hi_X6_grid_6 kw_X6_grid_1 dX6_grid_46 0 rfl rfl rfl (Nat.le_of_ble_eq_true rfl) rfl ?_
          refine r_iload_n C dX6_grid_49 0 rfl ?_
          refine r_if_eq (tgt := 57) C dX6_grid_50 (by decide) (by decide) (fun h_8 => ?_) (fun h_8 => absurd h_8 (by decide))
          refine r_iconst C dX6_grid_57 ?_
          exact g_ret_i C rfl dX6_grid_58 () trivial (by (repeat' split) <;> first | rfl | omega) [0] rfl (by (repeat' split) <;> first | rfl | omega)
        · skip
          refine r_iconst C dX6_grid_33 ?_
          refine r_goto (tgt := 38) C dX6_grid_34 (by decide) ?_
          refine r_istore_n (lo2 := [(3, .int (iI 1)), (0, .ref h0), (1, .int (iI v)), (2, .int (iI w))]) C dX6_grid_38 rfl (by decide) rfl ?_
          refine r_aload_n C dX6_grid_39 1 rfl ?_
          refine r_iload_n C dX6_grid_40 2 rfl ?_
          refine pf_6_17 (ws2 := [(h0, .inr (6, [.int (iI ft), .int (iI sc), .ref u2, .ref u3, .ref u4, .ref u5, .ref u6, .ref u7, .ref u8, .int (iI rm), .int (iI wc), .ref u11, .int (iI sh), .int (iI tq), .ref u14, .int (iI cnt), .ref u16, .int (iI v), .int (iI gs), .int (iI rc), .ref u20, .ref u21, .ref u22, .ref u23, .ref u24, .int (iI tc)]))]) C hi_X6_grid_6 kw_X6_grid_0 dX6_grid_41 0 rfl rfl rfl (Nat.le_of_ble_eq_true rfl) rfl ?_
          refine r_aload_n C dX6_grid_44 1 rfl ?_
          refine r_iload_n C dX6_grid_45 3 rfl ?_
          refine pf_6_18 (ws2 := [(h0, .inr (6, [.int (iI ft), .int (iI sc), .ref u2, .ref u3, .ref u4, .ref u5, .ref u6, .ref u7, .ref u8, .int (iI rm), .int (iI wc), .ref u11, .int (iI sh), .int (iI tq), .ref u14, .int (iI cnt), .ref u16, .int (iI v), .int (iI w), .int (iI rc), .ref u20, .ref u21, .ref u22, .ref u23, .ref u24, .int (iI tc)]))]) C hi_X6_grid_6 kw_X6_grid_1 dX6_grid_46 0 rfl rfl rfl (Nat.le_of_ble_eq_true rfl) rfl ?_
          refine r_iload_n C dX6_grid_49 0 rfl ?_
          refine r_if_eq (tgt := 57) C dX6_grid_50 (by decide) (by decide) (fun h_9 => absurd h_9 (by decide)) (fun h_9 => ?_)
          refine r_iconst C dX6_grid_53 ?_
          refine r_goto (tgt := 58) C dX6_grid_54 (by decide) ?_
          exact g_ret_i C rfl dX6_grid_58 () trivial (by (repeat' split) <;> first | rfl | omega) [0] rfl (by (repeat' split) <;> first | rfl | omega)
    · skip
      refine r_if_ne (tgt := 17) C dX6_grid_11 (by decide) (by decide) (fun h_10 => absurd h_10 (by decide)) (fun h_10 => ?_)
      refine r_bipush C dX6_grid_14 (by decide) ?_
      exact g_ret_i C rfl dX6_grid_16 () trivial (by (repeat' split) <;> first | rfl | omega) [0] rfl (by (repeat' split) <;> first | rfl | omega)
  · skip
    refine r_if_eq (tgt := 14) C dX6_grid_4 (by decide) (by decide) (fun h_11 => ?_) (fun h_11 => absurd h_11 (by decide))
    refine r_bipush C dX6_grid_14 (by decide) ?_
    exact g_ret_i C rfl dX6_grid_16 () trivial (by (repeat' split) <;> first | rfl | omega) [0] rfl (by (repeat' split) <;> first | rfl | omega)

set_option maxRecDepth 20000 in
theorem hd_V_X6_noStone_X6_beach : yX6_noStone.cls = yX6_noStone.cls ∧ yX6_noStone.cls ≠ "java/lang/invoke/MethodHandle" ∧ yX6_noStone.cls ≠ "java/lang/invoke/VarHandle" ∧ (parseMethodDescriptor yX6_noStone.desc).map (fun d => d.parameters.length) = some 1 := by decide +kernel
set_option maxRecDepth 20000 in
theorem kw_X6_beach_0 : Cond.constantLong RX6 103 (9) ∈ wsX6_beach := List.mem_of_getElem? (i := 1) rfl
set_option maxRecDepth 20000 in
theorem hd_S_X6_in_X6_beach : yX6_in.cls ≠ "java/lang/invoke/MethodHandle" ∧ yX6_in.cls ≠ "java/lang/invoke/VarHandle" ∧ (parseMethodDescriptor yX6_in.desc).map (fun d => d.parameters.length) = some 3 := by decide +kernel
set_option maxRecDepth 20000 in
theorem kw_X6_beach_1 : Cond.constantLong RX6 101 (99) ∈ wsX6_beach := List.mem_of_getElem? (i := 2) rfl
set_option maxRecDepth 20000 in
theorem kw_X6_beach_2 : Cond.fieldLink RX6 19 "SkipStonesModel" "lieMany" "[I" ∈ wsX6_beach := List.mem_of_getElem? (i := 3) rfl
set_option maxRecDepth 20000 in
theorem kw_X6_beach_3 : Cond.fieldLink RX6 22 "SkipStonesModel" "lieWorth" "[I" ∈ wsX6_beach := List.mem_of_getElem? (i := 4) rfl
set_option maxRecDepth 20000 in
theorem hi_X6_beach_6 : ∀ w ∈ wsX60, w ∈ wsX6_beach := fun _ h => List.mem_cons_of_mem _ (List.mem_append_right _ h)
set_option maxHeartbeats 4000000 in
set_option maxRecDepth 100000 in
theorem c_X6_beach (l : Launch) (X : gX) (h0 : Nat) (u2 : Nat) (u3 : Nat) (u4 : Nat) (u5 : Nat) (u6 : Nat) (u7 : Nat) (u8 : Nat) (u11 : Nat) (u14 : Nat) (u16 : Nat) (u20 : Nat) (u21 : Nat) (u22 : Nat) (u23 : Nat) (u24 : Nat) (ft : Int) (sc : Int) (rm : Int) (wc : Int) (sh : Int) (tq : Int) (cnt : Int) (gf : Int) (gs : Int) (rc : Int) (tc : Int) (Ly : Nat → Int) (Wo : Nat → Int) (x : Int) (v : Int) (w : Int) (hb_x : inB x) (hb_v : inB v) (hb_w : inB w) (hsc : 0 ≤ sc ∧ sc ≤ 8) (hBLy : ∀ i, 0 ≤ Ly i ∧ Ly i ≤ 99) (hBWo : ∀ i, 0 ≤ Wo i ∧ Wo i ≤ 99) : gM l yX6_beach wsX6_beach (gr 2 0 0) X [(h0, .inr (6, [.int (iI ft), .int (iI sc), .ref u2, .ref u3, .ref u4, .ref u5, .ref u6, .ref u7, .ref u8, .int (iI rm), .int (iI wc), .ref u11, .int (iI sh), .int (iI tq), .ref u14, .int (iI cnt), .ref u16, .int (iI gf), .int (iI gs), .int (iI rc), .ref u20, .ref u21, .ref u22, .ref u23, .ref u24, .int (iI tc)])), (u5, .inl (X.2.1.1, 8, .inl (iF Ly))), (u6, .inl (X.2.1.1, 8, .inl (iF Wo)))] [.ref h0, .int (iI x), .int (iI v), .int (iI w)] (gQi X (Y := Unit) (fun _ => True) (fun _ => (if ¬ (0 ≤ x ∧ x < sc) then -1 else if ¬ (0 ≤ v ∧ v ≤ 9 ∧ 0 ≤ w ∧ w ≤ 99) then -2 else if v = (Ly (Int.toNat x)) ∧ w = (Wo (Int.toNat x)) then 0 else 1)) (fun _ => [(h0, .inr (6, [.int (iI ft), .int (iI sc), .ref u2, .ref u3, .ref u4, .ref u5, .ref u6, .ref u7, .ref u8, .int (iI rm), .int (iI wc), .ref u11, .int (iI sh), .int (iI tq), .ref u14, .int (iI cnt), .ref u16, .int (iI gf), .int (iI gs), .int (iI rc), .ref u20, .ref u21, .ref u22, .ref u23, .ref u24, .int (iI tc)])), (u5, .inl (X.2.1.1, 8, .inl (iF (if 0 ≤ x ∧ x < sc ∧ 0 ≤ v ∧ v ≤ 9 ∧ 0 ≤ w ∧ w ≤ 99 then (updI Ly (Int.toNat x) v) else Ly)))), (u6, .inl (X.2.1.1, 8, .inl (iF (if 0 ≤ x ∧ x < sc ∧ 0 ≤ v ∧ v ≤ 9 ∧ 0 ≤ w ∧ w ≤ 99 then (updI Wo (Int.toNat x) w) else Wo))))])) 0 0 := by
  refine g_start2 (lo := [(0, .ref h0), (1, .int (iI x)), (2, .int (iI v)), (3, .int (iI w))]) (by decide +kernel) rfl rfl (Nat.le_of_ble_eq_true rfl) (fun p e s m args below meth c A C => ?_)
  refine r_aload_n C dX6_beach_0 0 rfl ?_
  refine r_iload_n C dX6_beach_1 1 rfl ?_
  refine g_V_i (ws2 := (fun _ => [(h0, .inr (6, [.int (iI ft), .int (iI sc), .ref u2, .ref u3, .ref u4, .ref u5, .ref u6, .ref u7, .ref u8, .int (iI rm), .int (iI wc), .ref u11, .int (iI sh), .int (iI tq), .ref u14, .int (iI cnt), .ref u16, .int (iI gf), .int (iI gs), .int (iI rc), .ref u20, .ref u21, .ref u22, .ref u23, .ref u24, .int (iI tc)])), (u5, .inl (X.2.1.1, 8, .inl (iF Ly))), (u6, .inl (X.2.1.1, 8, .inl (iF Wo)))])) (As := [.int (iI x)]) C (c_X6_noStone l X h0 u2 u3 u4 u5 u6 u7 u8 u11 u14 u16 u20 u21 u22 u23 u24 ft sc rm wc sh tq cnt gf gs rc tc x (by first | assumption | omega) (by first | assumption | omega)) gX6_beach_X6_noStone rfl rfl rfl hd_V_X6_noStone_X6_beach (by decide) dX6_beach_2 [0] [1, 2] [2, 0, 1] rfl rfl rfl rfl (by decide) rfl 0 6 rfl rfl rfl rfl (Nat.le_of_ble_eq_true rfl) (by decide) (fun _ => rfl) (fun _ hy_ => ?_)
  clear hy_
  refine r_ite (fun h_1 => ?_) (fun h_1 => ?_)
  · skip
    refine r_if_eq (tgt := 10) C dX6_beach_5 (by decide) (by decide) (fun h_2 => absurd h_2 (by decide)) (fun h_2 => ?_)
    refine r_iconst C dX6_beach_8 ?_
    exact g_ret_i C rfl dX6_beach_9 () trivial (by (repeat' split) <;> first | rfl | omega) [0, 1, 2] rfl (by (repeat' split) <;> first | rfl | omega)
  · skip
    refine r_if_eq (tgt := 10) C dX6_beach_5 (by decide) (by decide) (fun h_3 => ?_) (fun h_3 => absurd h_3 (by decide))
    refine r_iload_n C dX6_beach_10 2 rfl ?_
    refine r_i2l C dX6_beach_11 (by omega) ?_
    refine r_lconst (z := 0) C dX6_beach_12 rfl ?_
    refine r_ldc2 (z := 9) C dX6_beach_13 kw_X6_beach_0 rfl ?_
    refine g_S_i (ws2 := (fun _ => [(h0, .inr (6, [.int (iI ft), .int (iI sc), .ref u2, .ref u3, .ref u4, .ref u5, .ref u6, .ref u7, .ref u8, .int (iI rm), .int (iI wc), .ref u11, .int (iI sh), .int (iI tq), .ref u14, .int (iI cnt), .ref u16, .int (iI gf), .int (iI gs), .int (iI rc), .ref u20, .ref u21, .ref u22, .ref u23, .ref u24, .int (iI tc)])), (u5, .inl (X.2.1.1, 8, .inl (iF Ly))), (u6, .inl (X.2.1.1, 8, .inl (iF Wo)))])) (As := [.long (lI v), .long (lI 0), .long (lI 9)]) C (c_X6_in l X v 0 9 (by first | assumption | omega) (by first | assumption | omega) (by first | assumption | omega)) gX6_beach_X6_in rfl rfl rfl hd_S_X6_in_X6_beach (by decide) dX6_beach_16 [] [0, 1, 2] [0, 1, 2] rfl rfl rfl rfl (by decide) rfl rfl rfl (Nat.le_of_ble_eq_true rfl) (by decide) (fun _ => rfl) (fun _ hy_ => ?_)
    clear hy_
    refine r_ite (fun h_4 => ?_) (fun h_4 => ?_)
    · skip
      refine r_if_eq (tgt := 34) C dX6_beach_19 (by decide) (by decide) (fun h_5 => absurd h_5 (by decide)) (fun h_5 => ?_)
      refine r_iload_n C dX6_beach_22 3 rfl ?_
      refine r_i2l C dX6_beach_23 (by omega) ?_
      refine r_lconst (z := 0) C dX6_beach_24 rfl ?_
      refine r_ldc2 (z := 99) C dX6_beach_25 kw_X6_beach_1 rfl ?_
      refine g_S_i (ws2 := (fun _ => [(h0, .inr (6, [.int (iI ft), .int (iI sc), .ref u2, .ref u3, .ref u4, .ref u5, .ref u6, .ref u7, .ref u8, .int (iI rm), .int (iI wc), .ref u11, .int (iI sh), .int (iI tq), .ref u14, .int (iI cnt), .ref u16, .int (iI gf), .int (iI gs), .int (iI rc), .ref u20, .ref u21, .ref u22, .ref u23, .ref u24, .int (iI tc)])), (u5, .inl (X.2.1.1, 8, .inl (iF Ly))), (u6, .inl (X.2.1.1, 8, .inl (iF Wo)))])) (As := [.long (lI w), .long (lI 0), .long (lI 99)]) C (c_X6_in l X w 0 99 (by first | assumption | omega) (by first | assumption | omega) (by first | assumption | omega)) gX6_beach_X6_in rfl rfl rfl hd_S_X6_in_X6_beach (by decide) dX6_beach_28 [] [0, 1, 2] [0, 1, 2] rfl rfl rfl rfl (by decide) rfl rfl rfl (Nat.le_of_ble_eq_true rfl) (by decide) (fun _ => rfl) (fun _ hy_ => ?_)
      clear hy_
      refine r_ite (fun h_6 => ?_) (fun h_6 => ?_)
      · skip
        refine r_if_ne (tgt := 37) C dX6_beach_31 (by decide) (by decide) (fun h_7 => ?_) (fun h_7 => absurd h_7 (by decide))
        refine r_aload_n C dX6_beach_37 0 rfl ?_
        refine gf_6_5 C hi_X6_beach_6 kw_X6_beach_2 dX6_beach_38 0 rfl rfl ?_
        refine r_iload_n C dX6_beach_41 1 rfl ?_
        refine r_iald C dX6_beach_42 1 rfl (by omega) (by decide) ?_
        refine r_iload_n C dX6_beach_43 2 rfl ?_
        refine r_icmp_ne (tgt := 61) C dX6_beach_44 (by decide) (by have := hBLy (Int.toNat x); omega) (by omega) (fun h_8 => ?_) (fun h_8 => ?_)
        · skip
          refine r_iconst C dX6_beach_61 ?_
          refine r_istore (lo2 := [(4, .int (iI 0)), (0, .ref h0), (1, .int (iI x)), (2, .int (iI v)), (3, .int (iI w))]) C dX6_beach_62 (by decide) rfl ?_
          refine r_aload_n C dX6_beach_64 1 rfl ?_
          refine gf_6_5 C hi_X6_beach_6 kw_X6_beach_2 dX6_beach_65 0 rfl rfl ?_
          refine r_iload_n C dX6_beach_68 2 rfl ?_
          refine r_iload_n C dX6_beach_69 3 rfl ?_
          refine r_iast (ws2 := [(h0, .inr (6, [.int (iI ft), .int (iI sc), .ref u2, .ref u3, .ref u4, .ref u5, .ref u6, .ref u7, .ref u8, .int (iI rm), .int (iI wc), .ref u11, .int (iI sh), .int (iI tq), .ref u14, .int (iI cnt), .ref u16, .int (iI gf), .int (iI gs), .int (iI rc), .ref u20, .ref u21, .ref u22, .ref u23, .ref u24, .int (iI tc)])), (u5, .inl (X.2.1.1, 8, .inl (iF (updI Ly (Int.toNat x) v)))), (u6, .inl (X.2.1.1, 8, .inl (iF Wo)))]) C dX6_beach_70 1 rfl (by omega) (by decide) rfl ?_
          refine r_aload_n C dX6_beach_71 1 rfl ?_
          refine gf_6_6 C hi_X6_beach_6 kw_X6_beach_3 dX6_beach_72 0 rfl rfl ?_
          refine r_iload_n C dX6_beach_75 2 rfl ?_
          refine r_iload_n C dX6_beach_76 4 rfl ?_
          refine r_iast (ws2 := [(h0, .inr (6, [.int (iI ft), .int (iI sc), .ref u2, .ref u3, .ref u4, .ref u5, .ref u6, .ref u7, .ref u8, .int (iI rm), .int (iI wc), .ref u11, .int (iI sh), .int (iI tq), .ref u14, .int (iI cnt), .ref u16, .int (iI gf), .int (iI gs), .int (iI rc), .ref u20, .ref u21, .ref u22, .ref u23, .ref u24, .int (iI tc)])), (u5, .inl (X.2.1.1, 8, .inl (iF (updI Ly (Int.toNat x) v)))), (u6, .inl (X.2.1.1, 8, .inl (iF (updI Wo (Int.toNat x) w))))]) C dX6_beach_77 2 rfl (by omega) (by decide) rfl ?_
          refine r_iload C dX6_beach_78 0 rfl ?_
          refine r_if_eq (tgt := 87) C dX6_beach_80 (by decide) (by decide) (fun h_9 => ?_) (fun h_9 => absurd h_9 (by decide))
          refine r_iconst C dX6_beach_87 ?_
          exact g_ret_i C rfl dX6_beach_88 () trivial (by (repeat' split) <;> first | rfl | omega) [0, 1, 2] rfl (by (repeat' split) <;> first | rfl | omega)
        · skip
          refine r_aload_n C dX6_beach_47 0 rfl ?_
          refine gf_6_6 C hi_X6_beach_6 kw_X6_beach_3 dX6_beach_48 0 rfl rfl ?_
          refine r_iload_n C dX6_beach_51 1 rfl ?_
          refine r_iald C dX6_beach_52 2 rfl (by omega) (by decide) ?_
          refine r_iload_n C dX6_beach_53 3 rfl ?_
          refine r_icmp_ne (tgt := 61) C dX6_beach_54 (by decide) (by have := hBWo (Int.toNat x); omega) (by omega) (fun h_10 => ?_) (fun h_10 => ?_)
          · skip
            refine r_iconst C dX6_beach_61 ?_
            refine r_istore (lo2 := [(4, .int (iI 0)), (0, .ref h0), (1, .int (iI x)), (2, .int (iI v)), (3, .int (iI w))]) C dX6_beach_62 (by decide) rfl ?_
            refine r_aload_n C dX6_beach_64 1 rfl ?_
            refine gf_6_5 C hi_X6_beach_6 kw_X6_beach_2 dX6_beach_65 0 rfl rfl ?_
            refine r_iload_n C dX6_beach_68 2 rfl ?_
            refine r_iload_n C dX6_beach_69 3 rfl ?_
            refine r_iast (ws2 := [(h0, .inr (6, [.int (iI ft), .int (iI sc), .ref u2, .ref u3, .ref u4, .ref u5, .ref u6, .ref u7, .ref u8, .int (iI rm), .int (iI wc), .ref u11, .int (iI sh), .int (iI tq), .ref u14, .int (iI cnt), .ref u16, .int (iI gf), .int (iI gs), .int (iI rc), .ref u20, .ref u21, .ref u22, .ref u23, .ref u24, .int (iI tc)])), (u5, .inl (X.2.1.1, 8, .inl (iF (updI Ly (Int.toNat x) v)))), (u6, .inl (X.2.1.1, 8, .inl (iF Wo)))]) C dX6_beach_70 1 rfl (by omega) (by decide) rfl ?_
            refine r_aload_n C dX6_beach_71 1 rfl ?_
            refine gf_6_6 C hi_X6_beach_6 kw_X6_beach_3 dX6_beach_72 0 rfl rfl ?_
            refine r_iload_n C dX6_beach_75 2 rfl ?_
            refine r_iload_n C dX6_beach_76 4 rfl ?_
            refine r_iast (ws2 := [(h0, .inr (6, [.int (iI ft), .int (iI sc), .ref u2, .ref u3, .ref u4, .ref u5, .ref u6, .ref u7, .ref u8, .int (iI rm), .int (iI wc), .ref u11, .int (iI sh), .int (iI tq), .ref u14, .int (iI cnt), .ref u16, .int (iI gf), .int (iI gs), .int (iI rc), .ref u20, .ref u21, .ref u22, .ref u23, .ref u24, .int (iI tc)])), (u5, .inl (X.2.1.1, 8, .inl (iF (updI Ly (Int.toNat x) v)))), (u6, .inl (X.2.1.1, 8, .inl (iF (updI Wo (Int.toNat x) w))))]) C dX6_beach_77 2 rfl (by omega) (by decide) rfl ?_
            refine r_iload C dX6_beach_78 0 rfl ?_
            refine r_if_eq (tgt := 87) C dX6_beach_80 (by decide) (by decide) (fun h_11 => ?_) (fun h_11 => absurd h_11 (by decide))
            refine r_iconst C dX6_beach_87 ?_
            exact g_ret_i C rfl dX6_beach_88 () trivial (by (repeat' split) <;> first | rfl | omega) [0, 1, 2] rfl (by (repeat' split) <;> first | rfl | omega)
          · skip
            refine r_iconst C dX6_beach_57 ?_
            refine r_goto (tgt := 62) C dX6_beach_58 (by decide) ?_
            refine r_istore (lo2 := [(4, .int (iI 1)), (0, .ref h0), (1, .int (iI x)), (2, .int (iI v)), (3, .int (iI w))]) C dX6_beach_62 (by decide) rfl ?_
            refine r_aload_n C dX6_beach_64 1 rfl ?_
            refine gf_6_5 C hi_X6_beach_6 kw_X6_beach_2 dX6_beach_65 0 rfl rfl ?_
            refine r_iload_n C dX6_beach_68 2 rfl ?_
            refine r_iload_n C dX6_beach_69 3 rfl ?_
            refine r_iast (ws2 := [(h0, .inr (6, [.int (iI ft), .int (iI sc), .ref u2, .ref u3, .ref u4, .ref u5, .ref u6, .ref u7, .ref u8, .int (iI rm), .int (iI wc), .ref u11, .int (iI sh), .int (iI tq), .ref u14, .int (iI cnt), .ref u16, .int (iI gf), .int (iI gs), .int (iI rc), .ref u20, .ref u21, .ref u22, .ref u23, .ref u24, .int (iI tc)])), (u5, .inl (X.2.1.1, 8, .inl (iF (updI Ly (Int.toNat x) v)))), (u6, .inl (X.2.1.1, 8, .inl (iF Wo)))]) C dX6_beach_70 1 rfl (by omega) (by decide) rfl ?_
            refine r_aload_n C dX6_beach_71 1 rfl ?_
            refine gf_6_6 C hi_X6_beach_6 kw_X6_beach_3 dX6_beach_72 0 rfl rfl ?_
            refine r_iload_n C dX6_beach_75 2 rfl ?_
            refine r_iload_n C dX6_beach_76 4 rfl ?_
            refine r_iast (ws2 := [(h0, .inr (6, [.int (iI ft), .int (iI sc), .ref u2, .ref u3, .ref u4, .ref u5, .ref u6, .ref u7, .ref u8, .int (iI rm), .int (iI wc), .ref u11, .int (iI sh), .int (iI tq), .ref u14, .int (iI cnt), .ref u16, .int (iI gf), .int (iI gs), .int (iI rc), .ref u20, .ref u21, .ref u22, .ref u23, .ref u24, .int (iI tc)])), (u5, .inl (X.2.1.1, 8, .inl (iF (updI Ly (Int.toNat x) v)))), (u6, .inl (X.2.1.1, 8, .inl (iF (updI Wo (Int.toNat x) w))))]) C dX6_beach_77 2 rfl (by omega) (by decide) rfl ?_
            refine r_iload C dX6_beach_78 0 rfl ?_
            refine r_if_eq (tgt := 87) C dX6_beach_80 (by decide) (by decide) (fun h_12 => absurd h_12 (by decide)) (fun h_12 => ?_)
            refine r_iconst C dX6_beach_83 ?_
            refine r_goto (tgt := 88) C dX6_beach_84 (by decide) ?_
            exact g_ret_i C rfl dX6_beach_88 () trivial (by (repeat' split) <;> first | rfl | omega) [0, 1, 2] rfl (by (repeat' split) <;> first | rfl | omega)
      · skip
        refine r_if_ne (tgt := 37) C dX6_beach_31 (by decide) (by decide) (fun h_13 => absurd h_13 (by decide)) (fun h_13 => ?_)
        refine r_bipush C dX6_beach_34 (by decide) ?_
        exact g_ret_i C rfl dX6_beach_36 () trivial (by (repeat' split) <;> first | rfl | omega) [0, 1, 2] rfl (by (repeat' split) <;> first | rfl | omega)
    · skip
      refine r_if_eq (tgt := 34) C dX6_beach_19 (by decide) (by decide) (fun h_14 => ?_) (fun h_14 => absurd h_14 (by decide))
      refine r_bipush C dX6_beach_34 (by decide) ?_
      exact g_ret_i C rfl dX6_beach_36 () trivial (by (repeat' split) <;> first | rfl | omega) [0, 1, 2] rfl (by (repeat' split) <;> first | rfl | omega)

set_option maxRecDepth 20000 in
theorem kw_X6_noTouch_0 : Cond.fieldLink RX6 179 "SkipStonesModel" "keptMany" "I" ∈ wsX6_noTouch := List.mem_of_getElem? (i := 1) rfl
set_option maxRecDepth 20000 in
theorem hd_S_X6_in_X6_noTouch : yX6_in.cls ≠ "java/lang/invoke/MethodHandle" ∧ yX6_in.cls ≠ "java/lang/invoke/VarHandle" ∧ (parseMethodDescriptor yX6_in.desc).map (fun d => d.parameters.length) = some 3 := by decide +kernel
set_option maxRecDepth 20000 in
theorem hi_X6_noTouch_6 : ∀ w ∈ wsX60, w ∈ wsX6_noTouch := fun _ h => List.mem_cons_of_mem _ (List.mem_append_right _ h)
set_option maxHeartbeats 4000000 in
set_option maxRecDepth 100000 in
theorem c_X6_noTouch (l : Launch) (X : gX) (h0 : Nat) (u2 : Nat) (u3 : Nat) (u4 : Nat) (u5 : Nat) (u6 : Nat) (u7 : Nat) (u8 : Nat) (u11 : Nat) (u14 : Nat) (u16 : Nat) (u20 : Nat) (u21 : Nat) (u22 : Nat) (u23 : Nat) (u24 : Nat) (ft : Int) (sc : Int) (rm : Int) (wc : Int) (sh : Int) (tq : Int) (cnt : Int) (gf : Int) (gs : Int) (rc : Int) (tc : Int) (k : Int) (hb_k : inB k) (hcnt : 0 ≤ cnt ∧ cnt ≤ 90) : gM l yX6_noTouch wsX6_noTouch (gr 1 0 0) X [(h0, .inr (6, [.int (iI ft), .int (iI sc), .ref u2, .ref u3, .ref u4, .ref u5, .ref u6, .ref u7, .ref u8, .int (iI rm), .int (iI wc), .ref u11, .int (iI sh), .int (iI tq), .ref u14, .int (iI cnt), .ref u16, .int (iI gf), .int (iI gs), .int (iI rc), .ref u20, .ref u21, .ref u22, .ref u23, .ref u24, .int (iI tc)]))] [.ref h0, .int (iI k)] (gQi X (Y := Unit) (fun _ => True) (fun _ => (if (¬ (0 ≤ k ∧ k < cnt)) then 1 else 0)) (fun _ => [(h0, .inr (6, [.int (iI ft), .int (iI sc), .ref u2, .ref u3, .ref u4, .ref u5, .ref u6, .ref u7, .ref u8, .int (iI rm), .int (iI wc), .ref u11, .int (iI sh), .int (iI tq), .ref u14, .int (iI cnt), .ref u16, .int (iI gf), .int (iI gs), .int (iI rc), .ref u20, .ref u21, .ref u22, .ref u23, .ref u24, .int (iI tc)]))])) 0 0 := by
  refine g_start2 (lo := [(0, .ref h0), (1, .int (iI k))]) (by decide +kernel) rfl rfl (Nat.le_of_ble_eq_true rfl) (fun p e s m args below meth c A C => ?_)
  refine r_iload_n C dX6_noTouch_0 1 rfl ?_
  refine r_i2l C dX6_noTouch_1 (by omega) ?_
  refine r_lconst (z := 0) C dX6_noTouch_2 rfl ?_
  refine r_aload_n C dX6_noTouch_3 0 rfl ?_
  refine gf_6_15 C hi_X6_noTouch_6 kw_X6_noTouch_0 dX6_noTouch_4 0 rfl rfl ?_
  refine r_i2l C dX6_noTouch_7 (by omega) ?_
  refine r_lconst (z := 1) C dX6_noTouch_8 rfl ?_
  refine r_lsub C dX6_noTouch_9 ?_
  refine g_S_i (ws2 := (fun _ => [(h0, .inr (6, [.int (iI ft), .int (iI sc), .ref u2, .ref u3, .ref u4, .ref u5, .ref u6, .ref u7, .ref u8, .int (iI rm), .int (iI wc), .ref u11, .int (iI sh), .int (iI tq), .ref u14, .int (iI cnt), .ref u16, .int (iI gf), .int (iI gs), .int (iI rc), .ref u20, .ref u21, .ref u22, .ref u23, .ref u24, .int (iI tc)]))])) (As := [.long (lI k), .long (lI 0), .long (lI (cnt - 1))]) C (c_X6_in l X k 0 (cnt - 1) (by first | assumption | omega) (by first | assumption | omega) (by first | assumption | omega)) gX6_noTouch_X6_in rfl rfl rfl hd_S_X6_in_X6_noTouch (by decide) dX6_noTouch_10 [] [0] [0] rfl rfl rfl rfl (by decide) rfl rfl rfl (Nat.le_of_ble_eq_true rfl) (by decide) (fun _ => rfl) (fun _ hy_ => ?_)
  clear hy_
  refine r_ite (fun h_1 => ?_) (fun h_1 => ?_)
  · skip
    refine r_if_ne (tgt := 20) C dX6_noTouch_13 (by decide) (by decide) (fun h_2 => ?_) (fun h_2 => absurd h_2 (by decide))
    refine r_iconst C dX6_noTouch_20 ?_
    exact g_ret_z C rfl (by decide) dX6_noTouch_21 () trivial (by (repeat' split) <;> first | rfl | omega) [0] rfl (by (repeat' split) <;> first | rfl | omega)
  · skip
    refine r_if_ne (tgt := 20) C dX6_noTouch_13 (by decide) (by decide) (fun h_3 => absurd h_3 (by decide)) (fun h_3 => ?_)
    refine r_iconst C dX6_noTouch_16 ?_
    refine r_goto (tgt := 21) C dX6_noTouch_17 (by decide) ?_
    exact g_ret_z C rfl (by decide) dX6_noTouch_21 () trivial (by (repeat' split) <;> first | rfl | omega) [0] rfl (by (repeat' split) <;> first | rfl | omega)

set_option maxRecDepth 20000 in
theorem hd_V_X6_noTouch_X6_touch : yX6_noTouch.cls = yX6_noTouch.cls ∧ yX6_noTouch.cls ≠ "java/lang/invoke/MethodHandle" ∧ yX6_noTouch.cls ≠ "java/lang/invoke/VarHandle" ∧ (parseMethodDescriptor yX6_noTouch.desc).map (fun d => d.parameters.length) = some 1 := by decide +kernel
set_option maxRecDepth 20000 in
theorem kw_X6_touch_0 : Cond.constantLong RX6 185 (8) ∈ wsX6_touch := List.mem_of_getElem? (i := 1) rfl
set_option maxRecDepth 20000 in
theorem hd_S_X6_in_X6_touch : yX6_in.cls ≠ "java/lang/invoke/MethodHandle" ∧ yX6_in.cls ≠ "java/lang/invoke/VarHandle" ∧ (parseMethodDescriptor yX6_in.desc).map (fun d => d.parameters.length) = some 3 := by decide +kernel
set_option maxRecDepth 20000 in
theorem kw_X6_touch_1 : Cond.fieldLink RX6 37 "SkipStonesModel" "kept" "[I" ∈ wsX6_touch := List.mem_of_getElem? (i := 2) rfl
set_option maxRecDepth 20000 in
theorem hi_X6_touch_6 : ∀ w ∈ wsX60, w ∈ wsX6_touch := fun _ h => List.mem_cons_of_mem _ (List.mem_append_right _ h)
set_option maxHeartbeats 4000000 in
set_option maxRecDepth 100000 in
theorem c_X6_touch (l : Launch) (X : gX) (h0 : Nat) (u2 : Nat) (u3 : Nat) (u4 : Nat) (u5 : Nat) (u6 : Nat) (u7 : Nat) (u8 : Nat) (u11 : Nat) (u14 : Nat) (u16 : Nat) (u20 : Nat) (u21 : Nat) (u22 : Nat) (u23 : Nat) (u24 : Nat) (ft : Int) (sc : Int) (rm : Int) (wc : Int) (sh : Int) (tq : Int) (cnt : Int) (gf : Int) (gs : Int) (rc : Int) (tc : Int) (Fk : Nat → Int) (k : Int) (w : Int) (hb_k : inB k) (hb_w : inB w) (hcnt : 0 ≤ cnt ∧ cnt ≤ 90) : gM l yX6_touch wsX6_touch (gr 2 0 0) X [(h0, .inr (6, [.int (iI ft), .int (iI sc), .ref u2, .ref u3, .ref u4, .ref u5, .ref u6, .ref u7, .ref u8, .int (iI rm), .int (iI wc), .ref u11, .int (iI sh), .int (iI tq), .ref u14, .int (iI cnt), .ref u16, .int (iI gf), .int (iI gs), .int (iI rc), .ref u20, .ref u21, .ref u22, .ref u23, .ref u24, .int (iI tc)])), (u16, .inl (X.2.1.1, 810, .inl (iF Fk)))] [.ref h0, .int (iI k), .int (iI w)] (gQi X (Y := Unit) (fun _ => True) (fun _ => (if ¬ (0 ≤ k ∧ k < cnt) then -1 else if ¬ (0 ≤ w ∧ w ≤ 8) then -2 else Fk (Int.toNat (k * 9 + w)))) (fun _ => [(h0, .inr (6, [.int (iI ft), .int (iI sc), .ref u2, .ref u3, .ref u4, .ref u5, .ref u6, .ref u7, .ref u8, .int (iI rm), .int (iI wc), .ref u11, .int (iI sh), .int (iI tq), .ref u14, .int (iI cnt), .ref u16, .int (iI gf), .int (iI gs), .int (iI rc), .ref u20, .ref u21, .ref u22, .ref u23, .ref u24, .int (iI tc)])), (u16, .inl (X.2.1.1, 810, .inl (iF Fk)))])) 0 0 := by
  refine g_start2 (lo := [(0, .ref h0), (1, .int (iI k)), (2, .int (iI w))]) (by decide +kernel) rfl rfl (Nat.le_of_ble_eq_true rfl) (fun p e s m args below meth c A C => ?_)
  refine r_aload_n C dX6_touch_0 0 rfl ?_
  refine r_iload_n C dX6_touch_1 1 rfl ?_
  refine g_V_i (ws2 := (fun _ => [(h0, .inr (6, [.int (iI ft), .int (iI sc), .ref u2, .ref u3, .ref u4, .ref u5, .ref u6, .ref u7, .ref u8, .int (iI rm), .int (iI wc), .ref u11, .int (iI sh), .int (iI tq), .ref u14, .int (iI cnt), .ref u16, .int (iI gf), .int (iI gs), .int (iI rc), .ref u20, .ref u21, .ref u22, .ref u23, .ref u24, .int (iI tc)])), (u16, .inl (X.2.1.1, 810, .inl (iF Fk)))])) (As := [.int (iI k)]) C (c_X6_noTouch l X h0 u2 u3 u4 u5 u6 u7 u8 u11 u14 u16 u20 u21 u22 u23 u24 ft sc rm wc sh tq cnt gf gs rc tc k (by first | assumption | omega) (by first | assumption | omega)) gX6_touch_X6_noTouch rfl rfl rfl hd_V_X6_noTouch_X6_touch (by decide) dX6_touch_2 [0] [1] [1, 0] rfl rfl rfl rfl (by decide) rfl 0 6 rfl rfl rfl rfl (Nat.le_of_ble_eq_true rfl) (by decide) (fun _ => rfl) (fun _ hy_ => ?_)
  clear hy_
  refine r_ite (fun h_1 => ?_) (fun h_1 => ?_)
  · skip
    refine r_if_eq (tgt := 10) C dX6_touch_5 (by decide) (by decide) (fun h_2 => absurd h_2 (by decide)) (fun h_2 => ?_)
    refine r_iconst C dX6_touch_8 ?_
    exact g_ret_i C rfl dX6_touch_9 () trivial (by first | (rw [if_pos (by omega)]; done) | (rw [if_neg (by omega), if_pos (by omega)]; done) | (rw [if_neg (by omega), if_neg (by omega), show 9 * k + w = k * 9 + w by omega]; done)) [0, 1] rfl (by (repeat' split) <;> first | rfl | omega)
  · skip
    refine r_if_eq (tgt := 10) C dX6_touch_5 (by decide) (by decide) (fun h_3 => ?_) (fun h_3 => absurd h_3 (by decide))
    refine r_iload_n C dX6_touch_10 2 rfl ?_
    refine r_i2l C dX6_touch_11 (by omega) ?_
    refine r_lconst (z := 0) C dX6_touch_12 rfl ?_
    refine r_ldc2 (z := 8) C dX6_touch_13 kw_X6_touch_0 rfl ?_
    refine g_S_i (ws2 := (fun _ => [(h0, .inr (6, [.int (iI ft), .int (iI sc), .ref u2, .ref u3, .ref u4, .ref u5, .ref u6, .ref u7, .ref u8, .int (iI rm), .int (iI wc), .ref u11, .int (iI sh), .int (iI tq), .ref u14, .int (iI cnt), .ref u16, .int (iI gf), .int (iI gs), .int (iI rc), .ref u20, .ref u21, .ref u22, .ref u23, .ref u24, .int (iI tc)])), (u16, .inl (X.2.1.1, 810, .inl (iF Fk)))])) (As := [.long (lI w), .long (lI 0), .long (lI 8)]) C (c_X6_in l X w 0 8 (by first | assumption | omega) (by first | assumption | omega) (by first | assumption | omega)) gX6_touch_X6_in rfl rfl rfl hd_S_X6_in_X6_touch (by decide) dX6_touch_16 [] [0, 1] [0, 1] rfl rfl rfl rfl (by decide) rfl rfl rfl (Nat.le_of_ble_eq_true rfl) (by decide) (fun _ => rfl) (fun _ hy_ => ?_)
    clear hy_
    refine r_ite (fun h_4 => ?_) (fun h_4 => ?_)
    · skip
      refine r_if_eq (tgt := 36) C dX6_touch_19 (by decide) (by decide) (fun h_5 => absurd h_5 (by decide)) (fun h_5 => ?_)
      refine r_aload_n C dX6_touch_22 0 rfl ?_
      refine gf_6_16 C hi_X6_touch_6 kw_X6_touch_1 dX6_touch_23 0 rfl rfl ?_
      refine r_bipush C dX6_touch_26 (by decide) ?_
      refine r_iload_n C dX6_touch_28 1 rfl ?_
      refine r_imul C dX6_touch_29 ?_
      refine r_iload_n C dX6_touch_30 2 rfl ?_
      refine r_iadd C dX6_touch_31 ?_
      refine r_iald C dX6_touch_32 1 rfl (by omega) (by decide) ?_
      refine r_goto (tgt := 38) C dX6_touch_33 (by decide) ?_
      exact g_ret_i C rfl dX6_touch_38 () trivial (by first | (rw [if_pos (by omega)]; done) | (rw [if_neg (by omega), if_pos (by omega)]; done) | (rw [if_neg (by omega), if_neg (by omega), show 9 * k + w = k * 9 + w by omega]; done)) [0, 1] rfl (by (repeat' split) <;> first | rfl | omega)
    · skip
      refine r_if_eq (tgt := 36) C dX6_touch_19 (by decide) (by decide) (fun h_6 => ?_) (fun h_6 => absurd h_6 (by decide))
      refine r_bipush C dX6_touch_36 (by decide) ?_
      exact g_ret_i C rfl dX6_touch_38 () trivial (by first | (rw [if_pos (by omega)]; done) | (rw [if_neg (by omega), if_pos (by omega)]; done) | (rw [if_neg (by omega), if_neg (by omega), show 9 * k + w = k * 9 + w by omega]; done)) [0, 1] rfl (by (repeat' split) <;> first | rfl | omega)

set_option maxRecDepth 20000 in
theorem kw_X6_traced_0 : Cond.fieldLink RX6 235 "SkipStonesModel" "traceNow" "I" ∈ wsX6_traced := List.mem_of_getElem? (i := 1) rfl
set_option maxRecDepth 20000 in
theorem hi_X6_traced_6 : ∀ w ∈ wsX60, w ∈ wsX6_traced := fun _ h => List.mem_cons_of_mem _ (List.mem_append_right _ h)
set_option maxHeartbeats 4000000 in
set_option maxRecDepth 100000 in
theorem c_X6_traced (l : Launch) (X : gX) (h0 : Nat) (u2 : Nat) (u3 : Nat) (u4 : Nat) (u5 : Nat) (u6 : Nat) (u7 : Nat) (u8 : Nat) (u11 : Nat) (u14 : Nat) (u16 : Nat) (u20 : Nat) (u21 : Nat) (u22 : Nat) (u23 : Nat) (u24 : Nat) (ft : Int) (sc : Int) (rm : Int) (wc : Int) (sh : Int) (tq : Int) (cnt : Int) (gf : Int) (gs : Int) (rc : Int) (tc : Int) (k : Int) : gM l yX6_traced wsX6_traced (gr 0 0 0) X [(h0, .inr (6, [.int (iI ft), .int (iI sc), .ref u2, .ref u3, .ref u4, .ref u5, .ref u6, .ref u7, .ref u8, .int (iI rm), .int (iI wc), .ref u11, .int (iI sh), .int (iI tq), .ref u14, .int (iI cnt), .ref u16, .int (iI gf), .int (iI gs), .int (iI rc), .ref u20, .ref u21, .ref u22, .ref u23, .ref u24, .int (iI tc)]))] [.ref h0, .int (iI k)] (gQv X (Y := Unit) (fun _ => True) (fun _ => [(h0, .inr (6, [.int (iI ft), .int (iI sc), .ref u2, .ref u3, .ref u4, .ref u5, .ref u6, .ref u7, .ref u8, .int (iI rm), .int (iI wc), .ref u11, .int (iI sh), .int (iI tq), .ref u14, .int (iI cnt), .ref u16, .int (iI gf), .int (iI gs), .int (iI rc), .ref u20, .ref u21, .ref u22, .ref u23, .ref u24, .int (iI ((31 * tc) + k))]))])) 0 0 := by
  refine g_start2 (lo := [(0, .ref h0), (1, .int (iI k))]) (by decide +kernel) rfl rfl (Nat.le_of_ble_eq_true rfl) (fun p e s m args below meth c A C => ?_)
  refine r_aload_n C dX6_traced_0 0 rfl ?_
  refine r_bipush C dX6_traced_1 (by decide) ?_
  refine r_aload_n C dX6_traced_3 0 rfl ?_
  refine gf_6_25 C hi_X6_traced_6 kw_X6_traced_0 dX6_traced_4 0 rfl rfl ?_
  refine r_imul C dX6_traced_7 ?_
  refine r_iload_n C dX6_traced_8 1 rfl ?_
  refine r_iadd C dX6_traced_9 ?_
  refine pf_6_25 (ws2 := [(h0, .inr (6, [.int (iI ft), .int (iI sc), .ref u2, .ref u3, .ref u4, .ref u5, .ref u6, .ref u7, .ref u8, .int (iI rm), .int (iI wc), .ref u11, .int (iI sh), .int (iI tq), .ref u14, .int (iI cnt), .ref u16, .int (iI gf), .int (iI gs), .int (iI rc), .ref u20, .ref u21, .ref u22, .ref u23, .ref u24, .int (iI ((31 * tc) + k))]))]) C hi_X6_traced_6 kw_X6_traced_0 dX6_traced_10 0 rfl rfl rfl (Nat.le_of_ble_eq_true rfl) rfl ?_
  exact g_ret_v C rfl dX6_traced_13 () trivial [0] rfl (by (repeat' split) <;> first | rfl | omega)

set_option maxRecDepth 20000 in
theorem hd_V_X6_noTouch_X6_tell : yX6_noTouch.cls = yX6_noTouch.cls ∧ yX6_noTouch.cls ≠ "java/lang/invoke/MethodHandle" ∧ yX6_noTouch.cls ≠ "java/lang/invoke/VarHandle" ∧ (parseMethodDescriptor yX6_noTouch.desc).map (fun d => d.parameters.length) = some 1 := by decide +kernel
set_option maxRecDepth 20000 in
theorem kw_X6_tell_0 : Cond.fieldLink RX6 37 "SkipStonesModel" "kept" "[I" ∈ wsX6_tell := List.mem_of_getElem? (i := 1) rfl
set_option maxRecDepth 20000 in
theorem hd_V_X6_traced_X6_tell : yX6_traced.cls = yX6_traced.cls ∧ yX6_traced.cls ≠ "java/lang/invoke/MethodHandle" ∧ yX6_traced.cls ≠ "java/lang/invoke/VarHandle" ∧ (parseMethodDescriptor yX6_traced.desc).map (fun d => d.parameters.length) = some 1 := by decide +kernel
set_option maxRecDepth 20000 in
theorem hi_X6_tell_6 : ∀ w ∈ wsX60, w ∈ wsX6_tell := fun _ h => List.mem_cons_of_mem _ (List.mem_append_right _ h)
set_option maxHeartbeats 4000000 in
set_option maxRecDepth 100000 in
theorem c_X6_tell (l : Launch) (X : gX) (h0 : Nat) (u2 : Nat) (u3 : Nat) (u4 : Nat) (u5 : Nat) (u6 : Nat) (u7 : Nat) (u8 : Nat) (u11 : Nat) (u14 : Nat) (u16 : Nat) (u20 : Nat) (u21 : Nat) (u22 : Nat) (u23 : Nat) (u24 : Nat) (ft : Int) (sc : Int) (rm : Int) (wc : Int) (sh : Int) (tq : Int) (cnt : Int) (gf : Int) (gs : Int) (rc : Int) (tc : Int) (Fk : Nat → Int) (k : Int) (hb_k : inB k) (hcnt : 0 ≤ cnt ∧ cnt ≤ 90) (hFk : ∀ i, -1000000 ≤ Fk i ∧ Fk i ≤ 1000000) (ho : ∀ k : Int, 0 ≤ k → k < cnt → 0 ≤ Fk (Int.toNat (9 * k)) ∧ Fk (Int.toNat (9 * k)) ≤ 3) : gM l yX6_tell wsX6_tell (gr 2 0 0) X [(h0, .inr (6, [.int (iI ft), .int (iI sc), .ref u2, .ref u3, .ref u4, .ref u5, .ref u6, .ref u7, .ref u8, .int (iI rm), .int (iI wc), .ref u11, .int (iI sh), .int (iI tq), .ref u14, .int (iI cnt), .ref u16, .int (iI gf), .int (iI gs), .int (iI rc), .ref u20, .ref u21, .ref u22, .ref u23, .ref u24, .int (iI tc)])), (u16, .inl (X.2.1.1, 810, .inl (iF Fk)))] [.ref h0, .int (iI k)] (gQi X (Y := Unit) (fun _ => True) (fun _ => (if ¬ (0 ≤ k ∧ k < cnt) then -1 else if (Fk (Int.toNat (9 * k))) = 1 then (Fk (Int.toNat ((9 * k) + 1))) + 1000 else if (Fk (Int.toNat (9 * k))) = 2 then (Fk (Int.toNat ((9 * k) + 1))) + 1000 + (Fk (Int.toNat ((9 * k) + 1))) else if (Fk (Int.toNat (9 * k))) = 3 then (Fk (Int.toNat ((9 * k) + 1))) + 1000 + 5000 else (Fk (Int.toNat ((9 * k) + 1))))) (fun _ => [(h0, .inr (6, [.int (iI ft), .int (iI sc), .ref u2, .ref u3, .ref u4, .ref u5, .ref u6, .ref u7, .ref u8, .int (iI rm), .int (iI wc), .ref u11, .int (iI sh), .int (iI tq), .ref u14, .int (iI cnt), .ref u16, .int (iI gf), .int (iI gs), .int (iI rc), .ref u20, .ref u21, .ref u22, .ref u23, .ref u24, .int (iI (if ¬ (0 ≤ k ∧ k < cnt) then tc else if (Fk (Int.toNat (9 * k))) = 1 then 31 * (31 * tc + 2) + 1 else if (Fk (Int.toNat (9 * k))) = 2 then 31 * (31 * (31 * (31 * tc + 3) + 2) + 1) + 1 else if (Fk (Int.toNat (9 * k))) = 3 then 31 * (31 * (31 * tc + 6) + 2) + 1 else 31 * tc + 1))])), (u16, .inl (X.2.1.1, 810, .inl (iF Fk)))])) 0 0 := by
  refine g_start2 (lo := [(0, .ref h0), (1, .int (iI k))]) (by decide +kernel) rfl rfl (Nat.le_of_ble_eq_true rfl) (fun p e s m args below meth c A C => ?_)
  refine r_aload_n C dX6_tell_0 0 rfl ?_
  refine r_iload_n C dX6_tell_1 1 rfl ?_
  refine g_V_i (ws2 := (fun _ => [(h0, .inr (6, [.int (iI ft), .int (iI sc), .ref u2, .ref u3, .ref u4, .ref u5, .ref u6, .ref u7, .ref u8, .int (iI rm), .int (iI wc), .ref u11, .int (iI sh), .int (iI tq), .ref u14, .int (iI cnt), .ref u16, .int (iI gf), .int (iI gs), .int (iI rc), .ref u20, .ref u21, .ref u22, .ref u23, .ref u24, .int (iI tc)])), (u16, .inl (X.2.1.1, 810, .inl (iF Fk)))])) (As := [.int (iI k)]) C (c_X6_noTouch l X h0 u2 u3 u4 u5 u6 u7 u8 u11 u14 u16 u20 u21 u22 u23 u24 ft sc rm wc sh tq cnt gf gs rc tc k (by first | assumption | omega) (by first | assumption | omega)) gX6_tell_X6_noTouch rfl rfl rfl hd_V_X6_noTouch_X6_tell (by decide) dX6_tell_2 [0] [1] [1, 0] rfl rfl rfl rfl (by decide) rfl 0 6 rfl rfl rfl rfl (Nat.le_of_ble_eq_true rfl) (by decide) (fun _ => rfl) (fun _ hy_ => ?_)
  clear hy_
  refine r_ite (fun h_1 => ?_) (fun h_1 => ?_)
  · skip
    refine r_if_eq (tgt := 10) C dX6_tell_5 (by decide) (by decide) (fun h_2 => absurd h_2 (by decide)) (fun h_2 => ?_)
    refine r_iconst C dX6_tell_8 ?_
    exact g_ret_i C rfl dX6_tell_9 () trivial (by (repeat' split) <;> first | rfl | omega) [0, 1] rfl (by (repeat' split) <;> first | rfl | omega)
  · skip
    refine r_if_eq (tgt := 10) C dX6_tell_5 (by decide) (by decide) (fun h_3 => ?_) (fun h_3 => absurd h_3 (by decide))
    have hok := ho k (by omega) (by omega)
    refine r_aload_n C dX6_tell_10 0 rfl ?_
    refine gf_6_16 C hi_X6_tell_6 kw_X6_tell_0 dX6_tell_11 0 rfl rfl ?_
    refine r_bipush C dX6_tell_14 (by decide) ?_
    refine r_iload_n C dX6_tell_16 1 rfl ?_
    refine r_imul C dX6_tell_17 ?_
    refine r_iald C dX6_tell_18 1 rfl (by omega) (by decide) ?_
    refine r_istore_n (lo2 := [(2, .int (iI (Fk (Int.toNat (9 * k))))), (0, .ref h0), (1, .int (iI k))]) C dX6_tell_19 rfl (by decide) rfl ?_
    refine r_aload_n C dX6_tell_20 1 rfl ?_
    refine gf_6_16 C hi_X6_tell_6 kw_X6_tell_0 dX6_tell_21 0 rfl rfl ?_
    refine r_bipush C dX6_tell_24 (by decide) ?_
    refine r_iload_n C dX6_tell_26 2 rfl ?_
    refine r_imul C dX6_tell_27 ?_
    refine r_iconst C dX6_tell_28 ?_
    refine r_iadd C dX6_tell_29 ?_
    refine r_iald C dX6_tell_30 1 rfl (by omega) (by decide) ?_
    refine r_istore_n (lo2 := [(3, .int (iI (Fk (Int.toNat ((9 * k) + 1))))), (2, .int (iI (Fk (Int.toNat (9 * k))))), (0, .ref h0), (1, .int (iI k))]) C dX6_tell_31 rfl (by decide) rfl ?_
    refine r_iload_n C dX6_tell_32 1 rfl ?_
    refine r_iconst C dX6_tell_33 ?_
    refine r_icmp_le (tgt := 52) C dX6_tell_34 (by decide) (by have := hFk (Int.toNat (9 * k)); omega) (by decide) (fun h_4 => ?_) (fun h_4 => ?_)
    · skip
      refine r_iload_n C dX6_tell_52 1 rfl ?_
      refine r_if_le (tgt := 61) C dX6_tell_53 (by decide) (by have := hFk (Int.toNat (9 * k)); omega) (fun h_5 => ?_) (fun h_5 => ?_)
      · skip
        refine r_aload_n C dX6_tell_61 2 rfl ?_
        refine r_iconst C dX6_tell_62 ?_
        refine g_V_v (ws2 := (fun _ => [(h0, .inr (6, [.int (iI ft), .int (iI sc), .ref u2, .ref u3, .ref u4, .ref u5, .ref u6, .ref u7, .ref u8, .int (iI rm), .int (iI wc), .ref u11, .int (iI sh), .int (iI tq), .ref u14, .int (iI cnt), .ref u16, .int (iI gf), .int (iI gs), .int (iI rc), .ref u20, .ref u21, .ref u22, .ref u23, .ref u24, .int (iI ((31 * tc) + 1))])), (u16, .inl (X.2.1.1, 810, .inl (iF Fk)))])) (As := [.int (iI 1)]) C (c_X6_traced l X h0 u2 u3 u4 u5 u6 u7 u8 u11 u14 u16 u20 u21 u22 u23 u24 ft sc rm wc sh tq cnt gf gs rc tc 1 ) gX6_tell_X6_traced rfl rfl rfl hd_V_X6_traced_X6_tell (by decide) dX6_tell_63 [0] [1] [1, 0] rfl rfl rfl rfl (by decide) rfl 0 6 rfl rfl rfl rfl (Nat.le_of_ble_eq_true rfl) (by decide) (fun _ => rfl) (fun _ hy_ => ?_)
        clear hy_
        refine r_iload_n C dX6_tell_66 1 rfl ?_
        refine r_iconst C dX6_tell_67 ?_
        refine r_icmp_ne (tgt := 76) C dX6_tell_68 (by decide) (by have := hFk (Int.toNat (9 * k)); omega) (by decide) (fun h_6 => ?_) (fun h_6 => absurd h_6 (by omega))
        refine r_iload_n C dX6_tell_76 1 rfl ?_
        refine r_if_ne (tgt := 84) C dX6_tell_77 (by decide) (by have := hFk (Int.toNat (9 * k)); omega) (fun h_7 => absurd h_7 (by omega)) (fun h_7 => ?_)
        refine r_iload_n C dX6_tell_80 0 rfl ?_
        refine r_goto (tgt := 117) C dX6_tell_81 (by decide) ?_
        exact g_ret_i C rfl dX6_tell_117 () trivial (by (repeat' split) <;> first | rfl | omega) [0, 1] rfl (by (repeat' split) <;> first | rfl | omega)
      · skip
        refine r_aload_n C dX6_tell_56 2 rfl ?_
        refine r_iconst C dX6_tell_57 ?_
        refine g_V_v (ws2 := (fun _ => [(h0, .inr (6, [.int (iI ft), .int (iI sc), .ref u2, .ref u3, .ref u4, .ref u5, .ref u6, .ref u7, .ref u8, .int (iI rm), .int (iI wc), .ref u11, .int (iI sh), .int (iI tq), .ref u14, .int (iI cnt), .ref u16, .int (iI gf), .int (iI gs), .int (iI rc), .ref u20, .ref u21, .ref u22, .ref u23, .ref u24, .int (iI ((31 * tc) + 2))])), (u16, .inl (X.2.1.1, 810, .inl (iF Fk)))])) (As := [.int (iI 2)]) C (c_X6_traced l X h0 u2 u3 u4 u5 u6 u7 u8 u11 u14 u16 u20 u21 u22 u23 u24 ft sc rm wc sh tq cnt gf gs rc tc 2 ) gX6_tell_X6_traced rfl rfl rfl hd_V_X6_traced_X6_tell (by decide) dX6_tell_58 [0] [1] [1, 0] rfl rfl rfl rfl (by decide) rfl 0 6 rfl rfl rfl rfl (Nat.le_of_ble_eq_true rfl) (by decide) (fun _ => rfl) (fun _ hy_ => ?_)
        clear hy_
        refine r_aload_n C dX6_tell_61 2 rfl ?_
        refine r_iconst C dX6_tell_62 ?_
        refine g_V_v (ws2 := (fun _ => [(h0, .inr (6, [.int (iI ft), .int (iI sc), .ref u2, .ref u3, .ref u4, .ref u5, .ref u6, .ref u7, .ref u8, .int (iI rm), .int (iI wc), .ref u11, .int (iI sh), .int (iI tq), .ref u14, .int (iI cnt), .ref u16, .int (iI gf), .int (iI gs), .int (iI rc), .ref u20, .ref u21, .ref u22, .ref u23, .ref u24, .int (iI ((31 * ((31 * tc) + 2)) + 1))])), (u16, .inl (X.2.1.1, 810, .inl (iF Fk)))])) (As := [.int (iI 1)]) C (c_X6_traced l X h0 u2 u3 u4 u5 u6 u7 u8 u11 u14 u16 u20 u21 u22 u23 u24 ft sc rm wc sh tq cnt gf gs rc ((31 * tc) + 2) 1 ) gX6_tell_X6_traced rfl rfl rfl hd_V_X6_traced_X6_tell (by decide) dX6_tell_63 [0] [1] [1, 0] rfl rfl rfl rfl (by decide) rfl 0 6 rfl rfl rfl rfl (Nat.le_of_ble_eq_true rfl) (by decide) (fun _ => rfl) (fun _ hy_ => ?_)
        clear hy_
        refine r_iload_n C dX6_tell_66 1 rfl ?_
        refine r_iconst C dX6_tell_67 ?_
        refine r_icmp_ne (tgt := 76) C dX6_tell_68 (by decide) (by have := hFk (Int.toNat (9 * k)); omega) (by decide) (fun h_8 => ?_) (fun h_8 => absurd h_8 (by omega))
        refine r_iload_n C dX6_tell_76 1 rfl ?_
        refine r_if_ne (tgt := 84) C dX6_tell_77 (by decide) (by have := hFk (Int.toNat (9 * k)); omega) (fun h_9 => ?_) (fun h_9 => absurd h_9 (by omega))
        refine r_iload_n C dX6_tell_84 1 rfl ?_
        refine r_iconst C dX6_tell_85 ?_
        refine r_icmp_ne (tgt := 97) C dX6_tell_86 (by decide) (by have := hFk (Int.toNat (9 * k)); omega) (by decide) (fun h_10 => absurd h_10 (by omega)) (fun h_10 => ?_)
        refine r_iload_n C dX6_tell_89 0 rfl ?_
        refine r_sipush C dX6_tell_90 (by decide) ?_
        refine r_iadd C dX6_tell_93 ?_
        refine r_goto (tgt := 117) C dX6_tell_94 (by decide) ?_
        exact g_ret_i C rfl dX6_tell_117 () trivial (by (repeat' split) <;> first | rfl | omega) [0, 1] rfl (by (repeat' split) <;> first | rfl | omega)
    · skip
      refine r_aload_n C dX6_tell_37 2 rfl ?_
      refine r_iload_n C dX6_tell_38 1 rfl ?_
      refine r_iconst C dX6_tell_39 ?_
      refine r_icmp_ne (tgt := 47) C dX6_tell_40 (by decide) (by have := hFk (Int.toNat (9 * k)); omega) (by decide) (fun h_11 => ?_) (fun h_11 => ?_)
      · skip
        refine r_bipush C dX6_tell_47 (by decide) ?_
        refine g_V_v (ws2 := (fun _ => [(h0, .inr (6, [.int (iI ft), .int (iI sc), .ref u2, .ref u3, .ref u4, .ref u5, .ref u6, .ref u7, .ref u8, .int (iI rm), .int (iI wc), .ref u11, .int (iI sh), .int (iI tq), .ref u14, .int (iI cnt), .ref u16, .int (iI gf), .int (iI gs), .int (iI rc), .ref u20, .ref u21, .ref u22, .ref u23, .ref u24, .int (iI ((31 * tc) + 6))])), (u16, .inl (X.2.1.1, 810, .inl (iF Fk)))])) (As := [.int (iI 6)]) C (c_X6_traced l X h0 u2 u3 u4 u5 u6 u7 u8 u11 u14 u16 u20 u21 u22 u23 u24 ft sc rm wc sh tq cnt gf gs rc tc 6 ) gX6_tell_X6_traced rfl rfl rfl hd_V_X6_traced_X6_tell (by decide) dX6_tell_49 [0] [1] [1, 0] rfl rfl rfl rfl (by decide) rfl 0 6 rfl rfl rfl rfl (Nat.le_of_ble_eq_true rfl) (by decide) (fun _ => rfl) (fun _ hy_ => ?_)
        clear hy_
        refine r_iload_n C dX6_tell_52 1 rfl ?_
        refine r_if_le (tgt := 61) C dX6_tell_53 (by decide) (by have := hFk (Int.toNat (9 * k)); omega) (fun h_12 => absurd h_12 (by omega)) (fun h_12 => ?_)
        refine r_aload_n C dX6_tell_56 2 rfl ?_
        refine r_iconst C dX6_tell_57 ?_
        refine g_V_v (ws2 := (fun _ => [(h0, .inr (6, [.int (iI ft), .int (iI sc), .ref u2, .ref u3, .ref u4, .ref u5, .ref u6, .ref u7, .ref u8, .int (iI rm), .int (iI wc), .ref u11, .int (iI sh), .int (iI tq), .ref u14, .int (iI cnt), .ref u16, .int (iI gf), .int (iI gs), .int (iI rc), .ref u20, .ref u21, .ref u22, .ref u23, .ref u24, .int (iI ((31 * ((31 * tc) + 6)) + 2))])), (u16, .inl (X.2.1.1, 810, .inl (iF Fk)))])) (As := [.int (iI 2)]) C (c_X6_traced l X h0 u2 u3 u4 u5 u6 u7 u8 u11 u14 u16 u20 u21 u22 u23 u24 ft sc rm wc sh tq cnt gf gs rc ((31 * tc) + 6) 2 ) gX6_tell_X6_traced rfl rfl rfl hd_V_X6_traced_X6_tell (by decide) dX6_tell_58 [0] [1] [1, 0] rfl rfl rfl rfl (by decide) rfl 0 6 rfl rfl rfl rfl (Nat.le_of_ble_eq_true rfl) (by decide) (fun _ => rfl) (fun _ hy_ => ?_)
        clear hy_
        refine r_aload_n C dX6_tell_61 2 rfl ?_
        refine r_iconst C dX6_tell_62 ?_
        refine g_V_v (ws2 := (fun _ => [(h0, .inr (6, [.int (iI ft), .int (iI sc), .ref u2, .ref u3, .ref u4, .ref u5, .ref u6, .ref u7, .ref u8, .int (iI rm), .int (iI wc), .ref u11, .int (iI sh), .int (iI tq), .ref u14, .int (iI cnt), .ref u16, .int (iI gf), .int (iI gs), .int (iI rc), .ref u20, .ref u21, .ref u22, .ref u23, .ref u24, .int (iI ((31 * ((31 * ((31 * tc) + 6)) + 2)) + 1))])), (u16, .inl (X.2.1.1, 810, .inl (iF Fk)))])) (As := [.int (iI 1)]) C (c_X6_traced l X h0 u2 u3 u4 u5 u6 u7 u8 u11 u14 u16 u20 u21 u22 u23 u24 ft sc rm wc sh tq cnt gf gs rc ((31 * ((31 * tc) + 6)) + 2) 1 ) gX6_tell_X6_traced rfl rfl rfl hd_V_X6_traced_X6_tell (by decide) dX6_tell_63 [0] [1] [1, 0] rfl rfl rfl rfl (by decide) rfl 0 6 rfl rfl rfl rfl (Nat.le_of_ble_eq_true rfl) (by decide) (fun _ => rfl) (fun _ hy_ => ?_)
        clear hy_
        refine r_iload_n C dX6_tell_66 1 rfl ?_
        refine r_iconst C dX6_tell_67 ?_
        refine r_icmp_ne (tgt := 76) C dX6_tell_68 (by decide) (by have := hFk (Int.toNat (9 * k)); omega) (by decide) (fun h_13 => ?_) (fun h_13 => absurd h_13 (by omega))
        refine r_iload_n C dX6_tell_76 1 rfl ?_
        refine r_if_ne (tgt := 84) C dX6_tell_77 (by decide) (by have := hFk (Int.toNat (9 * k)); omega) (fun h_14 => ?_) (fun h_14 => absurd h_14 (by omega))
        refine r_iload_n C dX6_tell_84 1 rfl ?_
        refine r_iconst C dX6_tell_85 ?_
        refine r_icmp_ne (tgt := 97) C dX6_tell_86 (by decide) (by have := hFk (Int.toNat (9 * k)); omega) (by decide) (fun h_15 => ?_) (fun h_15 => absurd h_15 (by omega))
        refine r_iload_n C dX6_tell_97 1 rfl ?_
        refine r_iconst C dX6_tell_98 ?_
        refine r_icmp_ne (tgt := 112) C dX6_tell_99 (by decide) (by have := hFk (Int.toNat (9 * k)); omega) (by decide) (fun h_16 => ?_) (fun h_16 => absurd h_16 (by omega))
        refine r_iload_n C dX6_tell_112 0 rfl ?_
        refine r_sipush C dX6_tell_113 (by decide) ?_
        refine r_iadd C dX6_tell_116 ?_
        exact g_ret_i C rfl dX6_tell_117 () trivial (by (repeat' split) <;> first | rfl | omega) [0, 1] rfl (by (repeat' split) <;> first | rfl | omega)
      · skip
        refine r_iconst C dX6_tell_43 ?_
        refine r_goto (tgt := 49) C dX6_tell_44 (by decide) ?_
        refine g_V_v (ws2 := (fun _ => [(h0, .inr (6, [.int (iI ft), .int (iI sc), .ref u2, .ref u3, .ref u4, .ref u5, .ref u6, .ref u7, .ref u8, .int (iI rm), .int (iI wc), .ref u11, .int (iI sh), .int (iI tq), .ref u14, .int (iI cnt), .ref u16, .int (iI gf), .int (iI gs), .int (iI rc), .ref u20, .ref u21, .ref u22, .ref u23, .ref u24, .int (iI ((31 * tc) + 3))])), (u16, .inl (X.2.1.1, 810, .inl (iF Fk)))])) (As := [.int (iI 3)]) C (c_X6_traced l X h0 u2 u3 u4 u5 u6 u7 u8 u11 u14 u16 u20 u21 u22 u23 u24 ft sc rm wc sh tq cnt gf gs rc tc 3 ) gX6_tell_X6_traced rfl rfl rfl hd_V_X6_traced_X6_tell (by decide) dX6_tell_49 [0] [1] [1, 0] rfl rfl rfl rfl (by decide) rfl 0 6 rfl rfl rfl rfl (Nat.le_of_ble_eq_true rfl) (by decide) (fun _ => rfl) (fun _ hy_ => ?_)
        clear hy_
        refine r_iload_n C dX6_tell_52 1 rfl ?_
        refine r_if_le (tgt := 61) C dX6_tell_53 (by decide) (by have := hFk (Int.toNat (9 * k)); omega) (fun h_17 => absurd h_17 (by omega)) (fun h_17 => ?_)
        refine r_aload_n C dX6_tell_56 2 rfl ?_
        refine r_iconst C dX6_tell_57 ?_
        refine g_V_v (ws2 := (fun _ => [(h0, .inr (6, [.int (iI ft), .int (iI sc), .ref u2, .ref u3, .ref u4, .ref u5, .ref u6, .ref u7, .ref u8, .int (iI rm), .int (iI wc), .ref u11, .int (iI sh), .int (iI tq), .ref u14, .int (iI cnt), .ref u16, .int (iI gf), .int (iI gs), .int (iI rc), .ref u20, .ref u21, .ref u22, .ref u23, .ref u24, .int (iI ((31 * ((31 * tc) + 3)) + 2))])), (u16, .inl (X.2.1.1, 810, .inl (iF Fk)))])) (As := [.int (iI 2)]) C (c_X6_traced l X h0 u2 u3 u4 u5 u6 u7 u8 u11 u14 u16 u20 u21 u22 u23 u24 ft sc rm wc sh tq cnt gf gs rc ((31 * tc) + 3) 2 ) gX6_tell_X6_traced rfl rfl rfl hd_V_X6_traced_X6_tell (by decide) dX6_tell_58 [0] [1] [1, 0] rfl rfl rfl rfl (by decide) rfl 0 6 rfl rfl rfl rfl (Nat.le_of_ble_eq_true rfl) (by decide) (fun _ => rfl) (fun _ hy_ => ?_)
        clear hy_
        refine r_aload_n C dX6_tell_61 2 rfl ?_
        refine r_iconst C dX6_tell_62 ?_
        refine g_V_v (ws2 := (fun _ => [(h0, .inr (6, [.int (iI ft), .int (iI sc), .ref u2, .ref u3, .ref u4, .ref u5, .ref u6, .ref u7, .ref u8, .int (iI rm), .int (iI wc), .ref u11, .int (iI sh), .int (iI tq), .ref u14, .int (iI cnt), .ref u16, .int (iI gf), .int (iI gs), .int (iI rc), .ref u20, .ref u21, .ref u22, .ref u23, .ref u24, .int (iI ((31 * ((31 * ((31 * tc) + 3)) + 2)) + 1))])), (u16, .inl (X.2.1.1, 810, .inl (iF Fk)))])) (As := [.int (iI 1)]) C (c_X6_traced l X h0 u2 u3 u4 u5 u6 u7 u8 u11 u14 u16 u20 u21 u22 u23 u24 ft sc rm wc sh tq cnt gf gs rc ((31 * ((31 * tc) + 3)) + 2) 1 ) gX6_tell_X6_traced rfl rfl rfl hd_V_X6_traced_X6_tell (by decide) dX6_tell_63 [0] [1] [1, 0] rfl rfl rfl rfl (by decide) rfl 0 6 rfl rfl rfl rfl (Nat.le_of_ble_eq_true rfl) (by decide) (fun _ => rfl) (fun _ hy_ => ?_)
        clear hy_
        refine r_iload_n C dX6_tell_66 1 rfl ?_
        refine r_iconst C dX6_tell_67 ?_
        refine r_icmp_ne (tgt := 76) C dX6_tell_68 (by decide) (by have := hFk (Int.toNat (9 * k)); omega) (by decide) (fun h_18 => absurd h_18 (by omega)) (fun h_18 => ?_)
        refine r_aload_n C dX6_tell_71 2 rfl ?_
        refine r_iconst C dX6_tell_72 ?_
        refine g_V_v (ws2 := (fun _ => [(h0, .inr (6, [.int (iI ft), .int (iI sc), .ref u2, .ref u3, .ref u4, .ref u5, .ref u6, .ref u7, .ref u8, .int (iI rm), .int (iI wc), .ref u11, .int (iI sh), .int (iI tq), .ref u14, .int (iI cnt), .ref u16, .int (iI gf), .int (iI gs), .int (iI rc), .ref u20, .ref u21, .ref u22, .ref u23, .ref u24, .int (iI ((31 * ((31 * ((31 * ((31 * tc) + 3)) + 2)) + 1)) + 1))])), (u16, .inl (X.2.1.1, 810, .inl (iF Fk)))])) (As := [.int (iI 1)]) C (c_X6_traced l X h0 u2 u3 u4 u5 u6 u7 u8 u11 u14 u16 u20 u21 u22 u23 u24 ft sc rm wc sh tq cnt gf gs rc ((31 * ((31 * ((31 * tc) + 3)) + 2)) + 1) 1 ) gX6_tell_X6_traced rfl rfl rfl hd_V_X6_traced_X6_tell (by decide) dX6_tell_73 [0] [1] [1, 0] rfl rfl rfl rfl (by decide) rfl 0 6 rfl rfl rfl rfl (Nat.le_of_ble_eq_true rfl) (by decide) (fun _ => rfl) (fun _ hy_ => ?_)
        clear hy_
        refine r_iload_n C dX6_tell_76 1 rfl ?_
        refine r_if_ne (tgt := 84) C dX6_tell_77 (by decide) (by have := hFk (Int.toNat (9 * k)); omega) (fun h_19 => ?_) (fun h_19 => absurd h_19 (by omega))
        refine r_iload_n C dX6_tell_84 1 rfl ?_
        refine r_iconst C dX6_tell_85 ?_
        refine r_icmp_ne (tgt := 97) C dX6_tell_86 (by decide) (by have := hFk (Int.toNat (9 * k)); omega) (by decide) (fun h_20 => ?_) (fun h_20 => absurd h_20 (by omega))
        refine r_iload_n C dX6_tell_97 1 rfl ?_
        refine r_iconst C dX6_tell_98 ?_
        refine r_icmp_ne (tgt := 112) C dX6_tell_99 (by decide) (by have := hFk (Int.toNat (9 * k)); omega) (by decide) (fun h_21 => absurd h_21 (by omega)) (fun h_21 => ?_)
        refine r_iconst C dX6_tell_102 ?_
        refine r_iload_n C dX6_tell_103 0 rfl ?_
        refine r_imul C dX6_tell_104 ?_
        refine r_sipush C dX6_tell_105 (by decide) ?_
        refine r_iadd C dX6_tell_108 ?_
        refine r_goto (tgt := 117) C dX6_tell_109 (by decide) ?_
        exact g_ret_i C rfl dX6_tell_117 () trivial (by (repeat' split) <;> first | rfl | omega) [0, 1] rfl (by (repeat' split) <;> first | rfl | omega)

set_option maxRecDepth 20000 in
theorem hd_V_X6_noTouch_X6_hear : yX6_noTouch.cls = yX6_noTouch.cls ∧ yX6_noTouch.cls ≠ "java/lang/invoke/MethodHandle" ∧ yX6_noTouch.cls ≠ "java/lang/invoke/VarHandle" ∧ (parseMethodDescriptor yX6_noTouch.desc).map (fun d => d.parameters.length) = some 1 := by decide +kernel
set_option maxRecDepth 20000 in
theorem kw_X6_hear_0 : Cond.fieldLink RX6 37 "SkipStonesModel" "kept" "[I" ∈ wsX6_hear := List.mem_of_getElem? (i := 1) rfl
set_option maxRecDepth 20000 in
theorem hd_V_X6_traced_X6_hear : yX6_traced.cls = yX6_traced.cls ∧ yX6_traced.cls ≠ "java/lang/invoke/MethodHandle" ∧ yX6_traced.cls ≠ "java/lang/invoke/VarHandle" ∧ (parseMethodDescriptor yX6_traced.desc).map (fun d => d.parameters.length) = some 1 := by decide +kernel
set_option maxRecDepth 20000 in
theorem hi_X6_hear_6 : ∀ w ∈ wsX60, w ∈ wsX6_hear := fun _ h => List.mem_cons_of_mem _ (List.mem_append_right _ h)
set_option maxHeartbeats 4000000 in
set_option maxRecDepth 100000 in
theorem c_X6_hear (l : Launch) (X : gX) (h0 : Nat) (u2 : Nat) (u3 : Nat) (u4 : Nat) (u5 : Nat) (u6 : Nat) (u7 : Nat) (u8 : Nat) (u11 : Nat) (u14 : Nat) (u16 : Nat) (u20 : Nat) (u21 : Nat) (u22 : Nat) (u23 : Nat) (u24 : Nat) (ft : Int) (sc : Int) (rm : Int) (wc : Int) (sh : Int) (tq : Int) (cnt : Int) (gf : Int) (gs : Int) (rc : Int) (tc : Int) (Fk : Nat → Int) (k : Int) (hb_k : inB k) (hcnt : 0 ≤ cnt ∧ cnt ≤ 90) (hFk : ∀ i, -1000000 ≤ Fk i ∧ Fk i ≤ 1000000) : gM l yX6_hear wsX6_hear (gr 2 0 0) X [(h0, .inr (6, [.int (iI ft), .int (iI sc), .ref u2, .ref u3, .ref u4, .ref u5, .ref u6, .ref u7, .ref u8, .int (iI rm), .int (iI wc), .ref u11, .int (iI sh), .int (iI tq), .ref u14, .int (iI cnt), .ref u16, .int (iI gf), .int (iI gs), .int (iI rc), .ref u20, .ref u21, .ref u22, .ref u23, .ref u24, .int (iI tc)])), (u16, .inl (X.2.1.1, 810, .inl (iF Fk)))] [.ref h0, .int (iI k)] (gQi X (Y := Unit) (fun _ => True) (fun _ => (if ¬ (0 ≤ k ∧ k < cnt) then -1 else if (Fk (Int.toNat (9 * k))) = 2 then 60 else k)) (fun _ => [(h0, .inr (6, [.int (iI ft), .int (iI sc), .ref u2, .ref u3, .ref u4, .ref u5, .ref u6, .ref u7, .ref u8, .int (iI rm), .int (iI wc), .ref u11, .int (iI sh), .int (iI tq), .ref u14, .int (iI cnt), .ref u16, .int (iI gf), .int (iI gs), .int (iI rc), .ref u20, .ref u21, .ref u22, .ref u23, .ref u24, .int (iI (if ¬ (0 ≤ k ∧ k < cnt) then tc else if (Fk (Int.toNat (9 * k))) = 2 then 31 * tc + 5 else 31 * tc + 4))])), (u16, .inl (X.2.1.1, 810, .inl (iF Fk)))])) 0 0 := by
  refine g_start2 (lo := [(0, .ref h0), (1, .int (iI k))]) (by decide +kernel) rfl rfl (Nat.le_of_ble_eq_true rfl) (fun p e s m args below meth c A C => ?_)
  refine r_aload_n C dX6_hear_0 0 rfl ?_
  refine r_iload_n C dX6_hear_1 1 rfl ?_
  refine g_V_i (ws2 := (fun _ => [(h0, .inr (6, [.int (iI ft), .int (iI sc), .ref u2, .ref u3, .ref u4, .ref u5, .ref u6, .ref u7, .ref u8, .int (iI rm), .int (iI wc), .ref u11, .int (iI sh), .int (iI tq), .ref u14, .int (iI cnt), .ref u16, .int (iI gf), .int (iI gs), .int (iI rc), .ref u20, .ref u21, .ref u22, .ref u23, .ref u24, .int (iI tc)])), (u16, .inl (X.2.1.1, 810, .inl (iF Fk)))])) (As := [.int (iI k)]) C (c_X6_noTouch l X h0 u2 u3 u4 u5 u6 u7 u8 u11 u14 u16 u20 u21 u22 u23 u24 ft sc rm wc sh tq cnt gf gs rc tc k (by first | assumption | omega) (by first | assumption | omega)) gX6_hear_X6_noTouch rfl rfl rfl hd_V_X6_noTouch_X6_hear (by decide) dX6_hear_2 [0] [1] [1, 0] rfl rfl rfl rfl (by decide) rfl 0 6 rfl rfl rfl rfl (Nat.le_of_ble_eq_true rfl) (by decide) (fun _ => rfl) (fun _ hy_ => ?_)
  clear hy_
  refine r_ite (fun h_1 => ?_) (fun h_1 => ?_)
  · skip
    refine r_if_eq (tgt := 10) C dX6_hear_5 (by decide) (by decide) (fun h_2 => absurd h_2 (by decide)) (fun h_2 => ?_)
    refine r_iconst C dX6_hear_8 ?_
    exact g_ret_i C rfl dX6_hear_9 () trivial (by (repeat' split) <;> first | rfl | omega) [0, 1] rfl (by (repeat' split) <;> first | rfl | omega)
  · skip
    refine r_if_eq (tgt := 10) C dX6_hear_5 (by decide) (by decide) (fun h_3 => ?_) (fun h_3 => absurd h_3 (by decide))
    refine r_aload_n C dX6_hear_10 0 rfl ?_
    refine r_aload_n C dX6_hear_11 0 rfl ?_
    refine gf_6_16 C hi_X6_hear_6 kw_X6_hear_0 dX6_hear_12 0 rfl rfl ?_
    refine r_bipush C dX6_hear_15 (by decide) ?_
    refine r_iload_n C dX6_hear_17 1 rfl ?_
    refine r_imul C dX6_hear_18 ?_
    refine r_iald C dX6_hear_19 1 rfl (by omega) (by decide) ?_
    refine r_iconst C dX6_hear_20 ?_
    refine r_icmp_ne (tgt := 28) C dX6_hear_21 (by decide) (by have := hFk (Int.toNat (9 * k)); omega) (by decide) (fun h_4 => ?_) (fun h_4 => ?_)
    · skip
      refine r_iconst C dX6_hear_28 ?_
      refine g_V_v (ws2 := (fun _ => [(h0, .inr (6, [.int (iI ft), .int (iI sc), .ref u2, .ref u3, .ref u4, .ref u5, .ref u6, .ref u7, .ref u8, .int (iI rm), .int (iI wc), .ref u11, .int (iI sh), .int (iI tq), .ref u14, .int (iI cnt), .ref u16, .int (iI gf), .int (iI gs), .int (iI rc), .ref u20, .ref u21, .ref u22, .ref u23, .ref u24, .int (iI ((31 * tc) + 4))])), (u16, .inl (X.2.1.1, 810, .inl (iF Fk)))])) (As := [.int (iI 4)]) C (c_X6_traced l X h0 u2 u3 u4 u5 u6 u7 u8 u11 u14 u16 u20 u21 u22 u23 u24 ft sc rm wc sh tq cnt gf gs rc tc 4 ) gX6_hear_X6_traced rfl rfl rfl hd_V_X6_traced_X6_hear (by decide) dX6_hear_29 [0] [1] [1, 0] rfl rfl rfl rfl (by decide) rfl 0 6 rfl rfl rfl rfl (Nat.le_of_ble_eq_true rfl) (by decide) (fun _ => rfl) (fun _ hy_ => ?_)
      clear hy_
      refine r_aload_n C dX6_hear_32 0 rfl ?_
      refine gf_6_16 C hi_X6_hear_6 kw_X6_hear_0 dX6_hear_33 0 rfl rfl ?_
      refine r_bipush C dX6_hear_36 (by decide) ?_
      refine r_iload_n C dX6_hear_38 1 rfl ?_
      refine r_imul C dX6_hear_39 ?_
      refine r_iald C dX6_hear_40 1 rfl (by omega) (by decide) ?_
      refine r_iconst C dX6_hear_41 ?_
      refine r_icmp_ne (tgt := 50) C dX6_hear_42 (by decide) (by have := hFk (Int.toNat (9 * k)); omega) (by decide) (fun h_5 => ?_) (fun h_5 => absurd h_5 (by omega))
      refine r_iload_n C dX6_hear_50 1 rfl ?_
      exact g_ret_i C rfl dX6_hear_51 () trivial (by (repeat' split) <;> first | rfl | omega) [0, 1] rfl (by (repeat' split) <;> first | rfl | omega)
    · skip
      refine r_iconst C dX6_hear_24 ?_
      refine r_goto (tgt := 29) C dX6_hear_25 (by decide) ?_
      refine g_V_v (ws2 := (fun _ => [(h0, .inr (6, [.int (iI ft), .int (iI sc), .ref u2, .ref u3, .ref u4, .ref u5, .ref u6, .ref u7, .ref u8, .int (iI rm), .int (iI wc), .ref u11, .int (iI sh), .int (iI tq), .ref u14, .int (iI cnt), .ref u16, .int (iI gf), .int (iI gs), .int (iI rc), .ref u20, .ref u21, .ref u22, .ref u23, .ref u24, .int (iI ((31 * tc) + 5))])), (u16, .inl (X.2.1.1, 810, .inl (iF Fk)))])) (As := [.int (iI 5)]) C (c_X6_traced l X h0 u2 u3 u4 u5 u6 u7 u8 u11 u14 u16 u20 u21 u22 u23 u24 ft sc rm wc sh tq cnt gf gs rc tc 5 ) gX6_hear_X6_traced rfl rfl rfl hd_V_X6_traced_X6_hear (by decide) dX6_hear_29 [0] [1] [1, 0] rfl rfl rfl rfl (by decide) rfl 0 6 rfl rfl rfl rfl (Nat.le_of_ble_eq_true rfl) (by decide) (fun _ => rfl) (fun _ hy_ => ?_)
      clear hy_
      refine r_aload_n C dX6_hear_32 0 rfl ?_
      refine gf_6_16 C hi_X6_hear_6 kw_X6_hear_0 dX6_hear_33 0 rfl rfl ?_
      refine r_bipush C dX6_hear_36 (by decide) ?_
      refine r_iload_n C dX6_hear_38 1 rfl ?_
      refine r_imul C dX6_hear_39 ?_
      refine r_iald C dX6_hear_40 1 rfl (by omega) (by decide) ?_
      refine r_iconst C dX6_hear_41 ?_
      refine r_icmp_ne (tgt := 50) C dX6_hear_42 (by decide) (by have := hFk (Int.toNat (9 * k)); omega) (by decide) (fun h_6 => absurd h_6 (by omega)) (fun h_6 => ?_)
      refine r_bipush C dX6_hear_45 (by decide) ?_
      refine r_goto (tgt := 51) C dX6_hear_47 (by decide) ?_
      exact g_ret_i C rfl dX6_hear_51 () trivial (by (repeat' split) <;> first | rfl | omega) [0, 1] rfl (by (repeat' split) <;> first | rfl | omega)

set_option maxRecDepth 20000 in
theorem hd_V_X6_noTouch_X6_as : yX6_noTouch.cls = yX6_noTouch.cls ∧ yX6_noTouch.cls ≠ "java/lang/invoke/MethodHandle" ∧ yX6_noTouch.cls ≠ "java/lang/invoke/VarHandle" ∧ (parseMethodDescriptor yX6_noTouch.desc).map (fun d => d.parameters.length) = some 1 := by decide +kernel
set_option maxRecDepth 20000 in
theorem hd_V_X6_refused_X6_as : yX6_refused.cls = yX6_refused.cls ∧ yX6_refused.cls ≠ "java/lang/invoke/MethodHandle" ∧ yX6_refused.cls ≠ "java/lang/invoke/VarHandle" ∧ (parseMethodDescriptor yX6_refused.desc).map (fun d => d.parameters.length) = some 1 := by decide +kernel
set_option maxRecDepth 20000 in
theorem kw_X6_as_0 : Cond.constantLong RX6 227 (3) ∈ wsX6_as := List.mem_of_getElem? (i := 1) rfl
set_option maxRecDepth 20000 in
theorem hd_S_X6_in_X6_as : yX6_in.cls ≠ "java/lang/invoke/MethodHandle" ∧ yX6_in.cls ≠ "java/lang/invoke/VarHandle" ∧ (parseMethodDescriptor yX6_in.desc).map (fun d => d.parameters.length) = some 3 := by decide +kernel
set_option maxRecDepth 20000 in
theorem kw_X6_as_1 : Cond.fieldLink RX6 37 "SkipStonesModel" "kept" "[I" ∈ wsX6_as := List.mem_of_getElem? (i := 2) rfl
set_option maxRecDepth 20000 in
theorem hd_V_X6_failed_X6_as : yX6_failed.cls = yX6_failed.cls ∧ yX6_failed.cls ≠ "java/lang/invoke/MethodHandle" ∧ yX6_failed.cls ≠ "java/lang/invoke/VarHandle" ∧ (parseMethodDescriptor yX6_failed.desc).map (fun d => d.parameters.length) = some 1 := by decide +kernel
set_option maxRecDepth 20000 in
theorem hi_X6_as_6 : ∀ w ∈ wsX60, w ∈ wsX6_as := fun _ h => List.mem_cons_of_mem _ (List.mem_append_right _ h)
set_option maxHeartbeats 4000000 in
set_option maxRecDepth 100000 in
theorem c_X6_as (l : Launch) (X : gX) (h0 : Nat) (u2 : Nat) (u3 : Nat) (u4 : Nat) (u5 : Nat) (u6 : Nat) (u7 : Nat) (u8 : Nat) (u11 : Nat) (u14 : Nat) (u16 : Nat) (u20 : Nat) (u21 : Nat) (u22 : Nat) (u23 : Nat) (u24 : Nat) (ft : Int) (sc : Int) (rm : Int) (wc : Int) (sh : Int) (tq : Int) (cnt : Int) (gf : Int) (gs : Int) (rc : Int) (tc : Int) (Fk : Nat → Int) (k : Int) (w : Int) (hb_k : inB k) (hcnt : 0 ≤ cnt ∧ cnt ≤ 90) (hFk : ∀ i, -1000000 ≤ Fk i ∧ Fk i ≤ 1000000) (hb_w : inB w) (ho : ∀ k : Int, 0 ≤ k → k < cnt → 0 ≤ Fk (Int.toNat (9 * k)) ∧ Fk (Int.toNat (9 * k)) ≤ 3) : gM l yX6_as wsX6_as (gr 2 0 0) X [(h0, .inr (6, [.int (iI ft), .int (iI sc), .ref u2, .ref u3, .ref u4, .ref u5, .ref u6, .ref u7, .ref u8, .int (iI rm), .int (iI wc), .ref u11, .int (iI sh), .int (iI tq), .ref u14, .int (iI cnt), .ref u16, .int (iI gf), .int (iI gs), .int (iI rc), .ref u20, .ref u21, .ref u22, .ref u23, .ref u24, .int (iI tc)])), (u16, .inl (X.2.1.1, 810, .inl (iF Fk)))] [.ref h0, .int (iI k), .int (iI w)] (gQi X (Y := Unit) (fun _ => True) (fun _ => (if ¬ (0 ≤ k ∧ k < cnt) then -1 else if ¬ (0 ≤ w ∧ w ≤ 3) then -2 else if (w = 0 ∨ w = (Fk (Int.toNat (9 * k))) ∨ (w = 1 ∧ ¬ (Fk (Int.toNat (9 * k))) = 0)) then 1 else -12)) (fun _ => [(h0, .inr (6, [.int (iI (if ¬ (0 ≤ k ∧ k < cnt) then 0 else if ¬ (0 ≤ w ∧ w ≤ 3) then 0 else if (w = 0 ∨ w = (Fk (Int.toNat (9 * k))) ∨ (w = 1 ∧ ¬ (Fk (Int.toNat (9 * k))) = 0)) then 0 else 2)), .int (iI sc), .ref u2, .ref u3, .ref u4, .ref u5, .ref u6, .ref u7, .ref u8, .int (iI rm), .int (iI wc), .ref u11, .int (iI sh), .int (iI tq), .ref u14, .int (iI cnt), .ref u16, .int (iI gf), .int (iI gs), .int (iI rc), .ref u20, .ref u21, .ref u22, .ref u23, .ref u24, .int (iI tc)])), (u16, .inl (X.2.1.1, 810, .inl (iF Fk)))])) 0 0 := by
  refine g_start2 (lo := [(0, .ref h0), (1, .int (iI k)), (2, .int (iI w))]) (by decide +kernel) rfl rfl (Nat.le_of_ble_eq_true rfl) (fun p e s m args below meth c A C => ?_)
  refine r_aload_n C dX6_as_0 0 rfl ?_
  refine r_iload_n C dX6_as_1 1 rfl ?_
  refine g_V_i (ws2 := (fun _ => [(h0, .inr (6, [.int (iI ft), .int (iI sc), .ref u2, .ref u3, .ref u4, .ref u5, .ref u6, .ref u7, .ref u8, .int (iI rm), .int (iI wc), .ref u11, .int (iI sh), .int (iI tq), .ref u14, .int (iI cnt), .ref u16, .int (iI gf), .int (iI gs), .int (iI rc), .ref u20, .ref u21, .ref u22, .ref u23, .ref u24, .int (iI tc)])), (u16, .inl (X.2.1.1, 810, .inl (iF Fk)))])) (As := [.int (iI k)]) C (c_X6_noTouch l X h0 u2 u3 u4 u5 u6 u7 u8 u11 u14 u16 u20 u21 u22 u23 u24 ft sc rm wc sh tq cnt gf gs rc tc k (by first | assumption | omega) (by first | assumption | omega)) gX6_as_X6_noTouch rfl rfl rfl hd_V_X6_noTouch_X6_as (by decide) dX6_as_2 [0] [1] [1, 0] rfl rfl rfl rfl (by decide) rfl 0 6 rfl rfl rfl rfl (Nat.le_of_ble_eq_true rfl) (by decide) (fun _ => rfl) (fun _ hy_ => ?_)
  clear hy_
  refine r_ite (fun h_1 => ?_) (fun h_1 => ?_)
  · skip
    refine r_if_eq (tgt := 14) C dX6_as_5 (by decide) (by decide) (fun h_2 => absurd h_2 (by decide)) (fun h_2 => ?_)
    refine r_aload_n C dX6_as_8 0 rfl ?_
    refine r_iconst C dX6_as_9 ?_
    refine g_V_i (ws2 := (fun _ => [(h0, .inr (6, [.int (iI 0), .int (iI sc), .ref u2, .ref u3, .ref u4, .ref u5, .ref u6, .ref u7, .ref u8, .int (iI rm), .int (iI wc), .ref u11, .int (iI sh), .int (iI tq), .ref u14, .int (iI cnt), .ref u16, .int (iI gf), .int (iI gs), .int (iI rc), .ref u20, .ref u21, .ref u22, .ref u23, .ref u24, .int (iI tc)])), (u16, .inl (X.2.1.1, 810, .inl (iF Fk)))])) (As := [.int (iI (-1))]) C (c_X6_refused l X h0 u2 u3 u4 u5 u6 u7 u8 u11 u14 u16 u20 u21 u22 u23 u24 ft sc rm wc sh tq cnt gf gs rc tc (-1) ) gX6_as_X6_refused rfl rfl rfl hd_V_X6_refused_X6_as (by decide) dX6_as_10 [0] [1] [1, 0] rfl rfl rfl rfl (by decide) rfl 0 6 rfl rfl rfl rfl (Nat.le_of_ble_eq_true rfl) (by decide) (fun _ => rfl) (fun _ hy_ => ?_)
    clear hy_
    exact g_ret_i C rfl dX6_as_13 () trivial (by (repeat' split) <;> first | rfl | omega) [0, 1] rfl (by (repeat' split) <;> first | rfl | omega)
  · skip
    refine r_if_eq (tgt := 14) C dX6_as_5 (by decide) (by decide) (fun h_3 => ?_) (fun h_3 => absurd h_3 (by decide))
    refine r_iload_n C dX6_as_14 2 rfl ?_
    refine r_i2l C dX6_as_15 (by omega) ?_
    refine r_lconst (z := 0) C dX6_as_16 rfl ?_
    refine r_ldc2 (z := 3) C dX6_as_17 kw_X6_as_0 rfl ?_
    refine g_S_i (ws2 := (fun _ => [(h0, .inr (6, [.int (iI ft), .int (iI sc), .ref u2, .ref u3, .ref u4, .ref u5, .ref u6, .ref u7, .ref u8, .int (iI rm), .int (iI wc), .ref u11, .int (iI sh), .int (iI tq), .ref u14, .int (iI cnt), .ref u16, .int (iI gf), .int (iI gs), .int (iI rc), .ref u20, .ref u21, .ref u22, .ref u23, .ref u24, .int (iI tc)])), (u16, .inl (X.2.1.1, 810, .inl (iF Fk)))])) (As := [.long (lI w), .long (lI 0), .long (lI 3)]) C (c_X6_in l X w 0 3 (by first | assumption | omega) (by first | assumption | omega) (by first | assumption | omega)) gX6_as_X6_in rfl rfl rfl hd_S_X6_in_X6_as (by decide) dX6_as_20 [] [0, 1] [0, 1] rfl rfl rfl rfl (by decide) rfl rfl rfl (Nat.le_of_ble_eq_true rfl) (by decide) (fun _ => rfl) (fun _ hy_ => ?_)
    clear hy_
    refine r_ite (fun h_4 => ?_) (fun h_4 => ?_)
    · skip
      refine r_if_ne (tgt := 33) C dX6_as_23 (by decide) (by decide) (fun h_5 => ?_) (fun h_5 => absurd h_5 (by decide))
      have hok := ho k (by omega) (by omega)
      refine r_aload_n C dX6_as_33 0 rfl ?_
      refine gf_6_16 C hi_X6_as_6 kw_X6_as_1 dX6_as_34 0 rfl rfl ?_
      refine r_bipush C dX6_as_37 (by decide) ?_
      refine r_iload_n C dX6_as_39 1 rfl ?_
      refine r_imul C dX6_as_40 ?_
      refine r_iald C dX6_as_41 1 rfl (by omega) (by decide) ?_
      refine r_istore_n (lo2 := [(3, .int (iI (Fk (Int.toNat (9 * k))))), (0, .ref h0), (1, .int (iI k)), (2, .int (iI w))]) C dX6_as_42 rfl (by decide) rfl ?_
      refine r_iload_n C dX6_as_43 3 rfl ?_
      refine r_if_eq (tgt := 61) C dX6_as_44 (by decide) (by omega) (fun h_6 => ?_) (fun h_6 => ?_)
      · skip
        refine r_aload_n C dX6_as_61 1 rfl ?_
        refine r_iconst C dX6_as_62 ?_
        refine g_V_i (ws2 := (fun _ => [(h0, .inr (6, [.int (iI 0), .int (iI sc), .ref u2, .ref u3, .ref u4, .ref u5, .ref u6, .ref u7, .ref u8, .int (iI rm), .int (iI wc), .ref u11, .int (iI sh), .int (iI tq), .ref u14, .int (iI cnt), .ref u16, .int (iI gf), .int (iI gs), .int (iI rc), .ref u20, .ref u21, .ref u22, .ref u23, .ref u24, .int (iI tc)])), (u16, .inl (X.2.1.1, 810, .inl (iF Fk)))])) (As := [.int (iI 1)]) C (c_X6_refused l X h0 u2 u3 u4 u5 u6 u7 u8 u11 u14 u16 u20 u21 u22 u23 u24 ft sc rm wc sh tq cnt gf gs rc tc 1 ) gX6_as_X6_refused rfl rfl rfl hd_V_X6_refused_X6_as (by decide) dX6_as_63 [0] [1] [1, 0] rfl rfl rfl rfl (by decide) rfl 0 6 rfl rfl rfl rfl (Nat.le_of_ble_eq_true rfl) (by decide) (fun _ => rfl) (fun _ hy_ => ?_)
        clear hy_
        refine r_goto (tgt := 74) C dX6_as_66 (by decide) ?_
        exact g_ret_i C rfl dX6_as_74 () trivial (by (repeat' split) <;> first | rfl | omega) [0, 1] rfl (by (repeat' split) <;> first | rfl | omega)
      · skip
        refine r_iload_n C dX6_as_47 3 rfl ?_
        refine r_iconst C dX6_as_48 ?_
        refine r_icmp_ne (tgt := 56) C dX6_as_49 (by decide) (by omega) (by decide) (fun h_7 => ?_) (fun h_7 => ?_)
        · skip
          refine r_iload_n C dX6_as_56 3 rfl ?_
          refine r_iload_n C dX6_as_57 0 rfl ?_
          refine r_icmp_ne (tgt := 69) C dX6_as_58 (by decide) (by omega) (by have := hFk (Int.toNat (9 * k)); omega) (fun h_8 => ?_) (fun h_8 => ?_)
          · skip
            refine r_aload_n C dX6_as_69 1 rfl ?_
            refine r_iconst C dX6_as_70 ?_
            refine g_V_i (ws2 := (fun _ => [(h0, .inr (6, [.int (iI 2), .int (iI sc), .ref u2, .ref u3, .ref u4, .ref u5, .ref u6, .ref u7, .ref u8, .int (iI rm), .int (iI wc), .ref u11, .int (iI sh), .int (iI tq), .ref u14, .int (iI cnt), .ref u16, .int (iI gf), .int (iI gs), .int (iI rc), .ref u20, .ref u21, .ref u22, .ref u23, .ref u24, .int (iI tc)])), (u16, .inl (X.2.1.1, 810, .inl (iF Fk)))])) (As := [.int (iI 2)]) C (c_X6_failed l X h0 u2 u3 u4 u5 u6 u7 u8 u11 u14 u16 u20 u21 u22 u23 u24 ft sc rm wc sh tq cnt gf gs rc tc 2 ) gX6_as_X6_failed rfl rfl rfl hd_V_X6_failed_X6_as (by decide) dX6_as_71 [0] [1] [1, 0] rfl rfl rfl rfl (by decide) rfl 0 6 rfl rfl rfl rfl (Nat.le_of_ble_eq_true rfl) (by decide) (fun _ => rfl) (fun _ hy_ => ?_)
            clear hy_
            exact g_ret_i C rfl dX6_as_74 () trivial (by (repeat' split) <;> first | rfl | omega) [0, 1] rfl (by (repeat' split) <;> first | rfl | omega)
          · skip
            refine r_aload_n C dX6_as_61 1 rfl ?_
            refine r_iconst C dX6_as_62 ?_
            refine g_V_i (ws2 := (fun _ => [(h0, .inr (6, [.int (iI 0), .int (iI sc), .ref u2, .ref u3, .ref u4, .ref u5, .ref u6, .ref u7, .ref u8, .int (iI rm), .int (iI wc), .ref u11, .int (iI sh), .int (iI tq), .ref u14, .int (iI cnt), .ref u16, .int (iI gf), .int (iI gs), .int (iI rc), .ref u20, .ref u21, .ref u22, .ref u23, .ref u24, .int (iI tc)])), (u16, .inl (X.2.1.1, 810, .inl (iF Fk)))])) (As := [.int (iI 1)]) C (c_X6_refused l X h0 u2 u3 u4 u5 u6 u7 u8 u11 u14 u16 u20 u21 u22 u23 u24 ft sc rm wc sh tq cnt gf gs rc tc 1 ) gX6_as_X6_refused rfl rfl rfl hd_V_X6_refused_X6_as (by decide) dX6_as_63 [0] [1] [1, 0] rfl rfl rfl rfl (by decide) rfl 0 6 rfl rfl rfl rfl (Nat.le_of_ble_eq_true rfl) (by decide) (fun _ => rfl) (fun _ hy_ => ?_)
            clear hy_
            refine r_goto (tgt := 74) C dX6_as_66 (by decide) ?_
            exact g_ret_i C rfl dX6_as_74 () trivial (by (repeat' split) <;> first | rfl | omega) [0, 1] rfl (by (repeat' split) <;> first | rfl | omega)
        · skip
          refine r_iload_n C dX6_as_52 0 rfl ?_
          refine r_if_gt (tgt := 61) C dX6_as_53 (by decide) (by have := hFk (Int.toNat (9 * k)); omega) (fun h_9 => ?_) (fun h_9 => ?_)
          · skip
            refine r_aload_n C dX6_as_61 1 rfl ?_
            refine r_iconst C dX6_as_62 ?_
            refine g_V_i (ws2 := (fun _ => [(h0, .inr (6, [.int (iI 0), .int (iI sc), .ref u2, .ref u3, .ref u4, .ref u5, .ref u6, .ref u7, .ref u8, .int (iI rm), .int (iI wc), .ref u11, .int (iI sh), .int (iI tq), .ref u14, .int (iI cnt), .ref u16, .int (iI gf), .int (iI gs), .int (iI rc), .ref u20, .ref u21, .ref u22, .ref u23, .ref u24, .int (iI tc)])), (u16, .inl (X.2.1.1, 810, .inl (iF Fk)))])) (As := [.int (iI 1)]) C (c_X6_refused l X h0 u2 u3 u4 u5 u6 u7 u8 u11 u14 u16 u20 u21 u22 u23 u24 ft sc rm wc sh tq cnt gf gs rc tc 1 ) gX6_as_X6_refused rfl rfl rfl hd_V_X6_refused_X6_as (by decide) dX6_as_63 [0] [1] [1, 0] rfl rfl rfl rfl (by decide) rfl 0 6 rfl rfl rfl rfl (Nat.le_of_ble_eq_true rfl) (by decide) (fun _ => rfl) (fun _ hy_ => ?_)
            clear hy_
            refine r_goto (tgt := 74) C dX6_as_66 (by decide) ?_
            exact g_ret_i C rfl dX6_as_74 () trivial (by (repeat' split) <;> first | rfl | omega) [0, 1] rfl (by (repeat' split) <;> first | rfl | omega)
          · skip
            refine r_iload_n C dX6_as_56 3 rfl ?_
            refine r_iload_n C dX6_as_57 0 rfl ?_
            refine r_icmp_ne (tgt := 69) C dX6_as_58 (by decide) (by omega) (by have := hFk (Int.toNat (9 * k)); omega) (fun h_10 => ?_) (fun h_10 => absurd h_10 (by omega))
            refine r_aload_n C dX6_as_69 1 rfl ?_
            refine r_iconst C dX6_as_70 ?_
            refine g_V_i (ws2 := (fun _ => [(h0, .inr (6, [.int (iI 2), .int (iI sc), .ref u2, .ref u3, .ref u4, .ref u5, .ref u6, .ref u7, .ref u8, .int (iI rm), .int (iI wc), .ref u11, .int (iI sh), .int (iI tq), .ref u14, .int (iI cnt), .ref u16, .int (iI gf), .int (iI gs), .int (iI rc), .ref u20, .ref u21, .ref u22, .ref u23, .ref u24, .int (iI tc)])), (u16, .inl (X.2.1.1, 810, .inl (iF Fk)))])) (As := [.int (iI 2)]) C (c_X6_failed l X h0 u2 u3 u4 u5 u6 u7 u8 u11 u14 u16 u20 u21 u22 u23 u24 ft sc rm wc sh tq cnt gf gs rc tc 2 ) gX6_as_X6_failed rfl rfl rfl hd_V_X6_failed_X6_as (by decide) dX6_as_71 [0] [1] [1, 0] rfl rfl rfl rfl (by decide) rfl 0 6 rfl rfl rfl rfl (Nat.le_of_ble_eq_true rfl) (by decide) (fun _ => rfl) (fun _ hy_ => ?_)
            clear hy_
            exact g_ret_i C rfl dX6_as_74 () trivial (by (repeat' split) <;> first | rfl | omega) [0, 1] rfl (by (repeat' split) <;> first | rfl | omega)
    · skip
      refine r_if_ne (tgt := 33) C dX6_as_23 (by decide) (by decide) (fun h_11 => absurd h_11 (by decide)) (fun h_11 => ?_)
      refine r_aload_n C dX6_as_26 0 rfl ?_
      refine r_bipush C dX6_as_27 (by decide) ?_
      refine g_V_i (ws2 := (fun _ => [(h0, .inr (6, [.int (iI 0), .int (iI sc), .ref u2, .ref u3, .ref u4, .ref u5, .ref u6, .ref u7, .ref u8, .int (iI rm), .int (iI wc), .ref u11, .int (iI sh), .int (iI tq), .ref u14, .int (iI cnt), .ref u16, .int (iI gf), .int (iI gs), .int (iI rc), .ref u20, .ref u21, .ref u22, .ref u23, .ref u24, .int (iI tc)])), (u16, .inl (X.2.1.1, 810, .inl (iF Fk)))])) (As := [.int (iI (-2))]) C (c_X6_refused l X h0 u2 u3 u4 u5 u6 u7 u8 u11 u14 u16 u20 u21 u22 u23 u24 ft sc rm wc sh tq cnt gf gs rc tc (-2) ) gX6_as_X6_refused rfl rfl rfl hd_V_X6_refused_X6_as (by decide) dX6_as_29 [0] [1] [1, 0] rfl rfl rfl rfl (by decide) rfl 0 6 rfl rfl rfl rfl (Nat.le_of_ble_eq_true rfl) (by decide) (fun _ => rfl) (fun _ hy_ => ?_)
      clear hy_
      exact g_ret_i C rfl dX6_as_32 () trivial (by (repeat' split) <;> first | rfl | omega) [0, 1] rfl (by (repeat' split) <;> first | rfl | omega)

set_option maxRecDepth 20000 in
theorem kw_X6_trace_0 : Cond.fieldLink RX6 235 "SkipStonesModel" "traceNow" "I" ∈ wsX6_trace := List.mem_of_getElem? (i := 1) rfl
set_option maxRecDepth 20000 in
theorem hi_X6_trace_6 : ∀ w ∈ wsX60, w ∈ wsX6_trace := fun _ h => List.mem_cons_of_mem _ (List.mem_append_right _ h)
set_option maxHeartbeats 4000000 in
set_option maxRecDepth 100000 in
theorem c_X6_trace (l : Launch) (X : gX) (h0 : Nat) (u2 : Nat) (u3 : Nat) (u4 : Nat) (u5 : Nat) (u6 : Nat) (u7 : Nat) (u8 : Nat) (u11 : Nat) (u14 : Nat) (u16 : Nat) (u20 : Nat) (u21 : Nat) (u22 : Nat) (u23 : Nat) (u24 : Nat) (ft : Int) (sc : Int) (rm : Int) (wc : Int) (sh : Int) (tq : Int) (cnt : Int) (gf : Int) (gs : Int) (rc : Int) (tc : Int) : gM l yX6_trace wsX6_trace (gr 0 0 0) X [(h0, .inr (6, [.int (iI ft), .int (iI sc), .ref u2, .ref u3, .ref u4, .ref u5, .ref u6, .ref u7, .ref u8, .int (iI rm), .int (iI wc), .ref u11, .int (iI sh), .int (iI tq), .ref u14, .int (iI cnt), .ref u16, .int (iI gf), .int (iI gs), .int (iI rc), .ref u20, .ref u21, .ref u22, .ref u23, .ref u24, .int (iI tc)]))] [.ref h0] (gQi X (Y := Unit) (fun _ => True) (fun _ => tc) (fun _ => [(h0, .inr (6, [.int (iI ft), .int (iI sc), .ref u2, .ref u3, .ref u4, .ref u5, .ref u6, .ref u7, .ref u8, .int (iI rm), .int (iI wc), .ref u11, .int (iI sh), .int (iI tq), .ref u14, .int (iI cnt), .ref u16, .int (iI gf), .int (iI gs), .int (iI rc), .ref u20, .ref u21, .ref u22, .ref u23, .ref u24, .int (iI tc)]))])) 0 0 := by
  refine g_start2 (lo := [(0, .ref h0)]) (by decide +kernel) rfl rfl (Nat.le_of_ble_eq_true rfl) (fun p e s m args below meth c A C => ?_)
  refine r_aload_n C dX6_trace_0 0 rfl ?_
  refine gf_6_25 C hi_X6_trace_6 kw_X6_trace_0 dX6_trace_1 0 rfl rfl ?_
  exact g_ret_i C rfl dX6_trace_4 () trivial (by (repeat' split) <;> first | rfl | omega) [0] rfl (by (repeat' split) <;> first | rfl | omega)

set_option maxRecDepth 20000 in
theorem kw_X6_fault_0 : Cond.fieldLink RX6 71 "SkipStonesModel" "fault" "I" ∈ wsX6_fault := List.mem_of_getElem? (i := 1) rfl
set_option maxRecDepth 20000 in
theorem hi_X6_fault_6 : ∀ w ∈ wsX60, w ∈ wsX6_fault := fun _ h => List.mem_cons_of_mem _ (List.mem_append_right _ h)
set_option maxHeartbeats 4000000 in
set_option maxRecDepth 100000 in
theorem c_X6_fault (l : Launch) (X : gX) (h0 : Nat) (u2 : Nat) (u3 : Nat) (u4 : Nat) (u5 : Nat) (u6 : Nat) (u7 : Nat) (u8 : Nat) (u11 : Nat) (u14 : Nat) (u16 : Nat) (u20 : Nat) (u21 : Nat) (u22 : Nat) (u23 : Nat) (u24 : Nat) (ft : Int) (sc : Int) (rm : Int) (wc : Int) (sh : Int) (tq : Int) (cnt : Int) (gf : Int) (gs : Int) (rc : Int) (tc : Int) : gM l yX6_fault wsX6_fault (gr 0 0 0) X [(h0, .inr (6, [.int (iI ft), .int (iI sc), .ref u2, .ref u3, .ref u4, .ref u5, .ref u6, .ref u7, .ref u8, .int (iI rm), .int (iI wc), .ref u11, .int (iI sh), .int (iI tq), .ref u14, .int (iI cnt), .ref u16, .int (iI gf), .int (iI gs), .int (iI rc), .ref u20, .ref u21, .ref u22, .ref u23, .ref u24, .int (iI tc)]))] [.ref h0] (gQi X (Y := Unit) (fun _ => True) (fun _ => ft) (fun _ => [(h0, .inr (6, [.int (iI ft), .int (iI sc), .ref u2, .ref u3, .ref u4, .ref u5, .ref u6, .ref u7, .ref u8, .int (iI rm), .int (iI wc), .ref u11, .int (iI sh), .int (iI tq), .ref u14, .int (iI cnt), .ref u16, .int (iI gf), .int (iI gs), .int (iI rc), .ref u20, .ref u21, .ref u22, .ref u23, .ref u24, .int (iI tc)]))])) 0 0 := by
  refine g_start2 (lo := [(0, .ref h0)]) (by decide +kernel) rfl rfl (Nat.le_of_ble_eq_true rfl) (fun p e s m args below meth c A C => ?_)
  refine r_aload_n C dX6_fault_0 0 rfl ?_
  refine gf_6_0 C hi_X6_fault_6 kw_X6_fault_0 dX6_fault_1 0 rfl rfl ?_
  exact g_ret_i C rfl dX6_fault_4 () trivial (by (repeat' split) <;> first | rfl | omega) [0] rfl (by (repeat' split) <;> first | rfl | omega)

set_option maxRecDepth 20000 in
theorem kw_X6_many_3 : Cond.fieldLink RX6 207 "SkipStonesModel" "ringMany" "I" ∈ wsX6_many := List.mem_of_getElem? (i := 4) rfl
set_option maxRecDepth 20000 in
theorem kw_X6_many_2 : Cond.fieldLink RX6 59 "SkipStonesModel" "waveMany" "I" ∈ wsX6_many := List.mem_of_getElem? (i := 3) rfl
set_option maxRecDepth 20000 in
theorem kw_X6_many_1 : Cond.fieldLink RX6 179 "SkipStonesModel" "keptMany" "I" ∈ wsX6_many := List.mem_of_getElem? (i := 2) rfl
set_option maxRecDepth 20000 in
theorem kw_X6_many_0 : Cond.fieldLink RX6 98 "SkipStonesModel" "stones" "I" ∈ wsX6_many := List.mem_of_getElem? (i := 1) rfl
set_option maxRecDepth 20000 in
theorem hi_X6_many_6 : ∀ w ∈ wsX60, w ∈ wsX6_many := fun _ h => List.mem_cons_of_mem _ (List.mem_append_right _ h)
set_option maxHeartbeats 4000000 in
set_option maxRecDepth 100000 in
theorem c_X6_many (l : Launch) (X : gX) (h0 : Nat) (u2 : Nat) (u3 : Nat) (u4 : Nat) (u5 : Nat) (u6 : Nat) (u7 : Nat) (u8 : Nat) (u11 : Nat) (u14 : Nat) (u16 : Nat) (u20 : Nat) (u21 : Nat) (u22 : Nat) (u23 : Nat) (u24 : Nat) (ft : Int) (sc : Int) (rm : Int) (wc : Int) (sh : Int) (tq : Int) (cnt : Int) (gf : Int) (gs : Int) (rc : Int) (tc : Int) (w : Int) (hb_w : inB w) : gM l yX6_many wsX6_many (gr 0 0 0) X [(h0, .inr (6, [.int (iI ft), .int (iI sc), .ref u2, .ref u3, .ref u4, .ref u5, .ref u6, .ref u7, .ref u8, .int (iI rm), .int (iI wc), .ref u11, .int (iI sh), .int (iI tq), .ref u14, .int (iI cnt), .ref u16, .int (iI gf), .int (iI gs), .int (iI rc), .ref u20, .ref u21, .ref u22, .ref u23, .ref u24, .int (iI tc)]))] [.ref h0, .int (iI w)] (gQi X (Y := Unit) (fun _ => True) (fun _ => (if w = 0 then sc else if w = 1 then cnt else if w = 2 then wc else if w = 3 then rc else -2)) (fun _ => [(h0, .inr (6, [.int (iI ft), .int (iI sc), .ref u2, .ref u3, .ref u4, .ref u5, .ref u6, .ref u7, .ref u8, .int (iI rm), .int (iI wc), .ref u11, .int (iI sh), .int (iI tq), .ref u14, .int (iI cnt), .ref u16, .int (iI gf), .int (iI gs), .int (iI rc), .ref u20, .ref u21, .ref u22, .ref u23, .ref u24, .int (iI tc)]))])) 0 0 := by
  refine g_start2 (lo := [(0, .ref h0), (1, .int (iI w))]) (by decide +kernel) rfl rfl (Nat.le_of_ble_eq_true rfl) (fun p e s m args below meth c A C => ?_)
  refine r_iload_n C dX6_many_0 1 rfl ?_
  refine r_if_ne (tgt := 11) C dX6_many_1 (by decide) (by omega) (fun h_1 => ?_) (fun h_1 => ?_)
  · skip
    refine r_iload_n C dX6_many_11 1 rfl ?_
    refine r_iconst C dX6_many_12 ?_
    refine r_icmp_ne (tgt := 23) C dX6_many_13 (by decide) (by omega) (by decide) (fun h_2 => ?_) (fun h_2 => ?_)
    · skip
      refine r_iload_n C dX6_many_23 1 rfl ?_
      refine r_iconst C dX6_many_24 ?_
      refine r_icmp_ne (tgt := 35) C dX6_many_25 (by decide) (by omega) (by decide) (fun h_3 => ?_) (fun h_3 => ?_)
      · skip
        refine r_iload_n C dX6_many_35 1 rfl ?_
        refine r_iconst C dX6_many_36 ?_
        refine r_icmp_ne (tgt := 47) C dX6_many_37 (by decide) (by omega) (by decide) (fun h_4 => ?_) (fun h_4 => ?_)
        · skip
          refine r_bipush C dX6_many_47 (by decide) ?_
          exact g_ret_i C rfl dX6_many_49 () trivial (by (repeat' split) <;> first | rfl | omega) [0] rfl (by (repeat' split) <;> first | rfl | omega)
        · skip
          refine r_aload_n C dX6_many_40 0 rfl ?_
          refine gf_6_19 C hi_X6_many_6 kw_X6_many_3 dX6_many_41 0 rfl rfl ?_
          refine r_goto (tgt := 49) C dX6_many_44 (by decide) ?_
          exact g_ret_i C rfl dX6_many_49 () trivial (by (repeat' split) <;> first | rfl | omega) [0] rfl (by (repeat' split) <;> first | rfl | omega)
      · skip
        refine r_aload_n C dX6_many_28 0 rfl ?_
        refine gf_6_10 C hi_X6_many_6 kw_X6_many_2 dX6_many_29 0 rfl rfl ?_
        refine r_goto (tgt := 49) C dX6_many_32 (by decide) ?_
        exact g_ret_i C rfl dX6_many_49 () trivial (by (repeat' split) <;> first | rfl | omega) [0] rfl (by (repeat' split) <;> first | rfl | omega)
    · skip
      refine r_aload_n C dX6_many_16 0 rfl ?_
      refine gf_6_15 C hi_X6_many_6 kw_X6_many_1 dX6_many_17 0 rfl rfl ?_
      refine r_goto (tgt := 49) C dX6_many_20 (by decide) ?_
      exact g_ret_i C rfl dX6_many_49 () trivial (by (repeat' split) <;> first | rfl | omega) [0] rfl (by (repeat' split) <;> first | rfl | omega)
  · skip
    refine r_aload_n C dX6_many_4 0 rfl ?_
    refine gf_6_1 C hi_X6_many_6 kw_X6_many_0 dX6_many_5 0 rfl rfl ?_
    refine r_goto (tgt := 49) C dX6_many_8 (by decide) ?_
    exact g_ret_i C rfl dX6_many_49 () trivial (by (repeat' split) <;> first | rfl | omega) [0] rfl (by (repeat' split) <;> first | rfl | omega)
end M12
