section M5
set_option maxRecDepth 20000 in
theorem hd_S_X5_within_X5_stone : yX5_within.cls ≠ "java/lang/invoke/MethodHandle" ∧ yX5_within.cls ≠ "java/lang/invoke/VarHandle" ∧ (parseMethodDescriptor yX5_within.desc).map (fun d => d.parameters.length) = some 3 := by decide +kernel
set_option maxRecDepth 20000 in
theorem kw_X5_stone_0 : Cond.fieldLink RX5 17 "SkipStones" "stoneCount" "I" ∈ wsX5_stone := List.mem_of_getElem? (i := 1) rfl
set_option maxRecDepth 20000 in
theorem kw_X5_stone_1 : Cond.fieldLink RX5 13 "SkipStones" "stones" "[LSkipStones$Stone;" ∈ wsX5_stone := List.mem_of_getElem? (i := 2) rfl
set_option maxRecDepth 20000 in
theorem hi_X5_stone_5 : ∀ w ∈ wsX50, w ∈ wsX5_stone := fun _ h => List.mem_cons_of_mem _ (List.mem_append_left _ (List.mem_append_right _ h))
set_option maxHeartbeats 4000000 in
set_option maxRecDepth 100000 in
theorem c_X5_stone_no (l : Launch) (X : gX) (h0 : Nat) (s1 : Nat) (w0 : Nat) (t0 : Nat) (k0 : Nat) (r0 : Nat) (rp : Nat) (sh1 : Nat) (sc : Int) (gf : Int) (gs : Int) (rc : Int) (tc : Int) (ft : Int) (sf : Nat → Option Nat) (p1 : Int) (p2 : Int) (p3 : Int) (hb_p1 : inB p1) (hb_p2 : inB p2) (hb_p3 : inB p3) (hc : 0 ≤ sc ∧ sc ≤ 8) (hv : ¬ (1 ≤ p1 ∧ p1 ≤ 99 ∧ 1 ≤ p2 ∧ p2 ≤ 99 ∧ 0 ≤ p3 ∧ p3 ≤ 9) ∨ sc = 8) : gM l yX5_stone wsX5_stone (gr 1 0 0) X [(h0, .inr (5, [.ref s1, .int (iI sc), .ref w0, .ref t0, .ref k0, .ref r0, .int (iI gf), .int (iI gs), .ref rp, .int (iI rc), .ref sh1, .int (iI tc), .int (iI ft)])), (s1, .inl (X.2.1.2.1, 8, .inr (.inr (.inr (.inr sf)))))] [.ref h0, .int (iI p1), .int (iI p2), .int (iI p3)] (gQi X (Y := Unit) (fun _ => True) (fun _ => (if (1 ≤ p1 ∧ p1 ≤ 99 ∧ 1 ≤ p2 ∧ p2 ≤ 99 ∧ 0 ≤ p3 ∧ p3 ≤ 9) then -4 else -2)) (fun _ => [(h0, .inr (5, [.ref s1, .int (iI sc), .ref w0, .ref t0, .ref k0, .ref r0, .int (iI gf), .int (iI gs), .ref rp, .int (iI rc), .ref sh1, .int (iI tc), .int (iI ft)])), (s1, .inl (X.2.1.2.1, 8, .inr (.inr (.inr (.inr sf)))))])) 0 0 := by
  refine g_start2 (lo := [(0, .ref h0), (1, .int (iI p1)), (2, .int (iI p2)), (3, .int (iI p3))]) (by decide +kernel) rfl rfl (Nat.le_of_ble_eq_true rfl) (fun p e s m args below meth c A C => ?_)
  refine r_iload_n C dX5_stone_0 1 rfl ?_
  refine r_iconst C dX5_stone_1 ?_
  refine r_bipush C dX5_stone_2 (by decide) ?_
  refine g_S_i (ws2 := (fun _ => [(h0, .inr (5, [.ref s1, .int (iI sc), .ref w0, .ref t0, .ref k0, .ref r0, .int (iI gf), .int (iI gs), .ref rp, .int (iI rc), .ref sh1, .int (iI tc), .int (iI ft)])), (s1, .inl (X.2.1.2.1, 8, .inr (.inr (.inr (.inr sf)))))])) (As := [.int (iI p1), .int (iI 1), .int (iI 99)]) C (c_X5_within l X p1 1 99 (by first | assumption | omega) (by first | assumption | omega) (by first | assumption | omega)) gX5_stone_X5_within rfl rfl rfl hd_S_X5_within_X5_stone (by decide) dX5_stone_4 [] [0, 1] [0, 1] rfl rfl rfl rfl (by decide) rfl rfl rfl (Nat.le_of_ble_eq_true rfl) (by decide) (fun _ => rfl) (fun _ hy_ => ?_)
  clear hy_
  refine r_ite (fun h_1 => ?_) (fun h_1 => ?_)
  · skip
    refine r_if_eq (tgt := 30) C dX5_stone_7 (by decide) (by decide) (fun h_2 => absurd h_2 (by decide)) (fun h_2 => ?_)
    refine r_iload_n C dX5_stone_10 2 rfl ?_
    refine r_iconst C dX5_stone_11 ?_
    refine r_bipush C dX5_stone_12 (by decide) ?_
    refine g_S_i (ws2 := (fun _ => [(h0, .inr (5, [.ref s1, .int (iI sc), .ref w0, .ref t0, .ref k0, .ref r0, .int (iI gf), .int (iI gs), .ref rp, .int (iI rc), .ref sh1, .int (iI tc), .int (iI ft)])), (s1, .inl (X.2.1.2.1, 8, .inr (.inr (.inr (.inr sf)))))])) (As := [.int (iI p2), .int (iI 1), .int (iI 99)]) C (c_X5_within l X p2 1 99 (by first | assumption | omega) (by first | assumption | omega) (by first | assumption | omega)) gX5_stone_X5_within rfl rfl rfl hd_S_X5_within_X5_stone (by decide) dX5_stone_14 [] [0, 1] [0, 1] rfl rfl rfl rfl (by decide) rfl rfl rfl (Nat.le_of_ble_eq_true rfl) (by decide) (fun _ => rfl) (fun _ hy_ => ?_)
    clear hy_
    refine r_ite (fun h_3 => ?_) (fun h_3 => ?_)
    · skip
      refine r_if_eq (tgt := 30) C dX5_stone_17 (by decide) (by decide) (fun h_4 => absurd h_4 (by decide)) (fun h_4 => ?_)
      refine r_iload_n C dX5_stone_20 3 rfl ?_
      refine r_iconst C dX5_stone_21 ?_
      refine r_bipush C dX5_stone_22 (by decide) ?_
      refine g_S_i (ws2 := (fun _ => [(h0, .inr (5, [.ref s1, .int (iI sc), .ref w0, .ref t0, .ref k0, .ref r0, .int (iI gf), .int (iI gs), .ref rp, .int (iI rc), .ref sh1, .int (iI tc), .int (iI ft)])), (s1, .inl (X.2.1.2.1, 8, .inr (.inr (.inr (.inr sf)))))])) (As := [.int (iI p3), .int (iI 0), .int (iI 9)]) C (c_X5_within l X p3 0 9 (by first | assumption | omega) (by first | assumption | omega) (by first | assumption | omega)) gX5_stone_X5_within rfl rfl rfl hd_S_X5_within_X5_stone (by decide) dX5_stone_24 [] [0, 1] [0, 1] rfl rfl rfl rfl (by decide) rfl rfl rfl (Nat.le_of_ble_eq_true rfl) (by decide) (fun _ => rfl) (fun _ hy_ => ?_)
      clear hy_
      refine r_ite (fun h_5 => ?_) (fun h_5 => ?_)
      · skip
        refine r_if_ne (tgt := 33) C dX5_stone_27 (by decide) (by decide) (fun h_6 => ?_) (fun h_6 => absurd h_6 (by decide))
        refine r_aload_n C dX5_stone_33 0 rfl ?_
        refine gf_5_1 C hi_X5_stone_5 kw_X5_stone_0 dX5_stone_34 0 rfl rfl ?_
        refine r_if_lt (tgt := 52) C dX5_stone_37 (by decide) (by omega) (fun h_7 => absurd h_7 (by omega)) (fun h_7 => ?_)
        refine r_aload_n C dX5_stone_40 0 rfl ?_
        refine gf_5_1 C hi_X5_stone_5 kw_X5_stone_0 dX5_stone_41 0 rfl rfl ?_
        refine r_aload_n C dX5_stone_44 0 rfl ?_
        refine gf_5_0 C hi_X5_stone_5 kw_X5_stone_1 dX5_stone_45 0 rfl rfl ?_
        refine r_alen (z := 8) C dX5_stone_48 1 1 rfl rfl rfl ?_
        refine r_icmp_lt (tgt := 55) C dX5_stone_49 (by decide) (by omega) (by decide) (fun h_8 => absurd h_8 (by omega)) (fun h_8 => ?_)
        refine r_bipush C dX5_stone_52 (by decide) ?_
        exact g_ret_i C rfl dX5_stone_54 () trivial (by (repeat' split) <;> first | rfl | omega) [0, 1] rfl (by (repeat' split) <;> first | rfl | omega)
      · skip
        refine r_if_ne (tgt := 33) C dX5_stone_27 (by decide) (by decide) (fun h_9 => absurd h_9 (by decide)) (fun h_9 => ?_)
        refine r_bipush C dX5_stone_30 (by decide) ?_
        exact g_ret_i C rfl dX5_stone_32 () trivial (by (repeat' split) <;> first | rfl | omega) [0, 1] rfl (by (repeat' split) <;> first | rfl | omega)
    · skip
      refine r_if_eq (tgt := 30) C dX5_stone_17 (by decide) (by decide) (fun h_10 => ?_) (fun h_10 => absurd h_10 (by decide))
      refine r_bipush C dX5_stone_30 (by decide) ?_
      exact g_ret_i C rfl dX5_stone_32 () trivial (by (repeat' split) <;> first | rfl | omega) [0, 1] rfl (by (repeat' split) <;> first | rfl | omega)
  · skip
    refine r_if_eq (tgt := 30) C dX5_stone_7 (by decide) (by decide) (fun h_11 => ?_) (fun h_11 => absurd h_11 (by decide))
    refine r_bipush C dX5_stone_30 (by decide) ?_
    exact g_ret_i C rfl dX5_stone_32 () trivial (by (repeat' split) <;> first | rfl | omega) [0, 1] rfl (by (repeat' split) <;> first | rfl | omega)

set_option maxRecDepth 20000 in
theorem kw_X5_stone_2 : Cond.classLink RX5 11 RX3 ∈ wsX5_stone := List.mem_of_getElem? (i := 3) rfl
set_option maxRecDepth 20000 in
theorem kw_X5_stone_3 : Cond.instantiable RX3 5 ∈ wsX5_stone := List.mem_of_getElem? (i := 4) rfl
set_option maxRecDepth 20000 in
theorem kw_X5_stone_4 : Cond.initialized RX3 ∈ wsX5_stone := List.mem_of_getElem? (i := 5) rfl
set_option maxRecDepth 20000 in
theorem kw_X5_stone_9 : Cond.methodLink RX5 79 yX3_init ∈ wsX5_stone := List.mem_of_getElem? (i := 10) rfl
set_option maxRecDepth 20000 in
theorem kw_X5_stone_10 : Cond.instanceMethod yX3_init ∈ wsX5_stone := List.mem_of_getElem? (i := 11) rfl
set_option maxRecDepth 20000 in
theorem hd_I_X3_init_X5_stone : yX3_init.cls ≠ "java/lang/invoke/MethodHandle" ∧ yX3_init.cls ≠ "java/lang/invoke/VarHandle" ∧ (parseMethodDescriptor yX3_init.desc).map (fun d => d.parameters.length) = some 3 := by decide +kernel
set_option maxRecDepth 20000 in
theorem hi_X5_stone_3 : ∀ w ∈ wsX30, w ∈ wsX5_stone := fun _ h => List.mem_cons_of_mem _ (List.mem_append_right _ h)
set_option maxHeartbeats 4000000 in
set_option maxRecDepth 100000 in
theorem c_X5_stone_add (l : Launch) (X : gX) (h0 : Nat) (s1 : Nat) (w0 : Nat) (t0 : Nat) (k0 : Nat) (r0 : Nat) (rp : Nat) (sh1 : Nat) (sc : Int) (gf : Int) (gs : Int) (rc : Int) (tc : Int) (ft : Int) (sf : Nat → Option Nat) (p1 : Int) (p2 : Int) (p3 : Int) (hc : 0 ≤ sc ∧ sc < 8) (hv : 1 ≤ p1 ∧ p1 ≤ 99 ∧ 1 ≤ p2 ∧ p2 ≤ 99 ∧ 0 ≤ p3 ∧ p3 ≤ 9) : gM l yX5_stone wsX5_stone (gr 2 1 5) X [(h0, .inr (5, [.ref s1, .int (iI sc), .ref w0, .ref t0, .ref k0, .ref r0, .int (iI gf), .int (iI gs), .ref rp, .int (iI rc), .ref sh1, .int (iI tc), .int (iI ft)])), (s1, .inl (X.2.1.2.1, 8, .inr (.inr (.inr (.inr sf)))))] [.ref h0, .int (iI p1), .int (iI p2), .int (iI p3)] (gQi X (Y := Nat) (fun y => True) (fun y => sc) (fun y => [(h0, .inr (5, [.ref s1, .int (iI (sc + 1)), .ref w0, .ref t0, .ref k0, .ref r0, .int (iI gf), .int (iI gs), .ref rp, .int (iI rc), .ref sh1, .int (iI tc), .int (iI ft)])), (s1, .inl (X.2.1.2.1, 8, .inr (.inr (.inr (.inr (va_up sf (Int.toNat sc) (some y))))))), (y, .inr (3, [.int (iI p1), .int (iI p2), .int (iI p3), .int (iI 0), .int (iI 0)]))])) 1 5 := by
  refine g_start2 (lo := [(0, .ref h0), (1, .int (iI p1)), (2, .int (iI p2)), (3, .int (iI p3))]) (by decide +kernel) rfl rfl (Nat.le_of_ble_eq_true rfl) (fun p e s m args below meth c A C => ?_)
  refine r_iload_n C dX5_stone_0 1 rfl ?_
  refine r_iconst C dX5_stone_1 ?_
  refine r_bipush C dX5_stone_2 (by decide) ?_
  refine g_S_i (ws2 := (fun _ => [(h0, .inr (5, [.ref s1, .int (iI sc), .ref w0, .ref t0, .ref k0, .ref r0, .int (iI gf), .int (iI gs), .ref rp, .int (iI rc), .ref sh1, .int (iI tc), .int (iI ft)])), (s1, .inl (X.2.1.2.1, 8, .inr (.inr (.inr (.inr sf)))))])) (As := [.int (iI p1), .int (iI 1), .int (iI 99)]) C (c_X5_within l X p1 1 99 (by first | assumption | omega) (by first | assumption | omega) (by first | assumption | omega)) gX5_stone_X5_within rfl rfl rfl hd_S_X5_within_X5_stone (by decide) dX5_stone_4 [] [0, 1] [0, 1] rfl rfl rfl rfl (by decide) rfl rfl rfl (Nat.le_of_ble_eq_true rfl) (by decide) (fun _ => rfl) (fun _ hy_ => ?_)
  clear hy_
  refine r_ite (fun h_1 => ?_) (fun h_1 => absurd h_1 (by omega))
  refine r_if_eq (tgt := 30) C dX5_stone_7 (by decide) (by decide) (fun h_2 => absurd h_2 (by decide)) (fun h_2 => ?_)
  refine r_iload_n C dX5_stone_10 2 rfl ?_
  refine r_iconst C dX5_stone_11 ?_
  refine r_bipush C dX5_stone_12 (by decide) ?_
  refine g_S_i (ws2 := (fun _ => [(h0, .inr (5, [.ref s1, .int (iI sc), .ref w0, .ref t0, .ref k0, .ref r0, .int (iI gf), .int (iI gs), .ref rp, .int (iI rc), .ref sh1, .int (iI tc), .int (iI ft)])), (s1, .inl (X.2.1.2.1, 8, .inr (.inr (.inr (.inr sf)))))])) (As := [.int (iI p2), .int (iI 1), .int (iI 99)]) C (c_X5_within l X p2 1 99 (by first | assumption | omega) (by first | assumption | omega) (by first | assumption | omega)) gX5_stone_X5_within rfl rfl rfl hd_S_X5_within_X5_stone (by decide) dX5_stone_14 [] [0, 1] [0, 1] rfl rfl rfl rfl (by decide) rfl rfl rfl (Nat.le_of_ble_eq_true rfl) (by decide) (fun _ => rfl) (fun _ hy_ => ?_)
  clear hy_
  refine r_ite (fun h_3 => ?_) (fun h_3 => absurd h_3 (by omega))
  refine r_if_eq (tgt := 30) C dX5_stone_17 (by decide) (by decide) (fun h_4 => absurd h_4 (by decide)) (fun h_4 => ?_)
  refine r_iload_n C dX5_stone_20 3 rfl ?_
  refine r_iconst C dX5_stone_21 ?_
  refine r_bipush C dX5_stone_22 (by decide) ?_
  refine g_S_i (ws2 := (fun _ => [(h0, .inr (5, [.ref s1, .int (iI sc), .ref w0, .ref t0, .ref k0, .ref r0, .int (iI gf), .int (iI gs), .ref rp, .int (iI rc), .ref sh1, .int (iI tc), .int (iI ft)])), (s1, .inl (X.2.1.2.1, 8, .inr (.inr (.inr (.inr sf)))))])) (As := [.int (iI p3), .int (iI 0), .int (iI 9)]) C (c_X5_within l X p3 0 9 (by first | assumption | omega) (by first | assumption | omega) (by first | assumption | omega)) gX5_stone_X5_within rfl rfl rfl hd_S_X5_within_X5_stone (by decide) dX5_stone_24 [] [0, 1] [0, 1] rfl rfl rfl rfl (by decide) rfl rfl rfl (Nat.le_of_ble_eq_true rfl) (by decide) (fun _ => rfl) (fun _ hy_ => ?_)
  clear hy_
  refine r_ite (fun h_5 => ?_) (fun h_5 => absurd h_5 (by omega))
  refine r_if_ne (tgt := 33) C dX5_stone_27 (by decide) (by decide) (fun h_6 => ?_) (fun h_6 => absurd h_6 (by decide))
  refine r_aload_n C dX5_stone_33 0 rfl ?_
  refine gf_5_1 C hi_X5_stone_5 kw_X5_stone_0 dX5_stone_34 0 rfl rfl ?_
  refine r_if_lt (tgt := 52) C dX5_stone_37 (by decide) (by omega) (fun h_7 => absurd h_7 (by omega)) (fun h_7 => ?_)
  refine r_aload_n C dX5_stone_40 0 rfl ?_
  refine gf_5_1 C hi_X5_stone_5 kw_X5_stone_0 dX5_stone_41 0 rfl rfl ?_
  refine r_aload_n C dX5_stone_44 0 rfl ?_
  refine gf_5_0 C hi_X5_stone_5 kw_X5_stone_1 dX5_stone_45 0 rfl rfl ?_
  refine r_alen (z := 8) C dX5_stone_48 1 1 rfl rfl rfl ?_
  refine r_icmp_lt (tgt := 55) C dX5_stone_49 (by decide) (by omega) (by decide) (fun h_8 => ?_) (fun h_8 => absurd h_8 (by omega))
  refine r_aload_n C dX5_stone_55 0 rfl ?_
  refine gf_5_0 C hi_X5_stone_5 kw_X5_stone_1 dX5_stone_56 0 rfl rfl ?_
  refine r_aload_n C dX5_stone_59 0 rfl ?_
  refine gf_5_1 C hi_X5_stone_5 kw_X5_stone_0 dX5_stone_60 0 rfl rfl ?_
  refine r_new_3 (ws2 := fun q_9 => [(h0, .inr (5, [.ref s1, .int (iI sc), .ref w0, .ref t0, .ref k0, .ref r0, .int (iI gf), .int (iI gs), .ref rp, .int (iI rc), .ref sh1, .int (iI tc), .int (iI ft)])), (s1, .inl (X.2.1.2.1, 8, .inr (.inr (.inr (.inr sf))))), (q_9, .inr (3, [.int (iI 0), .int (iI 0), .int (iI 0), .int (iI 0), .int (iI 0)]))]) C hi_X5_stone_3 kw_X5_stone_2 kw_X5_stone_3 kw_X5_stone_4 dX5_stone_63 (by decide) (by decide) (fun _ => rfl) (fun q_9 => ?_)
  refine r_dup C dX5_stone_66 rfl ?_
  refine r_iload_n C dX5_stone_67 1 rfl ?_
  refine r_iload_n C dX5_stone_68 2 rfl ?_
  refine r_iload_n C dX5_stone_69 3 rfl ?_
  refine g_I_v (ws2 := (fun _ => [(h0, .inr (5, [.ref s1, .int (iI sc), .ref w0, .ref t0, .ref k0, .ref r0, .int (iI gf), .int (iI gs), .ref rp, .int (iI rc), .ref sh1, .int (iI tc), .int (iI ft)])), (s1, .inl (X.2.1.2.1, 8, .inr (.inr (.inr (.inr sf))))), (q_9, .inr (3, [.int (iI p1), .int (iI p2), .int (iI p3), .int (iI 0), .int (iI 0)]))])) (As := [.int (iI p1), .int (iI p2), .int (iI p3)]) C (c_X3_init l X q_9 p1 p2 p3 ) gX5_stone_X3_init rfl rfl rfl kw_X5_stone_4 kw_X5_stone_9 kw_X5_stone_10 rfl hd_I_X3_init_X5_stone (by decide) dX5_stone_70 [2] [0, 1] [0, 1, 2] rfl rfl rfl rfl (by decide) rfl rfl rfl (Nat.le_of_ble_eq_true rfl) (by decide) (fun _ => rfl) (fun _ hy_ => ?_)
  clear hy_
  refine r_astq (t := 1) (ci := 3) (ws2 := [(h0, .inr (5, [.ref s1, .int (iI sc), .ref w0, .ref t0, .ref k0, .ref r0, .int (iI gf), .int (iI gs), .ref rp, .int (iI rc), .ref sh1, .int (iI tc), .int (iI ft)])), (s1, .inl (X.2.1.2.1, 8, .inr (.inr (.inr (.inr (va_up sf (Int.toNat sc) (some q_9))))))), (q_9, .inr (3, [.int (iI p1), .int (iI p2), .int (iI p3), .int (iI 0), .int (iI 0)]))]) C dX5_stone_73 1 2 rfl rfl rfl rfl (by omega) (by decide) rfl ?_
  refine r_aload_n C dX5_stone_74 0 rfl ?_
  refine r_dup C dX5_stone_75 rfl ?_
  refine gf_5_1 C hi_X5_stone_5 kw_X5_stone_0 dX5_stone_76 0 rfl rfl ?_
  refine r_iconst C dX5_stone_79 ?_
  refine r_iadd C dX5_stone_80 ?_
  refine pf_5_1 (ws2 := [(h0, .inr (5, [.ref s1, .int (iI (sc + 1)), .ref w0, .ref t0, .ref k0, .ref r0, .int (iI gf), .int (iI gs), .ref rp, .int (iI rc), .ref sh1, .int (iI tc), .int (iI ft)])), (s1, .inl (X.2.1.2.1, 8, .inr (.inr (.inr (.inr (va_up sf (Int.toNat sc) (some q_9))))))), (q_9, .inr (3, [.int (iI p1), .int (iI p2), .int (iI p3), .int (iI 0), .int (iI 0)]))]) C hi_X5_stone_5 kw_X5_stone_0 dX5_stone_81 0 rfl rfl rfl (Nat.le_of_ble_eq_true rfl) rfl ?_
  refine r_aload_n C dX5_stone_84 0 rfl ?_
  refine gf_5_1 C hi_X5_stone_5 kw_X5_stone_0 dX5_stone_85 0 rfl rfl ?_
  refine r_iconst C dX5_stone_88 ?_
  refine r_isub C dX5_stone_89 ?_
  exact g_ret_i C rfl dX5_stone_90 q_9 trivial (by omega) [0, 1, 2] rfl rfl

set_option maxRecDepth 20000 in
theorem hd_V_X5_stoneAt_X5_ofStone : yX5_stoneAt.cls = yX5_stoneAt.cls ∧ yX5_stoneAt.cls ≠ "java/lang/invoke/MethodHandle" ∧ yX5_stoneAt.cls ≠ "java/lang/invoke/VarHandle" ∧ (parseMethodDescriptor yX5_stoneAt.desc).map (fun d => d.parameters.length) = some 1 := by decide +kernel
set_option maxRecDepth 20000 in
theorem kw_X5_ofStone_0 : Cond.fieldLink RX5 86 "SkipStones$Stone" "weight" "I" ∈ wsX5_ofStone := List.mem_of_getElem? (i := 1) rfl
set_option maxRecDepth 20000 in
theorem kw_X5_ofStone_1 : Cond.fieldLink RX5 89 "SkipStones$Stone" "wide" "I" ∈ wsX5_ofStone := List.mem_of_getElem? (i := 2) rfl
set_option maxRecDepth 20000 in
theorem kw_X5_ofStone_2 : Cond.fieldLink RX5 92 "SkipStones$Stone" "rough" "I" ∈ wsX5_ofStone := List.mem_of_getElem? (i := 3) rfl
set_option maxRecDepth 20000 in
theorem kw_X5_ofStone_3 : Cond.fieldLink RX5 95 "SkipStones$Stone" "lying" "I" ∈ wsX5_ofStone := List.mem_of_getElem? (i := 4) rfl
set_option maxRecDepth 20000 in
theorem kw_X5_ofStone_4 : Cond.fieldLink RX5 98 "SkipStones$Stone" "worth" "I" ∈ wsX5_ofStone := List.mem_of_getElem? (i := 5) rfl
set_option maxRecDepth 20000 in
theorem hi_X5_ofStone_3 : ∀ w ∈ wsX30, w ∈ wsX5_ofStone := fun _ h => List.mem_cons_of_mem _ (List.mem_append_left _ (List.mem_append_right _ h))
set_option maxHeartbeats 4000000 in
set_option maxRecDepth 100000 in
theorem c_X5_ofStone_in (l : Launch) (X : gX) (h0 : Nat) (s1 : Nat) (w0 : Nat) (t0 : Nat) (k0 : Nat) (r0 : Nat) (rp : Nat) (sh1 : Nat) (sc : Int) (gf : Int) (gs : Int) (rc : Int) (tc : Int) (ft : Int) (sf : Nat → Option Nat) (sa : Nat) (wt : Int) (wd : Int) (rg : Int) (ly : Int) (wo : Int) (x : Int) (w : Int) (hx : 0 ≤ x ∧ x < sc ∧ sc ≤ 8) (hsf : sf (Int.toNat x) = some sa) (hb_w : inB w) : gM l yX5_ofStone wsX5_ofStone (gr 1 0 0) X [(h0, .inr (5, [.ref s1, .int (iI sc), .ref w0, .ref t0, .ref k0, .ref r0, .int (iI gf), .int (iI gs), .ref rp, .int (iI rc), .ref sh1, .int (iI tc), .int (iI ft)])), (s1, .inl (X.2.1.2.1, 8, .inr (.inr (.inr (.inr sf))))), (sa, .inr (3, [.int (iI wt), .int (iI wd), .int (iI rg), .int (iI ly), .int (iI wo)]))] [.ref h0, .int (iI x), .int (iI w)] (gQi X (Y := Unit) (fun _ => True) (fun _ => (if w = 0 then wt else if w = 1 then wd else if w = 2 then rg else if w = 3 then ly else if w = 4 then wo else -2)) (fun _ => [(h0, .inr (5, [.ref s1, .int (iI sc), .ref w0, .ref t0, .ref k0, .ref r0, .int (iI gf), .int (iI gs), .ref rp, .int (iI rc), .ref sh1, .int (iI tc), .int (iI ft)])), (s1, .inl (X.2.1.2.1, 8, .inr (.inr (.inr (.inr sf))))), (sa, .inr (3, [.int (iI wt), .int (iI wd), .int (iI rg), .int (iI ly), .int (iI wo)]))])) 0 0 := by
  refine g_start2 (lo := [(0, .ref h0), (1, .int (iI x)), (2, .int (iI w))]) (by decide +kernel) rfl rfl (Nat.le_of_ble_eq_true rfl) (fun p e s m args below meth c A C => ?_)
  refine r_aload_n C dX5_ofStone_0 0 rfl ?_
  refine r_iload_n C dX5_ofStone_1 1 rfl ?_
  refine g_V_q (ws2 := (fun _ => [(h0, .inr (5, [.ref s1, .int (iI sc), .ref w0, .ref t0, .ref k0, .ref r0, .int (iI gf), .int (iI gs), .ref rp, .int (iI rc), .ref sh1, .int (iI tc), .int (iI ft)])), (s1, .inl (X.2.1.2.1, 8, .inr (.inr (.inr (.inr sf))))), (sa, .inr (3, [.int (iI wt), .int (iI wd), .int (iI rg), .int (iI ly), .int (iI wo)]))])) (As := [.int (iI x)]) C (c_X5_stoneAt_in l X h0 s1 w0 t0 k0 r0 rp sh1 sc gf gs rc tc ft sf sa x (by first | assumption | omega) (by first | assumption | omega)) gX5_ofStone_X5_stoneAt rfl rfl rfl hd_V_X5_stoneAt_X5_ofStone (by decide) dX5_ofStone_2 [0, 1] [2] [1, 2, 0] rfl rfl rfl rfl (by decide) rfl 0 5 rfl rfl rfl rfl (Nat.le_of_ble_eq_true rfl) (by decide) (fun _ => rfl) (fun _ hy_ => ?_)
  clear hy_
  refine r_astore_n (lo2 := [(3, .ref sa), (0, .ref h0), (1, .int (iI x)), (2, .int (iI w))]) C dX5_ofStone_5 rfl (by decide) rfl ?_
  refine r_aload_n C dX5_ofStone_6 0 rfl ?_
  refine r_ifnonnull (tgt := 12) C dX5_ofStone_7 (by decide) ?_
  refine r_iload_n C dX5_ofStone_12 3 rfl ?_
  by_cases h_1 : w = 0
  · refine r_tabIn (tgt := 48) C dX5_ofStone_13 0 h_1 (by decide) rfl (by decide) ?_
    refine r_aload_n C dX5_ofStone_48 0 rfl ?_
    refine gf_3_0 C hi_X5_ofStone_3 kw_X5_ofStone_0 dX5_ofStone_49 2 rfl rfl ?_
    exact g_ret_i C rfl dX5_ofStone_52 () trivial (by (repeat' split) <;> first | rfl | omega) [0, 1, 2] rfl (by (repeat' split) <;> first | rfl | omega)
  by_cases h_2 : w = 1
  · refine r_tabIn (tgt := 53) C dX5_ofStone_13 1 h_2 (by decide) rfl (by decide) ?_
    refine r_aload_n C dX5_ofStone_53 0 rfl ?_
    refine gf_3_1 C hi_X5_ofStone_3 kw_X5_ofStone_1 dX5_ofStone_54 2 rfl rfl ?_
    exact g_ret_i C rfl dX5_ofStone_57 () trivial (by (repeat' split) <;> first | rfl | omega) [0, 1, 2] rfl (by (repeat' split) <;> first | rfl | omega)
  by_cases h_3 : w = 2
  · refine r_tabIn (tgt := 58) C dX5_ofStone_13 2 h_3 (by decide) rfl (by decide) ?_
    refine r_aload_n C dX5_ofStone_58 0 rfl ?_
    refine gf_3_2 C hi_X5_ofStone_3 kw_X5_ofStone_2 dX5_ofStone_59 2 rfl rfl ?_
    exact g_ret_i C rfl dX5_ofStone_62 () trivial (by (repeat' split) <;> first | rfl | omega) [0, 1, 2] rfl (by (repeat' split) <;> first | rfl | omega)
  by_cases h_4 : w = 3
  · refine r_tabIn (tgt := 63) C dX5_ofStone_13 3 h_4 (by decide) rfl (by decide) ?_
    refine r_aload_n C dX5_ofStone_63 0 rfl ?_
    refine gf_3_3 C hi_X5_ofStone_3 kw_X5_ofStone_3 dX5_ofStone_64 2 rfl rfl ?_
    exact g_ret_i C rfl dX5_ofStone_67 () trivial (by (repeat' split) <;> first | rfl | omega) [0, 1, 2] rfl (by (repeat' split) <;> first | rfl | omega)
  by_cases h_5 : w = 4
  · refine r_tabIn (tgt := 68) C dX5_ofStone_13 4 h_5 (by decide) rfl (by decide) ?_
    refine r_aload_n C dX5_ofStone_68 0 rfl ?_
    refine gf_3_4 C hi_X5_ofStone_3 kw_X5_ofStone_4 dX5_ofStone_69 2 rfl rfl ?_
    exact g_ret_i C rfl dX5_ofStone_72 () trivial (by (repeat' split) <;> first | rfl | omega) [0, 1, 2] rfl (by (repeat' split) <;> first | rfl | omega)
  refine r_tabOut (tgt := 73) C dX5_ofStone_13 (by omega) (by omega) (by decide) ?_
  refine r_bipush C dX5_ofStone_73 (by decide) ?_
  exact g_ret_i C rfl dX5_ofStone_75 () trivial (by (repeat' split) <;> first | rfl | omega) [0, 1, 2] rfl (by (repeat' split) <;> first | rfl | omega)

set_option maxHeartbeats 4000000 in
set_option maxRecDepth 100000 in
theorem c_X5_ofStone_out (l : Launch) (X : gX) (h0 : Nat) (s1 : Nat) (w0 : Nat) (t0 : Nat) (k0 : Nat) (r0 : Nat) (rp : Nat) (sh1 : Nat) (sc : Int) (gf : Int) (gs : Int) (rc : Int) (tc : Int) (ft : Int) (sf : Nat → Option Nat) (x : Int) (w : Int) (hx : ¬ (0 ≤ x ∧ x < sc)) (hbx : inB x) (hc : 0 ≤ sc ∧ sc ≤ 8) : gM l yX5_ofStone wsX5_ofStone (gr 1 0 0) X [(h0, .inr (5, [.ref s1, .int (iI sc), .ref w0, .ref t0, .ref k0, .ref r0, .int (iI gf), .int (iI gs), .ref rp, .int (iI rc), .ref sh1, .int (iI tc), .int (iI ft)])), (s1, .inl (X.2.1.2.1, 8, .inr (.inr (.inr (.inr sf)))))] [.ref h0, .int (iI x), .int (iI w)] (gQi X (Y := Unit) (fun _ => True) (fun _ => -1) (fun _ => [(h0, .inr (5, [.ref s1, .int (iI sc), .ref w0, .ref t0, .ref k0, .ref r0, .int (iI gf), .int (iI gs), .ref rp, .int (iI rc), .ref sh1, .int (iI tc), .int (iI ft)])), (s1, .inl (X.2.1.2.1, 8, .inr (.inr (.inr (.inr sf)))))])) 0 0 := by
  refine g_start2 (lo := [(0, .ref h0), (1, .int (iI x)), (2, .int (iI w))]) (by decide +kernel) rfl rfl (Nat.le_of_ble_eq_true rfl) (fun p e s m args below meth c A C => ?_)
  refine r_aload_n C dX5_ofStone_0 0 rfl ?_
  refine r_iload_n C dX5_ofStone_1 1 rfl ?_
  refine g_V_q (ws2 := (fun _ => [(h0, .inr (5, [.ref s1, .int (iI sc), .ref w0, .ref t0, .ref k0, .ref r0, .int (iI gf), .int (iI gs), .ref rp, .int (iI rc), .ref sh1, .int (iI tc), .int (iI ft)])), (s1, .inl (X.2.1.2.1, 8, .inr (.inr (.inr (.inr sf)))))])) (As := [.int (iI x)]) C (c_X5_stoneAt_out l X h0 s1 w0 t0 k0 r0 rp sh1 sc gf gs rc tc ft sf x (by first | assumption | omega) (by first | assumption | omega) (by first | assumption | omega)) gX5_ofStone_X5_stoneAt rfl rfl rfl hd_V_X5_stoneAt_X5_ofStone (by decide) dX5_ofStone_2 [0, 1] [] [0, 1] rfl rfl rfl rfl (by decide) rfl 0 5 rfl rfl rfl rfl (Nat.le_of_ble_eq_true rfl) (by decide) (fun _ => rfl) (fun _ hy_ => ?_)
  clear hy_
  refine r_astore_nN (lo2 := [(3, .null), (0, .ref h0), (1, .int (iI x)), (2, .int (iI w))]) C dX5_ofStone_5 rfl (by decide) rfl ?_
  refine r_aload_nN C dX5_ofStone_6 0 rfl ?_
  refine r_ifnonnullN C dX5_ofStone_7 ?_
  refine r_iconst C dX5_ofStone_10 ?_
  exact g_ret_i C rfl dX5_ofStone_11 () trivial (by (repeat' split) <;> first | rfl | omega) [0, 1] rfl (by (repeat' split) <;> first | rfl | omega)

set_option maxRecDepth 20000 in
theorem kw_X5_rule_0 : Cond.fieldLink RX5 24 "SkipStones" "water" "LSkipStones$Water;" ∈ wsX5_rule := List.mem_of_getElem? (i := 1) rfl
set_option maxRecDepth 20000 in
theorem kw_X5_rule_1 : Cond.fieldLink RX5 116 "SkipStones$Water" "lift" "I" ∈ wsX5_rule := List.mem_of_getElem? (i := 2) rfl
set_option maxRecDepth 20000 in
theorem kw_X5_rule_2 : Cond.fieldLink RX5 119 "SkipStones$Water" "rub" "I" ∈ wsX5_rule := List.mem_of_getElem? (i := 3) rfl
set_option maxRecDepth 20000 in
theorem kw_X5_rule_3 : Cond.fieldLink RX5 122 "SkipStones$Water" "up" "I" ∈ wsX5_rule := List.mem_of_getElem? (i := 4) rfl
set_option maxRecDepth 20000 in
theorem kw_X5_rule_4 : Cond.fieldLink RX5 125 "SkipStones$Water" "needed" "I" ∈ wsX5_rule := List.mem_of_getElem? (i := 5) rfl
set_option maxRecDepth 20000 in
theorem kw_X5_rule_5 : Cond.fieldLink RX5 128 "SkipStones$Water" "near" "I" ∈ wsX5_rule := List.mem_of_getElem? (i := 6) rfl
set_option maxRecDepth 20000 in
theorem kw_X5_rule_6 : Cond.fieldLink RX5 131 "SkipStones$Water" "hard" "I" ∈ wsX5_rule := List.mem_of_getElem? (i := 7) rfl
set_option maxRecDepth 20000 in
theorem hi_X5_rule_5 : ∀ w ∈ wsX50, w ∈ wsX5_rule := fun _ h => List.mem_cons_of_mem _ (List.mem_append_left _ (List.mem_append_right _ h))
set_option maxRecDepth 20000 in
theorem hi_X5_rule_4 : ∀ w ∈ wsX40, w ∈ wsX5_rule := fun _ h => List.mem_cons_of_mem _ (List.mem_append_right _ h)
set_option maxHeartbeats 4000000 in
set_option maxRecDepth 100000 in
theorem c_X5_rule (l : Launch) (X : gX) (h0 : Nat) (s1 : Nat) (w0 : Nat) (t0 : Nat) (k0 : Nat) (r0 : Nat) (rp : Nat) (sh1 : Nat) (sc : Int) (gf : Int) (gs : Int) (rc : Int) (tc : Int) (ft : Int) (w1 : Nat) (l1 : Int) (l2 : Int) (l3 : Int) (l4 : Int) (l5 : Int) (l6 : Int) (wc : Int) (sh : Int) (Fw : Nat → Int) (w : Int) (hb_w : inB w) : gM l yX5_rule wsX5_rule (gr 0 0 0) X [(h0, .inr (5, [.ref s1, .int (iI sc), .ref w0, .ref t0, .ref k0, .ref r0, .int (iI gf), .int (iI gs), .ref rp, .int (iI rc), .ref sh1, .int (iI tc), .int (iI ft)])), (w0, .inr (4, [.int (iI l1), .int (iI l2), .int (iI l3), .int (iI l4), .int (iI l5), .int (iI l6), .ref w1, .int (iI wc), .int (iI sh)])), (w1, .inl (X.2.1.1, 20, .inl (iF Fw)))] [.ref h0, .int (iI w)] (gQi X (Y := Unit) (fun _ => True) (fun _ => (if w = 0 then l1 else if w = 1 then l2 else if w = 2 then l3 else if w = 3 then l4 else if w = 4 then l5 else if w = 5 then l6 else -1)) (fun _ => [(h0, .inr (5, [.ref s1, .int (iI sc), .ref w0, .ref t0, .ref k0, .ref r0, .int (iI gf), .int (iI gs), .ref rp, .int (iI rc), .ref sh1, .int (iI tc), .int (iI ft)])), (w0, .inr (4, [.int (iI l1), .int (iI l2), .int (iI l3), .int (iI l4), .int (iI l5), .int (iI l6), .ref w1, .int (iI wc), .int (iI sh)])), (w1, .inl (X.2.1.1, 20, .inl (iF Fw)))])) 0 0 := by
  refine g_start2 (lo := [(0, .ref h0), (1, .int (iI w))]) (by decide +kernel) rfl rfl (Nat.le_of_ble_eq_true rfl) (fun p e s m args below meth c A C => ?_)
  refine r_iload_n C dX5_rule_0 1 rfl ?_
  by_cases h_1 : w = 0
  · refine r_tabIn (tgt := 40) C dX5_rule_1 0 h_1 (by decide) rfl (by decide) ?_
    refine r_aload_n C dX5_rule_40 0 rfl ?_
    refine gf_5_2 C hi_X5_rule_5 kw_X5_rule_0 dX5_rule_41 0 rfl rfl ?_
    refine gf_4_0 C hi_X5_rule_4 kw_X5_rule_1 dX5_rule_44 1 rfl rfl ?_
    exact g_ret_i C rfl dX5_rule_47 () trivial (by (repeat' split) <;> first | rfl | omega) [0, 1, 2] rfl (by (repeat' split) <;> first | rfl | omega)
  by_cases h_2 : w = 1
  · refine r_tabIn (tgt := 48) C dX5_rule_1 1 h_2 (by decide) rfl (by decide) ?_
    refine r_aload_n C dX5_rule_48 0 rfl ?_
    refine gf_5_2 C hi_X5_rule_5 kw_X5_rule_0 dX5_rule_49 0 rfl rfl ?_
    refine gf_4_1 C hi_X5_rule_4 kw_X5_rule_2 dX5_rule_52 1 rfl rfl ?_
    exact g_ret_i C rfl dX5_rule_55 () trivial (by (repeat' split) <;> first | rfl | omega) [0, 1, 2] rfl (by (repeat' split) <;> first | rfl | omega)
  by_cases h_3 : w = 2
  · refine r_tabIn (tgt := 56) C dX5_rule_1 2 h_3 (by decide) rfl (by decide) ?_
    refine r_aload_n C dX5_rule_56 0 rfl ?_
    refine gf_5_2 C hi_X5_rule_5 kw_X5_rule_0 dX5_rule_57 0 rfl rfl ?_
    refine gf_4_2 C hi_X5_rule_4 kw_X5_rule_3 dX5_rule_60 1 rfl rfl ?_
    exact g_ret_i C rfl dX5_rule_63 () trivial (by (repeat' split) <;> first | rfl | omega) [0, 1, 2] rfl (by (repeat' split) <;> first | rfl | omega)
  by_cases h_4 : w = 3
  · refine r_tabIn (tgt := 64) C dX5_rule_1 3 h_4 (by decide) rfl (by decide) ?_
    refine r_aload_n C dX5_rule_64 0 rfl ?_
    refine gf_5_2 C hi_X5_rule_5 kw_X5_rule_0 dX5_rule_65 0 rfl rfl ?_
    refine gf_4_3 C hi_X5_rule_4 kw_X5_rule_4 dX5_rule_68 1 rfl rfl ?_
    exact g_ret_i C rfl dX5_rule_71 () trivial (by (repeat' split) <;> first | rfl | omega) [0, 1, 2] rfl (by (repeat' split) <;> first | rfl | omega)
  by_cases h_5 : w = 4
  · refine r_tabIn (tgt := 72) C dX5_rule_1 4 h_5 (by decide) rfl (by decide) ?_
    refine r_aload_n C dX5_rule_72 0 rfl ?_
    refine gf_5_2 C hi_X5_rule_5 kw_X5_rule_0 dX5_rule_73 0 rfl rfl ?_
    refine gf_4_4 C hi_X5_rule_4 kw_X5_rule_5 dX5_rule_76 1 rfl rfl ?_
    exact g_ret_i C rfl dX5_rule_79 () trivial (by (repeat' split) <;> first | rfl | omega) [0, 1, 2] rfl (by (repeat' split) <;> first | rfl | omega)
  by_cases h_6 : w = 5
  · refine r_tabIn (tgt := 80) C dX5_rule_1 5 h_6 (by decide) rfl (by decide) ?_
    refine r_aload_n C dX5_rule_80 0 rfl ?_
    refine gf_5_2 C hi_X5_rule_5 kw_X5_rule_0 dX5_rule_81 0 rfl rfl ?_
    refine gf_4_5 C hi_X5_rule_4 kw_X5_rule_6 dX5_rule_84 1 rfl rfl ?_
    exact g_ret_i C rfl dX5_rule_87 () trivial (by (repeat' split) <;> first | rfl | omega) [0, 1, 2] rfl (by (repeat' split) <;> first | rfl | omega)
  refine r_tabOut (tgt := 88) C dX5_rule_1 (by omega) (by omega) (by decide) ?_
  refine r_iconst C dX5_rule_88 ?_
  exact g_ret_i C rfl dX5_rule_89 () trivial (by (repeat' split) <;> first | rfl | omega) [0, 1, 2] rfl (by (repeat' split) <;> first | rfl | omega)

set_option maxRecDepth 20000 in
theorem hd_S_X5_within_X5_shift : yX5_within.cls ≠ "java/lang/invoke/MethodHandle" ∧ yX5_within.cls ≠ "java/lang/invoke/VarHandle" ∧ (parseMethodDescriptor yX5_within.desc).map (fun d => d.parameters.length) = some 3 := by decide +kernel
set_option maxRecDepth 20000 in
theorem kw_X5_shift_0 : Cond.fieldLink RX5 24 "SkipStones" "water" "LSkipStones$Water;" ∈ wsX5_shift := List.mem_of_getElem? (i := 1) rfl
set_option maxRecDepth 20000 in
theorem kw_X5_shift_1 : Cond.fieldLink RX5 148 "SkipStones$Water" "shifted" "I" ∈ wsX5_shift := List.mem_of_getElem? (i := 2) rfl
set_option maxRecDepth 20000 in
theorem hi_X5_shift_5 : ∀ w ∈ wsX50, w ∈ wsX5_shift := fun _ h => List.mem_cons_of_mem _ (List.mem_append_left _ (List.mem_append_right _ h))
set_option maxRecDepth 20000 in
theorem hi_X5_shift_4 : ∀ w ∈ wsX40, w ∈ wsX5_shift := fun _ h => List.mem_cons_of_mem _ (List.mem_append_right _ h)
set_option maxHeartbeats 4000000 in
set_option maxRecDepth 100000 in
theorem c_X5_shift (l : Launch) (X : gX) (h0 : Nat) (s1 : Nat) (w0 : Nat) (t0 : Nat) (k0 : Nat) (r0 : Nat) (rp : Nat) (sh1 : Nat) (sc : Int) (gf : Int) (gs : Int) (rc : Int) (tc : Int) (ft : Int) (w1 : Nat) (l1 : Int) (l2 : Int) (l3 : Int) (l4 : Int) (l5 : Int) (l6 : Int) (wc : Int) (sh : Int) (Fw : Nat → Int) (v : Int) (hb_v : inB v) : gM l yX5_shift wsX5_shift (gr 1 0 0) X [(h0, .inr (5, [.ref s1, .int (iI sc), .ref w0, .ref t0, .ref k0, .ref r0, .int (iI gf), .int (iI gs), .ref rp, .int (iI rc), .ref sh1, .int (iI tc), .int (iI ft)])), (w0, .inr (4, [.int (iI l1), .int (iI l2), .int (iI l3), .int (iI l4), .int (iI l5), .int (iI l6), .ref w1, .int (iI wc), .int (iI sh)])), (w1, .inl (X.2.1.1, 20, .inl (iF Fw)))] [.ref h0, .int (iI v)] (gQi X (Y := Unit) (fun _ => True) (fun _ => (if 0 ≤ v ∧ v ≤ 19 then sh else -2)) (fun _ => [(h0, .inr (5, [.ref s1, .int (iI sc), .ref w0, .ref t0, .ref k0, .ref r0, .int (iI gf), .int (iI gs), .ref rp, .int (iI rc), .ref sh1, .int (iI tc), .int (iI ft)])), (w0, .inr (4, [.int (iI l1), .int (iI l2), .int (iI l3), .int (iI l4), .int (iI l5), .int (iI l6), .ref w1, .int (iI wc), .int (iI (if 0 ≤ v ∧ v ≤ 19 then v else sh))])), (w1, .inl (X.2.1.1, 20, .inl (iF Fw)))])) 0 0 := by
  refine g_start2 (lo := [(0, .ref h0), (1, .int (iI v))]) (by decide +kernel) rfl rfl (Nat.le_of_ble_eq_true rfl) (fun p e s m args below meth c A C => ?_)
  refine r_iload_n C dX5_shift_0 1 rfl ?_
  refine r_iconst C dX5_shift_1 ?_
  refine r_bipush C dX5_shift_2 (by decide) ?_
  refine g_S_i (ws2 := (fun _ => [(h0, .inr (5, [.ref s1, .int (iI sc), .ref w0, .ref t0, .ref k0, .ref r0, .int (iI gf), .int (iI gs), .ref rp, .int (iI rc), .ref sh1, .int (iI tc), .int (iI ft)])), (w0, .inr (4, [.int (iI l1), .int (iI l2), .int (iI l3), .int (iI l4), .int (iI l5), .int (iI l6), .ref w1, .int (iI wc), .int (iI sh)])), (w1, .inl (X.2.1.1, 20, .inl (iF Fw)))])) (As := [.int (iI v), .int (iI 0), .int (iI 19)]) C (c_X5_within l X v 0 19 (by first | assumption | omega) (by first | assumption | omega) (by first | assumption | omega)) gX5_shift_X5_within rfl rfl rfl hd_S_X5_within_X5_shift (by decide) dX5_shift_4 [] [0, 1, 2] [0, 1, 2] rfl rfl rfl rfl (by decide) rfl rfl rfl (Nat.le_of_ble_eq_true rfl) (by decide) (fun _ => rfl) (fun _ hy_ => ?_)
  clear hy_
  refine r_ite (fun h_1 => ?_) (fun h_1 => ?_)
  · skip
    refine r_if_ne (tgt := 13) C dX5_shift_7 (by decide) (by decide) (fun h_2 => ?_) (fun h_2 => absurd h_2 (by decide))
    refine r_aload_n C dX5_shift_13 0 rfl ?_
    refine gf_5_2 C hi_X5_shift_5 kw_X5_shift_0 dX5_shift_14 0 rfl rfl ?_
    refine gf_4_8 C hi_X5_shift_4 kw_X5_shift_1 dX5_shift_17 1 rfl rfl ?_
    refine r_istore_n (lo2 := [(2, .int (iI sh)), (0, .ref h0), (1, .int (iI v))]) C dX5_shift_20 rfl (by decide) rfl ?_
    refine r_aload_n C dX5_shift_21 1 rfl ?_
    refine gf_5_2 C hi_X5_shift_5 kw_X5_shift_0 dX5_shift_22 0 rfl rfl ?_
    refine r_iload_n C dX5_shift_25 2 rfl ?_
    refine pf_4_8 (ws2 := [(h0, .inr (5, [.ref s1, .int (iI sc), .ref w0, .ref t0, .ref k0, .ref r0, .int (iI gf), .int (iI gs), .ref rp, .int (iI rc), .ref sh1, .int (iI tc), .int (iI ft)])), (w0, .inr (4, [.int (iI l1), .int (iI l2), .int (iI l3), .int (iI l4), .int (iI l5), .int (iI l6), .ref w1, .int (iI wc), .int (iI v)])), (w1, .inl (X.2.1.1, 20, .inl (iF Fw)))]) C hi_X5_shift_4 kw_X5_shift_1 dX5_shift_26 1 rfl rfl rfl (Nat.le_of_ble_eq_true rfl) rfl ?_
    refine r_iload_n C dX5_shift_29 0 rfl ?_
    exact g_ret_i C rfl dX5_shift_30 () trivial (by (repeat' split) <;> first | rfl | omega) [0, 1, 2] rfl (by (repeat' split) <;> first | rfl | omega)
  · skip
    refine r_if_ne (tgt := 13) C dX5_shift_7 (by decide) (by decide) (fun h_3 => absurd h_3 (by decide)) (fun h_3 => ?_)
    refine r_bipush C dX5_shift_10 (by decide) ?_
    exact g_ret_i C rfl dX5_shift_12 () trivial (by (repeat' split) <;> first | rfl | omega) [0, 1, 2] rfl (by (repeat' split) <;> first | rfl | omega)

set_option maxRecDepth 20000 in
theorem kw_X5_wave_0 : Cond.constant RX5 151 (99999) ∈ wsX5_wave := List.mem_of_getElem? (i := 1) rfl
set_option maxRecDepth 20000 in
theorem hd_S_X5_within_X5_wave : yX5_within.cls ≠ "java/lang/invoke/MethodHandle" ∧ yX5_within.cls ≠ "java/lang/invoke/VarHandle" ∧ (parseMethodDescriptor yX5_within.desc).map (fun d => d.parameters.length) = some 3 := by decide +kernel
set_option maxRecDepth 20000 in
theorem kw_X5_wave_1 : Cond.fieldLink RX5 24 "SkipStones" "water" "LSkipStones$Water;" ∈ wsX5_wave := List.mem_of_getElem? (i := 2) rfl
set_option maxRecDepth 20000 in
theorem kw_X5_wave_2 : Cond.fieldLink RX5 148 "SkipStones$Water" "shifted" "I" ∈ wsX5_wave := List.mem_of_getElem? (i := 3) rfl
set_option maxRecDepth 20000 in
theorem hd_V_X4_waveAt_X5_wave : yX4_waveAt.cls = yX4_waveAt.cls ∧ yX4_waveAt.cls ≠ "java/lang/invoke/MethodHandle" ∧ yX4_waveAt.cls ≠ "java/lang/invoke/VarHandle" ∧ (parseMethodDescriptor yX4_waveAt.desc).map (fun d => d.parameters.length) = some 2 := by decide +kernel
set_option maxRecDepth 20000 in
theorem hi_X5_wave_5 : ∀ w ∈ wsX50, w ∈ wsX5_wave := fun _ h => List.mem_cons_of_mem _ (List.mem_append_left _ (List.mem_append_right _ h))
set_option maxRecDepth 20000 in
theorem hi_X5_wave_4 : ∀ w ∈ wsX40, w ∈ wsX5_wave := fun _ h => List.mem_cons_of_mem _ (List.mem_append_right _ h)
set_option maxHeartbeats 4000000 in
set_option maxRecDepth 100000 in
theorem c_X5_wave (l : Launch) (X : gX) (h0 : Nat) (s1 : Nat) (w0 : Nat) (t0 : Nat) (k0 : Nat) (r0 : Nat) (rp : Nat) (sh1 : Nat) (sc : Int) (gf : Int) (gs : Int) (rc : Int) (tc : Int) (ft : Int) (w1 : Nat) (l1 : Int) (l2 : Int) (l3 : Int) (l4 : Int) (l5 : Int) (l6 : Int) (wc : Int) (sh : Int) (Fw : Nat → Int) (x : Int) (hb_x : inB x) (hwc : 1 ≤ wc ∧ wc ≤ 20) (hsh : 0 ≤ sh ∧ sh < 20) : gM l yX5_wave wsX5_wave (gr 1 0 0) X [(h0, .inr (5, [.ref s1, .int (iI sc), .ref w0, .ref t0, .ref k0, .ref r0, .int (iI gf), .int (iI gs), .ref rp, .int (iI rc), .ref sh1, .int (iI tc), .int (iI ft)])), (w0, .inr (4, [.int (iI l1), .int (iI l2), .int (iI l3), .int (iI l4), .int (iI l5), .int (iI l6), .ref w1, .int (iI wc), .int (iI sh)])), (w1, .inl (X.2.1.1, 20, .inl (iF Fw)))] [.ref h0, .int (iI x)] (gQi X (Y := Unit) (fun _ => True) (fun _ => (if 0 ≤ x ∧ x ≤ 99999 then Fw (Int.toNat ((x + sh) % wc)) else -99)) (fun _ => [(h0, .inr (5, [.ref s1, .int (iI sc), .ref w0, .ref t0, .ref k0, .ref r0, .int (iI gf), .int (iI gs), .ref rp, .int (iI rc), .ref sh1, .int (iI tc), .int (iI ft)])), (w0, .inr (4, [.int (iI l1), .int (iI l2), .int (iI l3), .int (iI l4), .int (iI l5), .int (iI l6), .ref w1, .int (iI wc), .int (iI sh)])), (w1, .inl (X.2.1.1, 20, .inl (iF Fw)))])) 0 0 := by
  refine g_start2 (lo := [(0, .ref h0), (1, .int (iI x))]) (by decide +kernel) rfl rfl (Nat.le_of_ble_eq_true rfl) (fun p e s m args below meth c A C => ?_)
  refine r_iload_n C dX5_wave_0 1 rfl ?_
  refine r_iconst C dX5_wave_1 ?_
  refine r_ldc (z := 99999) C dX5_wave_2 kw_X5_wave_0 rfl ?_
  refine g_S_i (ws2 := (fun _ => [(h0, .inr (5, [.ref s1, .int (iI sc), .ref w0, .ref t0, .ref k0, .ref r0, .int (iI gf), .int (iI gs), .ref rp, .int (iI rc), .ref sh1, .int (iI tc), .int (iI ft)])), (w0, .inr (4, [.int (iI l1), .int (iI l2), .int (iI l3), .int (iI l4), .int (iI l5), .int (iI l6), .ref w1, .int (iI wc), .int (iI sh)])), (w1, .inl (X.2.1.1, 20, .inl (iF Fw)))])) (As := [.int (iI x), .int (iI 0), .int (iI 99999)]) C (c_X5_within l X x 0 99999 (by first | assumption | omega) (by first | assumption | omega) (by first | assumption | omega)) gX5_wave_X5_within rfl rfl rfl hd_S_X5_within_X5_wave (by decide) dX5_wave_4 [] [0, 1, 2] [0, 1, 2] rfl rfl rfl rfl (by decide) rfl rfl rfl (Nat.le_of_ble_eq_true rfl) (by decide) (fun _ => rfl) (fun _ hy_ => ?_)
  clear hy_
  refine r_ite (fun h_1 => ?_) (fun h_1 => ?_)
  · skip
    refine r_if_eq (tgt := 28) C dX5_wave_7 (by decide) (by decide) (fun h_2 => absurd h_2 (by decide)) (fun h_2 => ?_)
    refine r_aload_n C dX5_wave_10 0 rfl ?_
    refine gf_5_2 C hi_X5_wave_5 kw_X5_wave_1 dX5_wave_11 0 rfl rfl ?_
    refine r_iload_n C dX5_wave_14 1 rfl ?_
    refine r_aload_n C dX5_wave_15 0 rfl ?_
    refine gf_5_2 C hi_X5_wave_5 kw_X5_wave_1 dX5_wave_16 0 rfl rfl ?_
    refine gf_4_8 C hi_X5_wave_4 kw_X5_wave_2 dX5_wave_19 1 rfl rfl ?_
    refine g_V_i (ws2 := (fun _ => [(h0, .inr (5, [.ref s1, .int (iI sc), .ref w0, .ref t0, .ref k0, .ref r0, .int (iI gf), .int (iI gs), .ref rp, .int (iI rc), .ref sh1, .int (iI tc), .int (iI ft)])), (w0, .inr (4, [.int (iI l1), .int (iI l2), .int (iI l3), .int (iI l4), .int (iI l5), .int (iI l6), .ref w1, .int (iI wc), .int (iI sh)])), (w1, .inl (X.2.1.1, 20, .inl (iF Fw)))])) (As := [.int (iI x), .int (iI sh)]) C (c_X4_waveAt l X w0 w1 l1 l2 l3 l4 l5 l6 wc sh Fw x sh (by first | assumption | omega) (by first | assumption | omega) (by first | assumption | omega)) gX5_wave_X4_waveAt rfl rfl rfl hd_V_X4_waveAt_X5_wave (by decide) dX5_wave_22 [1, 2] [0] [0, 1, 2] rfl rfl rfl rfl (by decide) rfl 1 4 rfl rfl rfl rfl (Nat.le_of_ble_eq_true rfl) (by decide) (fun _ => rfl) (fun _ hy_ => ?_)
    clear hy_
    refine r_goto (tgt := 30) C dX5_wave_25 (by decide) ?_
    exact g_ret_i C rfl dX5_wave_30 () trivial (by (repeat' split) <;> first | rfl | omega) [0, 1, 2] rfl (by (repeat' split) <;> first | rfl | omega)
  · skip
    refine r_if_eq (tgt := 28) C dX5_wave_7 (by decide) (by decide) (fun h_3 => ?_) (fun h_3 => absurd h_3 (by decide))
    refine r_bipush C dX5_wave_28 (by decide) ?_
    exact g_ret_i C rfl dX5_wave_30 () trivial (by (repeat' split) <;> first | rfl | omega) [0, 1, 2] rfl (by (repeat' split) <;> first | rfl | omega)

set_option maxRecDepth 20000 in
theorem hd_S_X5_within_X5_grid : yX5_within.cls ≠ "java/lang/invoke/MethodHandle" ∧ yX5_within.cls ≠ "java/lang/invoke/VarHandle" ∧ (parseMethodDescriptor yX5_within.desc).map (fun d => d.parameters.length) = some 3 := by decide +kernel
set_option maxRecDepth 20000 in
theorem kw_X5_grid_0 : Cond.fieldLink RX5 45 "SkipStones" "gridFall" "I" ∈ wsX5_grid := List.mem_of_getElem? (i := 1) rfl
set_option maxRecDepth 20000 in
theorem kw_X5_grid_1 : Cond.fieldLink RX5 48 "SkipStones" "gridSpin" "I" ∈ wsX5_grid := List.mem_of_getElem? (i := 2) rfl
set_option maxRecDepth 20000 in
theorem hi_X5_grid_5 : ∀ w ∈ wsX50, w ∈ wsX5_grid := fun _ h => List.mem_cons_of_mem _ (List.mem_append_right _ h)
set_option maxHeartbeats 4000000 in
set_option maxRecDepth 100000 in
theorem c_X5_grid (l : Launch) (X : gX) (h0 : Nat) (s1 : Nat) (w0 : Nat) (t0 : Nat) (k0 : Nat) (r0 : Nat) (rp : Nat) (sh1 : Nat) (sc : Int) (gf : Int) (gs : Int) (rc : Int) (tc : Int) (ft : Int) (v : Int) (w : Int) (hb_v : inB v) (hb_w : inB w) (hb_gf : inB gf) (hb_gs : inB gs) : gM l yX5_grid wsX5_grid (gr 1 0 0) X [(h0, .inr (5, [.ref s1, .int (iI sc), .ref w0, .ref t0, .ref k0, .ref r0, .int (iI gf), .int (iI gs), .ref rp, .int (iI rc), .ref sh1, .int (iI tc), .int (iI ft)]))] [.ref h0, .int (iI v), .int (iI w)] (gQi X (Y := Unit) (fun _ => True) (fun _ => (if ¬ (1 ≤ v ∧ v ≤ 99 ∧ 0 ≤ w ∧ w ≤ 99) then -2 else if v = gf ∧ w = gs then 0 else 1)) (fun _ => [(h0, .inr (5, [.ref s1, .int (iI sc), .ref w0, .ref t0, .ref k0, .ref r0, .int (iI (if 1 ≤ v ∧ v ≤ 99 ∧ 0 ≤ w ∧ w ≤ 99 then v else gf)), .int (iI (if 1 ≤ v ∧ v ≤ 99 ∧ 0 ≤ w ∧ w ≤ 99 then w else gs)), .ref rp, .int (iI rc), .ref sh1, .int (iI tc), .int (iI ft)]))])) 0 0 := by
  refine g_start2 (lo := [(0, .ref h0), (1, .int (iI v)), (2, .int (iI w))]) (by decide +kernel) rfl rfl (Nat.le_of_ble_eq_true rfl) (fun p e s m args below meth c A C => ?_)
  refine r_iload_n C dX5_grid_0 1 rfl ?_
  refine r_iconst C dX5_grid_1 ?_
  refine r_bipush C dX5_grid_2 (by decide) ?_
  refine g_S_i (ws2 := (fun _ => [(h0, .inr (5, [.ref s1, .int (iI sc), .ref w0, .ref t0, .ref k0, .ref r0, .int (iI gf), .int (iI gs), .ref rp, .int (iI rc), .ref sh1, .int (iI tc), .int (iI ft)]))])) (As := [.int (iI v), .int (iI 1), .int (iI 99)]) C (c_X5_within l X v 1 99 (by first | assumption | omega) (by first | assumption | omega) (by first | assumption | omega)) gX5_grid_X5_within rfl rfl rfl hd_S_X5_within_X5_grid (by decide) dX5_grid_4 [] [0] [0] rfl rfl rfl rfl (by decide) rfl rfl rfl (Nat.le_of_ble_eq_true rfl) (by decide) (fun _ => rfl) (fun _ hy_ => ?_)
  clear hy_
  refine r_ite (fun h_1 => ?_) (fun h_1 => ?_)
  · skip
    refine r_if_eq (tgt := 20) C dX5_grid_7 (by decide) (by decide) (fun h_2 => absurd h_2 (by decide)) (fun h_2 => ?_)
    refine r_iload_n C dX5_grid_10 2 rfl ?_
    refine r_iconst C dX5_grid_11 ?_
    refine r_bipush C dX5_grid_12 (by decide) ?_
    refine g_S_i (ws2 := (fun _ => [(h0, .inr (5, [.ref s1, .int (iI sc), .ref w0, .ref t0, .ref k0, .ref r0, .int (iI gf), .int (iI gs), .ref rp, .int (iI rc), .ref sh1, .int (iI tc), .int (iI ft)]))])) (As := [.int (iI w), .int (iI 0), .int (iI 99)]) C (c_X5_within l X w 0 99 (by first | assumption | omega) (by first | assumption | omega) (by first | assumption | omega)) gX5_grid_X5_within rfl rfl rfl hd_S_X5_within_X5_grid (by decide) dX5_grid_14 [] [0] [0] rfl rfl rfl rfl (by decide) rfl rfl rfl (Nat.le_of_ble_eq_true rfl) (by decide) (fun _ => rfl) (fun _ hy_ => ?_)
    clear hy_
    refine r_ite (fun h_3 => ?_) (fun h_3 => ?_)
    · skip
      refine r_if_ne (tgt := 23) C dX5_grid_17 (by decide) (by decide) (fun h_4 => ?_) (fun h_4 => absurd h_4 (by decide))
      refine r_iload_n C dX5_grid_23 1 rfl ?_
      refine r_aload_n C dX5_grid_24 0 rfl ?_
      refine gf_5_6 C hi_X5_grid_5 kw_X5_grid_0 dX5_grid_25 0 rfl rfl ?_
      refine r_icmp_ne (tgt := 41) C dX5_grid_28 (by decide) (by omega) (by omega) (fun h_5 => ?_) (fun h_5 => ?_)
      · skip
        refine r_aload_n C dX5_grid_41 0 rfl ?_
        refine r_iload_n C dX5_grid_42 1 rfl ?_
        refine pf_5_6 (ws2 := [(h0, .inr (5, [.ref s1, .int (iI sc), .ref w0, .ref t0, .ref k0, .ref r0, .int (iI v), .int (iI gs), .ref rp, .int (iI rc), .ref sh1, .int (iI tc), .int (iI ft)]))]) C hi_X5_grid_5 kw_X5_grid_0 dX5_grid_43 0 rfl rfl rfl (Nat.le_of_ble_eq_true rfl) rfl ?_
        refine r_aload_n C dX5_grid_46 0 rfl ?_
        refine r_iload_n C dX5_grid_47 2 rfl ?_
        refine pf_5_7 (ws2 := [(h0, .inr (5, [.ref s1, .int (iI sc), .ref w0, .ref t0, .ref k0, .ref r0, .int (iI v), .int (iI w), .ref rp, .int (iI rc), .ref sh1, .int (iI tc), .int (iI ft)]))]) C hi_X5_grid_5 kw_X5_grid_1 dX5_grid_48 0 rfl rfl rfl (Nat.le_of_ble_eq_true rfl) rfl ?_
        refine r_iconst C dX5_grid_51 ?_
        exact g_ret_i C rfl dX5_grid_52 () trivial (by (repeat' split) <;> first | rfl | omega) [0] rfl (by (repeat' split) <;> first | rfl | omega | (rw [show gf = v by omega, show gs = w by omega] <;> rfl))
      · skip
        refine r_iload_n C dX5_grid_31 2 rfl ?_
        refine r_aload_n C dX5_grid_32 0 rfl ?_
        refine gf_5_7 C hi_X5_grid_5 kw_X5_grid_1 dX5_grid_33 0 rfl rfl ?_
        refine r_icmp_ne (tgt := 41) C dX5_grid_36 (by decide) (by omega) (by omega) (fun h_6 => ?_) (fun h_6 => ?_)
        · skip
          refine r_aload_n C dX5_grid_41 0 rfl ?_
          refine r_iload_n C dX5_grid_42 1 rfl ?_
          refine pf_5_6 (ws2 := [(h0, .inr (5, [.ref s1, .int (iI sc), .ref w0, .ref t0, .ref k0, .ref r0, .int (iI v), .int (iI gs), .ref rp, .int (iI rc), .ref sh1, .int (iI tc), .int (iI ft)]))]) C hi_X5_grid_5 kw_X5_grid_0 dX5_grid_43 0 rfl rfl rfl (Nat.le_of_ble_eq_true rfl) rfl ?_
          refine r_aload_n C dX5_grid_46 0 rfl ?_
          refine r_iload_n C dX5_grid_47 2 rfl ?_
          refine pf_5_7 (ws2 := [(h0, .inr (5, [.ref s1, .int (iI sc), .ref w0, .ref t0, .ref k0, .ref r0, .int (iI v), .int (iI w), .ref rp, .int (iI rc), .ref sh1, .int (iI tc), .int (iI ft)]))]) C hi_X5_grid_5 kw_X5_grid_1 dX5_grid_48 0 rfl rfl rfl (Nat.le_of_ble_eq_true rfl) rfl ?_
          refine r_iconst C dX5_grid_51 ?_
          exact g_ret_i C rfl dX5_grid_52 () trivial (by (repeat' split) <;> first | rfl | omega) [0] rfl (by (repeat' split) <;> first | rfl | omega | (rw [show gf = v by omega, show gs = w by omega] <;> rfl))
        · skip
          refine r_iconst C dX5_grid_39 ?_
          exact g_ret_i C rfl dX5_grid_40 () trivial (by (repeat' split) <;> first | rfl | omega) [0] rfl (by (repeat' split) <;> first | rfl | omega | (rw [show gf = v by omega, show gs = w by omega] <;> rfl))
    · skip
      refine r_if_ne (tgt := 23) C dX5_grid_17 (by decide) (by decide) (fun h_7 => absurd h_7 (by decide)) (fun h_7 => ?_)
      refine r_bipush C dX5_grid_20 (by decide) ?_
      exact g_ret_i C rfl dX5_grid_22 () trivial (by (repeat' split) <;> first | rfl | omega) [0] rfl (by (repeat' split) <;> first | rfl | omega | (rw [show gf = v by omega, show gs = w by omega] <;> rfl))
  · skip
    refine r_if_eq (tgt := 20) C dX5_grid_7 (by decide) (by decide) (fun h_8 => ?_) (fun h_8 => absurd h_8 (by decide))
    refine r_bipush C dX5_grid_20 (by decide) ?_
    exact g_ret_i C rfl dX5_grid_22 () trivial (by (repeat' split) <;> first | rfl | omega) [0] rfl (by (repeat' split) <;> first | rfl | omega | (rw [show gf = v by omega, show gs = w by omega] <;> rfl))

set_option maxRecDepth 20000 in
theorem hd_V_X5_stoneAt_X5_beach : yX5_stoneAt.cls = yX5_stoneAt.cls ∧ yX5_stoneAt.cls ≠ "java/lang/invoke/MethodHandle" ∧ yX5_stoneAt.cls ≠ "java/lang/invoke/VarHandle" ∧ (parseMethodDescriptor yX5_stoneAt.desc).map (fun d => d.parameters.length) = some 1 := by decide +kernel
set_option maxRecDepth 20000 in
theorem hd_S_X5_within_X5_beach : yX5_within.cls ≠ "java/lang/invoke/MethodHandle" ∧ yX5_within.cls ≠ "java/lang/invoke/VarHandle" ∧ (parseMethodDescriptor yX5_within.desc).map (fun d => d.parameters.length) = some 3 := by decide +kernel
set_option maxRecDepth 20000 in
theorem kw_X5_beach_0 : Cond.fieldLink RX5 95 "SkipStones$Stone" "lying" "I" ∈ wsX5_beach := List.mem_of_getElem? (i := 1) rfl
set_option maxRecDepth 20000 in
theorem kw_X5_beach_1 : Cond.fieldLink RX5 98 "SkipStones$Stone" "worth" "I" ∈ wsX5_beach := List.mem_of_getElem? (i := 2) rfl
set_option maxRecDepth 20000 in
theorem hi_X5_beach_3 : ∀ w ∈ wsX30, w ∈ wsX5_beach := fun _ h => List.mem_cons_of_mem _ (List.mem_append_left _ (List.mem_append_right _ h))
set_option maxHeartbeats 4000000 in
set_option maxRecDepth 100000 in
theorem c_X5_beach_in (l : Launch) (X : gX) (h0 : Nat) (s1 : Nat) (w0 : Nat) (t0 : Nat) (k0 : Nat) (r0 : Nat) (rp : Nat) (sh1 : Nat) (sc : Int) (gf : Int) (gs : Int) (rc : Int) (tc : Int) (ft : Int) (sf : Nat → Option Nat) (sa : Nat) (wt : Int) (wd : Int) (rg : Int) (ly : Int) (wo : Int) (x : Int) (v : Int) (w : Int) (hx : 0 ≤ x ∧ x < sc ∧ sc ≤ 8) (hsf : sf (Int.toNat x) = some sa) (hb_v : inB v) (hb_w : inB w) (hb_ly : inB ly) (hb_wo : inB wo) : gM l yX5_beach wsX5_beach (gr 1 0 0) X [(h0, .inr (5, [.ref s1, .int (iI sc), .ref w0, .ref t0, .ref k0, .ref r0, .int (iI gf), .int (iI gs), .ref rp, .int (iI rc), .ref sh1, .int (iI tc), .int (iI ft)])), (s1, .inl (X.2.1.2.1, 8, .inr (.inr (.inr (.inr sf))))), (sa, .inr (3, [.int (iI wt), .int (iI wd), .int (iI rg), .int (iI ly), .int (iI wo)]))] [.ref h0, .int (iI x), .int (iI v), .int (iI w)] (gQi X (Y := Unit) (fun _ => True) (fun _ => (if ¬ (0 ≤ v ∧ v ≤ 9 ∧ 0 ≤ w ∧ w ≤ 99) then -2 else if v = ly ∧ w = wo then 0 else 1)) (fun _ => [(h0, .inr (5, [.ref s1, .int (iI sc), .ref w0, .ref t0, .ref k0, .ref r0, .int (iI gf), .int (iI gs), .ref rp, .int (iI rc), .ref sh1, .int (iI tc), .int (iI ft)])), (s1, .inl (X.2.1.2.1, 8, .inr (.inr (.inr (.inr sf))))), (sa, .inr (3, [.int (iI wt), .int (iI wd), .int (iI rg), .int (iI (if 0 ≤ v ∧ v ≤ 9 ∧ 0 ≤ w ∧ w ≤ 99 then v else ly)), .int (iI (if 0 ≤ v ∧ v ≤ 9 ∧ 0 ≤ w ∧ w ≤ 99 then w else wo))]))])) 0 0 := by
  refine g_start2 (lo := [(0, .ref h0), (1, .int (iI x)), (2, .int (iI v)), (3, .int (iI w))]) (by decide +kernel) rfl rfl (Nat.le_of_ble_eq_true rfl) (fun p e s m args below meth c A C => ?_)
  refine r_aload_n C dX5_beach_0 0 rfl ?_
  refine r_iload_n C dX5_beach_1 1 rfl ?_
  refine g_V_q (ws2 := (fun _ => [(h0, .inr (5, [.ref s1, .int (iI sc), .ref w0, .ref t0, .ref k0, .ref r0, .int (iI gf), .int (iI gs), .ref rp, .int (iI rc), .ref sh1, .int (iI tc), .int (iI ft)])), (s1, .inl (X.2.1.2.1, 8, .inr (.inr (.inr (.inr sf))))), (sa, .inr (3, [.int (iI wt), .int (iI wd), .int (iI rg), .int (iI ly), .int (iI wo)]))])) (As := [.int (iI x)]) C (c_X5_stoneAt_in l X h0 s1 w0 t0 k0 r0 rp sh1 sc gf gs rc tc ft sf sa x (by first | assumption | omega) (by first | assumption | omega)) gX5_beach_X5_stoneAt rfl rfl rfl hd_V_X5_stoneAt_X5_beach (by decide) dX5_beach_2 [0, 1] [2] [1, 2, 0] rfl rfl rfl rfl (by decide) rfl 0 5 rfl rfl rfl rfl (Nat.le_of_ble_eq_true rfl) (by decide) (fun _ => rfl) (fun _ hy_ => ?_)
  clear hy_
  refine r_astore (lo2 := [(4, .ref sa), (0, .ref h0), (1, .int (iI x)), (2, .int (iI v)), (3, .int (iI w))]) C dX5_beach_5 (by decide) rfl ?_
  refine r_aload C dX5_beach_7 0 rfl ?_
  refine r_ifnonnull (tgt := 14) C dX5_beach_9 (by decide) ?_
  refine r_iload_n C dX5_beach_14 3 rfl ?_
  refine r_iconst C dX5_beach_15 ?_
  refine r_bipush C dX5_beach_16 (by decide) ?_
  refine g_S_i (ws2 := (fun _ => [(h0, .inr (5, [.ref s1, .int (iI sc), .ref w0, .ref t0, .ref k0, .ref r0, .int (iI gf), .int (iI gs), .ref rp, .int (iI rc), .ref sh1, .int (iI tc), .int (iI ft)])), (s1, .inl (X.2.1.2.1, 8, .inr (.inr (.inr (.inr sf))))), (sa, .inr (3, [.int (iI wt), .int (iI wd), .int (iI rg), .int (iI ly), .int (iI wo)]))])) (As := [.int (iI v), .int (iI 0), .int (iI 9)]) C (c_X5_within l X v 0 9 (by first | assumption | omega) (by first | assumption | omega) (by first | assumption | omega)) gX5_beach_X5_within rfl rfl rfl hd_S_X5_within_X5_beach (by decide) dX5_beach_18 [] [0, 1, 2] [0, 1, 2] rfl rfl rfl rfl (by decide) rfl rfl rfl (Nat.le_of_ble_eq_true rfl) (by decide) (fun _ => rfl) (fun _ hy_ => ?_)
  clear hy_
  refine r_ite (fun h_1 => ?_) (fun h_1 => ?_)
  · skip
    refine r_if_eq (tgt := 34) C dX5_beach_21 (by decide) (by decide) (fun h_2 => absurd h_2 (by decide)) (fun h_2 => ?_)
    refine r_iload_n C dX5_beach_24 4 rfl ?_
    refine r_iconst C dX5_beach_25 ?_
    refine r_bipush C dX5_beach_26 (by decide) ?_
    refine g_S_i (ws2 := (fun _ => [(h0, .inr (5, [.ref s1, .int (iI sc), .ref w0, .ref t0, .ref k0, .ref r0, .int (iI gf), .int (iI gs), .ref rp, .int (iI rc), .ref sh1, .int (iI tc), .int (iI ft)])), (s1, .inl (X.2.1.2.1, 8, .inr (.inr (.inr (.inr sf))))), (sa, .inr (3, [.int (iI wt), .int (iI wd), .int (iI rg), .int (iI ly), .int (iI wo)]))])) (As := [.int (iI w), .int (iI 0), .int (iI 99)]) C (c_X5_within l X w 0 99 (by first | assumption | omega) (by first | assumption | omega) (by first | assumption | omega)) gX5_beach_X5_within rfl rfl rfl hd_S_X5_within_X5_beach (by decide) dX5_beach_28 [] [0, 1, 2] [0, 1, 2] rfl rfl rfl rfl (by decide) rfl rfl rfl (Nat.le_of_ble_eq_true rfl) (by decide) (fun _ => rfl) (fun _ hy_ => ?_)
    clear hy_
    refine r_ite (fun h_3 => ?_) (fun h_3 => ?_)
    · skip
      refine r_if_ne (tgt := 37) C dX5_beach_31 (by decide) (by decide) (fun h_4 => ?_) (fun h_4 => absurd h_4 (by decide))
      refine r_iload_n C dX5_beach_37 3 rfl ?_
      refine r_aload C dX5_beach_38 0 rfl ?_
      refine gf_3_3 C hi_X5_beach_3 kw_X5_beach_0 dX5_beach_40 2 rfl rfl ?_
      refine r_icmp_ne (tgt := 57) C dX5_beach_43 (by decide) (by omega) (by omega) (fun h_5 => ?_) (fun h_5 => ?_)
      · skip
        refine r_aload C dX5_beach_57 0 rfl ?_
        refine r_iload_n C dX5_beach_59 3 rfl ?_
        refine pf_3_3 (ws2 := [(h0, .inr (5, [.ref s1, .int (iI sc), .ref w0, .ref t0, .ref k0, .ref r0, .int (iI gf), .int (iI gs), .ref rp, .int (iI rc), .ref sh1, .int (iI tc), .int (iI ft)])), (s1, .inl (X.2.1.2.1, 8, .inr (.inr (.inr (.inr sf))))), (sa, .inr (3, [.int (iI wt), .int (iI wd), .int (iI rg), .int (iI v), .int (iI wo)]))]) C hi_X5_beach_3 kw_X5_beach_0 dX5_beach_60 2 rfl rfl rfl (Nat.le_of_ble_eq_true rfl) rfl ?_
        refine r_aload C dX5_beach_63 0 rfl ?_
        refine r_iload_n C dX5_beach_65 4 rfl ?_
        refine pf_3_4 (ws2 := [(h0, .inr (5, [.ref s1, .int (iI sc), .ref w0, .ref t0, .ref k0, .ref r0, .int (iI gf), .int (iI gs), .ref rp, .int (iI rc), .ref sh1, .int (iI tc), .int (iI ft)])), (s1, .inl (X.2.1.2.1, 8, .inr (.inr (.inr (.inr sf))))), (sa, .inr (3, [.int (iI wt), .int (iI wd), .int (iI rg), .int (iI v), .int (iI w)]))]) C hi_X5_beach_3 kw_X5_beach_1 dX5_beach_66 2 rfl rfl rfl (Nat.le_of_ble_eq_true rfl) rfl ?_
        refine r_iconst C dX5_beach_69 ?_
        exact g_ret_i C rfl dX5_beach_70 () trivial (by (repeat' split) <;> first | rfl | omega) [0, 1, 2] rfl (by (repeat' split) <;> first | rfl | omega | (rw [show ly = v by omega, show wo = w by omega] <;> rfl))
      · skip
        refine r_iload_n C dX5_beach_46 4 rfl ?_
        refine r_aload C dX5_beach_47 0 rfl ?_
        refine gf_3_4 C hi_X5_beach_3 kw_X5_beach_1 dX5_beach_49 2 rfl rfl ?_
        refine r_icmp_ne (tgt := 57) C dX5_beach_52 (by decide) (by omega) (by omega) (fun h_6 => ?_) (fun h_6 => ?_)
        · skip
          refine r_aload C dX5_beach_57 0 rfl ?_
          refine r_iload_n C dX5_beach_59 3 rfl ?_
          refine pf_3_3 (ws2 := [(h0, .inr (5, [.ref s1, .int (iI sc), .ref w0, .ref t0, .ref k0, .ref r0, .int (iI gf), .int (iI gs), .ref rp, .int (iI rc), .ref sh1, .int (iI tc), .int (iI ft)])), (s1, .inl (X.2.1.2.1, 8, .inr (.inr (.inr (.inr sf))))), (sa, .inr (3, [.int (iI wt), .int (iI wd), .int (iI rg), .int (iI v), .int (iI wo)]))]) C hi_X5_beach_3 kw_X5_beach_0 dX5_beach_60 2 rfl rfl rfl (Nat.le_of_ble_eq_true rfl) rfl ?_
          refine r_aload C dX5_beach_63 0 rfl ?_
          refine r_iload_n C dX5_beach_65 4 rfl ?_
          refine pf_3_4 (ws2 := [(h0, .inr (5, [.ref s1, .int (iI sc), .ref w0, .ref t0, .ref k0, .ref r0, .int (iI gf), .int (iI gs), .ref rp, .int (iI rc), .ref sh1, .int (iI tc), .int (iI ft)])), (s1, .inl (X.2.1.2.1, 8, .inr (.inr (.inr (.inr sf))))), (sa, .inr (3, [.int (iI wt), .int (iI wd), .int (iI rg), .int (iI v), .int (iI w)]))]) C hi_X5_beach_3 kw_X5_beach_1 dX5_beach_66 2 rfl rfl rfl (Nat.le_of_ble_eq_true rfl) rfl ?_
          refine r_iconst C dX5_beach_69 ?_
          exact g_ret_i C rfl dX5_beach_70 () trivial (by (repeat' split) <;> first | rfl | omega) [0, 1, 2] rfl (by (repeat' split) <;> first | rfl | omega | (rw [show ly = v by omega, show wo = w by omega] <;> rfl))
        · skip
          refine r_iconst C dX5_beach_55 ?_
          exact g_ret_i C rfl dX5_beach_56 () trivial (by (repeat' split) <;> first | rfl | omega) [0, 1, 2] rfl (by (repeat' split) <;> first | rfl | omega | (rw [show ly = v by omega, show wo = w by omega] <;> rfl))
    · skip
      refine r_if_ne (tgt := 37) C dX5_beach_31 (by decide) (by decide) (fun h_7 => absurd h_7 (by decide)) (fun h_7 => ?_)
      refine r_bipush C dX5_beach_34 (by decide) ?_
      exact g_ret_i C rfl dX5_beach_36 () trivial (by (repeat' split) <;> first | rfl | omega) [0, 1, 2] rfl (by (repeat' split) <;> first | rfl | omega | (rw [show ly = v by omega, show wo = w by omega] <;> rfl))
  · skip
    refine r_if_eq (tgt := 34) C dX5_beach_21 (by decide) (by decide) (fun h_8 => ?_) (fun h_8 => absurd h_8 (by decide))
    refine r_bipush C dX5_beach_34 (by decide) ?_
    exact g_ret_i C rfl dX5_beach_36 () trivial (by (repeat' split) <;> first | rfl | omega) [0, 1, 2] rfl (by (repeat' split) <;> first | rfl | omega | (rw [show ly = v by omega, show wo = w by omega] <;> rfl))

set_option maxHeartbeats 4000000 in
set_option maxRecDepth 100000 in
theorem c_X5_beach_out (l : Launch) (X : gX) (h0 : Nat) (s1 : Nat) (w0 : Nat) (t0 : Nat) (k0 : Nat) (r0 : Nat) (rp : Nat) (sh1 : Nat) (sc : Int) (gf : Int) (gs : Int) (rc : Int) (tc : Int) (ft : Int) (sf : Nat → Option Nat) (x : Int) (v : Int) (w : Int) (hx : ¬ (0 ≤ x ∧ x < sc)) (hbx : inB x) (hc : 0 ≤ sc ∧ sc ≤ 8) : gM l yX5_beach wsX5_beach (gr 1 0 0) X [(h0, .inr (5, [.ref s1, .int (iI sc), .ref w0, .ref t0, .ref k0, .ref r0, .int (iI gf), .int (iI gs), .ref rp, .int (iI rc), .ref sh1, .int (iI tc), .int (iI ft)])), (s1, .inl (X.2.1.2.1, 8, .inr (.inr (.inr (.inr sf)))))] [.ref h0, .int (iI x), .int (iI v), .int (iI w)] (gQi X (Y := Unit) (fun _ => True) (fun _ => -1) (fun _ => [(h0, .inr (5, [.ref s1, .int (iI sc), .ref w0, .ref t0, .ref k0, .ref r0, .int (iI gf), .int (iI gs), .ref rp, .int (iI rc), .ref sh1, .int (iI tc), .int (iI ft)])), (s1, .inl (X.2.1.2.1, 8, .inr (.inr (.inr (.inr sf)))))])) 0 0 := by
  refine g_start2 (lo := [(0, .ref h0), (1, .int (iI x)), (2, .int (iI v)), (3, .int (iI w))]) (by decide +kernel) rfl rfl (Nat.le_of_ble_eq_true rfl) (fun p e s m args below meth c A C => ?_)
  refine r_aload_n C dX5_beach_0 0 rfl ?_
  refine r_iload_n C dX5_beach_1 1 rfl ?_
  refine g_V_q (ws2 := (fun _ => [(h0, .inr (5, [.ref s1, .int (iI sc), .ref w0, .ref t0, .ref k0, .ref r0, .int (iI gf), .int (iI gs), .ref rp, .int (iI rc), .ref sh1, .int (iI tc), .int (iI ft)])), (s1, .inl (X.2.1.2.1, 8, .inr (.inr (.inr (.inr sf)))))])) (As := [.int (iI x)]) C (c_X5_stoneAt_out l X h0 s1 w0 t0 k0 r0 rp sh1 sc gf gs rc tc ft sf x (by first | assumption | omega) (by first | assumption | omega) (by first | assumption | omega)) gX5_beach_X5_stoneAt rfl rfl rfl hd_V_X5_stoneAt_X5_beach (by decide) dX5_beach_2 [0, 1] [] [0, 1] rfl rfl rfl rfl (by decide) rfl 0 5 rfl rfl rfl rfl (Nat.le_of_ble_eq_true rfl) (by decide) (fun _ => rfl) (fun _ hy_ => ?_)
  clear hy_
  refine r_astoreN (lo2 := [(4, .null), (0, .ref h0), (1, .int (iI x)), (2, .int (iI v)), (3, .int (iI w))]) C dX5_beach_5 (by decide) rfl ?_
  refine r_aloadN C dX5_beach_7 0 rfl ?_
  refine r_ifnonnullN C dX5_beach_9 ?_
  refine r_iconst C dX5_beach_12 ?_
  exact g_ret_i C rfl dX5_beach_13 () trivial (by (repeat' split) <;> first | rfl | omega) [0, 1] rfl (by (repeat' split) <;> first | rfl | omega)

set_option maxRecDepth 20000 in
theorem kw_X5_isTouch_0 : Cond.fieldLink RX5 38 "SkipStones" "kept" "LSkipStones$Flight;" ∈ wsX5_isTouch := List.mem_of_getElem? (i := 1) rfl
set_option maxRecDepth 20000 in
theorem kw_X5_isTouch_1 : Cond.fieldLink RX5 164 "SkipStones$Flight" "count" "I" ∈ wsX5_isTouch := List.mem_of_getElem? (i := 2) rfl
set_option maxRecDepth 20000 in
theorem hi_X5_isTouch_5 : ∀ w ∈ wsX50, w ∈ wsX5_isTouch := fun _ h => List.mem_cons_of_mem _ (List.mem_append_left _ (List.mem_append_right _ h))
set_option maxRecDepth 20000 in
theorem hi_X5_isTouch_0 : ∀ w ∈ wsX00, w ∈ wsX5_isTouch := fun _ h => List.mem_cons_of_mem _ (List.mem_append_right _ h)
set_option maxHeartbeats 4000000 in
set_option maxRecDepth 100000 in
theorem c_X5_isTouch (l : Launch) (X : gX) (h0 : Nat) (s1 : Nat) (w0 : Nat) (t0 : Nat) (k0 : Nat) (r0 : Nat) (rp : Nat) (sh1 : Nat) (sc : Int) (gf : Int) (gs : Int) (rc : Int) (tc : Int) (ft : Int) (k1 : Nat) (cnt : Int) (xx : Int) (sp : Int) (fa : Int) (sl : Int) (sn : Int) (bt : Int) (Fk : Nat → Int) (k : Int) (hb_k : inB k) (hc : 0 ≤ cnt ∧ cnt ≤ 90) : gM l yX5_isTouch wsX5_isTouch (gr 0 0 0) X [(h0, .inr (5, [.ref s1, .int (iI sc), .ref w0, .ref t0, .ref k0, .ref r0, .int (iI gf), .int (iI gs), .ref rp, .int (iI rc), .ref sh1, .int (iI tc), .int (iI ft)])), (k0, .inr (0, [.ref k1, .int (iI cnt), .int (iI xx), .int (iI sp), .int (iI fa), .int (iI sl), .int (iI sn), .int (iI bt)])), (k1, .inl (X.2.1.1, 810, .inl (iF Fk)))] [.ref h0, .int (iI k)] (gQi X (Y := Unit) (fun _ => True) (fun _ => (if (0 ≤ k ∧ k < cnt) then 1 else 0)) (fun _ => [(h0, .inr (5, [.ref s1, .int (iI sc), .ref w0, .ref t0, .ref k0, .ref r0, .int (iI gf), .int (iI gs), .ref rp, .int (iI rc), .ref sh1, .int (iI tc), .int (iI ft)])), (k0, .inr (0, [.ref k1, .int (iI cnt), .int (iI xx), .int (iI sp), .int (iI fa), .int (iI sl), .int (iI sn), .int (iI bt)])), (k1, .inl (X.2.1.1, 810, .inl (iF Fk)))])) 0 0 := by
  refine g_start2 (lo := [(0, .ref h0), (1, .int (iI k))]) (by decide +kernel) rfl rfl (Nat.le_of_ble_eq_true rfl) (fun p e s m args below meth c A C => ?_)
  refine r_iload_n C dX5_isTouch_0 1 rfl ?_
  refine r_if_lt (tgt := 19) C dX5_isTouch_1 (by decide) (by omega) (fun h_1 => ?_) (fun h_1 => ?_)
  · skip
    refine r_iconst C dX5_isTouch_19 ?_
    exact g_ret_z C rfl (by decide) dX5_isTouch_20 () trivial (by (repeat' split) <;> first | rfl | omega) [0, 1, 2] rfl (by (repeat' split) <;> first | rfl | omega)
  · skip
    refine r_iload_n C dX5_isTouch_4 1 rfl ?_
    refine r_aload_n C dX5_isTouch_5 0 rfl ?_
    refine gf_5_4 C hi_X5_isTouch_5 kw_X5_isTouch_0 dX5_isTouch_6 0 rfl rfl ?_
    refine gf_0_1 C hi_X5_isTouch_0 kw_X5_isTouch_1 dX5_isTouch_9 1 rfl rfl ?_
    refine r_icmp_ge (tgt := 19) C dX5_isTouch_12 (by decide) (by omega) (by omega) (fun h_2 => ?_) (fun h_2 => ?_)
    · skip
      refine r_iconst C dX5_isTouch_19 ?_
      exact g_ret_z C rfl (by decide) dX5_isTouch_20 () trivial (by (repeat' split) <;> first | rfl | omega) [0, 1, 2] rfl (by (repeat' split) <;> first | rfl | omega)
    · skip
      refine r_iconst C dX5_isTouch_15 ?_
      refine r_goto (tgt := 20) C dX5_isTouch_16 (by decide) ?_
      exact g_ret_z C rfl (by decide) dX5_isTouch_20 () trivial (by (repeat' split) <;> first | rfl | omega) [0, 1, 2] rfl (by (repeat' split) <;> first | rfl | omega)

set_option maxRecDepth 20000 in
theorem hd_V_X5_isTouch_X5_touch : yX5_isTouch.cls = yX5_isTouch.cls ∧ yX5_isTouch.cls ≠ "java/lang/invoke/MethodHandle" ∧ yX5_isTouch.cls ≠ "java/lang/invoke/VarHandle" ∧ (parseMethodDescriptor yX5_isTouch.desc).map (fun d => d.parameters.length) = some 1 := by decide +kernel
set_option maxRecDepth 20000 in
theorem hd_S_X5_within_X5_touch : yX5_within.cls ≠ "java/lang/invoke/MethodHandle" ∧ yX5_within.cls ≠ "java/lang/invoke/VarHandle" ∧ (parseMethodDescriptor yX5_within.desc).map (fun d => d.parameters.length) = some 3 := by decide +kernel
set_option maxRecDepth 20000 in
theorem kw_X5_touch_0 : Cond.fieldLink RX5 38 "SkipStones" "kept" "LSkipStones$Flight;" ∈ wsX5_touch := List.mem_of_getElem? (i := 1) rfl
set_option maxRecDepth 20000 in
theorem hd_V_X0_value_X5_touch : yX0_value.cls = yX0_value.cls ∧ yX0_value.cls ≠ "java/lang/invoke/MethodHandle" ∧ yX0_value.cls ≠ "java/lang/invoke/VarHandle" ∧ (parseMethodDescriptor yX0_value.desc).map (fun d => d.parameters.length) = some 2 := by decide +kernel
set_option maxRecDepth 20000 in
theorem hi_X5_touch_5 : ∀ w ∈ wsX50, w ∈ wsX5_touch := fun _ h => List.mem_cons_of_mem _ (List.mem_append_left _ (List.mem_append_right _ h))
set_option maxHeartbeats 4000000 in
set_option maxRecDepth 100000 in
theorem c_X5_touch (l : Launch) (X : gX) (h0 : Nat) (s1 : Nat) (w0 : Nat) (t0 : Nat) (k0 : Nat) (r0 : Nat) (rp : Nat) (sh1 : Nat) (sc : Int) (gf : Int) (gs : Int) (rc : Int) (tc : Int) (ft : Int) (k1 : Nat) (cnt : Int) (xx : Int) (sp : Int) (fa : Int) (sl : Int) (sn : Int) (bt : Int) (Fk : Nat → Int) (k : Int) (w : Int) (hb_k : inB k) (hb_w : inB w) (hc : 0 ≤ cnt ∧ cnt ≤ 90) : gM l yX5_touch wsX5_touch (gr 1 0 0) X [(h0, .inr (5, [.ref s1, .int (iI sc), .ref w0, .ref t0, .ref k0, .ref r0, .int (iI gf), .int (iI gs), .ref rp, .int (iI rc), .ref sh1, .int (iI tc), .int (iI ft)])), (k0, .inr (0, [.ref k1, .int (iI cnt), .int (iI xx), .int (iI sp), .int (iI fa), .int (iI sl), .int (iI sn), .int (iI bt)])), (k1, .inl (X.2.1.1, 810, .inl (iF Fk)))] [.ref h0, .int (iI k), .int (iI w)] (gQi X (Y := Unit) (fun _ => True) (fun _ => (if ¬ (0 ≤ k ∧ k < cnt) then -1 else if ¬ (0 ≤ w ∧ w ≤ 8) then -2 else Fk (Int.toNat (k * 9 + w)))) (fun _ => [(h0, .inr (5, [.ref s1, .int (iI sc), .ref w0, .ref t0, .ref k0, .ref r0, .int (iI gf), .int (iI gs), .ref rp, .int (iI rc), .ref sh1, .int (iI tc), .int (iI ft)])), (k0, .inr (0, [.ref k1, .int (iI cnt), .int (iI xx), .int (iI sp), .int (iI fa), .int (iI sl), .int (iI sn), .int (iI bt)])), (k1, .inl (X.2.1.1, 810, .inl (iF Fk)))])) 0 0 := by
  refine g_start2 (lo := [(0, .ref h0), (1, .int (iI k)), (2, .int (iI w))]) (by decide +kernel) rfl rfl (Nat.le_of_ble_eq_true rfl) (fun p e s m args below meth c A C => ?_)
  refine r_aload_n C dX5_touch_0 0 rfl ?_
  refine r_iload_n C dX5_touch_1 1 rfl ?_
  refine g_V_i (ws2 := (fun _ => [(h0, .inr (5, [.ref s1, .int (iI sc), .ref w0, .ref t0, .ref k0, .ref r0, .int (iI gf), .int (iI gs), .ref rp, .int (iI rc), .ref sh1, .int (iI tc), .int (iI ft)])), (k0, .inr (0, [.ref k1, .int (iI cnt), .int (iI xx), .int (iI sp), .int (iI fa), .int (iI sl), .int (iI sn), .int (iI bt)])), (k1, .inl (X.2.1.1, 810, .inl (iF Fk)))])) (As := [.int (iI k)]) C (c_X5_isTouch l X h0 s1 w0 t0 k0 r0 rp sh1 sc gf gs rc tc ft k1 cnt xx sp fa sl sn bt Fk k (by first | assumption | omega) (by first | assumption | omega)) gX5_touch_X5_isTouch rfl rfl rfl hd_V_X5_isTouch_X5_touch (by decide) dX5_touch_2 [0, 1, 2] [] [0, 1, 2] rfl rfl rfl rfl (by decide) rfl 0 5 rfl rfl rfl rfl (Nat.le_of_ble_eq_true rfl) (by decide) (fun _ => rfl) (fun _ hy_ => ?_)
  clear hy_
  refine r_ite (fun h_1 => ?_) (fun h_1 => ?_)
  · skip
    refine r_if_ne (tgt := 10) C dX5_touch_5 (by decide) (by decide) (fun h_2 => ?_) (fun h_2 => absurd h_2 (by decide))
    refine r_iload_n C dX5_touch_10 2 rfl ?_
    refine r_iconst C dX5_touch_11 ?_
    refine r_bipush C dX5_touch_12 (by decide) ?_
    refine g_S_i (ws2 := (fun _ => [(h0, .inr (5, [.ref s1, .int (iI sc), .ref w0, .ref t0, .ref k0, .ref r0, .int (iI gf), .int (iI gs), .ref rp, .int (iI rc), .ref sh1, .int (iI tc), .int (iI ft)])), (k0, .inr (0, [.ref k1, .int (iI cnt), .int (iI xx), .int (iI sp), .int (iI fa), .int (iI sl), .int (iI sn), .int (iI bt)])), (k1, .inl (X.2.1.1, 810, .inl (iF Fk)))])) (As := [.int (iI w), .int (iI 0), .int (iI 8)]) C (c_X5_within l X w 0 8 (by first | assumption | omega) (by first | assumption | omega) (by first | assumption | omega)) gX5_touch_X5_within rfl rfl rfl hd_S_X5_within_X5_touch (by decide) dX5_touch_14 [] [0, 1, 2] [0, 1, 2] rfl rfl rfl rfl (by decide) rfl rfl rfl (Nat.le_of_ble_eq_true rfl) (by decide) (fun _ => rfl) (fun _ hy_ => ?_)
    clear hy_
    refine r_ite (fun h_3 => ?_) (fun h_3 => ?_)
    · skip
      refine r_if_eq (tgt := 32) C dX5_touch_17 (by decide) (by decide) (fun h_4 => absurd h_4 (by decide)) (fun h_4 => ?_)
      refine r_aload_n C dX5_touch_20 0 rfl ?_
      refine gf_5_4 C hi_X5_touch_5 kw_X5_touch_0 dX5_touch_21 0 rfl rfl ?_
      refine r_iload_n C dX5_touch_24 1 rfl ?_
      refine r_iload_n C dX5_touch_25 2 rfl ?_
      refine g_V_i (ws2 := (fun _ => [(h0, .inr (5, [.ref s1, .int (iI sc), .ref w0, .ref t0, .ref k0, .ref r0, .int (iI gf), .int (iI gs), .ref rp, .int (iI rc), .ref sh1, .int (iI tc), .int (iI ft)])), (k0, .inr (0, [.ref k1, .int (iI cnt), .int (iI xx), .int (iI sp), .int (iI fa), .int (iI sl), .int (iI sn), .int (iI bt)])), (k1, .inl (X.2.1.1, 810, .inl (iF Fk)))])) (As := [.int (iI k), .int (iI w)]) C (c_X0_value l X k0 k1 cnt xx sp fa sl sn bt Fk k w (by first | assumption | omega) (by first | assumption | omega)) gX5_touch_X0_value rfl rfl rfl hd_V_X0_value_X5_touch (by decide) dX5_touch_26 [1, 2] [0] [0, 1, 2] rfl rfl rfl rfl (by decide) rfl 1 0 rfl rfl rfl rfl (Nat.le_of_ble_eq_true rfl) (by decide) (fun _ => rfl) (fun _ hy_ => ?_)
      clear hy_
      refine r_goto (tgt := 34) C dX5_touch_29 (by decide) ?_
      exact g_ret_i C rfl dX5_touch_34 () trivial (by (repeat' split) <;> first | rfl | omega) [0, 1, 2] rfl (by (repeat' split) <;> first | rfl | omega)
    · skip
      refine r_if_eq (tgt := 32) C dX5_touch_17 (by decide) (by decide) (fun h_5 => ?_) (fun h_5 => absurd h_5 (by decide))
      refine r_bipush C dX5_touch_32 (by decide) ?_
      exact g_ret_i C rfl dX5_touch_34 () trivial (by (repeat' split) <;> first | rfl | omega) [0, 1, 2] rfl (by (repeat' split) <;> first | rfl | omega)
  · skip
    refine r_if_ne (tgt := 10) C dX5_touch_5 (by decide) (by decide) (fun h_6 => absurd h_6 (by decide)) (fun h_6 => ?_)
    refine r_iconst C dX5_touch_8 ?_
    exact g_ret_i C rfl dX5_touch_9 () trivial (by (repeat' split) <;> first | rfl | omega) [0, 1, 2] rfl (by (repeat' split) <;> first | rfl | omega)

set_option maxRecDepth 20000 in
theorem hd_S_X5_isJudge_X5_judge : yX5_isJudge.cls ≠ "java/lang/invoke/MethodHandle" ∧ yX5_isJudge.cls ≠ "java/lang/invoke/VarHandle" ∧ (parseMethodDescriptor yX5_isJudge.desc).map (fun d => d.parameters.length) = some 1 := by decide +kernel
set_option maxRecDepth 20000 in
theorem kw_X5_judge_0 : Cond.fieldLink RX5 38 "SkipStones" "kept" "LSkipStones$Flight;" ∈ wsX5_judge := List.mem_of_getElem? (i := 1) rfl
set_option maxRecDepth 20000 in
theorem kw_X5_judge_1 : Cond.fieldLink RX5 164 "SkipStones$Flight" "count" "I" ∈ wsX5_judge := List.mem_of_getElem? (i := 2) rfl
set_option maxRecDepth 20000 in
theorem hd_V_X0_counted_X5_judge : yX0_counted.cls = yX0_counted.cls ∧ yX0_counted.cls ≠ "java/lang/invoke/MethodHandle" ∧ yX0_counted.cls ≠ "java/lang/invoke/VarHandle" ∧ (parseMethodDescriptor yX0_counted.desc).map (fun d => d.parameters.length) = some 1 := by decide +kernel
set_option maxRecDepth 20000 in
theorem hi_X5_judge_5 : ∀ w ∈ wsX50, w ∈ wsX5_judge := fun _ h => List.mem_cons_of_mem _ (List.mem_append_left _ (List.mem_append_right _ h))
set_option maxRecDepth 20000 in
theorem hi_X5_judge_0 : ∀ w ∈ wsX00, w ∈ wsX5_judge := fun _ h => List.mem_cons_of_mem _ (List.mem_append_right _ h)
set_option maxHeartbeats 4000000 in
set_option maxRecDepth 100000 in
theorem c_X5_judge (l : Launch) (X : gX) (h0 : Nat) (s1 : Nat) (w0 : Nat) (t0 : Nat) (k0 : Nat) (r0 : Nat) (rp : Nat) (sh1 : Nat) (sc : Int) (gf : Int) (gs : Int) (rc : Int) (tc : Int) (ft : Int) (k1 : Nat) (cnt : Int) (xx : Int) (sp : Int) (fa : Int) (sl : Int) (sn : Int) (bt : Int) (Fk : Nat → Int) (j : Int) (hb_j : inB j) (hc : 0 ≤ cnt ∧ cnt ≤ 90) (hFk : ∀ i, -1000000 ≤ Fk i ∧ Fk i ≤ 1000000) : gM l yX5_judge wsX5_judge (gr 3 0 0) X [(h0, .inr (5, [.ref s1, .int (iI sc), .ref w0, .ref t0, .ref k0, .ref r0, .int (iI gf), .int (iI gs), .ref rp, .int (iI rc), .ref sh1, .int (iI tc), .int (iI ft)])), (k0, .inr (0, [.ref k1, .int (iI cnt), .int (iI xx), .int (iI sp), .int (iI fa), .int (iI sl), .int (iI sn), .int (iI bt)])), (k1, .inl (X.2.1.1, 810, .inl (iF Fk)))] [.ref h0, .int (iI j)] (gQi X (Y := Unit) (fun _ => True) (fun _ => (if ¬ (0 ≤ j ∧ j ≤ 4) then -1 else if cnt = 0 then -3 else ctV Fk cnt j)) (fun _ => [(h0, .inr (5, [.ref s1, .int (iI sc), .ref w0, .ref t0, .ref k0, .ref r0, .int (iI gf), .int (iI gs), .ref rp, .int (iI rc), .ref sh1, .int (iI tc), .int (iI ft)])), (k0, .inr (0, [.ref k1, .int (iI cnt), .int (iI xx), .int (iI sp), .int (iI fa), .int (iI sl), .int (iI sn), .int (iI bt)])), (k1, .inl (X.2.1.1, 810, .inl (iF Fk)))])) 0 0 := by
  refine g_start2 (lo := [(0, .ref h0), (1, .int (iI j))]) (by decide +kernel) rfl rfl (Nat.le_of_ble_eq_true rfl) (fun p e s m args below meth c A C => ?_)
  refine r_iload_n C dX5_judge_0 1 rfl ?_
  refine g_S_i (ws2 := (fun _ => [(h0, .inr (5, [.ref s1, .int (iI sc), .ref w0, .ref t0, .ref k0, .ref r0, .int (iI gf), .int (iI gs), .ref rp, .int (iI rc), .ref sh1, .int (iI tc), .int (iI ft)])), (k0, .inr (0, [.ref k1, .int (iI cnt), .int (iI xx), .int (iI sp), .int (iI fa), .int (iI sl), .int (iI sn), .int (iI bt)])), (k1, .inl (X.2.1.1, 810, .inl (iF Fk)))])) (As := [.int (iI j)]) C (c_X5_isJudge l X j (by first | assumption | omega)) gX5_judge_X5_isJudge rfl rfl rfl hd_S_X5_isJudge_X5_judge (by decide) dX5_judge_1 [] [0, 1, 2] [0, 1, 2] rfl rfl rfl rfl (by decide) rfl rfl rfl (Nat.le_of_ble_eq_true rfl) (by decide) (fun _ => rfl) (fun _ hy_ => ?_)
  clear hy_
  refine r_ite (fun h_1 => ?_) (fun h_1 => ?_)
  · skip
    refine r_if_ne (tgt := 9) C dX5_judge_4 (by decide) (by decide) (fun h_2 => ?_) (fun h_2 => absurd h_2 (by decide))
    refine r_aload_n C dX5_judge_9 0 rfl ?_
    refine gf_5_4 C hi_X5_judge_5 kw_X5_judge_0 dX5_judge_10 0 rfl rfl ?_
    refine gf_0_1 C hi_X5_judge_0 kw_X5_judge_1 dX5_judge_13 1 rfl rfl ?_
    refine r_if_ne (tgt := 24) C dX5_judge_16 (by decide) (by omega) (fun h_3 => ?_) (fun h_3 => ?_)
    · skip
      refine r_aload_n C dX5_judge_24 0 rfl ?_
      refine gf_5_4 C hi_X5_judge_5 kw_X5_judge_0 dX5_judge_25 0 rfl rfl ?_
      refine r_iload_n C dX5_judge_28 1 rfl ?_
      refine g_V_i (ws2 := (fun _ => [(h0, .inr (5, [.ref s1, .int (iI sc), .ref w0, .ref t0, .ref k0, .ref r0, .int (iI gf), .int (iI gs), .ref rp, .int (iI rc), .ref sh1, .int (iI tc), .int (iI ft)])), (k0, .inr (0, [.ref k1, .int (iI cnt), .int (iI xx), .int (iI sp), .int (iI fa), .int (iI sl), .int (iI sn), .int (iI bt)])), (k1, .inl (X.2.1.1, 810, .inl (iF Fk)))])) (As := [.int (iI j)]) C (c_X0_counted l X k0 k1 cnt xx sp fa sl sn bt Fk j (by first | assumption | omega) (by first | assumption | omega) (by assumption)) gX5_judge_X0_counted rfl rfl rfl hd_V_X0_counted_X5_judge (by decide) dX5_judge_29 [1, 2] [0] [0, 1, 2] rfl rfl rfl rfl (by decide) rfl 1 0 rfl rfl rfl rfl (Nat.le_of_ble_eq_true rfl) (by decide) (fun _ => rfl) (fun _ hy_ => ?_)
      clear hy_
      exact g_ret_i C rfl dX5_judge_32 () trivial (by (repeat' split) <;> first | rfl | omega) [0, 1, 2] rfl (by (repeat' split) <;> first | rfl | omega)
    · skip
      refine r_bipush C dX5_judge_19 (by decide) ?_
      refine r_goto (tgt := 32) C dX5_judge_21 (by decide) ?_
      exact g_ret_i C rfl dX5_judge_32 () trivial (by (repeat' split) <;> first | rfl | omega) [0, 1, 2] rfl (by (repeat' split) <;> first | rfl | omega)
  · skip
    refine r_if_ne (tgt := 9) C dX5_judge_4 (by decide) (by decide) (fun h_4 => absurd h_4 (by decide)) (fun h_4 => ?_)
    refine r_iconst C dX5_judge_7 ?_
    exact g_ret_i C rfl dX5_judge_8 () trivial (by (repeat' split) <;> first | rfl | omega) [0, 1, 2] rfl (by (repeat' split) <;> first | rfl | omega)

set_option maxRecDepth 20000 in
theorem hd_V_X5_leave_X5_tellSunk : yX5_leave.cls = yX5_leave.cls ∧ yX5_leave.cls ≠ "java/lang/invoke/MethodHandle" ∧ yX5_leave.cls ≠ "java/lang/invoke/VarHandle" ∧ (parseMethodDescriptor yX5_leave.desc).map (fun d => d.parameters.length) = some 1 := by decide +kernel
set_option maxRecDepth 20000 in
theorem kw_X5_tellSunk_0 : Cond.fieldLink RX5 38 "SkipStones" "kept" "LSkipStones$Flight;" ∈ wsX5_tellSunk := List.mem_of_getElem? (i := 1) rfl
set_option maxRecDepth 20000 in
theorem hd_V_X0_value_X5_tellSunk : yX0_value.cls = yX0_value.cls ∧ yX0_value.cls ≠ "java/lang/invoke/MethodHandle" ∧ yX0_value.cls ≠ "java/lang/invoke/VarHandle" ∧ (parseMethodDescriptor yX0_value.desc).map (fun d => d.parameters.length) = some 2 := by decide +kernel
set_option maxRecDepth 20000 in
theorem hi_X5_tellSunk_5 : ∀ w ∈ wsX50, w ∈ wsX5_tellSunk := fun _ h => List.mem_cons_of_mem _ (List.mem_append_left _ (List.mem_append_right _ h))
set_option maxHeartbeats 4000000 in
set_option maxRecDepth 100000 in
theorem c_X5_tellSunk (l : Launch) (X : gX) (h0 : Nat) (s1 : Nat) (w0 : Nat) (t0 : Nat) (k0 : Nat) (r0 : Nat) (rp : Nat) (sh1 : Nat) (sc : Int) (gf : Int) (gs : Int) (rc : Int) (tc : Int) (ft : Int) (k1 : Nat) (cnt : Int) (xx : Int) (sp : Int) (fa : Int) (sl : Int) (sn : Int) (bt : Int) (Fk : Nat → Int) (k : Int) (hk : 0 ≤ k ∧ k < cnt ∧ cnt ≤ 90) : gM l yX5_tellSunk wsX5_tellSunk (gr 1 0 0) X [(h0, .inr (5, [.ref s1, .int (iI sc), .ref w0, .ref t0, .ref k0, .ref r0, .int (iI gf), .int (iI gs), .ref rp, .int (iI rc), .ref sh1, .int (iI tc), .int (iI ft)])), (k0, .inr (0, [.ref k1, .int (iI cnt), .int (iI xx), .int (iI sp), .int (iI fa), .int (iI sl), .int (iI sn), .int (iI bt)])), (k1, .inl (X.2.1.1, 810, .inl (iF Fk)))] [.ref h0, .int (iI k)] (gQi X (Y := Unit) (fun _ => True) (fun _ => (Fk (Int.toNat (k * 9 + 1)))) (fun _ => [(h0, .inr (5, [.ref s1, .int (iI sc), .ref w0, .ref t0, .ref k0, .ref r0, .int (iI gf), .int (iI gs), .ref rp, .int (iI rc), .ref sh1, .int (iI ((31 * tc) + 1)), .int (iI ft)])), (k0, .inr (0, [.ref k1, .int (iI cnt), .int (iI xx), .int (iI sp), .int (iI fa), .int (iI sl), .int (iI sn), .int (iI bt)])), (k1, .inl (X.2.1.1, 810, .inl (iF Fk)))])) 0 0 := by
  refine g_start2 (lo := [(0, .ref h0), (1, .int (iI k))]) (by decide +kernel) rfl rfl (Nat.le_of_ble_eq_true rfl) (fun p e s m args below meth c A C => ?_)
  refine r_aload_n C dX5_tellSunk_0 0 rfl ?_
  refine r_iconst C dX5_tellSunk_1 ?_
  refine g_V_v (ws2 := (fun _ => [(h0, .inr (5, [.ref s1, .int (iI sc), .ref w0, .ref t0, .ref k0, .ref r0, .int (iI gf), .int (iI gs), .ref rp, .int (iI rc), .ref sh1, .int (iI ((31 * tc) + 1)), .int (iI ft)])), (k0, .inr (0, [.ref k1, .int (iI cnt), .int (iI xx), .int (iI sp), .int (iI fa), .int (iI sl), .int (iI sn), .int (iI bt)])), (k1, .inl (X.2.1.1, 810, .inl (iF Fk)))])) (As := [.int (iI 1)]) C (c_X5_leave l X h0 s1 w0 t0 k0 r0 rp sh1 sc gf gs rc tc ft 1 ) gX5_tellSunk_X5_leave rfl rfl rfl hd_V_X5_leave_X5_tellSunk (by decide) dX5_tellSunk_2 [0] [1, 2] [2, 0, 1] rfl rfl rfl rfl (by decide) rfl 0 5 rfl rfl rfl rfl (Nat.le_of_ble_eq_true rfl) (by decide) (fun _ => rfl) (fun _ hy_ => ?_)
  clear hy_
  refine r_aload_n C dX5_tellSunk_5 0 rfl ?_
  refine gf_5_4 C hi_X5_tellSunk_5 kw_X5_tellSunk_0 dX5_tellSunk_6 0 rfl rfl ?_
  refine r_iload_n C dX5_tellSunk_9 1 rfl ?_
  refine r_iconst C dX5_tellSunk_10 ?_
  refine g_V_i (ws2 := (fun _ => [(h0, .inr (5, [.ref s1, .int (iI sc), .ref w0, .ref t0, .ref k0, .ref r0, .int (iI gf), .int (iI gs), .ref rp, .int (iI rc), .ref sh1, .int (iI ((31 * tc) + 1)), .int (iI ft)])), (k0, .inr (0, [.ref k1, .int (iI cnt), .int (iI xx), .int (iI sp), .int (iI fa), .int (iI sl), .int (iI sn), .int (iI bt)])), (k1, .inl (X.2.1.1, 810, .inl (iF Fk)))])) (As := [.int (iI k), .int (iI 1)]) C (c_X0_value l X k0 k1 cnt xx sp fa sl sn bt Fk k 1 (by first | assumption | omega) (by first | assumption | omega)) gX5_tellSunk_X0_value rfl rfl rfl hd_V_X0_value_X5_tellSunk (by decide) dX5_tellSunk_11 [1, 2] [0] [0, 1, 2] rfl rfl rfl rfl (by decide) rfl 1 0 rfl rfl rfl rfl (Nat.le_of_ble_eq_true rfl) (by decide) (fun _ => rfl) (fun _ hy_ => ?_)
  clear hy_
  exact g_ret_i C rfl dX5_tellSunk_14 () trivial (by first | rfl | omega | ((repeat' split) <;> first | rfl | omega)) [0, 1, 2] rfl rfl

set_option maxRecDepth 20000 in
theorem hd_V_X5_leave_X5_tellClean : yX5_leave.cls = yX5_leave.cls ∧ yX5_leave.cls ≠ "java/lang/invoke/MethodHandle" ∧ yX5_leave.cls ≠ "java/lang/invoke/VarHandle" ∧ (parseMethodDescriptor yX5_leave.desc).map (fun d => d.parameters.length) = some 1 := by decide +kernel
set_option maxRecDepth 20000 in
theorem hd_V_X5_tellSunk_X5_tellClean : yX5_tellSunk.cls = yX5_tellSunk.cls ∧ yX5_tellSunk.cls ≠ "java/lang/invoke/MethodHandle" ∧ yX5_tellSunk.cls ≠ "java/lang/invoke/VarHandle" ∧ (parseMethodDescriptor yX5_tellSunk.desc).map (fun d => d.parameters.length) = some 1 := by decide +kernel
set_option maxHeartbeats 4000000 in
set_option maxRecDepth 100000 in
theorem c_X5_tellClean (l : Launch) (X : gX) (h0 : Nat) (s1 : Nat) (w0 : Nat) (t0 : Nat) (k0 : Nat) (r0 : Nat) (rp : Nat) (sh1 : Nat) (sc : Int) (gf : Int) (gs : Int) (rc : Int) (tc : Int) (ft : Int) (k1 : Nat) (cnt : Int) (xx : Int) (sp : Int) (fa : Int) (sl : Int) (sn : Int) (bt : Int) (Fk : Nat → Int) (k : Int) (hk : 0 ≤ k ∧ k < cnt ∧ cnt ≤ 90) : gM l yX5_tellClean wsX5_tellClean (gr 2 0 0) X [(h0, .inr (5, [.ref s1, .int (iI sc), .ref w0, .ref t0, .ref k0, .ref r0, .int (iI gf), .int (iI gs), .ref rp, .int (iI rc), .ref sh1, .int (iI tc), .int (iI ft)])), (k0, .inr (0, [.ref k1, .int (iI cnt), .int (iI xx), .int (iI sp), .int (iI fa), .int (iI sl), .int (iI sn), .int (iI bt)])), (k1, .inl (X.2.1.1, 810, .inl (iF Fk)))] [.ref h0, .int (iI k)] (gQi X (Y := Unit) (fun _ => True) (fun _ => ((Fk (Int.toNat (k * 9 + 1))) + 1000)) (fun _ => [(h0, .inr (5, [.ref s1, .int (iI sc), .ref w0, .ref t0, .ref k0, .ref r0, .int (iI gf), .int (iI gs), .ref rp, .int (iI rc), .ref sh1, .int (iI ((31 * ((31 * tc) + 2)) + 1)), .int (iI ft)])), (k0, .inr (0, [.ref k1, .int (iI cnt), .int (iI xx), .int (iI sp), .int (iI fa), .int (iI sl), .int (iI sn), .int (iI bt)])), (k1, .inl (X.2.1.1, 810, .inl (iF Fk)))])) 0 0 := by
  refine g_start2 (lo := [(0, .ref h0), (1, .int (iI k))]) (by decide +kernel) rfl rfl (Nat.le_of_ble_eq_true rfl) (fun p e s m args below meth c A C => ?_)
  refine r_aload_n C dX5_tellClean_0 0 rfl ?_
  refine r_iconst C dX5_tellClean_1 ?_
  refine g_V_v (ws2 := (fun _ => [(h0, .inr (5, [.ref s1, .int (iI sc), .ref w0, .ref t0, .ref k0, .ref r0, .int (iI gf), .int (iI gs), .ref rp, .int (iI rc), .ref sh1, .int (iI ((31 * tc) + 2)), .int (iI ft)])), (k0, .inr (0, [.ref k1, .int (iI cnt), .int (iI xx), .int (iI sp), .int (iI fa), .int (iI sl), .int (iI sn), .int (iI bt)])), (k1, .inl (X.2.1.1, 810, .inl (iF Fk)))])) (As := [.int (iI 2)]) C (c_X5_leave l X h0 s1 w0 t0 k0 r0 rp sh1 sc gf gs rc tc ft 2 ) gX5_tellClean_X5_leave rfl rfl rfl hd_V_X5_leave_X5_tellClean (by decide) dX5_tellClean_2 [0] [1, 2] [2, 0, 1] rfl rfl rfl rfl (by decide) rfl 0 5 rfl rfl rfl rfl (Nat.le_of_ble_eq_true rfl) (by decide) (fun _ => rfl) (fun _ hy_ => ?_)
  clear hy_
  refine r_aload_n C dX5_tellClean_5 0 rfl ?_
  refine r_iload_n C dX5_tellClean_6 1 rfl ?_
  refine g_V_i (ws2 := (fun _ => [(h0, .inr (5, [.ref s1, .int (iI sc), .ref w0, .ref t0, .ref k0, .ref r0, .int (iI gf), .int (iI gs), .ref rp, .int (iI rc), .ref sh1, .int (iI ((31 * ((31 * tc) + 2)) + 1)), .int (iI ft)])), (k0, .inr (0, [.ref k1, .int (iI cnt), .int (iI xx), .int (iI sp), .int (iI fa), .int (iI sl), .int (iI sn), .int (iI bt)])), (k1, .inl (X.2.1.1, 810, .inl (iF Fk)))])) (As := [.int (iI k)]) C (c_X5_tellSunk l X h0 s1 w0 t0 k0 r0 rp sh1 sc gf gs rc ((31 * tc) + 2) ft k1 cnt xx sp fa sl sn bt Fk k (by first | assumption | omega)) gX5_tellClean_X5_tellSunk rfl rfl rfl hd_V_X5_tellSunk_X5_tellClean (by decide) dX5_tellClean_7 [0, 1, 2] [] [0, 1, 2] rfl rfl rfl rfl (by decide) rfl 0 5 rfl rfl rfl rfl (Nat.le_of_ble_eq_true rfl) (by decide) (fun _ => rfl) (fun _ hy_ => ?_)
  clear hy_
  refine r_sipush C dX5_tellClean_10 (by decide) ?_
  refine r_iadd C dX5_tellClean_13 ?_
  exact g_ret_i C rfl dX5_tellClean_14 () trivial (by first | rfl | omega | ((repeat' split) <;> first | rfl | omega)) [0, 1, 2] rfl rfl

set_option maxRecDepth 20000 in
theorem hd_V_X5_leave_X5_tellSkating : yX5_leave.cls = yX5_leave.cls ∧ yX5_leave.cls ≠ "java/lang/invoke/MethodHandle" ∧ yX5_leave.cls ≠ "java/lang/invoke/VarHandle" ∧ (parseMethodDescriptor yX5_leave.desc).map (fun d => d.parameters.length) = some 1 := by decide +kernel
set_option maxRecDepth 20000 in
theorem hd_V_X5_tellClean_X5_tellSkating : yX5_tellClean.cls = yX5_tellClean.cls ∧ yX5_tellClean.cls ≠ "java/lang/invoke/MethodHandle" ∧ yX5_tellClean.cls ≠ "java/lang/invoke/VarHandle" ∧ (parseMethodDescriptor yX5_tellClean.desc).map (fun d => d.parameters.length) = some 1 := by decide +kernel
set_option maxRecDepth 20000 in
theorem hd_V_X5_tellSunk_X5_tellSkating : yX5_tellSunk.cls = yX5_tellSunk.cls ∧ yX5_tellSunk.cls ≠ "java/lang/invoke/MethodHandle" ∧ yX5_tellSunk.cls ≠ "java/lang/invoke/VarHandle" ∧ (parseMethodDescriptor yX5_tellSunk.desc).map (fun d => d.parameters.length) = some 1 := by decide +kernel
set_option maxHeartbeats 4000000 in
set_option maxRecDepth 100000 in
theorem c_X5_tellSkating (l : Launch) (X : gX) (h0 : Nat) (s1 : Nat) (w0 : Nat) (t0 : Nat) (k0 : Nat) (r0 : Nat) (rp : Nat) (sh1 : Nat) (sc : Int) (gf : Int) (gs : Int) (rc : Int) (tc : Int) (ft : Int) (k1 : Nat) (cnt : Int) (xx : Int) (sp : Int) (fa : Int) (sl : Int) (sn : Int) (bt : Int) (Fk : Nat → Int) (k : Int) (hk : 0 ≤ k ∧ k < cnt ∧ cnt ≤ 90) : gM l yX5_tellSkating wsX5_tellSkating (gr 3 0 0) X [(h0, .inr (5, [.ref s1, .int (iI sc), .ref w0, .ref t0, .ref k0, .ref r0, .int (iI gf), .int (iI gs), .ref rp, .int (iI rc), .ref sh1, .int (iI tc), .int (iI ft)])), (k0, .inr (0, [.ref k1, .int (iI cnt), .int (iI xx), .int (iI sp), .int (iI fa), .int (iI sl), .int (iI sn), .int (iI bt)])), (k1, .inl (X.2.1.1, 810, .inl (iF Fk)))] [.ref h0, .int (iI k)] (gQi X (Y := Unit) (fun _ => True) (fun _ => (((Fk (Int.toNat (k * 9 + 1))) + 1000) + (Fk (Int.toNat (k * 9 + 1))))) (fun _ => [(h0, .inr (5, [.ref s1, .int (iI sc), .ref w0, .ref t0, .ref k0, .ref r0, .int (iI gf), .int (iI gs), .ref rp, .int (iI rc), .ref sh1, .int (iI ((31 * ((31 * ((31 * ((31 * tc) + 3)) + 2)) + 1)) + 1)), .int (iI ft)])), (k0, .inr (0, [.ref k1, .int (iI cnt), .int (iI xx), .int (iI sp), .int (iI fa), .int (iI sl), .int (iI sn), .int (iI bt)])), (k1, .inl (X.2.1.1, 810, .inl (iF Fk)))])) 0 0 := by
  refine g_start2 (lo := [(0, .ref h0), (1, .int (iI k))]) (by decide +kernel) rfl rfl (Nat.le_of_ble_eq_true rfl) (fun p e s m args below meth c A C => ?_)
  refine r_aload_n C dX5_tellSkating_0 0 rfl ?_
  refine r_iconst C dX5_tellSkating_1 ?_
  refine g_V_v (ws2 := (fun _ => [(h0, .inr (5, [.ref s1, .int (iI sc), .ref w0, .ref t0, .ref k0, .ref r0, .int (iI gf), .int (iI gs), .ref rp, .int (iI rc), .ref sh1, .int (iI ((31 * tc) + 3)), .int (iI ft)])), (k0, .inr (0, [.ref k1, .int (iI cnt), .int (iI xx), .int (iI sp), .int (iI fa), .int (iI sl), .int (iI sn), .int (iI bt)])), (k1, .inl (X.2.1.1, 810, .inl (iF Fk)))])) (As := [.int (iI 3)]) C (c_X5_leave l X h0 s1 w0 t0 k0 r0 rp sh1 sc gf gs rc tc ft 3 ) gX5_tellSkating_X5_leave rfl rfl rfl hd_V_X5_leave_X5_tellSkating (by decide) dX5_tellSkating_2 [0] [1, 2] [2, 0, 1] rfl rfl rfl rfl (by decide) rfl 0 5 rfl rfl rfl rfl (Nat.le_of_ble_eq_true rfl) (by decide) (fun _ => rfl) (fun _ hy_ => ?_)
  clear hy_
  refine r_aload_n C dX5_tellSkating_5 0 rfl ?_
  refine r_iload_n C dX5_tellSkating_6 1 rfl ?_
  refine g_V_i (ws2 := (fun _ => [(h0, .inr (5, [.ref s1, .int (iI sc), .ref w0, .ref t0, .ref k0, .ref r0, .int (iI gf), .int (iI gs), .ref rp, .int (iI rc), .ref sh1, .int (iI ((31 * ((31 * ((31 * tc) + 3)) + 2)) + 1)), .int (iI ft)])), (k0, .inr (0, [.ref k1, .int (iI cnt), .int (iI xx), .int (iI sp), .int (iI fa), .int (iI sl), .int (iI sn), .int (iI bt)])), (k1, .inl (X.2.1.1, 810, .inl (iF Fk)))])) (As := [.int (iI k)]) C (c_X5_tellClean l X h0 s1 w0 t0 k0 r0 rp sh1 sc gf gs rc ((31 * tc) + 3) ft k1 cnt xx sp fa sl sn bt Fk k (by first | assumption | omega)) gX5_tellSkating_X5_tellClean rfl rfl rfl hd_V_X5_tellClean_X5_tellSkating (by decide) dX5_tellSkating_7 [0, 1, 2] [] [0, 1, 2] rfl rfl rfl rfl (by decide) rfl 0 5 rfl rfl rfl rfl (Nat.le_of_ble_eq_true rfl) (by decide) (fun _ => rfl) (fun _ hy_ => ?_)
  clear hy_
  refine r_istore_n (lo2 := [(2, .int (iI ((Fk (Int.toNat ((k * 9) + 1))) + 1000))), (0, .ref h0), (1, .int (iI k))]) C dX5_tellSkating_10 rfl (by decide) rfl ?_
  refine r_iload_n C dX5_tellSkating_11 0 rfl ?_
  refine r_aload_n C dX5_tellSkating_12 1 rfl ?_
  refine r_iload_n C dX5_tellSkating_13 2 rfl ?_
  refine g_V_i (ws2 := (fun _ => [(h0, .inr (5, [.ref s1, .int (iI sc), .ref w0, .ref t0, .ref k0, .ref r0, .int (iI gf), .int (iI gs), .ref rp, .int (iI rc), .ref sh1, .int (iI ((31 * ((31 * ((31 * ((31 * tc) + 3)) + 2)) + 1)) + 1)), .int (iI ft)])), (k0, .inr (0, [.ref k1, .int (iI cnt), .int (iI xx), .int (iI sp), .int (iI fa), .int (iI sl), .int (iI sn), .int (iI bt)])), (k1, .inl (X.2.1.1, 810, .inl (iF Fk)))])) (As := [.int (iI k)]) C (c_X5_tellSunk l X h0 s1 w0 t0 k0 r0 rp sh1 sc gf gs rc ((31 * ((31 * ((31 * tc) + 3)) + 2)) + 1) ft k1 cnt xx sp fa sl sn bt Fk k (by first | assumption | omega)) gX5_tellSkating_X5_tellSunk rfl rfl rfl hd_V_X5_tellSunk_X5_tellSkating (by decide) dX5_tellSkating_14 [0, 1, 2] [] [0, 1, 2] rfl rfl rfl rfl (by decide) rfl 0 5 rfl rfl rfl rfl (Nat.le_of_ble_eq_true rfl) (by decide) (fun _ => rfl) (fun _ hy_ => ?_)
  clear hy_
  refine r_iadd C dX5_tellSkating_17 ?_
  exact g_ret_i C rfl dX5_tellSkating_18 () trivial (by first | rfl | omega | ((repeat' split) <;> first | rfl | omega)) [0, 1, 2] rfl rfl

set_option maxRecDepth 20000 in
theorem hd_V_X5_leave_X5_tellSteep : yX5_leave.cls = yX5_leave.cls ∧ yX5_leave.cls ≠ "java/lang/invoke/MethodHandle" ∧ yX5_leave.cls ≠ "java/lang/invoke/VarHandle" ∧ (parseMethodDescriptor yX5_leave.desc).map (fun d => d.parameters.length) = some 1 := by decide +kernel
set_option maxRecDepth 20000 in
theorem hd_V_X5_tellClean_X5_tellSteep : yX5_tellClean.cls = yX5_tellClean.cls ∧ yX5_tellClean.cls ≠ "java/lang/invoke/MethodHandle" ∧ yX5_tellClean.cls ≠ "java/lang/invoke/VarHandle" ∧ (parseMethodDescriptor yX5_tellClean.desc).map (fun d => d.parameters.length) = some 1 := by decide +kernel
set_option maxHeartbeats 4000000 in
set_option maxRecDepth 100000 in
theorem c_X5_tellSteep (l : Launch) (X : gX) (h0 : Nat) (s1 : Nat) (w0 : Nat) (t0 : Nat) (k0 : Nat) (r0 : Nat) (rp : Nat) (sh1 : Nat) (sc : Int) (gf : Int) (gs : Int) (rc : Int) (tc : Int) (ft : Int) (k1 : Nat) (cnt : Int) (xx : Int) (sp : Int) (fa : Int) (sl : Int) (sn : Int) (bt : Int) (Fk : Nat → Int) (k : Int) (hk : 0 ≤ k ∧ k < cnt ∧ cnt ≤ 90) : gM l yX5_tellSteep wsX5_tellSteep (gr 3 0 0) X [(h0, .inr (5, [.ref s1, .int (iI sc), .ref w0, .ref t0, .ref k0, .ref r0, .int (iI gf), .int (iI gs), .ref rp, .int (iI rc), .ref sh1, .int (iI tc), .int (iI ft)])), (k0, .inr (0, [.ref k1, .int (iI cnt), .int (iI xx), .int (iI sp), .int (iI fa), .int (iI sl), .int (iI sn), .int (iI bt)])), (k1, .inl (X.2.1.1, 810, .inl (iF Fk)))] [.ref h0, .int (iI k)] (gQi X (Y := Unit) (fun _ => True) (fun _ => (((Fk (Int.toNat (k * 9 + 1))) + 1000) + 5000)) (fun _ => [(h0, .inr (5, [.ref s1, .int (iI sc), .ref w0, .ref t0, .ref k0, .ref r0, .int (iI gf), .int (iI gs), .ref rp, .int (iI rc), .ref sh1, .int (iI ((31 * ((31 * ((31 * tc) + 6)) + 2)) + 1)), .int (iI ft)])), (k0, .inr (0, [.ref k1, .int (iI cnt), .int (iI xx), .int (iI sp), .int (iI fa), .int (iI sl), .int (iI sn), .int (iI bt)])), (k1, .inl (X.2.1.1, 810, .inl (iF Fk)))])) 0 0 := by
  refine g_start2 (lo := [(0, .ref h0), (1, .int (iI k))]) (by decide +kernel) rfl rfl (Nat.le_of_ble_eq_true rfl) (fun p e s m args below meth c A C => ?_)
  refine r_aload_n C dX5_tellSteep_0 0 rfl ?_
  refine r_bipush C dX5_tellSteep_1 (by decide) ?_
  refine g_V_v (ws2 := (fun _ => [(h0, .inr (5, [.ref s1, .int (iI sc), .ref w0, .ref t0, .ref k0, .ref r0, .int (iI gf), .int (iI gs), .ref rp, .int (iI rc), .ref sh1, .int (iI ((31 * tc) + 6)), .int (iI ft)])), (k0, .inr (0, [.ref k1, .int (iI cnt), .int (iI xx), .int (iI sp), .int (iI fa), .int (iI sl), .int (iI sn), .int (iI bt)])), (k1, .inl (X.2.1.1, 810, .inl (iF Fk)))])) (As := [.int (iI 6)]) C (c_X5_leave l X h0 s1 w0 t0 k0 r0 rp sh1 sc gf gs rc tc ft 6 ) gX5_tellSteep_X5_leave rfl rfl rfl hd_V_X5_leave_X5_tellSteep (by decide) dX5_tellSteep_3 [0] [1, 2] [2, 0, 1] rfl rfl rfl rfl (by decide) rfl 0 5 rfl rfl rfl rfl (Nat.le_of_ble_eq_true rfl) (by decide) (fun _ => rfl) (fun _ hy_ => ?_)
  clear hy_
  refine r_aload_n C dX5_tellSteep_6 0 rfl ?_
  refine r_iload_n C dX5_tellSteep_7 1 rfl ?_
  refine g_V_i (ws2 := (fun _ => [(h0, .inr (5, [.ref s1, .int (iI sc), .ref w0, .ref t0, .ref k0, .ref r0, .int (iI gf), .int (iI gs), .ref rp, .int (iI rc), .ref sh1, .int (iI ((31 * ((31 * ((31 * tc) + 6)) + 2)) + 1)), .int (iI ft)])), (k0, .inr (0, [.ref k1, .int (iI cnt), .int (iI xx), .int (iI sp), .int (iI fa), .int (iI sl), .int (iI sn), .int (iI bt)])), (k1, .inl (X.2.1.1, 810, .inl (iF Fk)))])) (As := [.int (iI k)]) C (c_X5_tellClean l X h0 s1 w0 t0 k0 r0 rp sh1 sc gf gs rc ((31 * tc) + 6) ft k1 cnt xx sp fa sl sn bt Fk k (by first | assumption | omega)) gX5_tellSteep_X5_tellClean rfl rfl rfl hd_V_X5_tellClean_X5_tellSteep (by decide) dX5_tellSteep_8 [0, 1, 2] [] [0, 1, 2] rfl rfl rfl rfl (by decide) rfl 0 5 rfl rfl rfl rfl (Nat.le_of_ble_eq_true rfl) (by decide) (fun _ => rfl) (fun _ hy_ => ?_)
  clear hy_
  refine r_sipush C dX5_tellSteep_11 (by decide) ?_
  refine r_iadd C dX5_tellSteep_14 ?_
  exact g_ret_i C rfl dX5_tellSteep_15 () trivial (by first | rfl | omega | ((repeat' split) <;> first | rfl | omega)) [0, 1, 2] rfl rfl

set_option maxRecDepth 20000 in
theorem hd_V_X5_isTouch_X5_tell : yX5_isTouch.cls = yX5_isTouch.cls ∧ yX5_isTouch.cls ≠ "java/lang/invoke/MethodHandle" ∧ yX5_isTouch.cls ≠ "java/lang/invoke/VarHandle" ∧ (parseMethodDescriptor yX5_isTouch.desc).map (fun d => d.parameters.length) = some 1 := by decide +kernel
set_option maxRecDepth 20000 in
theorem kw_X5_tell_0 : Cond.fieldLink RX5 38 "SkipStones" "kept" "LSkipStones$Flight;" ∈ wsX5_tell := List.mem_of_getElem? (i := 1) rfl
set_option maxRecDepth 20000 in
theorem hd_V_X0_value_X5_tell : yX0_value.cls = yX0_value.cls ∧ yX0_value.cls ≠ "java/lang/invoke/MethodHandle" ∧ yX0_value.cls ≠ "java/lang/invoke/VarHandle" ∧ (parseMethodDescriptor yX0_value.desc).map (fun d => d.parameters.length) = some 2 := by decide +kernel
set_option maxRecDepth 20000 in
theorem hd_V_X5_tellClean_X5_tell : yX5_tellClean.cls = yX5_tellClean.cls ∧ yX5_tellClean.cls ≠ "java/lang/invoke/MethodHandle" ∧ yX5_tellClean.cls ≠ "java/lang/invoke/VarHandle" ∧ (parseMethodDescriptor yX5_tellClean.desc).map (fun d => d.parameters.length) = some 1 := by decide +kernel
set_option maxRecDepth 20000 in
theorem hd_V_X5_tellSkating_X5_tell : yX5_tellSkating.cls = yX5_tellSkating.cls ∧ yX5_tellSkating.cls ≠ "java/lang/invoke/MethodHandle" ∧ yX5_tellSkating.cls ≠ "java/lang/invoke/VarHandle" ∧ (parseMethodDescriptor yX5_tellSkating.desc).map (fun d => d.parameters.length) = some 1 := by decide +kernel
set_option maxRecDepth 20000 in
theorem hd_V_X5_tellSteep_X5_tell : yX5_tellSteep.cls = yX5_tellSteep.cls ∧ yX5_tellSteep.cls ≠ "java/lang/invoke/MethodHandle" ∧ yX5_tellSteep.cls ≠ "java/lang/invoke/VarHandle" ∧ (parseMethodDescriptor yX5_tellSteep.desc).map (fun d => d.parameters.length) = some 1 := by decide +kernel
set_option maxRecDepth 20000 in
theorem hd_V_X5_tellSunk_X5_tell : yX5_tellSunk.cls = yX5_tellSunk.cls ∧ yX5_tellSunk.cls ≠ "java/lang/invoke/MethodHandle" ∧ yX5_tellSunk.cls ≠ "java/lang/invoke/VarHandle" ∧ (parseMethodDescriptor yX5_tellSunk.desc).map (fun d => d.parameters.length) = some 1 := by decide +kernel
set_option maxRecDepth 20000 in
theorem hi_X5_tell_5 : ∀ w ∈ wsX50, w ∈ wsX5_tell := fun _ h => List.mem_cons_of_mem _ (List.mem_append_left _ (List.mem_append_right _ h))
set_option maxHeartbeats 4000000 in
set_option maxRecDepth 100000 in
theorem c_X5_tell (l : Launch) (X : gX) (h0 : Nat) (s1 : Nat) (w0 : Nat) (t0 : Nat) (k0 : Nat) (r0 : Nat) (rp : Nat) (sh1 : Nat) (sc : Int) (gf : Int) (gs : Int) (rc : Int) (tc : Int) (ft : Int) (k1 : Nat) (cnt : Int) (xx : Int) (sp : Int) (fa : Int) (sl : Int) (sn : Int) (bt : Int) (Fk : Nat → Int) (k : Int) (hb_k : inB k) (hc : 0 ≤ cnt ∧ cnt ≤ 90) (hFk : ∀ i, -1000000 ≤ Fk i ∧ Fk i ≤ 1000000) : gM l yX5_tell wsX5_tell (gr 4 0 0) X [(h0, .inr (5, [.ref s1, .int (iI sc), .ref w0, .ref t0, .ref k0, .ref r0, .int (iI gf), .int (iI gs), .ref rp, .int (iI rc), .ref sh1, .int (iI tc), .int (iI ft)])), (k0, .inr (0, [.ref k1, .int (iI cnt), .int (iI xx), .int (iI sp), .int (iI fa), .int (iI sl), .int (iI sn), .int (iI bt)])), (k1, .inl (X.2.1.1, 810, .inl (iF Fk)))] [.ref h0, .int (iI k)] (gQi X (Y := Unit) (fun _ => True) (fun _ => (if ¬ (0 ≤ k ∧ k < cnt) then -1 else if (Fk (Int.toNat (k * 9 + 0))) = 1 then (Fk (Int.toNat (k * 9 + 1))) + 1000 else if (Fk (Int.toNat (k * 9 + 0))) = 2 then (Fk (Int.toNat (k * 9 + 1))) + 1000 + (Fk (Int.toNat (k * 9 + 1))) else if (Fk (Int.toNat (k * 9 + 0))) = 3 then (Fk (Int.toNat (k * 9 + 1))) + 1000 + 5000 else (Fk (Int.toNat (k * 9 + 1))))) (fun _ => [(h0, .inr (5, [.ref s1, .int (iI sc), .ref w0, .ref t0, .ref k0, .ref r0, .int (iI gf), .int (iI gs), .ref rp, .int (iI rc), .ref sh1, .int (iI (if ¬ (0 ≤ k ∧ k < cnt) then tc else if (Fk (Int.toNat (k * 9 + 0))) = 1 then 31 * (31 * tc + 2) + 1 else if (Fk (Int.toNat (k * 9 + 0))) = 2 then 31 * (31 * (31 * (31 * tc + 3) + 2) + 1) + 1 else if (Fk (Int.toNat (k * 9 + 0))) = 3 then 31 * (31 * (31 * tc + 6) + 2) + 1 else 31 * tc + 1)), .int (iI ft)])), (k0, .inr (0, [.ref k1, .int (iI cnt), .int (iI xx), .int (iI sp), .int (iI fa), .int (iI sl), .int (iI sn), .int (iI bt)])), (k1, .inl (X.2.1.1, 810, .inl (iF Fk)))])) 0 0 := by
  refine g_start2 (lo := [(0, .ref h0), (1, .int (iI k))]) (by decide +kernel) rfl rfl (Nat.le_of_ble_eq_true rfl) (fun p e s m args below meth c A C => ?_)
  refine r_aload_n C dX5_tell_0 0 rfl ?_
  refine r_iload_n C dX5_tell_1 1 rfl ?_
  refine g_V_i (ws2 := (fun _ => [(h0, .inr (5, [.ref s1, .int (iI sc), .ref w0, .ref t0, .ref k0, .ref r0, .int (iI gf), .int (iI gs), .ref rp, .int (iI rc), .ref sh1, .int (iI tc), .int (iI ft)])), (k0, .inr (0, [.ref k1, .int (iI cnt), .int (iI xx), .int (iI sp), .int (iI fa), .int (iI sl), .int (iI sn), .int (iI bt)])), (k1, .inl (X.2.1.1, 810, .inl (iF Fk)))])) (As := [.int (iI k)]) C (c_X5_isTouch l X h0 s1 w0 t0 k0 r0 rp sh1 sc gf gs rc tc ft k1 cnt xx sp fa sl sn bt Fk k (by first | assumption | omega) (by first | assumption | omega)) gX5_tell_X5_isTouch rfl rfl rfl hd_V_X5_isTouch_X5_tell (by decide) dX5_tell_2 [0, 1, 2] [] [0, 1, 2] rfl rfl rfl rfl (by decide) rfl 0 5 rfl rfl rfl rfl (Nat.le_of_ble_eq_true rfl) (by decide) (fun _ => rfl) (fun _ hy_ => ?_)
  clear hy_
  refine r_ite (fun h_1 => ?_) (fun h_1 => ?_)
  · skip
    refine r_if_ne (tgt := 10) C dX5_tell_5 (by decide) (by decide) (fun h_2 => ?_) (fun h_2 => absurd h_2 (by decide))
    refine r_aload_n C dX5_tell_10 0 rfl ?_
    refine gf_5_4 C hi_X5_tell_5 kw_X5_tell_0 dX5_tell_11 0 rfl rfl ?_
    refine r_iload_n C dX5_tell_14 1 rfl ?_
    refine r_iconst C dX5_tell_15 ?_
    refine g_V_i (ws2 := (fun _ => [(h0, .inr (5, [.ref s1, .int (iI sc), .ref w0, .ref t0, .ref k0, .ref r0, .int (iI gf), .int (iI gs), .ref rp, .int (iI rc), .ref sh1, .int (iI tc), .int (iI ft)])), (k0, .inr (0, [.ref k1, .int (iI cnt), .int (iI xx), .int (iI sp), .int (iI fa), .int (iI sl), .int (iI sn), .int (iI bt)])), (k1, .inl (X.2.1.1, 810, .inl (iF Fk)))])) (As := [.int (iI k), .int (iI 0)]) C (c_X0_value l X k0 k1 cnt xx sp fa sl sn bt Fk k 0 (by first | assumption | omega) (by first | assumption | omega)) gX5_tell_X0_value rfl rfl rfl hd_V_X0_value_X5_tell (by decide) dX5_tell_16 [1, 2] [0] [0, 1, 2] rfl rfl rfl rfl (by decide) rfl 1 0 rfl rfl rfl rfl (Nat.le_of_ble_eq_true rfl) (by decide) (fun _ => rfl) (fun _ hy_ => ?_)
    clear hy_
    by_cases h_3 : (Fk (Int.toNat ((k * 9) + 0))) = 1
    · refine r_tabIn (tgt := 44) C dX5_tell_19 1 h_3 (by decide) rfl (by decide) ?_
      refine r_aload_n C dX5_tell_44 0 rfl ?_
      refine r_iload_n C dX5_tell_45 1 rfl ?_
      refine g_V_i (ws2 := (fun _ => [(h0, .inr (5, [.ref s1, .int (iI sc), .ref w0, .ref t0, .ref k0, .ref r0, .int (iI gf), .int (iI gs), .ref rp, .int (iI rc), .ref sh1, .int (iI ((31 * ((31 * tc) + 2)) + 1)), .int (iI ft)])), (k0, .inr (0, [.ref k1, .int (iI cnt), .int (iI xx), .int (iI sp), .int (iI fa), .int (iI sl), .int (iI sn), .int (iI bt)])), (k1, .inl (X.2.1.1, 810, .inl (iF Fk)))])) (As := [.int (iI k)]) C (c_X5_tellClean l X h0 s1 w0 t0 k0 r0 rp sh1 sc gf gs rc tc ft k1 cnt xx sp fa sl sn bt Fk k (by first | assumption | omega)) gX5_tell_X5_tellClean rfl rfl rfl hd_V_X5_tellClean_X5_tell (by decide) dX5_tell_46 [0, 1, 2] [] [0, 1, 2] rfl rfl rfl rfl (by decide) rfl 0 5 rfl rfl rfl rfl (Nat.le_of_ble_eq_true rfl) (by decide) (fun _ => rfl) (fun _ hy_ => ?_)
      clear hy_
      exact g_ret_i C rfl dX5_tell_49 () trivial (by (repeat' split) <;> first | rfl | omega) [0, 1, 2] rfl (by (repeat' split) <;> first | rfl | omega)
    by_cases h_4 : (Fk (Int.toNat ((k * 9) + 0))) = 2
    · refine r_tabIn (tgt := 50) C dX5_tell_19 2 h_4 (by decide) rfl (by decide) ?_
      refine r_aload_n C dX5_tell_50 0 rfl ?_
      refine r_iload_n C dX5_tell_51 1 rfl ?_
      refine g_V_i (ws2 := (fun _ => [(h0, .inr (5, [.ref s1, .int (iI sc), .ref w0, .ref t0, .ref k0, .ref r0, .int (iI gf), .int (iI gs), .ref rp, .int (iI rc), .ref sh1, .int (iI ((31 * ((31 * ((31 * ((31 * tc) + 3)) + 2)) + 1)) + 1)), .int (iI ft)])), (k0, .inr (0, [.ref k1, .int (iI cnt), .int (iI xx), .int (iI sp), .int (iI fa), .int (iI sl), .int (iI sn), .int (iI bt)])), (k1, .inl (X.2.1.1, 810, .inl (iF Fk)))])) (As := [.int (iI k)]) C (c_X5_tellSkating l X h0 s1 w0 t0 k0 r0 rp sh1 sc gf gs rc tc ft k1 cnt xx sp fa sl sn bt Fk k (by first | assumption | omega)) gX5_tell_X5_tellSkating rfl rfl rfl hd_V_X5_tellSkating_X5_tell (by decide) dX5_tell_52 [0, 1, 2] [] [0, 1, 2] rfl rfl rfl rfl (by decide) rfl 0 5 rfl rfl rfl rfl (Nat.le_of_ble_eq_true rfl) (by decide) (fun _ => rfl) (fun _ hy_ => ?_)
      clear hy_
      exact g_ret_i C rfl dX5_tell_55 () trivial (by (repeat' split) <;> first | rfl | omega) [0, 1, 2] rfl (by (repeat' split) <;> first | rfl | omega)
    by_cases h_5 : (Fk (Int.toNat ((k * 9) + 0))) = 3
    · refine r_tabIn (tgt := 56) C dX5_tell_19 3 h_5 (by decide) rfl (by decide) ?_
      refine r_aload_n C dX5_tell_56 0 rfl ?_
      refine r_iload_n C dX5_tell_57 1 rfl ?_
      refine g_V_i (ws2 := (fun _ => [(h0, .inr (5, [.ref s1, .int (iI sc), .ref w0, .ref t0, .ref k0, .ref r0, .int (iI gf), .int (iI gs), .ref rp, .int (iI rc), .ref sh1, .int (iI ((31 * ((31 * ((31 * tc) + 6)) + 2)) + 1)), .int (iI ft)])), (k0, .inr (0, [.ref k1, .int (iI cnt), .int (iI xx), .int (iI sp), .int (iI fa), .int (iI sl), .int (iI sn), .int (iI bt)])), (k1, .inl (X.2.1.1, 810, .inl (iF Fk)))])) (As := [.int (iI k)]) C (c_X5_tellSteep l X h0 s1 w0 t0 k0 r0 rp sh1 sc gf gs rc tc ft k1 cnt xx sp fa sl sn bt Fk k (by first | assumption | omega)) gX5_tell_X5_tellSteep rfl rfl rfl hd_V_X5_tellSteep_X5_tell (by decide) dX5_tell_58 [0, 1, 2] [] [0, 1, 2] rfl rfl rfl rfl (by decide) rfl 0 5 rfl rfl rfl rfl (Nat.le_of_ble_eq_true rfl) (by decide) (fun _ => rfl) (fun _ hy_ => ?_)
      clear hy_
      exact g_ret_i C rfl dX5_tell_61 () trivial (by (repeat' split) <;> first | rfl | omega) [0, 1, 2] rfl (by (repeat' split) <;> first | rfl | omega)
    refine r_tabOut (tgt := 62) C dX5_tell_19 (by have := hFk (Int.toNat ((k * 9) + 0)); omega) (by omega) (by decide) ?_
    refine r_aload_n C dX5_tell_62 0 rfl ?_
    refine r_iload_n C dX5_tell_63 1 rfl ?_
    refine g_V_i (ws2 := (fun _ => [(h0, .inr (5, [.ref s1, .int (iI sc), .ref w0, .ref t0, .ref k0, .ref r0, .int (iI gf), .int (iI gs), .ref rp, .int (iI rc), .ref sh1, .int (iI ((31 * tc) + 1)), .int (iI ft)])), (k0, .inr (0, [.ref k1, .int (iI cnt), .int (iI xx), .int (iI sp), .int (iI fa), .int (iI sl), .int (iI sn), .int (iI bt)])), (k1, .inl (X.2.1.1, 810, .inl (iF Fk)))])) (As := [.int (iI k)]) C (c_X5_tellSunk l X h0 s1 w0 t0 k0 r0 rp sh1 sc gf gs rc tc ft k1 cnt xx sp fa sl sn bt Fk k (by first | assumption | omega)) gX5_tell_X5_tellSunk rfl rfl rfl hd_V_X5_tellSunk_X5_tell (by decide) dX5_tell_64 [0, 1, 2] [] [0, 1, 2] rfl rfl rfl rfl (by decide) rfl 0 5 rfl rfl rfl rfl (Nat.le_of_ble_eq_true rfl) (by decide) (fun _ => rfl) (fun _ hy_ => ?_)
    clear hy_
    exact g_ret_i C rfl dX5_tell_67 () trivial (by (repeat' split) <;> first | rfl | omega) [0, 1, 2] rfl (by (repeat' split) <;> first | rfl | omega)
  · skip
    refine r_if_ne (tgt := 10) C dX5_tell_5 (by decide) (by decide) (fun h_6 => absurd h_6 (by decide)) (fun h_6 => ?_)
    refine r_iconst C dX5_tell_8 ?_
    exact g_ret_i C rfl dX5_tell_9 () trivial (by (repeat' split) <;> first | rfl | omega) [0, 1, 2] rfl (by (repeat' split) <;> first | rfl | omega)

set_option maxRecDepth 20000 in
theorem hd_V_X5_isTouch_X5_hear : yX5_isTouch.cls = yX5_isTouch.cls ∧ yX5_isTouch.cls ≠ "java/lang/invoke/MethodHandle" ∧ yX5_isTouch.cls ≠ "java/lang/invoke/VarHandle" ∧ (parseMethodDescriptor yX5_isTouch.desc).map (fun d => d.parameters.length) = some 1 := by decide +kernel
set_option maxRecDepth 20000 in
theorem kw_X5_hear_0 : Cond.fieldLink RX5 38 "SkipStones" "kept" "LSkipStones$Flight;" ∈ wsX5_hear := List.mem_of_getElem? (i := 1) rfl
set_option maxRecDepth 20000 in
theorem hd_V_X0_value_X5_hear : yX0_value.cls = yX0_value.cls ∧ yX0_value.cls ≠ "java/lang/invoke/MethodHandle" ∧ yX0_value.cls ≠ "java/lang/invoke/VarHandle" ∧ (parseMethodDescriptor yX0_value.desc).map (fun d => d.parameters.length) = some 2 := by decide +kernel
set_option maxRecDepth 20000 in
theorem hd_V_X5_leave_X5_hear : yX5_leave.cls = yX5_leave.cls ∧ yX5_leave.cls ≠ "java/lang/invoke/MethodHandle" ∧ yX5_leave.cls ≠ "java/lang/invoke/VarHandle" ∧ (parseMethodDescriptor yX5_leave.desc).map (fun d => d.parameters.length) = some 1 := by decide +kernel
set_option maxRecDepth 20000 in
theorem hi_X5_hear_5 : ∀ w ∈ wsX50, w ∈ wsX5_hear := fun _ h => List.mem_cons_of_mem _ (List.mem_append_left _ (List.mem_append_right _ h))
set_option maxHeartbeats 4000000 in
set_option maxRecDepth 100000 in
theorem c_X5_hear (l : Launch) (X : gX) (h0 : Nat) (s1 : Nat) (w0 : Nat) (t0 : Nat) (k0 : Nat) (r0 : Nat) (rp : Nat) (sh1 : Nat) (sc : Int) (gf : Int) (gs : Int) (rc : Int) (tc : Int) (ft : Int) (k1 : Nat) (cnt : Int) (xx : Int) (sp : Int) (fa : Int) (sl : Int) (sn : Int) (bt : Int) (Fk : Nat → Int) (k : Int) (hb_k : inB k) (hc : 0 ≤ cnt ∧ cnt ≤ 90) (hFk : ∀ i, -1000000 ≤ Fk i ∧ Fk i ≤ 1000000) : gM l yX5_hear wsX5_hear (gr 1 0 0) X [(h0, .inr (5, [.ref s1, .int (iI sc), .ref w0, .ref t0, .ref k0, .ref r0, .int (iI gf), .int (iI gs), .ref rp, .int (iI rc), .ref sh1, .int (iI tc), .int (iI ft)])), (k0, .inr (0, [.ref k1, .int (iI cnt), .int (iI xx), .int (iI sp), .int (iI fa), .int (iI sl), .int (iI sn), .int (iI bt)])), (k1, .inl (X.2.1.1, 810, .inl (iF Fk)))] [.ref h0, .int (iI k)] (gQi X (Y := Unit) (fun _ => True) (fun _ => (if ¬ (0 ≤ k ∧ k < cnt) then -1 else if (Fk (Int.toNat (k * 9 + 0))) = 2 then 60 else k)) (fun _ => [(h0, .inr (5, [.ref s1, .int (iI sc), .ref w0, .ref t0, .ref k0, .ref r0, .int (iI gf), .int (iI gs), .ref rp, .int (iI rc), .ref sh1, .int (iI (if ¬ (0 ≤ k ∧ k < cnt) then tc else if (Fk (Int.toNat (k * 9 + 0))) = 2 then 31 * tc + 5 else 31 * tc + 4)), .int (iI ft)])), (k0, .inr (0, [.ref k1, .int (iI cnt), .int (iI xx), .int (iI sp), .int (iI fa), .int (iI sl), .int (iI sn), .int (iI bt)])), (k1, .inl (X.2.1.1, 810, .inl (iF Fk)))])) 0 0 := by
  refine g_start2 (lo := [(0, .ref h0), (1, .int (iI k))]) (by decide +kernel) rfl rfl (Nat.le_of_ble_eq_true rfl) (fun p e s m args below meth c A C => ?_)
  refine r_aload_n C dX5_hear_0 0 rfl ?_
  refine r_iload_n C dX5_hear_1 1 rfl ?_
  refine g_V_i (ws2 := (fun _ => [(h0, .inr (5, [.ref s1, .int (iI sc), .ref w0, .ref t0, .ref k0, .ref r0, .int (iI gf), .int (iI gs), .ref rp, .int (iI rc), .ref sh1, .int (iI tc), .int (iI ft)])), (k0, .inr (0, [.ref k1, .int (iI cnt), .int (iI xx), .int (iI sp), .int (iI fa), .int (iI sl), .int (iI sn), .int (iI bt)])), (k1, .inl (X.2.1.1, 810, .inl (iF Fk)))])) (As := [.int (iI k)]) C (c_X5_isTouch l X h0 s1 w0 t0 k0 r0 rp sh1 sc gf gs rc tc ft k1 cnt xx sp fa sl sn bt Fk k (by first | assumption | omega) (by first | assumption | omega)) gX5_hear_X5_isTouch rfl rfl rfl hd_V_X5_isTouch_X5_hear (by decide) dX5_hear_2 [0, 1, 2] [] [0, 1, 2] rfl rfl rfl rfl (by decide) rfl 0 5 rfl rfl rfl rfl (Nat.le_of_ble_eq_true rfl) (by decide) (fun _ => rfl) (fun _ hy_ => ?_)
  clear hy_
  refine r_ite (fun h_1 => ?_) (fun h_1 => ?_)
  · skip
    refine r_if_ne (tgt := 10) C dX5_hear_5 (by decide) (by decide) (fun h_2 => ?_) (fun h_2 => absurd h_2 (by decide))
    refine r_aload_n C dX5_hear_10 0 rfl ?_
    refine gf_5_4 C hi_X5_hear_5 kw_X5_hear_0 dX5_hear_11 0 rfl rfl ?_
    refine r_iload_n C dX5_hear_14 1 rfl ?_
    refine r_iconst C dX5_hear_15 ?_
    refine g_V_i (ws2 := (fun _ => [(h0, .inr (5, [.ref s1, .int (iI sc), .ref w0, .ref t0, .ref k0, .ref r0, .int (iI gf), .int (iI gs), .ref rp, .int (iI rc), .ref sh1, .int (iI tc), .int (iI ft)])), (k0, .inr (0, [.ref k1, .int (iI cnt), .int (iI xx), .int (iI sp), .int (iI fa), .int (iI sl), .int (iI sn), .int (iI bt)])), (k1, .inl (X.2.1.1, 810, .inl (iF Fk)))])) (As := [.int (iI k), .int (iI 0)]) C (c_X0_value l X k0 k1 cnt xx sp fa sl sn bt Fk k 0 (by first | assumption | omega) (by first | assumption | omega)) gX5_hear_X0_value rfl rfl rfl hd_V_X0_value_X5_hear (by decide) dX5_hear_16 [1, 2] [0] [0, 1, 2] rfl rfl rfl rfl (by decide) rfl 1 0 rfl rfl rfl rfl (Nat.le_of_ble_eq_true rfl) (by decide) (fun _ => rfl) (fun _ hy_ => ?_)
    clear hy_
    refine r_iconst C dX5_hear_19 ?_
    refine r_icmp_ne (tgt := 31) C dX5_hear_20 (by decide) (by have := hFk (Int.toNat ((k * 9) + 0)); omega) (by decide) (fun h_3 => ?_) (fun h_3 => ?_)
    · skip
      refine r_aload_n C dX5_hear_31 0 rfl ?_
      refine r_iconst C dX5_hear_32 ?_
      refine g_V_v (ws2 := (fun _ => [(h0, .inr (5, [.ref s1, .int (iI sc), .ref w0, .ref t0, .ref k0, .ref r0, .int (iI gf), .int (iI gs), .ref rp, .int (iI rc), .ref sh1, .int (iI ((31 * tc) + 4)), .int (iI ft)])), (k0, .inr (0, [.ref k1, .int (iI cnt), .int (iI xx), .int (iI sp), .int (iI fa), .int (iI sl), .int (iI sn), .int (iI bt)])), (k1, .inl (X.2.1.1, 810, .inl (iF Fk)))])) (As := [.int (iI 4)]) C (c_X5_leave l X h0 s1 w0 t0 k0 r0 rp sh1 sc gf gs rc tc ft 4 ) gX5_hear_X5_leave rfl rfl rfl hd_V_X5_leave_X5_hear (by decide) dX5_hear_33 [0] [1, 2] [2, 0, 1] rfl rfl rfl rfl (by decide) rfl 0 5 rfl rfl rfl rfl (Nat.le_of_ble_eq_true rfl) (by decide) (fun _ => rfl) (fun _ hy_ => ?_)
      clear hy_
      refine r_iload_n C dX5_hear_36 1 rfl ?_
      exact g_ret_i C rfl dX5_hear_37 () trivial (by (repeat' split) <;> first | rfl | omega) [0, 1, 2] rfl (by (repeat' split) <;> first | rfl | omega)
    · skip
      refine r_aload_n C dX5_hear_23 0 rfl ?_
      refine r_iconst C dX5_hear_24 ?_
      refine g_V_v (ws2 := (fun _ => [(h0, .inr (5, [.ref s1, .int (iI sc), .ref w0, .ref t0, .ref k0, .ref r0, .int (iI gf), .int (iI gs), .ref rp, .int (iI rc), .ref sh1, .int (iI ((31 * tc) + 5)), .int (iI ft)])), (k0, .inr (0, [.ref k1, .int (iI cnt), .int (iI xx), .int (iI sp), .int (iI fa), .int (iI sl), .int (iI sn), .int (iI bt)])), (k1, .inl (X.2.1.1, 810, .inl (iF Fk)))])) (As := [.int (iI 5)]) C (c_X5_leave l X h0 s1 w0 t0 k0 r0 rp sh1 sc gf gs rc tc ft 5 ) gX5_hear_X5_leave rfl rfl rfl hd_V_X5_leave_X5_hear (by decide) dX5_hear_25 [0] [1, 2] [2, 0, 1] rfl rfl rfl rfl (by decide) rfl 0 5 rfl rfl rfl rfl (Nat.le_of_ble_eq_true rfl) (by decide) (fun _ => rfl) (fun _ hy_ => ?_)
      clear hy_
      refine r_bipush C dX5_hear_28 (by decide) ?_
      exact g_ret_i C rfl dX5_hear_30 () trivial (by (repeat' split) <;> first | rfl | omega) [0, 1, 2] rfl (by (repeat' split) <;> first | rfl | omega)
  · skip
    refine r_if_ne (tgt := 10) C dX5_hear_5 (by decide) (by decide) (fun h_4 => absurd h_4 (by decide)) (fun h_4 => ?_)
    refine r_iconst C dX5_hear_8 ?_
    exact g_ret_i C rfl dX5_hear_9 () trivial (by (repeat' split) <;> first | rfl | omega) [0, 1, 2] rfl (by (repeat' split) <;> first | rfl | omega)

set_option maxRecDepth 20000 in
theorem kw_X5_as_0 : Cond.fieldLink RX5 67 "SkipStones" "lastFault" "I" ∈ wsX5_as := List.mem_of_getElem? (i := 1) rfl
set_option maxRecDepth 20000 in
theorem hd_V_X5_isTouch_X5_as : yX5_isTouch.cls = yX5_isTouch.cls ∧ yX5_isTouch.cls ≠ "java/lang/invoke/MethodHandle" ∧ yX5_isTouch.cls ≠ "java/lang/invoke/VarHandle" ∧ (parseMethodDescriptor yX5_isTouch.desc).map (fun d => d.parameters.length) = some 1 := by decide +kernel
set_option maxRecDepth 20000 in
theorem hd_S_X5_within_X5_as : yX5_within.cls ≠ "java/lang/invoke/MethodHandle" ∧ yX5_within.cls ≠ "java/lang/invoke/VarHandle" ∧ (parseMethodDescriptor yX5_within.desc).map (fun d => d.parameters.length) = some 3 := by decide +kernel
set_option maxRecDepth 20000 in
theorem kw_X5_as_1 : Cond.fieldLink RX5 38 "SkipStones" "kept" "LSkipStones$Flight;" ∈ wsX5_as := List.mem_of_getElem? (i := 2) rfl
set_option maxRecDepth 20000 in
theorem hd_V_X0_value_X5_as : yX0_value.cls = yX0_value.cls ∧ yX0_value.cls ≠ "java/lang/invoke/MethodHandle" ∧ yX0_value.cls ≠ "java/lang/invoke/VarHandle" ∧ (parseMethodDescriptor yX0_value.desc).map (fun d => d.parameters.length) = some 2 := by decide +kernel
set_option maxRecDepth 20000 in
theorem hd_V_X5_faulted_X5_as : yX5_faulted.cls = yX5_faulted.cls ∧ yX5_faulted.cls ≠ "java/lang/invoke/MethodHandle" ∧ yX5_faulted.cls ≠ "java/lang/invoke/VarHandle" ∧ (parseMethodDescriptor yX5_faulted.desc).map (fun d => d.parameters.length) = some 1 := by decide +kernel
set_option maxRecDepth 20000 in
theorem hi_X5_as_5 : ∀ w ∈ wsX50, w ∈ wsX5_as := fun _ h => List.mem_cons_of_mem _ (List.mem_append_left _ (List.mem_append_right _ h))
set_option maxHeartbeats 4000000 in
set_option maxRecDepth 100000 in
theorem c_X5_as (l : Launch) (X : gX) (h0 : Nat) (s1 : Nat) (w0 : Nat) (t0 : Nat) (k0 : Nat) (r0 : Nat) (rp : Nat) (sh1 : Nat) (sc : Int) (gf : Int) (gs : Int) (rc : Int) (tc : Int) (ft : Int) (k1 : Nat) (cnt : Int) (xx : Int) (sp : Int) (fa : Int) (sl : Int) (sn : Int) (bt : Int) (Fk : Nat → Int) (k : Int) (w : Int) (hb_k : inB k) (hb_w : inB w) (hc : 0 ≤ cnt ∧ cnt ≤ 90) (hFk : ∀ i, -1000000 ≤ Fk i ∧ Fk i ≤ 1000000) : gM l yX5_as wsX5_as (gr 1 0 0) X [(h0, .inr (5, [.ref s1, .int (iI sc), .ref w0, .ref t0, .ref k0, .ref r0, .int (iI gf), .int (iI gs), .ref rp, .int (iI rc), .ref sh1, .int (iI tc), .int (iI ft)])), (k0, .inr (0, [.ref k1, .int (iI cnt), .int (iI xx), .int (iI sp), .int (iI fa), .int (iI sl), .int (iI sn), .int (iI bt)])), (k1, .inl (X.2.1.1, 810, .inl (iF Fk)))] [.ref h0, .int (iI k), .int (iI w)] (gQi X (Y := Unit) (fun _ => True) (fun _ => (if ¬ (0 ≤ k ∧ k < cnt) then -1 else if ¬ (0 ≤ w ∧ w ≤ 3) then -2 else if (w = 0 ∨ w = (Fk (Int.toNat (k * 9 + 0))) ∨ (w = 1 ∧ ¬ (Fk (Int.toNat (k * 9 + 0))) = 0)) then 1 else -12)) (fun _ => [(h0, .inr (5, [.ref s1, .int (iI sc), .ref w0, .ref t0, .ref k0, .ref r0, .int (iI gf), .int (iI gs), .ref rp, .int (iI rc), .ref sh1, .int (iI tc), .int (iI (if ¬ (0 ≤ k ∧ k < cnt) then 0 else if ¬ (0 ≤ w ∧ w ≤ 3) then 0 else if (w = 0 ∨ w = (Fk (Int.toNat (k * 9 + 0))) ∨ (w = 1 ∧ ¬ (Fk (Int.toNat (k * 9 + 0))) = 0)) then 0 else 2))])), (k0, .inr (0, [.ref k1, .int (iI cnt), .int (iI xx), .int (iI sp), .int (iI fa), .int (iI sl), .int (iI sn), .int (iI bt)])), (k1, .inl (X.2.1.1, 810, .inl (iF Fk)))])) 0 0 := by
  refine g_start2 (lo := [(0, .ref h0), (1, .int (iI k)), (2, .int (iI w))]) (by decide +kernel) rfl rfl (Nat.le_of_ble_eq_true rfl) (fun p e s m args below meth c A C => ?_)
  refine r_aload_n C dX5_as_0 0 rfl ?_
  refine r_iconst C dX5_as_1 ?_
  refine pf_5_12 (ws2 := [(h0, .inr (5, [.ref s1, .int (iI sc), .ref w0, .ref t0, .ref k0, .ref r0, .int (iI gf), .int (iI gs), .ref rp, .int (iI rc), .ref sh1, .int (iI tc), .int (iI 0)])), (k0, .inr (0, [.ref k1, .int (iI cnt), .int (iI xx), .int (iI sp), .int (iI fa), .int (iI sl), .int (iI sn), .int (iI bt)])), (k1, .inl (X.2.1.1, 810, .inl (iF Fk)))]) C hi_X5_as_5 kw_X5_as_0 dX5_as_2 0 rfl rfl rfl (Nat.le_of_ble_eq_true rfl) rfl ?_
  refine r_aload_n C dX5_as_5 0 rfl ?_
  refine r_iload_n C dX5_as_6 1 rfl ?_
  refine g_V_i (ws2 := (fun _ => [(h0, .inr (5, [.ref s1, .int (iI sc), .ref w0, .ref t0, .ref k0, .ref r0, .int (iI gf), .int (iI gs), .ref rp, .int (iI rc), .ref sh1, .int (iI tc), .int (iI 0)])), (k0, .inr (0, [.ref k1, .int (iI cnt), .int (iI xx), .int (iI sp), .int (iI fa), .int (iI sl), .int (iI sn), .int (iI bt)])), (k1, .inl (X.2.1.1, 810, .inl (iF Fk)))])) (As := [.int (iI k)]) C (c_X5_isTouch l X h0 s1 w0 t0 k0 r0 rp sh1 sc gf gs rc tc 0 k1 cnt xx sp fa sl sn bt Fk k (by first | assumption | omega) (by first | assumption | omega)) gX5_as_X5_isTouch rfl rfl rfl hd_V_X5_isTouch_X5_as (by decide) dX5_as_7 [0, 1, 2] [] [0, 1, 2] rfl rfl rfl rfl (by decide) rfl 0 5 rfl rfl rfl rfl (Nat.le_of_ble_eq_true rfl) (by decide) (fun _ => rfl) (fun _ hy_ => ?_)
  clear hy_
  refine r_ite (fun h_1 => ?_) (fun h_1 => ?_)
  · skip
    refine r_if_ne (tgt := 15) C dX5_as_10 (by decide) (by decide) (fun h_2 => ?_) (fun h_2 => absurd h_2 (by decide))
    refine r_iload_n C dX5_as_15 2 rfl ?_
    refine r_iconst C dX5_as_16 ?_
    refine r_iconst C dX5_as_17 ?_
    refine g_S_i (ws2 := (fun _ => [(h0, .inr (5, [.ref s1, .int (iI sc), .ref w0, .ref t0, .ref k0, .ref r0, .int (iI gf), .int (iI gs), .ref rp, .int (iI rc), .ref sh1, .int (iI tc), .int (iI 0)])), (k0, .inr (0, [.ref k1, .int (iI cnt), .int (iI xx), .int (iI sp), .int (iI fa), .int (iI sl), .int (iI sn), .int (iI bt)])), (k1, .inl (X.2.1.1, 810, .inl (iF Fk)))])) (As := [.int (iI w), .int (iI 0), .int (iI 3)]) C (c_X5_within l X w 0 3 (by first | assumption | omega) (by first | assumption | omega) (by first | assumption | omega)) gX5_as_X5_within rfl rfl rfl hd_S_X5_within_X5_as (by decide) dX5_as_18 [] [0, 1, 2] [0, 1, 2] rfl rfl rfl rfl (by decide) rfl rfl rfl (Nat.le_of_ble_eq_true rfl) (by decide) (fun _ => rfl) (fun _ hy_ => ?_)
    clear hy_
    refine r_ite (fun h_3 => ?_) (fun h_3 => ?_)
    · skip
      refine r_if_ne (tgt := 27) C dX5_as_21 (by decide) (by decide) (fun h_4 => ?_) (fun h_4 => absurd h_4 (by decide))
      refine r_aload_n C dX5_as_27 0 rfl ?_
      refine gf_5_4 C hi_X5_as_5 kw_X5_as_1 dX5_as_28 0 rfl rfl ?_
      refine r_iload_n C dX5_as_31 1 rfl ?_
      refine r_iconst C dX5_as_32 ?_
      refine g_V_i (ws2 := (fun _ => [(h0, .inr (5, [.ref s1, .int (iI sc), .ref w0, .ref t0, .ref k0, .ref r0, .int (iI gf), .int (iI gs), .ref rp, .int (iI rc), .ref sh1, .int (iI tc), .int (iI 0)])), (k0, .inr (0, [.ref k1, .int (iI cnt), .int (iI xx), .int (iI sp), .int (iI fa), .int (iI sl), .int (iI sn), .int (iI bt)])), (k1, .inl (X.2.1.1, 810, .inl (iF Fk)))])) (As := [.int (iI k), .int (iI 0)]) C (c_X0_value l X k0 k1 cnt xx sp fa sl sn bt Fk k 0 (by first | assumption | omega) (by first | assumption | omega)) gX5_as_X0_value rfl rfl rfl hd_V_X0_value_X5_as (by decide) dX5_as_33 [1, 2] [0] [0, 1, 2] rfl rfl rfl rfl (by decide) rfl 1 0 rfl rfl rfl rfl (Nat.le_of_ble_eq_true rfl) (by decide) (fun _ => rfl) (fun _ hy_ => ?_)
      clear hy_
      refine r_istore_n (lo2 := [(3, .int (iI (Fk (Int.toNat ((k * 9) + 0))))), (0, .ref h0), (1, .int (iI k)), (2, .int (iI w))]) C dX5_as_36 rfl (by decide) rfl ?_
      refine r_iload_n C dX5_as_37 3 rfl ?_
      refine r_if_eq (tgt := 55) C dX5_as_38 (by decide) (by omega) (fun h_5 => ?_) (fun h_5 => ?_)
      · skip
        refine r_iconst C dX5_as_55 ?_
        refine r_goto (tgt := 60) C dX5_as_56 (by decide) ?_
        refine r_istore (lo2 := [(4, .int (iI 1)), (3, .int (iI (Fk (Int.toNat ((k * 9) + 0))))), (0, .ref h0), (1, .int (iI k)), (2, .int (iI w))]) C dX5_as_60 (by decide) rfl ?_
        refine r_iload C dX5_as_62 0 rfl ?_
        refine r_if_eq (tgt := 71) C dX5_as_64 (by decide) (by decide) (fun h_6 => absurd h_6 (by decide)) (fun h_6 => ?_)
        refine r_iconst C dX5_as_67 ?_
        refine r_goto (tgt := 76) C dX5_as_68 (by decide) ?_
        exact g_ret_i C rfl dX5_as_76 () trivial (by (repeat' split) <;> first | rfl | omega) [0, 1, 2] rfl (by (repeat' split) <;> first | rfl | omega)
      · skip
        refine r_iload_n C dX5_as_41 3 rfl ?_
        refine r_iload_n C dX5_as_42 0 rfl ?_
        refine r_icmp_eq (tgt := 55) C dX5_as_43 (by decide) (by omega) (by have := hFk (Int.toNat ((k * 9) + 0)); omega) (fun h_7 => ?_) (fun h_7 => ?_)
        · skip
          refine r_iconst C dX5_as_55 ?_
          refine r_goto (tgt := 60) C dX5_as_56 (by decide) ?_
          refine r_istore (lo2 := [(4, .int (iI 1)), (3, .int (iI (Fk (Int.toNat ((k * 9) + 0))))), (0, .ref h0), (1, .int (iI k)), (2, .int (iI w))]) C dX5_as_60 (by decide) rfl ?_
          refine r_iload C dX5_as_62 0 rfl ?_
          refine r_if_eq (tgt := 71) C dX5_as_64 (by decide) (by decide) (fun h_8 => absurd h_8 (by decide)) (fun h_8 => ?_)
          refine r_iconst C dX5_as_67 ?_
          refine r_goto (tgt := 76) C dX5_as_68 (by decide) ?_
          exact g_ret_i C rfl dX5_as_76 () trivial (by (repeat' split) <;> first | rfl | omega) [0, 1, 2] rfl (by (repeat' split) <;> first | rfl | omega)
        · skip
          refine r_iload_n C dX5_as_46 3 rfl ?_
          refine r_iconst C dX5_as_47 ?_
          refine r_icmp_ne (tgt := 59) C dX5_as_48 (by decide) (by omega) (by decide) (fun h_9 => ?_) (fun h_9 => ?_)
          · skip
            refine r_iconst C dX5_as_59 ?_
            refine r_istore (lo2 := [(4, .int (iI 0)), (3, .int (iI (Fk (Int.toNat ((k * 9) + 0))))), (0, .ref h0), (1, .int (iI k)), (2, .int (iI w))]) C dX5_as_60 (by decide) rfl ?_
            refine r_iload C dX5_as_62 0 rfl ?_
            refine r_if_eq (tgt := 71) C dX5_as_64 (by decide) (by decide) (fun h_10 => ?_) (fun h_10 => absurd h_10 (by decide))
            refine r_aload_n C dX5_as_71 2 rfl ?_
            refine r_iconst C dX5_as_72 ?_
            refine g_V_i (ws2 := (fun _ => [(h0, .inr (5, [.ref s1, .int (iI sc), .ref w0, .ref t0, .ref k0, .ref r0, .int (iI gf), .int (iI gs), .ref rp, .int (iI rc), .ref sh1, .int (iI tc), .int (iI 2)])), (k0, .inr (0, [.ref k1, .int (iI cnt), .int (iI xx), .int (iI sp), .int (iI fa), .int (iI sl), .int (iI sn), .int (iI bt)])), (k1, .inl (X.2.1.1, 810, .inl (iF Fk)))])) (As := [.int (iI 2)]) C (c_X5_faulted l X h0 s1 w0 t0 k0 r0 rp sh1 sc gf gs rc tc 0 2 ) gX5_as_X5_faulted rfl rfl rfl hd_V_X5_faulted_X5_as (by decide) dX5_as_73 [0] [1, 2] [2, 0, 1] rfl rfl rfl rfl (by decide) rfl 0 5 rfl rfl rfl rfl (Nat.le_of_ble_eq_true rfl) (by decide) (fun _ => rfl) (fun _ hy_ => ?_)
            clear hy_
            exact g_ret_i C rfl dX5_as_76 () trivial (by (repeat' split) <;> first | rfl | omega) [0, 1, 2] rfl (by (repeat' split) <;> first | rfl | omega)
          · skip
            refine r_iload_n C dX5_as_51 0 rfl ?_
            refine r_if_eq (tgt := 59) C dX5_as_52 (by decide) (by have := hFk (Int.toNat ((k * 9) + 0)); omega) (fun h_11 => ?_) (fun h_11 => ?_)
            · skip
              refine r_iconst C dX5_as_59 ?_
              refine r_istore (lo2 := [(4, .int (iI 0)), (3, .int (iI (Fk (Int.toNat ((k * 9) + 0))))), (0, .ref h0), (1, .int (iI k)), (2, .int (iI w))]) C dX5_as_60 (by decide) rfl ?_
              refine r_iload C dX5_as_62 0 rfl ?_
              refine r_if_eq (tgt := 71) C dX5_as_64 (by decide) (by decide) (fun h_12 => ?_) (fun h_12 => absurd h_12 (by decide))
              refine r_aload_n C dX5_as_71 2 rfl ?_
              refine r_iconst C dX5_as_72 ?_
              refine g_V_i (ws2 := (fun _ => [(h0, .inr (5, [.ref s1, .int (iI sc), .ref w0, .ref t0, .ref k0, .ref r0, .int (iI gf), .int (iI gs), .ref rp, .int (iI rc), .ref sh1, .int (iI tc), .int (iI 2)])), (k0, .inr (0, [.ref k1, .int (iI cnt), .int (iI xx), .int (iI sp), .int (iI fa), .int (iI sl), .int (iI sn), .int (iI bt)])), (k1, .inl (X.2.1.1, 810, .inl (iF Fk)))])) (As := [.int (iI 2)]) C (c_X5_faulted l X h0 s1 w0 t0 k0 r0 rp sh1 sc gf gs rc tc 0 2 ) gX5_as_X5_faulted rfl rfl rfl hd_V_X5_faulted_X5_as (by decide) dX5_as_73 [0] [1, 2] [2, 0, 1] rfl rfl rfl rfl (by decide) rfl 0 5 rfl rfl rfl rfl (Nat.le_of_ble_eq_true rfl) (by decide) (fun _ => rfl) (fun _ hy_ => ?_)
              clear hy_
              exact g_ret_i C rfl dX5_as_76 () trivial (by (repeat' split) <;> first | rfl | omega) [0, 1, 2] rfl (by (repeat' split) <;> first | rfl | omega)
            · skip
              refine r_iconst C dX5_as_55 ?_
              refine r_goto (tgt := 60) C dX5_as_56 (by decide) ?_
              refine r_istore (lo2 := [(4, .int (iI 1)), (3, .int (iI (Fk (Int.toNat ((k * 9) + 0))))), (0, .ref h0), (1, .int (iI k)), (2, .int (iI w))]) C dX5_as_60 (by decide) rfl ?_
              refine r_iload C dX5_as_62 0 rfl ?_
              refine r_if_eq (tgt := 71) C dX5_as_64 (by decide) (by decide) (fun h_13 => absurd h_13 (by decide)) (fun h_13 => ?_)
              refine r_iconst C dX5_as_67 ?_
              refine r_goto (tgt := 76) C dX5_as_68 (by decide) ?_
              exact g_ret_i C rfl dX5_as_76 () trivial (by (repeat' split) <;> first | rfl | omega) [0, 1, 2] rfl (by (repeat' split) <;> first | rfl | omega)
    · skip
      refine r_if_ne (tgt := 27) C dX5_as_21 (by decide) (by decide) (fun h_14 => absurd h_14 (by decide)) (fun h_14 => ?_)
      refine r_bipush C dX5_as_24 (by decide) ?_
      exact g_ret_i C rfl dX5_as_26 () trivial (by (repeat' split) <;> first | rfl | omega) [0, 1, 2] rfl (by (repeat' split) <;> first | rfl | omega)
  · skip
    refine r_if_ne (tgt := 15) C dX5_as_10 (by decide) (by decide) (fun h_15 => absurd h_15 (by decide)) (fun h_15 => ?_)
    refine r_iconst C dX5_as_13 ?_
    exact g_ret_i C rfl dX5_as_14 () trivial (by (repeat' split) <;> first | rfl | omega) [0, 1, 2] rfl (by (repeat' split) <;> first | rfl | omega)

set_option maxRecDepth 20000 in
theorem kw_X5_trace_0 : Cond.fieldLink RX5 64 "SkipStones" "traced" "I" ∈ wsX5_trace := List.mem_of_getElem? (i := 1) rfl
set_option maxRecDepth 20000 in
theorem hi_X5_trace_5 : ∀ w ∈ wsX50, w ∈ wsX5_trace := fun _ h => List.mem_cons_of_mem _ (List.mem_append_right _ h)
set_option maxHeartbeats 4000000 in
set_option maxRecDepth 100000 in
theorem c_X5_trace (l : Launch) (X : gX) (h0 : Nat) (s1 : Nat) (w0 : Nat) (t0 : Nat) (k0 : Nat) (r0 : Nat) (rp : Nat) (sh1 : Nat) (sc : Int) (gf : Int) (gs : Int) (rc : Int) (tc : Int) (ft : Int) : gM l yX5_trace wsX5_trace (gr 0 0 0) X [(h0, .inr (5, [.ref s1, .int (iI sc), .ref w0, .ref t0, .ref k0, .ref r0, .int (iI gf), .int (iI gs), .ref rp, .int (iI rc), .ref sh1, .int (iI tc), .int (iI ft)]))] [.ref h0] (gQi X (Y := Unit) (fun _ => True) (fun _ => tc) (fun _ => [(h0, .inr (5, [.ref s1, .int (iI sc), .ref w0, .ref t0, .ref k0, .ref r0, .int (iI gf), .int (iI gs), .ref rp, .int (iI rc), .ref sh1, .int (iI tc), .int (iI ft)]))])) 0 0 := by
  refine g_start2 (lo := [(0, .ref h0)]) (by decide +kernel) rfl rfl (Nat.le_of_ble_eq_true rfl) (fun p e s m args below meth c A C => ?_)
  refine r_aload_n C dX5_trace_0 0 rfl ?_
  refine gf_5_11 C hi_X5_trace_5 kw_X5_trace_0 dX5_trace_1 0 rfl rfl ?_
  exact g_ret_i C rfl dX5_trace_4 () trivial (by (repeat' split) <;> first | rfl | omega) [0] rfl (by (repeat' split) <;> first | rfl | omega)

set_option maxRecDepth 20000 in
theorem kw_X5_fault_0 : Cond.fieldLink RX5 67 "SkipStones" "lastFault" "I" ∈ wsX5_fault := List.mem_of_getElem? (i := 1) rfl
set_option maxRecDepth 20000 in
theorem hi_X5_fault_5 : ∀ w ∈ wsX50, w ∈ wsX5_fault := fun _ h => List.mem_cons_of_mem _ (List.mem_append_right _ h)
set_option maxHeartbeats 4000000 in
set_option maxRecDepth 100000 in
theorem c_X5_fault (l : Launch) (X : gX) (h0 : Nat) (s1 : Nat) (w0 : Nat) (t0 : Nat) (k0 : Nat) (r0 : Nat) (rp : Nat) (sh1 : Nat) (sc : Int) (gf : Int) (gs : Int) (rc : Int) (tc : Int) (ft : Int) : gM l yX5_fault wsX5_fault (gr 0 0 0) X [(h0, .inr (5, [.ref s1, .int (iI sc), .ref w0, .ref t0, .ref k0, .ref r0, .int (iI gf), .int (iI gs), .ref rp, .int (iI rc), .ref sh1, .int (iI tc), .int (iI ft)]))] [.ref h0] (gQi X (Y := Unit) (fun _ => True) (fun _ => ft) (fun _ => [(h0, .inr (5, [.ref s1, .int (iI sc), .ref w0, .ref t0, .ref k0, .ref r0, .int (iI gf), .int (iI gs), .ref rp, .int (iI rc), .ref sh1, .int (iI tc), .int (iI ft)]))])) 0 0 := by
  refine g_start2 (lo := [(0, .ref h0)]) (by decide +kernel) rfl rfl (Nat.le_of_ble_eq_true rfl) (fun p e s m args below meth c A C => ?_)
  refine r_aload_n C dX5_fault_0 0 rfl ?_
  refine gf_5_12 C hi_X5_fault_5 kw_X5_fault_0 dX5_fault_1 0 rfl rfl ?_
  exact g_ret_i C rfl dX5_fault_4 () trivial (by (repeat' split) <;> first | rfl | omega) [0] rfl (by (repeat' split) <;> first | rfl | omega)

set_option maxRecDepth 20000 in
theorem kw_X5_many_0 : Cond.fieldLink RX5 17 "SkipStones" "stoneCount" "I" ∈ wsX5_many := List.mem_of_getElem? (i := 1) rfl
set_option maxRecDepth 20000 in
theorem kw_X5_many_1 : Cond.fieldLink RX5 38 "SkipStones" "kept" "LSkipStones$Flight;" ∈ wsX5_many := List.mem_of_getElem? (i := 2) rfl
set_option maxRecDepth 20000 in
theorem kw_X5_many_2 : Cond.fieldLink RX5 164 "SkipStones$Flight" "count" "I" ∈ wsX5_many := List.mem_of_getElem? (i := 3) rfl
set_option maxRecDepth 20000 in
theorem kw_X5_many_3 : Cond.fieldLink RX5 24 "SkipStones" "water" "LSkipStones$Water;" ∈ wsX5_many := List.mem_of_getElem? (i := 4) rfl
set_option maxRecDepth 20000 in
theorem kw_X5_many_4 : Cond.fieldLink RX5 145 "SkipStones$Water" "waveCount" "I" ∈ wsX5_many := List.mem_of_getElem? (i := 5) rfl
set_option maxRecDepth 20000 in
theorem kw_X5_many_5 : Cond.fieldLink RX5 55 "SkipStones" "ringCount" "I" ∈ wsX5_many := List.mem_of_getElem? (i := 6) rfl
set_option maxRecDepth 20000 in
theorem hi_X5_many_5 : ∀ w ∈ wsX50, w ∈ wsX5_many := fun _ h => List.mem_cons_of_mem _ (List.mem_append_left _ (List.mem_append_left _ (List.mem_append_right _ h)))
set_option maxRecDepth 20000 in
theorem hi_X5_many_0 : ∀ w ∈ wsX00, w ∈ wsX5_many := fun _ h => List.mem_cons_of_mem _ (List.mem_append_left _ (List.mem_append_right _ h))
set_option maxRecDepth 20000 in
theorem hi_X5_many_4 : ∀ w ∈ wsX40, w ∈ wsX5_many := fun _ h => List.mem_cons_of_mem _ (List.mem_append_right _ h)
set_option maxHeartbeats 4000000 in
set_option maxRecDepth 100000 in
theorem c_X5_many (l : Launch) (X : gX) (h0 : Nat) (s1 : Nat) (w0 : Nat) (t0 : Nat) (k0 : Nat) (r0 : Nat) (rp : Nat) (sh1 : Nat) (sc : Int) (gf : Int) (gs : Int) (rc : Int) (tc : Int) (ft : Int) (k1 : Nat) (cnt : Int) (xx : Int) (sp : Int) (fa : Int) (sl : Int) (sn : Int) (bt : Int) (Fk : Nat → Int) (w1 : Nat) (l1 : Int) (l2 : Int) (l3 : Int) (l4 : Int) (l5 : Int) (l6 : Int) (wc : Int) (sh : Int) (Fw : Nat → Int) (w : Int) (hb_w : inB w) : gM l yX5_many wsX5_many (gr 0 0 0) X [(h0, .inr (5, [.ref s1, .int (iI sc), .ref w0, .ref t0, .ref k0, .ref r0, .int (iI gf), .int (iI gs), .ref rp, .int (iI rc), .ref sh1, .int (iI tc), .int (iI ft)])), (k0, .inr (0, [.ref k1, .int (iI cnt), .int (iI xx), .int (iI sp), .int (iI fa), .int (iI sl), .int (iI sn), .int (iI bt)])), (k1, .inl (X.2.1.1, 810, .inl (iF Fk))), (w0, .inr (4, [.int (iI l1), .int (iI l2), .int (iI l3), .int (iI l4), .int (iI l5), .int (iI l6), .ref w1, .int (iI wc), .int (iI sh)])), (w1, .inl (X.2.1.1, 20, .inl (iF Fw)))] [.ref h0, .int (iI w)] (gQi X (Y := Unit) (fun _ => True) (fun _ => (if w = 0 then sc else if w = 1 then cnt else if w = 2 then wc else if w = 3 then rc else -2)) (fun _ => [(h0, .inr (5, [.ref s1, .int (iI sc), .ref w0, .ref t0, .ref k0, .ref r0, .int (iI gf), .int (iI gs), .ref rp, .int (iI rc), .ref sh1, .int (iI tc), .int (iI ft)])), (k0, .inr (0, [.ref k1, .int (iI cnt), .int (iI xx), .int (iI sp), .int (iI fa), .int (iI sl), .int (iI sn), .int (iI bt)])), (k1, .inl (X.2.1.1, 810, .inl (iF Fk))), (w0, .inr (4, [.int (iI l1), .int (iI l2), .int (iI l3), .int (iI l4), .int (iI l5), .int (iI l6), .ref w1, .int (iI wc), .int (iI sh)])), (w1, .inl (X.2.1.1, 20, .inl (iF Fw)))])) 0 0 := by
  refine g_start2 (lo := [(0, .ref h0), (1, .int (iI w))]) (by decide +kernel) rfl rfl (Nat.le_of_ble_eq_true rfl) (fun p e s m args below meth c A C => ?_)
  refine r_iload_n C dX5_many_0 1 rfl ?_
  by_cases h_1 : w = 0
  · refine r_tabIn (tgt := 32) C dX5_many_1 0 h_1 (by decide) rfl (by decide) ?_
    refine r_aload_n C dX5_many_32 0 rfl ?_
    refine gf_5_1 C hi_X5_many_5 kw_X5_many_0 dX5_many_33 0 rfl rfl ?_
    exact g_ret_i C rfl dX5_many_36 () trivial (by (repeat' split) <;> first | rfl | omega) [0, 1, 2, 3, 4] rfl (by (repeat' split) <;> first | rfl | omega)
  by_cases h_2 : w = 1
  · refine r_tabIn (tgt := 37) C dX5_many_1 1 h_2 (by decide) rfl (by decide) ?_
    refine r_aload_n C dX5_many_37 0 rfl ?_
    refine gf_5_4 C hi_X5_many_5 kw_X5_many_1 dX5_many_38 0 rfl rfl ?_
    refine gf_0_1 C hi_X5_many_0 kw_X5_many_2 dX5_many_41 1 rfl rfl ?_
    exact g_ret_i C rfl dX5_many_44 () trivial (by (repeat' split) <;> first | rfl | omega) [0, 1, 2, 3, 4] rfl (by (repeat' split) <;> first | rfl | omega)
  by_cases h_3 : w = 2
  · refine r_tabIn (tgt := 45) C dX5_many_1 2 h_3 (by decide) rfl (by decide) ?_
    refine r_aload_n C dX5_many_45 0 rfl ?_
    refine gf_5_2 C hi_X5_many_5 kw_X5_many_3 dX5_many_46 0 rfl rfl ?_
    refine gf_4_7 C hi_X5_many_4 kw_X5_many_4 dX5_many_49 3 rfl rfl ?_
    exact g_ret_i C rfl dX5_many_52 () trivial (by (repeat' split) <;> first | rfl | omega) [0, 1, 2, 3, 4] rfl (by (repeat' split) <;> first | rfl | omega)
  by_cases h_4 : w = 3
  · refine r_tabIn (tgt := 53) C dX5_many_1 3 h_4 (by decide) rfl (by decide) ?_
    refine r_aload_n C dX5_many_53 0 rfl ?_
    refine gf_5_9 C hi_X5_many_5 kw_X5_many_5 dX5_many_54 0 rfl rfl ?_
    exact g_ret_i C rfl dX5_many_57 () trivial (by (repeat' split) <;> first | rfl | omega) [0, 1, 2, 3, 4] rfl (by (repeat' split) <;> first | rfl | omega)
  refine r_tabOut (tgt := 58) C dX5_many_1 (by omega) (by omega) (by decide) ?_
  refine r_bipush C dX5_many_58 (by decide) ?_
  exact g_ret_i C rfl dX5_many_60 () trivial (by (repeat' split) <;> first | rfl | omega) [0, 1, 2, 3, 4] rfl (by (repeat' split) <;> first | rfl | omega)
end M5
