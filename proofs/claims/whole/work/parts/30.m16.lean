section M16
set_option maxRecDepth 20000 in
theorem kw_X6_lieBelow_0 : Cond.fieldLink RX6 98 "SkipStonesModel" "stones" "I" ∈ wsX6_lieBelow := List.mem_of_getElem? (i := 1) rfl
set_option maxRecDepth 20000 in
theorem kw_X6_lieBelow_1 : Cond.fieldLink RX6 22 "SkipStonesModel" "lieWorth" "[I" ∈ wsX6_lieBelow := List.mem_of_getElem? (i := 2) rfl
set_option maxRecDepth 20000 in
theorem kw_X6_lieBelow_2 : Cond.fieldLink RX6 19 "SkipStonesModel" "lieMany" "[I" ∈ wsX6_lieBelow := List.mem_of_getElem? (i := 3) rfl
set_option maxRecDepth 20000 in
theorem hi_X6_lieBelow_6 : ∀ w ∈ wsX60, w ∈ wsX6_lieBelow := fun _ h => List.mem_cons_of_mem _ (List.mem_append_right _ h)
set_option maxHeartbeats 4000000 in
set_option maxRecDepth 100000 in
theorem c_X6_lieBelow (l : Launch) (X : gX) (h0 : Nat) (u2 : Nat) (u3 : Nat) (u4 : Nat) (u5 : Nat) (u6 : Nat) (u7 : Nat) (u8 : Nat) (u11 : Nat) (u14 : Nat) (u16 : Nat) (u20 : Nat) (u21 : Nat) (u22 : Nat) (u23 : Nat) (u24 : Nat) (ft : Int) (sc : Int) (rm : Int) (wc : Int) (sh : Int) (tq : Int) (cnt : Int) (gf : Int) (gs : Int) (rc : Int) (tc : Int) (Ly : Nat → Int) (Wo : Nat → Int) (w : Int) (hb_w : inB w) (hsc : 0 ≤ sc ∧ sc ≤ 8) (hLyR : ∀ i, 0 ≤ Ly i ∧ Ly i ≤ 9) (hWoR : ∀ i, 0 ≤ Wo i ∧ Wo i ≤ 99) : gM l yX6_lieBelow wsX6_lieBelow (gr 0 0 0) X [(h0, .inr (6, [.int (iI ft), .int (iI sc), .ref u2, .ref u3, .ref u4, .ref u5, .ref u6, .ref u7, .ref u8, .int (iI rm), .int (iI wc), .ref u11, .int (iI sh), .int (iI tq), .ref u14, .int (iI cnt), .ref u16, .int (iI gf), .int (iI gs), .int (iI rc), .ref u20, .ref u21, .ref u22, .ref u23, .ref u24, .int (iI tc)])), (u5, .inl (X.2.1.1, 8, .inl (iF Ly))), (u6, .inl (X.2.1.1, 8, .inl (iF Wo)))] [.ref h0, .int (iI w)] (gQi X (Y := Unit) (fun _ => (0 ≤ (lbL Ly Wo (w + 1) (Int.toNat sc)) ∧ (lbL Ly Wo (w + 1) (Int.toNat sc)) ≤ 72)) (fun _ => (lbL Ly Wo (w + 1) (Int.toNat sc))) (fun _ => [(h0, .inr (6, [.int (iI ft), .int (iI sc), .ref u2, .ref u3, .ref u4, .ref u5, .ref u6, .ref u7, .ref u8, .int (iI rm), .int (iI wc), .ref u11, .int (iI sh), .int (iI tq), .ref u14, .int (iI cnt), .ref u16, .int (iI gf), .int (iI gs), .int (iI rc), .ref u20, .ref u21, .ref u22, .ref u23, .ref u24, .int (iI tc)])), (u5, .inl (X.2.1.1, 8, .inl (iF Ly))), (u6, .inl (X.2.1.1, 8, .inl (iF Wo)))])) 0 0 := by
  refine g_start2 (lo := [(0, .ref h0), (1, .int (iI w))]) (by decide +kernel) rfl rfl (Nat.le_of_ble_eq_true rfl) (fun p e s m args below meth c A C => ?_)
  refine r_iconst C dX6_lieBelow_0 ?_
  refine r_istore_n (lo2 := [(2, .int (iI 0)), (0, .ref h0), (1, .int (iI w))]) C dX6_lieBelow_1 rfl (by decide) rfl ?_
  refine r_iconst C dX6_lieBelow_2 ?_
  refine r_istore_n (lo2 := [(3, .int (iI 0)), (2, .int (iI 0)), (0, .ref h0), (1, .int (iI w))]) C dX6_lieBelow_3 rfl (by decide) rfl ?_
  have L4 : ∀ (fu4 : Nat) (n1 : Int) (k : Int), (0 ≤ k ∧ k ≤ sc) → (n1 = lbL Ly Wo (w + 1) (Int.toNat k)) → (sc - k).toNat < fu4 → gW p l e (gr 0 0 0) s m args below meth c X A 4 (MQ below ((gQi X (Y := Unit) (fun _ => (0 ≤ (lbL Ly Wo (w + 1) (Int.toNat sc)) ∧ (lbL Ly Wo (w + 1) (Int.toNat sc)) ≤ 72)) (fun _ => (lbL Ly Wo (w + 1) (Int.toNat sc))) (fun _ => [(h0, .inr (6, [.int (iI ft), .int (iI sc), .ref u2, .ref u3, .ref u4, .ref u5, .ref u6, .ref u7, .ref u8, .int (iI rm), .int (iI wc), .ref u11, .int (iI sh), .int (iI tq), .ref u14, .int (iI cnt), .ref u16, .int (iI gf), .int (iI gs), .int (iI rc), .ref u20, .ref u21, .ref u22, .ref u23, .ref u24, .int (iI tc)])), (u5, .inl (X.2.1.1, 8, .inl (iF Ly))), (u6, .inl (X.2.1.1, 8, .inl (iF Wo)))])) A) args s 0 0 A) 0 0 [(h0, .inr (6, [.int (iI ft), .int (iI sc), .ref u2, .ref u3, .ref u4, .ref u5, .ref u6, .ref u7, .ref u8, .int (iI rm), .int (iI wc), .ref u11, .int (iI sh), .int (iI tq), .ref u14, .int (iI cnt), .ref u16, .int (iI gf), .int (iI gs), .int (iI rc), .ref u20, .ref u21, .ref u22, .ref u23, .ref u24, .int (iI tc)])), (u5, .inl (X.2.1.1, 8, .inl (iF Ly))), (u6, .inl (X.2.1.1, 8, .inl (iF Wo)))] 4 [(0, .ref h0), (1, .int (iI w)), (2, .int (iI n1)), (3, .int (iI k))] [] := by
    intro fu4
    induction fu4 with
    | zero => intro n1 k ik iN hm4; exact absurd hm4 (Nat.not_lt_zero _)
    | succ fu4 ih4 =>
      intro n1 k ik iN hm4
      refine r_iload_n C dX6_lieBelow_4 3 rfl ?_
      refine r_aload_n C dX6_lieBelow_5 0 rfl ?_
      refine gf_6_1 C hi_X6_lieBelow_6 kw_X6_lieBelow_0 dX6_lieBelow_6 0 rfl rfl ?_
      refine r_icmp_ge (tgt := 41) C dX6_lieBelow_9 (by decide) (by omega) (by omega) (fun h_1 => ?_) (fun h_1 => ?_)
      · skip
        refine r_iload_n C dX6_lieBelow_41 2 rfl ?_
        exact g_ret_i C rfl dX6_lieBelow_42 () (by have hlb := lbL_B (Ly := Ly) (Wo := Wo) (w + 1) (Int.toNat sc) (fun i _ => hLyR i); omega) (by rw [iN, show Int.toNat k = Int.toNat sc by omega]) [0, 1, 2] rfl (by (repeat' split) <;> first | rfl | omega)
      · skip
        refine r_iload_n C dX6_lieBelow_12 2 rfl ?_
        refine r_aload_n C dX6_lieBelow_13 0 rfl ?_
        refine gf_6_6 C hi_X6_lieBelow_6 kw_X6_lieBelow_1 dX6_lieBelow_14 0 rfl rfl ?_
        refine r_iload_n C dX6_lieBelow_17 3 rfl ?_
        refine r_iald C dX6_lieBelow_18 2 rfl (by omega) (by decide) ?_
        refine r_iload_n C dX6_lieBelow_19 1 rfl ?_
        refine r_icmp_gt (tgt := 32) C dX6_lieBelow_20 (by decide) (by have := hWoR (Int.toNat k); omega) (by omega) (fun h_2 => ?_) (fun h_2 => ?_)
        · skip
          refine r_iconst C dX6_lieBelow_32 ?_
          refine r_iadd C dX6_lieBelow_33 ?_
          refine r_topi (z := n1) (by omega) ?_
          refine r_istore_n (lo2 := [(2, .int (iI n1)), (0, .ref h0), (1, .int (iI w)), (3, .int (iI k))]) C dX6_lieBelow_34 rfl (by decide) rfl ?_
          refine r_iinc (lo2 := [(3, .int (iI (k + 1))), (2, .int (iI n1)), (0, .ref h0), (1, .int (iI w))]) C dX6_lieBelow_35 3 rfl (by decide) rfl ?_
          refine r_goto (tgt := 4) C dX6_lieBelow_38 (by decide) ?_
          refine r_lo [2, 3, 1, 0] (lo2 := [(0, .ref h0), (1, .int (iI w)), (2, .int (iI n1)), (3, .int (iI (k + 1)))]) rfl ?_
          exact ih4 n1 (k + 1) (by omega) (by rw [iN, show Int.toNat (k + 1) = Int.toNat k + 1 by omega]; first | (rw [lbL_t (Int.toNat k) (by omega)]; done) | (rw [lbL_f (Int.toNat k) (by omega)]; done)) (by omega)
        · skip
          refine r_aload_n C dX6_lieBelow_23 0 rfl ?_
          refine gf_6_5 C hi_X6_lieBelow_6 kw_X6_lieBelow_2 dX6_lieBelow_24 0 rfl rfl ?_
          refine r_iload_n C dX6_lieBelow_27 3 rfl ?_
          refine r_iald C dX6_lieBelow_28 1 rfl (by omega) (by decide) ?_
          refine r_goto (tgt := 33) C dX6_lieBelow_29 (by decide) ?_
          refine r_iadd C dX6_lieBelow_33 ?_
          refine r_istore_n (lo2 := [(2, .int (iI (n1 + (Ly (Int.toNat k))))), (0, .ref h0), (1, .int (iI w)), (3, .int (iI k))]) C dX6_lieBelow_34 rfl (by decide) rfl ?_
          refine r_iinc (lo2 := [(3, .int (iI (k + 1))), (2, .int (iI (n1 + (Ly (Int.toNat k))))), (0, .ref h0), (1, .int (iI w))]) C dX6_lieBelow_35 3 rfl (by decide) rfl ?_
          refine r_goto (tgt := 4) C dX6_lieBelow_38 (by decide) ?_
          refine r_lo [2, 3, 1, 0] (lo2 := [(0, .ref h0), (1, .int (iI w)), (2, .int (iI (n1 + (Ly (Int.toNat k))))), (3, .int (iI (k + 1)))]) rfl ?_
          exact ih4 (n1 + (Ly (Int.toNat k))) (k + 1) (by omega) (by rw [iN, show Int.toNat (k + 1) = Int.toNat k + 1 by omega]; first | (rw [lbL_t (Int.toNat k) (by omega)]; done) | (rw [lbL_f (Int.toNat k) (by omega)]; done)) (by omega)
  refine r_lo [2, 3, 1, 0] (lo2 := [(0, .ref h0), (1, .int (iI w)), (2, .int (iI 0)), (3, .int (iI 0))]) rfl ?_
  exact L4 ((sc - (0 : Int)).toNat + 1) 0 0 (by omega) rfl (Nat.lt_succ_self _)

set_option maxHeartbeats 4000000 in
set_option maxRecDepth 100000 in
theorem c_X6_power (l : Launch) (X : gX) (v : Int) (k : Int) (hbv : inB v) (hk : 0 ≤ k ∧ k ≤ 6) : gM l yX6_power wsX6_power (gr 0 0 0) X [] [.int (iI v), .int (iI k)] (gQl X (Y := Unit) (fun _ => True) (fun _ => (pwI v k)) (fun _ => [])) 0 0 := by
  refine g_start2 (lo := [(0, .int (iI v)), (1, .int (iI k))]) (by decide +kernel) rfl rfl (Nat.le_of_ble_eq_true rfl) (fun p e s m args below meth c A C => ?_)
  refine r_lconst (z := 1) C dX6_power_0 rfl ?_
  refine r_lstore_n (lo2 := [(2, .long (lI 1)), (0, .int (iI v)), (1, .int (iI k))]) C dX6_power_1 rfl (by decide) rfl ?_
  refine r_iconst C dX6_power_2 ?_
  refine r_istore (lo2 := [(4, .int (iI 0)), (2, .long (lI 1)), (0, .int (iI v)), (1, .int (iI k))]) C dX6_power_3 (by decide) rfl ?_
  have L5 : ∀ (fu5 : Nat) (q1 : Int) (c1 : Int), (0 ≤ c1 ∧ c1 ≤ k) → (q1 = pwI v c1) → (k - c1).toNat < fu5 → gW p l e (gr 0 0 0) s m args below meth c X A 5 (MQ below ((gQl X (Y := Unit) (fun _ => True) (fun _ => (pwI v k)) (fun _ => [])) A) args s 0 0 A) 0 0 [] 5 [(0, .int (iI v)), (1, .int (iI k)), (2, .long (lI q1)), (4, .int (iI c1))] [] := by
    intro fu5
    induction fu5 with
    | zero => intro q1 c1 ic ip hm5; exact absurd hm5 (Nat.not_lt_zero _)
    | succ fu5 ih5 =>
      intro q1 c1 ic ip hm5
      refine r_iload C dX6_power_5 3 rfl ?_
      refine r_iload_n C dX6_power_7 1 rfl ?_
      refine r_icmp_ge (tgt := 22) C dX6_power_8 (by decide) (by omega) (by omega) (fun h_1 => ?_) (fun h_1 => ?_)
      · skip
        refine r_lload_n C dX6_power_22 2 rfl ?_
        exact g_ret_l C rfl dX6_power_23 () trivial (by rw [ip, show c1 = k by omega]) [] rfl (by (repeat' split) <;> first | rfl | omega)
      · skip
        refine r_lload_n C dX6_power_11 2 rfl ?_
        refine r_iload_n C dX6_power_12 0 rfl ?_
        refine r_i2l C dX6_power_13 (by omega) ?_
        refine r_lmul C dX6_power_14 ?_
        refine r_lstore_n (lo2 := [(2, .long (lI (q1 * v))), (0, .int (iI v)), (1, .int (iI k)), (4, .int (iI c1))]) C dX6_power_15 rfl (by decide) rfl ?_
        refine r_iinc (lo2 := [(4, .int (iI (c1 + 1))), (2, .long (lI (q1 * v))), (0, .int (iI v)), (1, .int (iI k))]) C dX6_power_16 3 rfl (by decide) rfl ?_
        refine r_goto (tgt := 5) C dX6_power_19 (by decide) ?_
        refine r_lo [2, 3, 1, 0] (lo2 := [(0, .int (iI v)), (1, .int (iI k)), (2, .long (lI (q1 * v))), (4, .int (iI (c1 + 1)))]) rfl ?_
        exact ih5 (q1 * v) (c1 + 1) (by omega) (by rw [ip]; exact pwI_go (by omega)) (by omega)
  refine r_lo [2, 3, 1, 0] (lo2 := [(0, .int (iI v)), (1, .int (iI k)), (2, .long (lI 1)), (4, .int (iI 0))]) rfl ?_
  exact L5 ((k - (0 : Int)).toNat + 1) 1 0 (by omega) (by simp [pwI]) (Nat.lt_succ_self _)

set_option maxRecDepth 20000 in
theorem hd_V_X6_lieBelow_X6_bestSum : yX6_lieBelow.cls = yX6_lieBelow.cls ∧ yX6_lieBelow.cls ≠ "java/lang/invoke/MethodHandle" ∧ yX6_lieBelow.cls ≠ "java/lang/invoke/VarHandle" ∧ (parseMethodDescriptor yX6_lieBelow.desc).map (fun d => d.parameters.length) = some 1 := by decide +kernel
set_option maxRecDepth 20000 in
theorem hd_S_X6_power_X6_bestSum : yX6_power.cls ≠ "java/lang/invoke/MethodHandle" ∧ yX6_power.cls ≠ "java/lang/invoke/VarHandle" ∧ (parseMethodDescriptor yX6_power.desc).map (fun d => d.parameters.length) = some 2 := by decide +kernel
set_option maxHeartbeats 4000000 in
set_option maxRecDepth 100000 in
theorem c_X6_bestSum (l : Launch) (X : gX) (h0 : Nat) (u2 : Nat) (u3 : Nat) (u4 : Nat) (u5 : Nat) (u6 : Nat) (u7 : Nat) (u8 : Nat) (u11 : Nat) (u14 : Nat) (u16 : Nat) (u20 : Nat) (u21 : Nat) (u22 : Nat) (u23 : Nat) (u24 : Nat) (ft : Int) (sc : Int) (rm : Int) (wc : Int) (sh : Int) (tq : Int) (cnt : Int) (gf : Int) (gs : Int) (rc : Int) (tc : Int) (Ly : Nat → Int) (Wo : Nat → Int) (k : Int) (hsc : 0 ≤ sc ∧ sc ≤ 8) (hLyR : ∀ i, 0 ≤ Ly i ∧ Ly i ≤ 9) (hWoR : ∀ i, 0 ≤ Wo i ∧ Wo i ≤ 99) (hk : 0 ≤ k ∧ k ≤ 6) : gM l yX6_bestSum wsX6_bestSum (gr 1 0 0) X [(h0, .inr (6, [.int (iI ft), .int (iI sc), .ref u2, .ref u3, .ref u4, .ref u5, .ref u6, .ref u7, .ref u8, .int (iI rm), .int (iI wc), .ref u11, .int (iI sh), .int (iI tq), .ref u14, .int (iI cnt), .ref u16, .int (iI gf), .int (iI gs), .int (iI rc), .ref u20, .ref u21, .ref u22, .ref u23, .ref u24, .int (iI tc)])), (u5, .inl (X.2.1.1, 8, .inl (iF Ly))), (u6, .inl (X.2.1.1, 8, .inl (iF Wo)))] [.ref h0, .int (iI k)] (gQl X (Y := Unit) (fun _ => True) (fun _ => (bwV Ly Wo (Int.toNat sc) k)) (fun _ => [(h0, .inr (6, [.int (iI ft), .int (iI sc), .ref u2, .ref u3, .ref u4, .ref u5, .ref u6, .ref u7, .ref u8, .int (iI rm), .int (iI wc), .ref u11, .int (iI sh), .int (iI tq), .ref u14, .int (iI cnt), .ref u16, .int (iI gf), .int (iI gs), .int (iI rc), .ref u20, .ref u21, .ref u22, .ref u23, .ref u24, .int (iI tc)])), (u5, .inl (X.2.1.1, 8, .inl (iF Ly))), (u6, .inl (X.2.1.1, 8, .inl (iF Wo)))])) 0 0 := by
  refine g_start2 (lo := [(0, .ref h0), (1, .int (iI k))]) (by decide +kernel) rfl rfl (Nat.le_of_ble_eq_true rfl) (fun p e s m args below meth c A C => ?_)
  refine r_lconst (z := 0) C dX6_bestSum_0 rfl ?_
  refine r_lstore_n (lo2 := [(2, .long (lI 0)), (0, .ref h0), (1, .int (iI k))]) C dX6_bestSum_1 rfl (by decide) rfl ?_
  refine r_iconst C dX6_bestSum_2 ?_
  refine r_istore (lo2 := [(4, .int (iI 1)), (2, .long (lI 0)), (0, .ref h0), (1, .int (iI k))]) C dX6_bestSum_3 (by decide) rfl ?_
  have L5 : ∀ (fu5 : Nat) (a1 : Int) (wk : Int), (1 ≤ wk ∧ wk ≤ 100) → ((bwV Ly Wo (Int.toNat sc) k) = bwL (fun w => pwI (lbL Ly Wo w (Int.toNat sc)) k) (pwI (lbL Ly Wo 100 (Int.toNat sc)) k) (100 - wk).toNat wk (a1 + (wk - 1) * ((pwI (lbL Ly Wo 100 (Int.toNat sc)) k) - (pwI (lbL Ly Wo wk (Int.toNat sc)) k)))) → (100 - wk).toNat < fu5 → gW p l e (gr 1 0 0) s m args below meth c X A 5 (MQ below ((gQl X (Y := Unit) (fun _ => True) (fun _ => (bwV Ly Wo (Int.toNat sc) k)) (fun _ => [(h0, .inr (6, [.int (iI ft), .int (iI sc), .ref u2, .ref u3, .ref u4, .ref u5, .ref u6, .ref u7, .ref u8, .int (iI rm), .int (iI wc), .ref u11, .int (iI sh), .int (iI tq), .ref u14, .int (iI cnt), .ref u16, .int (iI gf), .int (iI gs), .int (iI rc), .ref u20, .ref u21, .ref u22, .ref u23, .ref u24, .int (iI tc)])), (u5, .inl (X.2.1.1, 8, .inl (iF Ly))), (u6, .inl (X.2.1.1, 8, .inl (iF Wo)))])) A) args s 0 0 A) 0 0 [(h0, .inr (6, [.int (iI ft), .int (iI sc), .ref u2, .ref u3, .ref u4, .ref u5, .ref u6, .ref u7, .ref u8, .int (iI rm), .int (iI wc), .ref u11, .int (iI sh), .int (iI tq), .ref u14, .int (iI cnt), .ref u16, .int (iI gf), .int (iI gs), .int (iI rc), .ref u20, .ref u21, .ref u22, .ref u23, .ref u24, .int (iI tc)])), (u5, .inl (X.2.1.1, 8, .inl (iF Ly))), (u6, .inl (X.2.1.1, 8, .inl (iF Wo)))] 5 [(0, .ref h0), (1, .int (iI k)), (2, .long (lI a1)), (4, .int (iI wk))] [] := by
    intro fu5
    induction fu5 with
    | zero => intro a1 wk iw iB hm5; exact absurd hm5 (Nat.not_lt_zero _)
    | succ fu5 ih5 =>
      intro a1 wk iw iB hm5
      refine r_iload C dX6_bestSum_5 3 rfl ?_
      refine r_bipush C dX6_bestSum_7 (by decide) ?_
      refine r_icmp_ge (tgt := 48) C dX6_bestSum_9 (by decide) (by omega) (by decide) (fun h_1 => ?_) (fun h_1 => ?_)
      · skip
        refine r_lload_n C dX6_bestSum_48 2 rfl ?_
        exact g_ret_l C rfl dX6_bestSum_49 () trivial (by rw [iB, show wk = 100 by omega, Int.sub_self (pwI (lbL Ly Wo 100 (Int.toNat sc)) k), Int.mul_zero, Int.add_zero]; rfl) [0, 1, 2] rfl (by (repeat' split) <;> first | rfl | omega)
      · skip
        refine r_lload_n C dX6_bestSum_12 2 rfl ?_
        refine r_iload C dX6_bestSum_13 3 rfl ?_
        refine r_i2l C dX6_bestSum_15 (by omega) ?_
        refine r_aload_n C dX6_bestSum_16 0 rfl ?_
        refine r_iload C dX6_bestSum_17 3 rfl ?_
        refine g_V_i (ws2 := (fun _ => [(h0, .inr (6, [.int (iI ft), .int (iI sc), .ref u2, .ref u3, .ref u4, .ref u5, .ref u6, .ref u7, .ref u8, .int (iI rm), .int (iI wc), .ref u11, .int (iI sh), .int (iI tq), .ref u14, .int (iI cnt), .ref u16, .int (iI gf), .int (iI gs), .int (iI rc), .ref u20, .ref u21, .ref u22, .ref u23, .ref u24, .int (iI tc)])), (u5, .inl (X.2.1.1, 8, .inl (iF Ly))), (u6, .inl (X.2.1.1, 8, .inl (iF Wo)))])) (As := [.int (iI wk)]) C (c_X6_lieBelow l X h0 u2 u3 u4 u5 u6 u7 u8 u11 u14 u16 u20 u21 u22 u23 u24 ft sc rm wc sh tq cnt gf gs rc tc Ly Wo wk (by first | assumption | omega) (by first | assumption | omega) (by assumption) (by assumption)) gX6_bestSum_X6_lieBelow rfl rfl rfl hd_V_X6_lieBelow_X6_bestSum (by decide) dX6_bestSum_19 [0, 1, 2] [] [0, 1, 2] rfl rfl rfl rfl (by decide) rfl 0 6 rfl rfl rfl rfl (Nat.le_of_ble_eq_true rfl) (by decide) (fun _ => rfl) (fun _ hy_ => ?_)
        have y_2 : 0 ≤ (lbL Ly Wo (wk + 1) (Int.toNat sc)) ∧ (lbL Ly Wo (wk + 1) (Int.toNat sc)) ≤ 72 := hy_
        clear hy_
        refine r_iload_n C dX6_bestSum_22 1 rfl ?_
        refine g_S_l (ws2 := (fun _ => [(h0, .inr (6, [.int (iI ft), .int (iI sc), .ref u2, .ref u3, .ref u4, .ref u5, .ref u6, .ref u7, .ref u8, .int (iI rm), .int (iI wc), .ref u11, .int (iI sh), .int (iI tq), .ref u14, .int (iI cnt), .ref u16, .int (iI gf), .int (iI gs), .int (iI rc), .ref u20, .ref u21, .ref u22, .ref u23, .ref u24, .int (iI tc)])), (u5, .inl (X.2.1.1, 8, .inl (iF Ly))), (u6, .inl (X.2.1.1, 8, .inl (iF Wo)))])) (As := [.int (iI (lbL Ly Wo (wk + 1) (Int.toNat sc))), .int (iI k)]) C (c_X6_power l X (lbL Ly Wo (wk + 1) (Int.toNat sc)) k (by first | assumption | omega) (by first | assumption | omega)) gX6_bestSum_X6_power rfl rfl rfl hd_S_X6_power_X6_bestSum (by decide) dX6_bestSum_23 [] [0, 1, 2] [0, 1, 2] rfl rfl rfl rfl (by decide) rfl rfl rfl (Nat.le_of_ble_eq_true rfl) (by decide) (fun _ => rfl) (fun _ hy_ => ?_)
        clear hy_
        refine r_aload_n C dX6_bestSum_26 0 rfl ?_
        refine r_iload C dX6_bestSum_27 3 rfl ?_
        refine r_iconst C dX6_bestSum_29 ?_
        refine r_isub C dX6_bestSum_30 ?_
        refine g_V_i (ws2 := (fun _ => [(h0, .inr (6, [.int (iI ft), .int (iI sc), .ref u2, .ref u3, .ref u4, .ref u5, .ref u6, .ref u7, .ref u8, .int (iI rm), .int (iI wc), .ref u11, .int (iI sh), .int (iI tq), .ref u14, .int (iI cnt), .ref u16, .int (iI gf), .int (iI gs), .int (iI rc), .ref u20, .ref u21, .ref u22, .ref u23, .ref u24, .int (iI tc)])), (u5, .inl (X.2.1.1, 8, .inl (iF Ly))), (u6, .inl (X.2.1.1, 8, .inl (iF Wo)))])) (As := [.int (iI (wk - 1))]) C (c_X6_lieBelow l X h0 u2 u3 u4 u5 u6 u7 u8 u11 u14 u16 u20 u21 u22 u23 u24 ft sc rm wc sh tq cnt gf gs rc tc Ly Wo (wk - 1) (by first | assumption | omega) (by first | assumption | omega) (by assumption) (by assumption)) gX6_bestSum_X6_lieBelow rfl rfl rfl hd_V_X6_lieBelow_X6_bestSum (by decide) dX6_bestSum_31 [0, 1, 2] [] [0, 1, 2] rfl rfl rfl rfl (by decide) rfl 0 6 rfl rfl rfl rfl (Nat.le_of_ble_eq_true rfl) (by decide) (fun _ => rfl) (fun _ hy_ => ?_)
        have y_4 : 0 ≤ (lbL Ly Wo ((wk - 1) + 1) (Int.toNat sc)) ∧ (lbL Ly Wo ((wk - 1) + 1) (Int.toNat sc)) ≤ 72 := hy_
        clear hy_
        refine r_iload_n C dX6_bestSum_34 1 rfl ?_
        refine g_S_l (ws2 := (fun _ => [(h0, .inr (6, [.int (iI ft), .int (iI sc), .ref u2, .ref u3, .ref u4, .ref u5, .ref u6, .ref u7, .ref u8, .int (iI rm), .int (iI wc), .ref u11, .int (iI sh), .int (iI tq), .ref u14, .int (iI cnt), .ref u16, .int (iI gf), .int (iI gs), .int (iI rc), .ref u20, .ref u21, .ref u22, .ref u23, .ref u24, .int (iI tc)])), (u5, .inl (X.2.1.1, 8, .inl (iF Ly))), (u6, .inl (X.2.1.1, 8, .inl (iF Wo)))])) (As := [.int (iI (lbL Ly Wo ((wk - 1) + 1) (Int.toNat sc))), .int (iI k)]) C (c_X6_power l X (lbL Ly Wo ((wk - 1) + 1) (Int.toNat sc)) k (by first | assumption | omega) (by first | assumption | omega)) gX6_bestSum_X6_power rfl rfl rfl hd_S_X6_power_X6_bestSum (by decide) dX6_bestSum_35 [] [0, 1, 2] [0, 1, 2] rfl rfl rfl rfl (by decide) rfl rfl rfl (Nat.le_of_ble_eq_true rfl) (by decide) (fun _ => rfl) (fun _ hy_ => ?_)
        clear hy_
        refine r_lsub C dX6_bestSum_38 ?_
        refine r_lmul C dX6_bestSum_39 ?_
        refine r_ladd C dX6_bestSum_40 ?_
        refine r_lstore_n (lo2 := [(2, .long (lI (a1 + (wk * ((pwI (lbL Ly Wo (wk + 1) (Int.toNat sc)) k) - (pwI (lbL Ly Wo ((wk - 1) + 1) (Int.toNat sc)) k)))))), (0, .ref h0), (1, .int (iI k)), (4, .int (iI wk))]) C dX6_bestSum_41 rfl (by decide) rfl ?_
        refine r_iinc (lo2 := [(4, .int (iI (wk + 1))), (2, .long (lI (a1 + (wk * ((pwI (lbL Ly Wo (wk + 1) (Int.toNat sc)) k) - (pwI (lbL Ly Wo ((wk - 1) + 1) (Int.toNat sc)) k)))))), (0, .ref h0), (1, .int (iI k))]) C dX6_bestSum_42 3 rfl (by decide) rfl ?_
        refine r_goto (tgt := 5) C dX6_bestSum_45 (by decide) ?_
        refine r_lo [2, 3, 1, 0] (lo2 := [(0, .ref h0), (1, .int (iI k)), (2, .long (lI (a1 + (wk * ((pwI (lbL Ly Wo (wk + 1) (Int.toNat sc)) k) - (pwI (lbL Ly Wo ((wk - 1) + 1) (Int.toNat sc)) k)))))), (4, .int (iI (wk + 1)))]) rfl ?_
        exact ih5 (a1 + (wk * ((pwI (lbL Ly Wo (wk + 1) (Int.toNat sc)) k) - (pwI (lbL Ly Wo ((wk - 1) + 1) (Int.toNat sc)) k)))) (wk + 1) (by omega) (by rw [iB, bwL_go (by omega)]; rw [show wk - 1 + 1 = wk by omega, bs_step]) (by omega)
  refine r_lo [2, 3, 1, 0] (lo2 := [(0, .ref h0), (1, .int (iI k)), (2, .long (lI 0)), (4, .int (iI 1))]) rfl ?_
  exact L5 ((100 - (1 : Int)).toNat + 1) 0 1 (by omega) (by rw [show (1 : Int) - 1 = 0 from rfl, Int.zero_mul]; rfl) (Nat.lt_succ_self _)

set_option maxRecDepth 20000 in
theorem hd_V_X6_lieBelow_X6_mean : yX6_lieBelow.cls = yX6_lieBelow.cls ∧ yX6_lieBelow.cls ≠ "java/lang/invoke/MethodHandle" ∧ yX6_lieBelow.cls ≠ "java/lang/invoke/VarHandle" ∧ (parseMethodDescriptor yX6_lieBelow.desc).map (fun d => d.parameters.length) = some 1 := by decide +kernel
set_option maxRecDepth 20000 in
theorem kw_X6_mean_0 : Cond.constantLong RX6 221 (6) ∈ wsX6_mean := List.mem_of_getElem? (i := 1) rfl
set_option maxRecDepth 20000 in
theorem hd_S_X6_in_X6_mean : yX6_in.cls ≠ "java/lang/invoke/MethodHandle" ∧ yX6_in.cls ≠ "java/lang/invoke/VarHandle" ∧ (parseMethodDescriptor yX6_in.desc).map (fun d => d.parameters.length) = some 3 := by decide +kernel
set_option maxRecDepth 20000 in
theorem hd_V_X6_bestSum_X6_mean : yX6_bestSum.cls = yX6_bestSum.cls ∧ yX6_bestSum.cls ≠ "java/lang/invoke/MethodHandle" ∧ yX6_bestSum.cls ≠ "java/lang/invoke/VarHandle" ∧ (parseMethodDescriptor yX6_bestSum.desc).map (fun d => d.parameters.length) = some 1 := by decide +kernel
set_option maxRecDepth 20000 in
theorem hd_S_X6_power_X6_mean : yX6_power.cls ≠ "java/lang/invoke/MethodHandle" ∧ yX6_power.cls ≠ "java/lang/invoke/VarHandle" ∧ (parseMethodDescriptor yX6_power.desc).map (fun d => d.parameters.length) = some 2 := by decide +kernel
set_option maxRecDepth 20000 in
theorem hd_S_X6_share_X6_mean : yX6_share.cls ≠ "java/lang/invoke/MethodHandle" ∧ yX6_share.cls ≠ "java/lang/invoke/VarHandle" ∧ (parseMethodDescriptor yX6_share.desc).map (fun d => d.parameters.length) = some 3 := by decide +kernel
set_option maxRecDepth 20000 in
theorem hd_S_X6_lost_X6_mean : yX6_lost.cls ≠ "java/lang/invoke/MethodHandle" ∧ yX6_lost.cls ≠ "java/lang/invoke/VarHandle" ∧ (parseMethodDescriptor yX6_lost.desc).map (fun d => d.parameters.length) = some 0 := by decide +kernel
set_option maxHeartbeats 4000000 in
set_option maxRecDepth 100000 in
theorem c_X6_mean (l : Launch) (X : gX) (h0 : Nat) (u2 : Nat) (u3 : Nat) (u4 : Nat) (u5 : Nat) (u6 : Nat) (u7 : Nat) (u8 : Nat) (u11 : Nat) (u14 : Nat) (u16 : Nat) (u20 : Nat) (u21 : Nat) (u22 : Nat) (u23 : Nat) (u24 : Nat) (ft : Int) (sc : Int) (rm : Int) (wc : Int) (sh : Int) (tq : Int) (cnt : Int) (gf : Int) (gs : Int) (rc : Int) (tc : Int) (Ly : Nat → Int) (Wo : Nat → Int) (k : Int) (w : Int) (hb_k : inB k) (hb_w : inB w) (hsc : 0 ≤ sc ∧ sc ≤ 8) (hLyR : ∀ i, 0 ≤ Ly i ∧ Ly i ≤ 9) (hWoR : ∀ i, 0 ≤ Wo i ∧ Wo i ≤ 99) : gM l yX6_mean wsX6_mean (gr 2 0 0) X [(h0, .inr (6, [.int (iI ft), .int (iI sc), .ref u2, .ref u3, .ref u4, .ref u5, .ref u6, .ref u7, .ref u8, .int (iI rm), .int (iI wc), .ref u11, .int (iI sh), .int (iI tq), .ref u14, .int (iI cnt), .ref u16, .int (iI gf), .int (iI gs), .int (iI rc), .ref u20, .ref u21, .ref u22, .ref u23, .ref u24, .int (iI tc)])), (u5, .inl (X.2.1.1, 8, .inl (iF Ly))), (u6, .inl (X.2.1.1, 8, .inl (iF Wo)))] [.ref h0, .int (iI k), .int (iI w)] (gQl X (Y := Unit) (fun _ => True) (fun _ => (if 1 ≤ k ∧ k ≤ 6 ∧ 0 ≤ w ∧ w ≤ 1 ∧ ¬ (lbL Ly Wo 100 (Int.toNat sc)) = 0 then shV (bwV Ly Wo (Int.toNat sc) k) (pwI (lbL Ly Wo 100 (Int.toNat sc)) k) w else -9223372036854775808)) (fun _ => [(h0, .inr (6, [.int (iI ft), .int (iI sc), .ref u2, .ref u3, .ref u4, .ref u5, .ref u6, .ref u7, .ref u8, .int (iI rm), .int (iI wc), .ref u11, .int (iI sh), .int (iI tq), .ref u14, .int (iI cnt), .ref u16, .int (iI gf), .int (iI gs), .int (iI rc), .ref u20, .ref u21, .ref u22, .ref u23, .ref u24, .int (iI tc)])), (u5, .inl (X.2.1.1, 8, .inl (iF Ly))), (u6, .inl (X.2.1.1, 8, .inl (iF Wo)))])) 0 0 := by
  refine g_start2 (lo := [(0, .ref h0), (1, .int (iI k)), (2, .int (iI w))]) (by decide +kernel) rfl rfl (Nat.le_of_ble_eq_true rfl) (fun p e s m args below meth c A C => ?_)
  have hlb := lbL_B (Ly := Ly) (Wo := Wo) 100 (Int.toNat sc) (fun i _ => hLyR i)
  refine r_aload_n C dX6_mean_0 0 rfl ?_
  refine r_bipush C dX6_mean_1 (by decide) ?_
  refine g_V_i (ws2 := (fun _ => [(h0, .inr (6, [.int (iI ft), .int (iI sc), .ref u2, .ref u3, .ref u4, .ref u5, .ref u6, .ref u7, .ref u8, .int (iI rm), .int (iI wc), .ref u11, .int (iI sh), .int (iI tq), .ref u14, .int (iI cnt), .ref u16, .int (iI gf), .int (iI gs), .int (iI rc), .ref u20, .ref u21, .ref u22, .ref u23, .ref u24, .int (iI tc)])), (u5, .inl (X.2.1.1, 8, .inl (iF Ly))), (u6, .inl (X.2.1.1, 8, .inl (iF Wo)))])) (As := [.int (iI 99)]) C (c_X6_lieBelow l X h0 u2 u3 u4 u5 u6 u7 u8 u11 u14 u16 u20 u21 u22 u23 u24 ft sc rm wc sh tq cnt gf gs rc tc Ly Wo 99 (by first | assumption | omega) (by first | assumption | omega) (by assumption) (by assumption)) gX6_mean_X6_lieBelow rfl rfl rfl hd_V_X6_lieBelow_X6_mean (by decide) dX6_mean_3 [0, 1, 2] [] [0, 1, 2] rfl rfl rfl rfl (by decide) rfl 0 6 rfl rfl rfl rfl (Nat.le_of_ble_eq_true rfl) (by decide) (fun _ => rfl) (fun _ hy_ => ?_)
  have y_1 : 0 ≤ (lbL Ly Wo (99 + 1) (Int.toNat sc)) ∧ (lbL Ly Wo (99 + 1) (Int.toNat sc)) ≤ 72 := hy_
  clear hy_
  refine r_topi (z := (lbL Ly Wo 100 (Int.toNat sc))) (by rfl) ?_
  refine r_istore_n (lo2 := [(3, .int (iI (lbL Ly Wo 100 (Int.toNat sc)))), (0, .ref h0), (1, .int (iI k)), (2, .int (iI w))]) C dX6_mean_6 rfl (by decide) rfl ?_
  refine r_iload_n C dX6_mean_7 2 rfl ?_
  refine r_i2l C dX6_mean_8 (by omega) ?_
  refine r_lconst (z := 1) C dX6_mean_9 rfl ?_
  refine r_ldc2 (z := 6) C dX6_mean_10 kw_X6_mean_0 rfl ?_
  refine g_S_i (ws2 := (fun _ => [(h0, .inr (6, [.int (iI ft), .int (iI sc), .ref u2, .ref u3, .ref u4, .ref u5, .ref u6, .ref u7, .ref u8, .int (iI rm), .int (iI wc), .ref u11, .int (iI sh), .int (iI tq), .ref u14, .int (iI cnt), .ref u16, .int (iI gf), .int (iI gs), .int (iI rc), .ref u20, .ref u21, .ref u22, .ref u23, .ref u24, .int (iI tc)])), (u5, .inl (X.2.1.1, 8, .inl (iF Ly))), (u6, .inl (X.2.1.1, 8, .inl (iF Wo)))])) (As := [.long (lI k), .long (lI 1), .long (lI 6)]) C (c_X6_in l X k 1 6 (by first | assumption | omega) (by first | assumption | omega) (by first | assumption | omega)) gX6_mean_X6_in rfl rfl rfl hd_S_X6_in_X6_mean (by decide) dX6_mean_13 [] [0, 1, 2] [0, 1, 2] rfl rfl rfl rfl (by decide) rfl rfl rfl (Nat.le_of_ble_eq_true rfl) (by decide) (fun _ => rfl) (fun _ hy_ => ?_)
  clear hy_
  refine r_ite (fun h_3 => ?_) (fun h_3 => ?_)
  · skip
    refine r_if_eq (tgt := 33) C dX6_mean_16 (by decide) (by decide) (fun h_4 => absurd h_4 (by decide)) (fun h_4 => ?_)
    refine r_iload_n C dX6_mean_19 3 rfl ?_
    refine r_i2l C dX6_mean_20 (by omega) ?_
    refine r_lconst (z := 0) C dX6_mean_21 rfl ?_
    refine r_lconst (z := 1) C dX6_mean_22 rfl ?_
    refine g_S_i (ws2 := (fun _ => [(h0, .inr (6, [.int (iI ft), .int (iI sc), .ref u2, .ref u3, .ref u4, .ref u5, .ref u6, .ref u7, .ref u8, .int (iI rm), .int (iI wc), .ref u11, .int (iI sh), .int (iI tq), .ref u14, .int (iI cnt), .ref u16, .int (iI gf), .int (iI gs), .int (iI rc), .ref u20, .ref u21, .ref u22, .ref u23, .ref u24, .int (iI tc)])), (u5, .inl (X.2.1.1, 8, .inl (iF Ly))), (u6, .inl (X.2.1.1, 8, .inl (iF Wo)))])) (As := [.long (lI w), .long (lI 0), .long (lI 1)]) C (c_X6_in l X w 0 1 (by first | assumption | omega) (by first | assumption | omega) (by first | assumption | omega)) gX6_mean_X6_in rfl rfl rfl hd_S_X6_in_X6_mean (by decide) dX6_mean_23 [] [0, 1, 2] [0, 1, 2] rfl rfl rfl rfl (by decide) rfl rfl rfl (Nat.le_of_ble_eq_true rfl) (by decide) (fun _ => rfl) (fun _ hy_ => ?_)
    clear hy_
    refine r_ite (fun h_5 => ?_) (fun h_5 => ?_)
    · skip
      refine r_if_eq (tgt := 33) C dX6_mean_26 (by decide) (by decide) (fun h_6 => absurd h_6 (by decide)) (fun h_6 => ?_)
      refine r_iload_n C dX6_mean_29 0 rfl ?_
      refine r_if_ne (tgt := 37) C dX6_mean_30 (by decide) (by omega) (fun h_7 => ?_) (fun h_7 => ?_)
      · skip
        have bb := bwV_B (Ly := Ly) (Wo := Wo) (ns := Int.toNat sc) (k := k) (by omega) (fun i _ => hLyR i) (by omega) (fun i _ => hWoR i)
        have pp := pwI_72 (a := (lbL Ly Wo 100 (Int.toNat sc))) (k := k) (by omega) (by omega)
        have p1_ : 1 ≤ pwI (lbL Ly Wo 100 (Int.toNat sc)) k := pwI_pos (by omega) _
        refine r_aload_n C dX6_mean_37 1 rfl ?_
        refine r_iload_n C dX6_mean_38 2 rfl ?_
        refine g_V_l (ws2 := (fun _ => [(h0, .inr (6, [.int (iI ft), .int (iI sc), .ref u2, .ref u3, .ref u4, .ref u5, .ref u6, .ref u7, .ref u8, .int (iI rm), .int (iI wc), .ref u11, .int (iI sh), .int (iI tq), .ref u14, .int (iI cnt), .ref u16, .int (iI gf), .int (iI gs), .int (iI rc), .ref u20, .ref u21, .ref u22, .ref u23, .ref u24, .int (iI tc)])), (u5, .inl (X.2.1.1, 8, .inl (iF Ly))), (u6, .inl (X.2.1.1, 8, .inl (iF Wo)))])) (As := [.int (iI k)]) C (c_X6_bestSum l X h0 u2 u3 u4 u5 u6 u7 u8 u11 u14 u16 u20 u21 u22 u23 u24 ft sc rm wc sh tq cnt gf gs rc tc Ly Wo k (by first | assumption | omega) (by assumption) (by assumption) (by first | assumption | omega)) gX6_mean_X6_bestSum rfl rfl rfl hd_V_X6_bestSum_X6_mean (by decide) dX6_mean_39 [0, 1, 2] [] [0, 1, 2] rfl rfl rfl rfl (by decide) rfl 0 6 rfl rfl rfl rfl (Nat.le_of_ble_eq_true rfl) (by decide) (fun _ => rfl) (fun _ hy_ => ?_)
        clear hy_
        refine r_iload_n C dX6_mean_42 0 rfl ?_
        refine r_iload_n C dX6_mean_43 2 rfl ?_
        refine g_S_l (ws2 := (fun _ => [(h0, .inr (6, [.int (iI ft), .int (iI sc), .ref u2, .ref u3, .ref u4, .ref u5, .ref u6, .ref u7, .ref u8, .int (iI rm), .int (iI wc), .ref u11, .int (iI sh), .int (iI tq), .ref u14, .int (iI cnt), .ref u16, .int (iI gf), .int (iI gs), .int (iI rc), .ref u20, .ref u21, .ref u22, .ref u23, .ref u24, .int (iI tc)])), (u5, .inl (X.2.1.1, 8, .inl (iF Ly))), (u6, .inl (X.2.1.1, 8, .inl (iF Wo)))])) (As := [.int (iI (lbL Ly Wo 100 (Int.toNat sc))), .int (iI k)]) C (c_X6_power l X (lbL Ly Wo 100 (Int.toNat sc)) k (by first | assumption | omega) (by first | assumption | omega)) gX6_mean_X6_power rfl rfl rfl hd_S_X6_power_X6_mean (by decide) dX6_mean_44 [] [0, 1, 2] [0, 1, 2] rfl rfl rfl rfl (by decide) rfl rfl rfl (Nat.le_of_ble_eq_true rfl) (by decide) (fun _ => rfl) (fun _ hy_ => ?_)
        clear hy_
        refine r_iload_n C dX6_mean_47 3 rfl ?_
        refine g_S_l (ws2 := (fun _ => [(h0, .inr (6, [.int (iI ft), .int (iI sc), .ref u2, .ref u3, .ref u4, .ref u5, .ref u6, .ref u7, .ref u8, .int (iI rm), .int (iI wc), .ref u11, .int (iI sh), .int (iI tq), .ref u14, .int (iI cnt), .ref u16, .int (iI gf), .int (iI gs), .int (iI rc), .ref u20, .ref u21, .ref u22, .ref u23, .ref u24, .int (iI tc)])), (u5, .inl (X.2.1.1, 8, .inl (iF Ly))), (u6, .inl (X.2.1.1, 8, .inl (iF Wo)))])) (As := [.long (lI (bwV Ly Wo (Int.toNat sc) k)), .long (lI (pwI (lbL Ly Wo 100 (Int.toNat sc)) k)), .int (iI w)]) C (c_X6_share l X (bwV Ly Wo (Int.toNat sc) k) (pwI (lbL Ly Wo 100 (Int.toNat sc)) k) w (by first | assumption | omega) (by first | assumption | omega) (by first | assumption | omega)) gX6_mean_X6_share rfl rfl rfl hd_S_X6_share_X6_mean (by decide) dX6_mean_48 [] [0, 1, 2] [0, 1, 2] rfl rfl rfl rfl (by decide) rfl rfl rfl (Nat.le_of_ble_eq_true rfl) (by decide) (fun _ => rfl) (fun _ hy_ => ?_)
        clear hy_
        exact g_ret_l C rfl dX6_mean_51 () trivial (by first | (rw [if_pos (by omega)]; done) | (rw [if_neg (by omega)]; done)) [0, 1, 2] rfl rfl
      · skip
        refine g_S_l (ws2 := (fun _ => [(h0, .inr (6, [.int (iI ft), .int (iI sc), .ref u2, .ref u3, .ref u4, .ref u5, .ref u6, .ref u7, .ref u8, .int (iI rm), .int (iI wc), .ref u11, .int (iI sh), .int (iI tq), .ref u14, .int (iI cnt), .ref u16, .int (iI gf), .int (iI gs), .int (iI rc), .ref u20, .ref u21, .ref u22, .ref u23, .ref u24, .int (iI tc)])), (u5, .inl (X.2.1.1, 8, .inl (iF Ly))), (u6, .inl (X.2.1.1, 8, .inl (iF Wo)))])) (As := []) C (c_X6_lost l X  ) gX6_mean_X6_lost rfl rfl rfl hd_S_X6_lost_X6_mean (by decide) dX6_mean_33 [] [0, 1, 2] [0, 1, 2] rfl rfl rfl rfl (by decide) rfl rfl rfl (Nat.le_of_ble_eq_true rfl) (by decide) (fun _ => rfl) (fun _ hy_ => ?_)
        clear hy_
        exact g_ret_l C rfl dX6_mean_36 () trivial (by first | (rw [if_pos (by omega)]; done) | (rw [if_neg (by omega)]; done)) [0, 1, 2] rfl rfl
    · skip
      refine r_if_eq (tgt := 33) C dX6_mean_26 (by decide) (by decide) (fun h_8 => ?_) (fun h_8 => absurd h_8 (by decide))
      refine g_S_l (ws2 := (fun _ => [(h0, .inr (6, [.int (iI ft), .int (iI sc), .ref u2, .ref u3, .ref u4, .ref u5, .ref u6, .ref u7, .ref u8, .int (iI rm), .int (iI wc), .ref u11, .int (iI sh), .int (iI tq), .ref u14, .int (iI cnt), .ref u16, .int (iI gf), .int (iI gs), .int (iI rc), .ref u20, .ref u21, .ref u22, .ref u23, .ref u24, .int (iI tc)])), (u5, .inl (X.2.1.1, 8, .inl (iF Ly))), (u6, .inl (X.2.1.1, 8, .inl (iF Wo)))])) (As := []) C (c_X6_lost l X  ) gX6_mean_X6_lost rfl rfl rfl hd_S_X6_lost_X6_mean (by decide) dX6_mean_33 [] [0, 1, 2] [0, 1, 2] rfl rfl rfl rfl (by decide) rfl rfl rfl (Nat.le_of_ble_eq_true rfl) (by decide) (fun _ => rfl) (fun _ hy_ => ?_)
      clear hy_
      exact g_ret_l C rfl dX6_mean_36 () trivial (by first | (rw [if_pos (by omega)]; done) | (rw [if_neg (by omega)]; done)) [0, 1, 2] rfl rfl
  · skip
    refine r_if_eq (tgt := 33) C dX6_mean_16 (by decide) (by decide) (fun h_9 => ?_) (fun h_9 => absurd h_9 (by decide))
    refine g_S_l (ws2 := (fun _ => [(h0, .inr (6, [.int (iI ft), .int (iI sc), .ref u2, .ref u3, .ref u4, .ref u5, .ref u6, .ref u7, .ref u8, .int (iI rm), .int (iI wc), .ref u11, .int (iI sh), .int (iI tq), .ref u14, .int (iI cnt), .ref u16, .int (iI gf), .int (iI gs), .int (iI rc), .ref u20, .ref u21, .ref u22, .ref u23, .ref u24, .int (iI tc)])), (u5, .inl (X.2.1.1, 8, .inl (iF Ly))), (u6, .inl (X.2.1.1, 8, .inl (iF Wo)))])) (As := []) C (c_X6_lost l X  ) gX6_mean_X6_lost rfl rfl rfl hd_S_X6_lost_X6_mean (by decide) dX6_mean_33 [] [0, 1, 2] [0, 1, 2] rfl rfl rfl rfl (by decide) rfl rfl rfl (Nat.le_of_ble_eq_true rfl) (by decide) (fun _ => rfl) (fun _ hy_ => ?_)
    clear hy_
    exact g_ret_l C rfl dX6_mean_36 () trivial (by first | (rw [if_pos (by omega)]; done) | (rw [if_neg (by omega)]; done)) [0, 1, 2] rfl rfl

set_option maxRecDepth 20000 in
theorem hd_V_X6_lieBelow_X6_hours : yX6_lieBelow.cls = yX6_lieBelow.cls ∧ yX6_lieBelow.cls ≠ "java/lang/invoke/MethodHandle" ∧ yX6_lieBelow.cls ≠ "java/lang/invoke/VarHandle" ∧ (parseMethodDescriptor yX6_lieBelow.desc).map (fun d => d.parameters.length) = some 1 := by decide +kernel
set_option maxRecDepth 20000 in
theorem kw_X6_hours_0 : Cond.constantLong RX6 101 (99) ∈ wsX6_hours := List.mem_of_getElem? (i := 1) rfl
set_option maxRecDepth 20000 in
theorem hd_S_X6_in_X6_hours : yX6_in.cls ≠ "java/lang/invoke/MethodHandle" ∧ yX6_in.cls ≠ "java/lang/invoke/VarHandle" ∧ (parseMethodDescriptor yX6_in.desc).map (fun d => d.parameters.length) = some 3 := by decide +kernel
set_option maxRecDepth 20000 in
theorem hd_V_X6_bestSum_X6_hours : yX6_bestSum.cls = yX6_bestSum.cls ∧ yX6_bestSum.cls ≠ "java/lang/invoke/MethodHandle" ∧ yX6_bestSum.cls ≠ "java/lang/invoke/VarHandle" ∧ (parseMethodDescriptor yX6_bestSum.desc).map (fun d => d.parameters.length) = some 1 := by decide +kernel
set_option maxRecDepth 20000 in
theorem hd_S_X6_power_X6_hours : yX6_power.cls ≠ "java/lang/invoke/MethodHandle" ∧ yX6_power.cls ≠ "java/lang/invoke/VarHandle" ∧ (parseMethodDescriptor yX6_power.desc).map (fun d => d.parameters.length) = some 2 := by decide +kernel
set_option maxHeartbeats 4000000 in
set_option maxRecDepth 100000 in
theorem c_X6_hours (l : Launch) (X : gX) (h0 : Nat) (u2 : Nat) (u3 : Nat) (u4 : Nat) (u5 : Nat) (u6 : Nat) (u7 : Nat) (u8 : Nat) (u11 : Nat) (u14 : Nat) (u16 : Nat) (u20 : Nat) (u21 : Nat) (u22 : Nat) (u23 : Nat) (u24 : Nat) (ft : Int) (sc : Int) (rm : Int) (wc : Int) (sh : Int) (tq : Int) (cnt : Int) (gf : Int) (gs : Int) (rc : Int) (tc : Int) (Ly : Nat → Int) (Wo : Nat → Int) (cost : Int) (hb_cost : inB cost) (hsc : 0 ≤ sc ∧ sc ≤ 8) (hLyR : ∀ i, 0 ≤ Ly i ∧ Ly i ≤ 9) (hWoR : ∀ i, 0 ≤ Wo i ∧ Wo i ≤ 99) : gM l yX6_hours wsX6_hours (gr 2 0 0) X [(h0, .inr (6, [.int (iI ft), .int (iI sc), .ref u2, .ref u3, .ref u4, .ref u5, .ref u6, .ref u7, .ref u8, .int (iI rm), .int (iI wc), .ref u11, .int (iI sh), .int (iI tq), .ref u14, .int (iI cnt), .ref u16, .int (iI gf), .int (iI gs), .int (iI rc), .ref u20, .ref u21, .ref u22, .ref u23, .ref u24, .int (iI tc)])), (u5, .inl (X.2.1.1, 8, .inl (iF Ly))), (u6, .inl (X.2.1.1, 8, .inl (iF Wo)))] [.ref h0, .int (iI cost)] (gQi X (Y := Unit) (fun _ => True) (fun _ => (if ¬ (0 ≤ cost ∧ cost ≤ 99) then -2 else if (lbL Ly Wo 100 (Int.toNat sc)) = 0 then -3 else (hrV Ly Wo (Int.toNat sc) cost).2)) (fun _ => [(h0, .inr (6, [.int (iI ft), .int (iI sc), .ref u2, .ref u3, .ref u4, .ref u5, .ref u6, .ref u7, .ref u8, .int (iI rm), .int (iI wc), .ref u11, .int (iI sh), .int (iI tq), .ref u14, .int (iI cnt), .ref u16, .int (iI gf), .int (iI gs), .int (iI rc), .ref u20, .ref u21, .ref u22, .ref u23, .ref u24, .int (iI tc)])), (u5, .inl (X.2.1.1, 8, .inl (iF Ly))), (u6, .inl (X.2.1.1, 8, .inl (iF Wo)))])) 0 0 := by
  refine g_start2 (lo := [(0, .ref h0), (1, .int (iI cost))]) (by decide +kernel) rfl rfl (Nat.le_of_ble_eq_true rfl) (fun p e s m args below meth c A C => ?_)
  have hlb := lbL_B (Ly := Ly) (Wo := Wo) 100 (Int.toNat sc) (fun i _ => hLyR i)
  refine r_aload_n C dX6_hours_0 0 rfl ?_
  refine r_bipush C dX6_hours_1 (by decide) ?_
  refine g_V_i (ws2 := (fun _ => [(h0, .inr (6, [.int (iI ft), .int (iI sc), .ref u2, .ref u3, .ref u4, .ref u5, .ref u6, .ref u7, .ref u8, .int (iI rm), .int (iI wc), .ref u11, .int (iI sh), .int (iI tq), .ref u14, .int (iI cnt), .ref u16, .int (iI gf), .int (iI gs), .int (iI rc), .ref u20, .ref u21, .ref u22, .ref u23, .ref u24, .int (iI tc)])), (u5, .inl (X.2.1.1, 8, .inl (iF Ly))), (u6, .inl (X.2.1.1, 8, .inl (iF Wo)))])) (As := [.int (iI 99)]) C (c_X6_lieBelow l X h0 u2 u3 u4 u5 u6 u7 u8 u11 u14 u16 u20 u21 u22 u23 u24 ft sc rm wc sh tq cnt gf gs rc tc Ly Wo 99 (by first | assumption | omega) (by first | assumption | omega) (by assumption) (by assumption)) gX6_hours_X6_lieBelow rfl rfl rfl hd_V_X6_lieBelow_X6_hours (by decide) dX6_hours_3 [0, 1, 2] [] [0, 1, 2] rfl rfl rfl rfl (by decide) rfl 0 6 rfl rfl rfl rfl (Nat.le_of_ble_eq_true rfl) (by decide) (fun _ => rfl) (fun _ hy_ => ?_)
  have y_1 : 0 ≤ (lbL Ly Wo (99 + 1) (Int.toNat sc)) ∧ (lbL Ly Wo (99 + 1) (Int.toNat sc)) ≤ 72 := hy_
  clear hy_
  refine r_topi (z := (lbL Ly Wo 100 (Int.toNat sc))) (by rfl) ?_
  refine r_istore_n (lo2 := [(2, .int (iI (lbL Ly Wo 100 (Int.toNat sc)))), (0, .ref h0), (1, .int (iI cost))]) C dX6_hours_6 rfl (by decide) rfl ?_
  refine r_iload_n C dX6_hours_7 2 rfl ?_
  refine r_i2l C dX6_hours_8 (by omega) ?_
  refine r_lconst (z := 0) C dX6_hours_9 rfl ?_
  refine r_ldc2 (z := 99) C dX6_hours_10 kw_X6_hours_0 rfl ?_
  refine g_S_i (ws2 := (fun _ => [(h0, .inr (6, [.int (iI ft), .int (iI sc), .ref u2, .ref u3, .ref u4, .ref u5, .ref u6, .ref u7, .ref u8, .int (iI rm), .int (iI wc), .ref u11, .int (iI sh), .int (iI tq), .ref u14, .int (iI cnt), .ref u16, .int (iI gf), .int (iI gs), .int (iI rc), .ref u20, .ref u21, .ref u22, .ref u23, .ref u24, .int (iI tc)])), (u5, .inl (X.2.1.1, 8, .inl (iF Ly))), (u6, .inl (X.2.1.1, 8, .inl (iF Wo)))])) (As := [.long (lI cost), .long (lI 0), .long (lI 99)]) C (c_X6_in l X cost 0 99 (by first | assumption | omega) (by first | assumption | omega) (by first | assumption | omega)) gX6_hours_X6_in rfl rfl rfl hd_S_X6_in_X6_hours (by decide) dX6_hours_13 [] [0, 1, 2] [0, 1, 2] rfl rfl rfl rfl (by decide) rfl rfl rfl (Nat.le_of_ble_eq_true rfl) (by decide) (fun _ => rfl) (fun _ hy_ => ?_)
  clear hy_
  refine r_ite (fun h_3 => ?_) (fun h_3 => ?_)
  · skip
    refine r_if_ne (tgt := 22) C dX6_hours_16 (by decide) (by decide) (fun h_4 => ?_) (fun h_4 => absurd h_4 (by decide))
    refine r_iload_n C dX6_hours_22 0 rfl ?_
    refine r_if_ne (tgt := 29) C dX6_hours_23 (by decide) (by omega) (fun h_5 => ?_) (fun h_5 => ?_)
    · skip
      refine r_iconst C dX6_hours_29 ?_
      refine r_istore_n (lo2 := [(3, .int (iI 0)), (2, .int (iI (lbL Ly Wo 100 (Int.toNat sc)))), (0, .ref h0), (1, .int (iI cost))]) C dX6_hours_30 rfl (by decide) rfl ?_
      refine r_lconst (z := 0) C dX6_hours_31 rfl ?_
      refine r_lstore (lo2 := [(4, .long (lI 0)), (3, .int (iI 0)), (2, .int (iI (lbL Ly Wo 100 (Int.toNat sc)))), (0, .ref h0), (1, .int (iI cost))]) C dX6_hours_32 (by decide) rfl ?_
      refine r_iconst C dX6_hours_34 ?_
      refine r_istore (lo2 := [(6, .int (iI 1)), (4, .long (lI 0)), (3, .int (iI 0)), (2, .int (iI (lbL Ly Wo 100 (Int.toNat sc)))), (0, .ref h0), (1, .int (iI cost))]) C dX6_hours_35 (by decide) rfl ?_
      have L37 : ∀ (fu37 : Nat) (a2 : Int) (a1 : Int) (c1 : Int), (1 ≤ c1 ∧ c1 ≤ 7) → (-100000000000000 ≤ a1 ∧ a1 ≤ 100000000000000) → ((c1 = 1 ∧ a2 = 0) ∨ (2 ≤ c1 ∧ 1 ≤ a2 ∧ a2 ≤ 6)) → (hrV Ly Wo (Int.toNat sc) cost = gIn (hrF Ly Wo (Int.toNat sc) cost) (7 - c1).toNat c1 (a1, if a2 = 0 then 1 else a2)) → (7 - c1).toNat < fu37 → gW p l e (gr 2 0 0) s m args below meth c X A 9 (MQ below ((gQi X (Y := Unit) (fun _ => True) (fun _ => (if ¬ (0 ≤ cost ∧ cost ≤ 99) then -2 else if (lbL Ly Wo 100 (Int.toNat sc)) = 0 then -3 else (hrV Ly Wo (Int.toNat sc) cost).2)) (fun _ => [(h0, .inr (6, [.int (iI ft), .int (iI sc), .ref u2, .ref u3, .ref u4, .ref u5, .ref u6, .ref u7, .ref u8, .int (iI rm), .int (iI wc), .ref u11, .int (iI sh), .int (iI tq), .ref u14, .int (iI cnt), .ref u16, .int (iI gf), .int (iI gs), .int (iI rc), .ref u20, .ref u21, .ref u22, .ref u23, .ref u24, .int (iI tc)])), (u5, .inl (X.2.1.1, 8, .inl (iF Ly))), (u6, .inl (X.2.1.1, 8, .inl (iF Wo)))])) A) args s 0 0 A) 0 0 [(h0, .inr (6, [.int (iI ft), .int (iI sc), .ref u2, .ref u3, .ref u4, .ref u5, .ref u6, .ref u7, .ref u8, .int (iI rm), .int (iI wc), .ref u11, .int (iI sh), .int (iI tq), .ref u14, .int (iI cnt), .ref u16, .int (iI gf), .int (iI gs), .int (iI rc), .ref u20, .ref u21, .ref u22, .ref u23, .ref u24, .int (iI tc)])), (u5, .inl (X.2.1.1, 8, .inl (iF Ly))), (u6, .inl (X.2.1.1, 8, .inl (iF Wo)))] 37 [(2, .int (iI (lbL Ly Wo 100 (Int.toNat sc)))), (0, .ref h0), (1, .int (iI cost)), (3, .int (iI a2)), (4, .long (lI a1)), (6, .int (iI c1))] [] := by
        intro fu37
        induction fu37 with
        | zero => intro a2 a1 c1 ic ia iz iL hm37; exact absurd hm37 (Nat.not_lt_zero _)
        | succ fu37 ih37 =>
          intro a2 a1 c1 ic ia iz iL hm37
          refine r_iload C dX6_hours_37 5 rfl ?_
          refine r_bipush C dX6_hours_39 (by decide) ?_
          refine r_icmp_ge (tgt := 101) C dX6_hours_41 (by decide) (by omega) (by decide) (fun h_6 => ?_) (fun h_6 => ?_)
          · skip
            refine r_iload_n C dX6_hours_101 3 rfl ?_
            exact g_ret_i C rfl dX6_hours_102 () trivial (by rw [if_neg (by omega), if_neg (by omega), iL, gIn_endW (by omega), if_neg (by omega)]) [0, 1, 2] rfl rfl
          · skip
            have hB := hr_B (Ly := Ly) (Wo := Wo) (ns := Int.toNat sc) (cost := cost) (n := c1) (by omega) (fun i _ => hLyR i) (fun i _ => hWoR i) (by omega) (by omega)
            have hm_ := mulB (a := c1) (b := cost) (A := 6) (B := 99) (by omega) (by omega)
            refine r_aload_n C dX6_hours_44 1 rfl ?_
            refine r_iload C dX6_hours_45 5 rfl ?_
            refine g_V_l (ws2 := (fun _ => [(h0, .inr (6, [.int (iI ft), .int (iI sc), .ref u2, .ref u3, .ref u4, .ref u5, .ref u6, .ref u7, .ref u8, .int (iI rm), .int (iI wc), .ref u11, .int (iI sh), .int (iI tq), .ref u14, .int (iI cnt), .ref u16, .int (iI gf), .int (iI gs), .int (iI rc), .ref u20, .ref u21, .ref u22, .ref u23, .ref u24, .int (iI tc)])), (u5, .inl (X.2.1.1, 8, .inl (iF Ly))), (u6, .inl (X.2.1.1, 8, .inl (iF Wo)))])) (As := [.int (iI c1)]) C (c_X6_bestSum l X h0 u2 u3 u4 u5 u6 u7 u8 u11 u14 u16 u20 u21 u22 u23 u24 ft sc rm wc sh tq cnt gf gs rc tc Ly Wo c1 (by first | assumption | omega) (by assumption) (by assumption) (by first | assumption | omega)) gX6_hours_X6_bestSum rfl rfl rfl hd_V_X6_bestSum_X6_hours (by decide) dX6_hours_47 [0, 1, 2] [] [0, 1, 2] rfl rfl rfl rfl (by decide) rfl 0 6 rfl rfl rfl rfl (Nat.le_of_ble_eq_true rfl) (by decide) (fun _ => rfl) (fun _ hy_ => ?_)
            clear hy_
            refine r_iload_n C dX6_hours_50 0 rfl ?_
            refine r_bipush C dX6_hours_51 (by decide) ?_
            refine r_iload C dX6_hours_53 5 rfl ?_
            refine r_isub C dX6_hours_55 ?_
            refine g_S_l (ws2 := (fun _ => [(h0, .inr (6, [.int (iI ft), .int (iI sc), .ref u2, .ref u3, .ref u4, .ref u5, .ref u6, .ref u7, .ref u8, .int (iI rm), .int (iI wc), .ref u11, .int (iI sh), .int (iI tq), .ref u14, .int (iI cnt), .ref u16, .int (iI gf), .int (iI gs), .int (iI rc), .ref u20, .ref u21, .ref u22, .ref u23, .ref u24, .int (iI tc)])), (u5, .inl (X.2.1.1, 8, .inl (iF Ly))), (u6, .inl (X.2.1.1, 8, .inl (iF Wo)))])) (As := [.int (iI (lbL Ly Wo 100 (Int.toNat sc))), .int (iI (6 - c1))]) C (c_X6_power l X (lbL Ly Wo 100 (Int.toNat sc)) (6 - c1) (by first | assumption | omega) (by first | assumption | omega)) gX6_hours_X6_power rfl rfl rfl hd_S_X6_power_X6_hours (by decide) dX6_hours_56 [] [0, 1, 2] [0, 1, 2] rfl rfl rfl rfl (by decide) rfl rfl rfl (Nat.le_of_ble_eq_true rfl) (by decide) (fun _ => rfl) (fun _ hy_ => ?_)
            clear hy_
            refine r_lmul C dX6_hours_59 ?_
            refine r_iload C dX6_hours_60 5 rfl ?_
            refine r_i2l C dX6_hours_62 (by omega) ?_
            refine r_iload_n C dX6_hours_63 2 rfl ?_
            refine r_i2l C dX6_hours_64 (by omega) ?_
            refine r_lmul C dX6_hours_65 ?_
            refine r_iload_n C dX6_hours_66 0 rfl ?_
            refine r_bipush C dX6_hours_67 (by decide) ?_
            refine g_S_l (ws2 := (fun _ => [(h0, .inr (6, [.int (iI ft), .int (iI sc), .ref u2, .ref u3, .ref u4, .ref u5, .ref u6, .ref u7, .ref u8, .int (iI rm), .int (iI wc), .ref u11, .int (iI sh), .int (iI tq), .ref u14, .int (iI cnt), .ref u16, .int (iI gf), .int (iI gs), .int (iI rc), .ref u20, .ref u21, .ref u22, .ref u23, .ref u24, .int (iI tc)])), (u5, .inl (X.2.1.1, 8, .inl (iF Ly))), (u6, .inl (X.2.1.1, 8, .inl (iF Wo)))])) (As := [.int (iI (lbL Ly Wo 100 (Int.toNat sc))), .int (iI 6)]) C (c_X6_power l X (lbL Ly Wo 100 (Int.toNat sc)) 6 (by first | assumption | omega) (by first | assumption | omega)) gX6_hours_X6_power rfl rfl rfl hd_S_X6_power_X6_hours (by decide) dX6_hours_69 [] [0, 1, 2] [0, 1, 2] rfl rfl rfl rfl (by decide) rfl rfl rfl (Nat.le_of_ble_eq_true rfl) (by decide) (fun _ => rfl) (fun _ hy_ => ?_)
            clear hy_
            refine r_lmul C dX6_hours_72 ?_
            refine r_lsub C dX6_hours_73 ?_
            refine r_lstore (lo2 := [(7, .long (lI (((bwV Ly Wo (Int.toNat sc) c1) * (pwI (lbL Ly Wo 100 (Int.toNat sc)) (6 - c1))) - ((c1 * cost) * (pwI (lbL Ly Wo 100 (Int.toNat sc)) 6))))), (2, .int (iI (lbL Ly Wo 100 (Int.toNat sc)))), (0, .ref h0), (1, .int (iI cost)), (3, .int (iI a2)), (4, .long (lI a1)), (6, .int (iI c1))]) C dX6_hours_74 (by decide) rfl ?_
            refine r_iload_n C dX6_hours_76 4 rfl ?_
            refine r_if_eq (tgt := 88) C dX6_hours_77 (by decide) (by omega) (fun h_7 => ?_) (fun h_7 => ?_)
            · skip
              refine r_iload C dX6_hours_88 6 rfl ?_
              refine r_istore_n (lo2 := [(3, .int (iI c1)), (7, .long (lI (((bwV Ly Wo (Int.toNat sc) c1) * (pwI (lbL Ly Wo 100 (Int.toNat sc)) (6 - c1))) - ((c1 * cost) * (pwI (lbL Ly Wo 100 (Int.toNat sc)) 6))))), (2, .int (iI (lbL Ly Wo 100 (Int.toNat sc)))), (0, .ref h0), (1, .int (iI cost)), (4, .long (lI a1)), (6, .int (iI c1))]) C dX6_hours_90 rfl (by decide) rfl ?_
              refine r_lload C dX6_hours_91 1 rfl ?_
              refine r_lstore (lo2 := [(4, .long (lI (((bwV Ly Wo (Int.toNat sc) c1) * (pwI (lbL Ly Wo 100 (Int.toNat sc)) (6 - c1))) - ((c1 * cost) * (pwI (lbL Ly Wo 100 (Int.toNat sc)) 6))))), (3, .int (iI c1)), (7, .long (lI (((bwV Ly Wo (Int.toNat sc) c1) * (pwI (lbL Ly Wo 100 (Int.toNat sc)) (6 - c1))) - ((c1 * cost) * (pwI (lbL Ly Wo 100 (Int.toNat sc)) 6))))), (2, .int (iI (lbL Ly Wo 100 (Int.toNat sc)))), (0, .ref h0), (1, .int (iI cost)), (6, .int (iI c1))]) C dX6_hours_93 (by decide) rfl ?_
              refine r_iinc (lo2 := [(6, .int (iI (c1 + 1))), (4, .long (lI (((bwV Ly Wo (Int.toNat sc) c1) * (pwI (lbL Ly Wo 100 (Int.toNat sc)) (6 - c1))) - ((c1 * cost) * (pwI (lbL Ly Wo 100 (Int.toNat sc)) 6))))), (3, .int (iI c1)), (7, .long (lI (((bwV Ly Wo (Int.toNat sc) c1) * (pwI (lbL Ly Wo 100 (Int.toNat sc)) (6 - c1))) - ((c1 * cost) * (pwI (lbL Ly Wo 100 (Int.toNat sc)) 6))))), (2, .int (iI (lbL Ly Wo 100 (Int.toNat sc)))), (0, .ref h0), (1, .int (iI cost))]) C dX6_hours_95 6 rfl (by decide) rfl ?_
              refine r_goto (tgt := 37) C dX6_hours_98 (by decide) ?_
              refine r_lo [4, 5, 6, 2, 1, 0] (lo2 := [(2, .int (iI (lbL Ly Wo 100 (Int.toNat sc)))), (0, .ref h0), (1, .int (iI cost)), (3, .int (iI c1)), (4, .long (lI (((bwV Ly Wo (Int.toNat sc) c1) * (pwI (lbL Ly Wo 100 (Int.toNat sc)) (6 - c1))) - ((c1 * cost) * (pwI (lbL Ly Wo 100 (Int.toNat sc)) 6))))), (6, .int (iI (c1 + 1)))]) rfl ?_
              exact ih37 c1 (((bwV Ly Wo (Int.toNat sc) c1) * (pwI (lbL Ly Wo 100 (Int.toNat sc)) (6 - c1))) - ((c1 * cost) * (pwI (lbL Ly Wo 100 (Int.toNat sc)) 6))) (c1 + 1) (by omega) (by omega) (by omega) (by rw [iL, gIn_goW (by omega)]; first | (rw [hrF_t (by first | exact Or.inl (by omega) | exact Or.inr (by omega)), if_neg (show ¬ c1 = 0 by omega)]; done) | (rw [hrF_f (by intro q; rcases q with q | q <;> first | omega | (dsimp only at q; omega))]; done)) (by omega)
            · skip
              refine r_lload C dX6_hours_80 0 rfl ?_
              refine r_lload C dX6_hours_82 5 rfl ?_
              refine r_lcmp_le (tgt := 95) C dX6_hours_84 dX6_hours_85 (by decide) (by omega) (by omega) (fun h_8 => ?_) (fun h_8 => ?_)
              · skip
                refine r_iinc (lo2 := [(6, .int (iI (c1 + 1))), (7, .long (lI (((bwV Ly Wo (Int.toNat sc) c1) * (pwI (lbL Ly Wo 100 (Int.toNat sc)) (6 - c1))) - ((c1 * cost) * (pwI (lbL Ly Wo 100 (Int.toNat sc)) 6))))), (2, .int (iI (lbL Ly Wo 100 (Int.toNat sc)))), (0, .ref h0), (1, .int (iI cost)), (3, .int (iI a2)), (4, .long (lI a1))]) C dX6_hours_95 6 rfl (by decide) rfl ?_
                refine r_goto (tgt := 37) C dX6_hours_98 (by decide) ?_
                refine r_lo [2, 3, 4, 5, 6, 0] (lo2 := [(2, .int (iI (lbL Ly Wo 100 (Int.toNat sc)))), (0, .ref h0), (1, .int (iI cost)), (3, .int (iI a2)), (4, .long (lI a1)), (6, .int (iI (c1 + 1)))]) rfl ?_
                exact ih37 a2 a1 (c1 + 1) (by omega) (by omega) (by omega) (by rw [iL, gIn_goW (by omega)]; first | (rw [hrF_t (by first | exact Or.inl (by omega) | exact Or.inr (by omega)), if_neg (show ¬ c1 = 0 by omega)]; done) | (rw [hrF_f (by intro q; rcases q with q | q <;> first | omega | (dsimp only at q; omega))]; done)) (by omega)
              · skip
                refine r_iload C dX6_hours_88 6 rfl ?_
                refine r_istore_n (lo2 := [(3, .int (iI c1)), (7, .long (lI (((bwV Ly Wo (Int.toNat sc) c1) * (pwI (lbL Ly Wo 100 (Int.toNat sc)) (6 - c1))) - ((c1 * cost) * (pwI (lbL Ly Wo 100 (Int.toNat sc)) 6))))), (2, .int (iI (lbL Ly Wo 100 (Int.toNat sc)))), (0, .ref h0), (1, .int (iI cost)), (4, .long (lI a1)), (6, .int (iI c1))]) C dX6_hours_90 rfl (by decide) rfl ?_
                refine r_lload C dX6_hours_91 1 rfl ?_
                refine r_lstore (lo2 := [(4, .long (lI (((bwV Ly Wo (Int.toNat sc) c1) * (pwI (lbL Ly Wo 100 (Int.toNat sc)) (6 - c1))) - ((c1 * cost) * (pwI (lbL Ly Wo 100 (Int.toNat sc)) 6))))), (3, .int (iI c1)), (7, .long (lI (((bwV Ly Wo (Int.toNat sc) c1) * (pwI (lbL Ly Wo 100 (Int.toNat sc)) (6 - c1))) - ((c1 * cost) * (pwI (lbL Ly Wo 100 (Int.toNat sc)) 6))))), (2, .int (iI (lbL Ly Wo 100 (Int.toNat sc)))), (0, .ref h0), (1, .int (iI cost)), (6, .int (iI c1))]) C dX6_hours_93 (by decide) rfl ?_
                refine r_iinc (lo2 := [(6, .int (iI (c1 + 1))), (4, .long (lI (((bwV Ly Wo (Int.toNat sc) c1) * (pwI (lbL Ly Wo 100 (Int.toNat sc)) (6 - c1))) - ((c1 * cost) * (pwI (lbL Ly Wo 100 (Int.toNat sc)) 6))))), (3, .int (iI c1)), (7, .long (lI (((bwV Ly Wo (Int.toNat sc) c1) * (pwI (lbL Ly Wo 100 (Int.toNat sc)) (6 - c1))) - ((c1 * cost) * (pwI (lbL Ly Wo 100 (Int.toNat sc)) 6))))), (2, .int (iI (lbL Ly Wo 100 (Int.toNat sc)))), (0, .ref h0), (1, .int (iI cost))]) C dX6_hours_95 6 rfl (by decide) rfl ?_
                refine r_goto (tgt := 37) C dX6_hours_98 (by decide) ?_
                refine r_lo [4, 5, 6, 2, 1, 0] (lo2 := [(2, .int (iI (lbL Ly Wo 100 (Int.toNat sc)))), (0, .ref h0), (1, .int (iI cost)), (3, .int (iI c1)), (4, .long (lI (((bwV Ly Wo (Int.toNat sc) c1) * (pwI (lbL Ly Wo 100 (Int.toNat sc)) (6 - c1))) - ((c1 * cost) * (pwI (lbL Ly Wo 100 (Int.toNat sc)) 6))))), (6, .int (iI (c1 + 1)))]) rfl ?_
                exact ih37 c1 (((bwV Ly Wo (Int.toNat sc) c1) * (pwI (lbL Ly Wo 100 (Int.toNat sc)) (6 - c1))) - ((c1 * cost) * (pwI (lbL Ly Wo 100 (Int.toNat sc)) 6))) (c1 + 1) (by omega) (by omega) (by omega) (by rw [iL, gIn_goW (by omega)]; first | (rw [hrF_t (by first | exact Or.inl (by omega) | exact Or.inr (by omega)), if_neg (show ¬ c1 = 0 by omega)]; done) | (rw [hrF_f (by intro q; rcases q with q | q <;> first | omega | (dsimp only at q; omega))]; done)) (by omega)
      refine r_lo [3, 4, 5, 2, 1, 0] (lo2 := [(2, .int (iI (lbL Ly Wo 100 (Int.toNat sc)))), (0, .ref h0), (1, .int (iI cost)), (3, .int (iI 0)), (4, .long (lI 0)), (6, .int (iI 1))]) rfl ?_
      exact L37 ((7 - (1 : Int)).toNat + 1) 0 0 1 (by omega) (by omega) (by omega) rfl (Nat.lt_succ_self _)
    · skip
      refine r_bipush C dX6_hours_26 (by decide) ?_
      exact g_ret_i C rfl dX6_hours_28 () trivial (by (repeat' split) <;> first | rfl | omega) [0, 1, 2] rfl rfl
  · skip
    refine r_if_ne (tgt := 22) C dX6_hours_16 (by decide) (by decide) (fun h_9 => absurd h_9 (by decide)) (fun h_9 => ?_)
    refine r_bipush C dX6_hours_19 (by decide) ?_
    exact g_ret_i C rfl dX6_hours_21 () trivial (by (repeat' split) <;> first | rfl | omega) [0, 1, 2] rfl rfl
end M16
