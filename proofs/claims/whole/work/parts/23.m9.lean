section M9
set_option maxHeartbeats 4000000 in
set_option maxRecDepth 100000 in
theorem c_X5_commonDivisor (l : Launch) (X : gX) (p1 : Int) (p2 : Int) (h1 : 0 ≤ p1 ∧ p1 < 4611686018427387904) (h2 : 1 ≤ p2 ∧ p2 < 4611686018427387904) : gM l yX5_commonDivisor wsX5_commonDivisor (gr 0 0 0) X [] [.long (lI p1), .long (lI p2)] (gQl X (Y := Unit) (fun _ => True) (fun _ => (gcV p1 p2)) (fun _ => [])) 0 0 := by
  refine g_start2 (lo := [(0, .long (lI p1)), (2, .long (lI p2))]) (by decide +kernel) rfl rfl (Nat.le_of_ble_eq_true rfl) (fun p e s m args below meth c A C => ?_)
  refine r_iconst C dX5_commonDivisor_0 ?_
  refine r_istore (lo2 := [(4, .int (iI 0)), (0, .long (lI p1)), (2, .long (lI p2))]) C dX5_commonDivisor_1 (by decide) rfl ?_
  have L3 : ∀ (fu3 : Nat) (a1 : Int) (b1 : Int) (k : Int), (0 ≤ a1 ∧ a1 < 4611686018427387904) → (0 ≤ b1 ∧ b1 < 4611686018427387904) → (0 ≤ k ∧ k ≤ 200) → (eu 200 p1 p2 = eu (200 - k).toNat a1 b1) → (200 - k).toNat < fu3 → gW p l e (gr 0 0 0) s m args below meth c X A 7 (MQ below ((gQl X (Y := Unit) (fun _ => True) (fun _ => (gcV p1 p2)) (fun _ => [])) A) args s 0 0 A) 0 0 [] 3 [(0, .long (lI a1)), (2, .long (lI b1)), (4, .int (iI k))] [] := by
    intro fu3
    induction fu3 with
    | zero => intro a1 b1 k ia ib ik iE hm3; exact absurd hm3 (Nat.not_lt_zero _)
    | succ fu3 ih3 =>
      intro a1 b1 k ia ib ik iE hm3
      refine r_iload C dX5_commonDivisor_3 2 rfl ?_
      refine r_sipush C dX5_commonDivisor_5 (by decide) ?_
      refine r_icmp_ge (tgt := 33) C dX5_commonDivisor_8 (by decide) (by omega) (by decide) (fun h_1 => ?_) (fun h_1 => ?_)
      · skip
        refine r_lload_n C dX5_commonDivisor_33 0 rfl ?_
        exact g_ret_l C rfl dX5_commonDivisor_34 () trivial (by rw [← eu_200 (a := p1) (b := p2) (by omega) (by omega), iE]; first | (rw [show (200 - k).toNat = 0 by omega]; rfl) | (rw [eu_end (by omega) (by omega)])) [] rfl (by (repeat' split) <;> first | rfl | omega)
      · skip
        refine r_lload_n C dX5_commonDivisor_11 1 rfl ?_
        refine r_lconst (z := 0) C dX5_commonDivisor_12 rfl ?_
        refine r_lcmp_eq (tgt := 33) C dX5_commonDivisor_13 dX5_commonDivisor_14 (by decide) (by omega) (by decide) (fun h_2 => ?_) (fun h_2 => ?_)
        · skip
          refine r_lload_n C dX5_commonDivisor_33 0 rfl ?_
          exact g_ret_l C rfl dX5_commonDivisor_34 () trivial (by rw [← eu_200 (a := p1) (b := p2) (by omega) (by omega), iE]; first | (rw [show (200 - k).toNat = 0 by omega]; rfl) | (rw [eu_end (by omega) (by omega)])) [] rfl (by (repeat' split) <;> first | rfl | omega)
        · skip
          have hm := modB (a := a1) (b := b1) (by omega)
          refine r_lload_n C dX5_commonDivisor_17 0 rfl ?_
          refine r_lload_n C dX5_commonDivisor_18 1 rfl ?_
          refine r_lrem C dX5_commonDivisor_19 (by omega) (by omega) ?_
          refine r_lstore (lo2 := [(5, .long (lI (a1 % b1))), (0, .long (lI a1)), (2, .long (lI b1)), (4, .int (iI k))]) C dX5_commonDivisor_20 (by decide) rfl ?_
          refine r_lload_n C dX5_commonDivisor_22 2 rfl ?_
          refine r_lstore_n (lo2 := [(0, .long (lI b1)), (5, .long (lI (a1 % b1))), (2, .long (lI b1)), (4, .int (iI k))]) C dX5_commonDivisor_23 rfl (by decide) rfl ?_
          refine r_lload C dX5_commonDivisor_24 1 rfl ?_
          refine r_lstore_n (lo2 := [(2, .long (lI (a1 % b1))), (0, .long (lI b1)), (5, .long (lI (a1 % b1))), (4, .int (iI k))]) C dX5_commonDivisor_26 rfl (by decide) rfl ?_
          refine r_iinc (lo2 := [(4, .int (iI (k + 1))), (2, .long (lI (a1 % b1))), (0, .long (lI b1)), (5, .long (lI (a1 % b1)))]) C dX5_commonDivisor_27 3 rfl (by decide) rfl ?_
          refine r_goto (tgt := 3) C dX5_commonDivisor_30 (by decide) ?_
          refine r_lo [2, 1, 0] (lo2 := [(0, .long (lI b1)), (2, .long (lI (a1 % b1))), (4, .int (iI (k + 1)))]) rfl ?_
          exact ih3 b1 (a1 % b1) (k + 1) (by omega) (by omega) (by omega) (by rw [iE, eu_go (by omega) (by omega)]) (by omega)
  refine r_lo [1, 2, 0] (lo2 := [(0, .long (lI p1)), (2, .long (lI p2)), (4, .int (iI 0))]) rfl ?_
  exact L3 ((200 - (0 : Int)).toNat + 1) p1 p2 0 (by omega) (by omega) (by omega) rfl (Nat.lt_succ_self _)

set_option maxRecDepth 20000 in
theorem hd_S_X5_commonDivisor_X5_share : yX5_commonDivisor.cls ≠ "java/lang/invoke/MethodHandle" ∧ yX5_commonDivisor.cls ≠ "java/lang/invoke/VarHandle" ∧ (parseMethodDescriptor yX5_commonDivisor.desc).map (fun d => d.parameters.length) = some 2 := by decide +kernel
set_option maxHeartbeats 4000000 in
set_option maxRecDepth 100000 in
theorem c_X5_share (l : Launch) (X : gX) (p1 : Int) (p2 : Int) (w : Int) (h1 : 0 ≤ p1 ∧ p1 < 4611686018427387904) (h2 : 1 ≤ p2 ∧ p2 < 4611686018427387904) (hw : inB w) : gM l yX5_share wsX5_share (gr 1 0 0) X [] [.long (lI p1), .long (lI p2), .int (iI w)] (gQl X (Y := Unit) (fun _ => True) (fun _ => (shV p1 p2 w)) (fun _ => [])) 0 0 := by
  refine g_start2 (lo := [(0, .long (lI p1)), (2, .long (lI p2)), (4, .int (iI w))]) (by decide +kernel) rfl rfl (Nat.le_of_ble_eq_true rfl) (fun p e s m args below meth c A C => ?_)
  refine r_lload_n C dX5_share_0 0 rfl ?_
  refine r_lload_n C dX5_share_1 1 rfl ?_
  refine g_S_l (ws2 := (fun _ => [])) (As := [.long (lI p1), .long (lI p2)]) C (c_X5_commonDivisor l X p1 p2 (by first | assumption | omega) (by first | assumption | omega)) gX5_share_X5_commonDivisor rfl rfl rfl hd_S_X5_commonDivisor_X5_share (by decide) dX5_share_2 [] [] [] rfl rfl rfl rfl (by decide) rfl rfl rfl (Nat.le_of_ble_eq_true rfl) (by decide) (fun _ => rfl) (fun _ hy_ => ?_)
  clear hy_
  have hg := gcV_B p2.toNat p1 p2 (Nat.le_refl _) (by omega) (by omega) (Or.inr (by omega))
  refine r_lstore (lo2 := [(5, .long (lI (gcV p1 p2))), (0, .long (lI p1)), (2, .long (lI p2)), (4, .int (iI w))]) C dX5_share_5 (by decide) rfl ?_
  refine r_lload C dX5_share_7 0 rfl ?_
  refine r_lconst (z := 1) C dX5_share_9 rfl ?_
  refine r_lcmp_ge (tgt := 18) C dX5_share_10 dX5_share_11 (by decide) (by omega) (by decide) (fun h_1 => ?_) (fun h_1 => absurd h_1 (by omega))
  refine r_iload C dX5_share_18 3 rfl ?_
  refine r_if_ne (tgt := 30) C dX5_share_20 (by decide) (by omega) (fun h_2 => ?_) (fun h_2 => ?_)
  · skip
    refine r_lload_n C dX5_share_30 2 rfl ?_
    refine r_lload C dX5_share_31 0 rfl ?_
    refine r_ldiv C dX5_share_33 (by omega) (by omega) ?_
    exact g_ret_l C rfl dX5_share_34 () trivial (by unfold shV; first | (rw [if_pos (by omega)]; done) | (rw [if_neg (by omega)]; done)) [] rfl (by (repeat' split) <;> first | rfl | omega)
  · skip
    refine r_lload_n C dX5_share_23 1 rfl ?_
    refine r_lload C dX5_share_24 0 rfl ?_
    refine r_ldiv C dX5_share_26 (by omega) (by omega) ?_
    refine r_goto (tgt := 34) C dX5_share_27 (by decide) ?_
    exact g_ret_l C rfl dX5_share_34 () trivial (by unfold shV; first | (rw [if_pos (by omega)]; done) | (rw [if_neg (by omega)]; done)) [] rfl (by (repeat' split) <;> first | rfl | omega)

set_option maxHeartbeats 4000000 in
set_option maxRecDepth 100000 in
theorem c_X5_power (l : Launch) (X : gX) (b1 : Int) (k : Int) (hk : 0 ≤ k ∧ k ≤ 6) : gM l yX5_power wsX5_power (gr 0 0 0) X [] [.long (lI b1), .int (iI k)] (gQl X (Y := Unit) (fun _ => True) (fun _ => (pwI b1 k)) (fun _ => [])) 0 0 := by
  refine g_start2 (lo := [(0, .long (lI b1)), (2, .int (iI k))]) (by decide +kernel) rfl rfl (Nat.le_of_ble_eq_true rfl) (fun p e s m args below meth c A C => ?_)
  refine r_lconst (z := 1) C dX5_power_0 rfl ?_
  refine r_lstore_n (lo2 := [(3, .long (lI 1)), (0, .long (lI b1)), (2, .int (iI k))]) C dX5_power_1 rfl (by decide) rfl ?_
  refine r_iconst C dX5_power_2 ?_
  refine r_istore (lo2 := [(5, .int (iI 0)), (3, .long (lI 1)), (0, .long (lI b1)), (2, .int (iI k))]) C dX5_power_3 (by decide) rfl ?_
  have L5 : ∀ (fu5 : Nat) (q1 : Int) (c1 : Int), (0 ≤ c1 ∧ c1 ≤ k) → (q1 = pwI b1 c1) → (k - c1).toNat < fu5 → gW p l e (gr 0 0 0) s m args below meth c X A 6 (MQ below ((gQl X (Y := Unit) (fun _ => True) (fun _ => (pwI b1 k)) (fun _ => [])) A) args s 0 0 A) 0 0 [] 5 [(0, .long (lI b1)), (2, .int (iI k)), (3, .long (lI q1)), (5, .int (iI c1))] [] := by
    intro fu5
    induction fu5 with
    | zero => intro q1 c1 ic ip hm5; exact absurd hm5 (Nat.not_lt_zero _)
    | succ fu5 ih5 =>
      intro q1 c1 ic ip hm5
      refine r_iload C dX5_power_5 3 rfl ?_
      refine r_iload_n C dX5_power_7 1 rfl ?_
      refine r_icmp_ge (tgt := 28) C dX5_power_8 (by decide) (by omega) (by omega) (fun h_1 => ?_) (fun h_1 => ?_)
      · skip
        refine r_lload_n C dX5_power_28 2 rfl ?_
        exact g_ret_l C rfl dX5_power_29 () trivial (by rw [ip, show c1 = k by omega]) [] rfl (by (repeat' split) <;> first | rfl | omega)
      · skip
        refine r_iload C dX5_power_11 3 rfl ?_
        refine r_bipush C dX5_power_13 (by decide) ?_
        refine r_icmp_ge (tgt := 28) C dX5_power_15 (by decide) (by omega) (by decide) (fun h_2 => absurd h_2 (by omega)) (fun h_2 => ?_)
        refine r_lload_n C dX5_power_18 2 rfl ?_
        refine r_lload_n C dX5_power_19 0 rfl ?_
        refine r_lmul C dX5_power_20 ?_
        refine r_lstore_n (lo2 := [(3, .long (lI (q1 * b1))), (0, .long (lI b1)), (2, .int (iI k)), (5, .int (iI c1))]) C dX5_power_21 rfl (by decide) rfl ?_
        refine r_iinc (lo2 := [(5, .int (iI (c1 + 1))), (3, .long (lI (q1 * b1))), (0, .long (lI b1)), (2, .int (iI k))]) C dX5_power_22 3 rfl (by decide) rfl ?_
        refine r_goto (tgt := 5) C dX5_power_25 (by decide) ?_
        refine r_lo [2, 3, 1, 0] (lo2 := [(0, .long (lI b1)), (2, .int (iI k)), (3, .long (lI (q1 * b1))), (5, .int (iI (c1 + 1)))]) rfl ?_
        exact ih5 (q1 * b1) (c1 + 1) (by omega) (by rw [ip]; exact pwI_go (by omega)) (by omega)
  refine r_lo [2, 3, 1, 0] (lo2 := [(0, .long (lI b1)), (2, .int (iI k)), (3, .long (lI 1)), (5, .int (iI 0))]) rfl ?_
  exact L5 ((k - (0 : Int)).toNat + 1) 1 0 (by omega) (by simp [pwI]) (Nat.lt_succ_self _)

set_option maxRecDepth 20000 in
theorem hd_V_X5_stoneAt_X5_line : yX5_stoneAt.cls = yX5_stoneAt.cls ∧ yX5_stoneAt.cls ≠ "java/lang/invoke/MethodHandle" ∧ yX5_stoneAt.cls ≠ "java/lang/invoke/VarHandle" ∧ (parseMethodDescriptor yX5_stoneAt.desc).map (fun d => d.parameters.length) = some 1 := by decide +kernel
set_option maxRecDepth 20000 in
theorem hd_S_X5_within_X5_line : yX5_within.cls ≠ "java/lang/invoke/MethodHandle" ∧ yX5_within.cls ≠ "java/lang/invoke/VarHandle" ∧ (parseMethodDescriptor yX5_within.desc).map (fun d => d.parameters.length) = some 3 := by decide +kernel
set_option maxRecDepth 20000 in
theorem kw_X5_line_0 : Cond.fieldLink RX5 24 "SkipStones" "water" "LSkipStones$Water;" ∈ wsX5_line := List.mem_of_getElem? (i := 1) rfl
set_option maxRecDepth 20000 in
theorem kw_X5_line_1 : Cond.fieldLink RX5 148 "SkipStones$Water" "shifted" "I" ∈ wsX5_line := List.mem_of_getElem? (i := 2) rfl
set_option maxRecDepth 20000 in
theorem hd_V_X4_waveAt_X5_line : yX4_waveAt.cls = yX4_waveAt.cls ∧ yX4_waveAt.cls ≠ "java/lang/invoke/MethodHandle" ∧ yX4_waveAt.cls ≠ "java/lang/invoke/VarHandle" ∧ (parseMethodDescriptor yX4_waveAt.desc).map (fun d => d.parameters.length) = some 2 := by decide +kernel
set_option maxRecDepth 20000 in
theorem hd_S_X5_sinks_X5_line : yX5_sinks.cls ≠ "java/lang/invoke/MethodHandle" ∧ yX5_sinks.cls ≠ "java/lang/invoke/VarHandle" ∧ (parseMethodDescriptor yX5_sinks.desc).map (fun d => d.parameters.length) = some 5 := by decide +kernel
set_option maxRecDepth 20000 in
theorem hi_X5_line_5 : ∀ w ∈ wsX50, w ∈ wsX5_line := fun _ h => List.mem_cons_of_mem _ (List.mem_append_left _ (List.mem_append_left _ (List.mem_append_right _ h)))
set_option maxRecDepth 20000 in
theorem hi_X5_line_4 : ∀ w ∈ wsX40, w ∈ wsX5_line := fun _ h => List.mem_cons_of_mem _ (List.mem_append_left _ (List.mem_append_right _ h))
set_option maxHeartbeats 4000000 in
set_option maxRecDepth 100000 in
theorem c_X5_line_in (l : Launch) (X : gX) (h0 : Nat) (s1 : Nat) (w0 : Nat) (t0 : Nat) (k0 : Nat) (r0 : Nat) (rp : Nat) (sh1 : Nat) (sc : Int) (gf : Int) (gs : Int) (rc : Int) (tc : Int) (ft : Int) (sf : Nat → Option Nat) (sa : Nat) (wt : Int) (wd : Int) (rg : Int) (ly : Int) (wo : Int) (w1 : Nat) (l1 : Int) (l2 : Int) (l3 : Int) (l4 : Int) (l5 : Int) (l6 : Int) (wc : Int) (sh : Int) (Fw : Nat → Int) (x : Int) (v : Int) (f1 : Int) (hx : 0 ≤ x ∧ x < sc ∧ sc ≤ 8) (hsf : sf (Int.toNat x) = some sa) (hs1 : 1 ≤ wt ∧ wt ≤ 99) (hs2 : 1 ≤ wd ∧ wd ≤ 99) (hs3 : 0 ≤ rg ∧ rg ≤ 9) (hl1 : 1 ≤ l1 ∧ l1 ≤ 99) (hwc : 1 ≤ wc ∧ wc ≤ 20) (hFw : ∀ j, -9 ≤ Fw j ∧ Fw j ≤ 9) (hsh : 0 ≤ sh ∧ sh < 20) (hb_v : inB v) (hb_f1 : inB f1) : gM l yX5_line wsX5_line (gr 1 0 0) X [(h0, .inr (5, [.ref s1, .int (iI sc), .ref w0, .ref t0, .ref k0, .ref r0, .int (iI gf), .int (iI gs), .ref rp, .int (iI rc), .ref sh1, .int (iI tc), .int (iI ft)])), (s1, .inl (X.2.1.2.1, 8, .inr (.inr (.inr (.inr sf))))), (sa, .inr (3, [.int (iI wt), .int (iI wd), .int (iI rg), .int (iI ly), .int (iI wo)])), (w0, .inr (4, [.int (iI l1), .int (iI l2), .int (iI l3), .int (iI l4), .int (iI l5), .int (iI l6), .ref w1, .int (iI wc), .int (iI sh)])), (w1, .inl (X.2.1.1, 20, .inl (iF Fw)))] [.ref h0, .int (iI x), .int (iI v), .int (iI f1)] (gQi X (Y := Unit) (fun _ => True) (fun _ => (if ¬ (0 ≤ v ∧ v ≤ 45 ∧ 1 ≤ f1 ∧ f1 ≤ 99) then -2 else (lnL l1 wt wd f1 (v + (Fw (Int.toNat ((0 + sh) % wc)))) 300 1))) (fun _ => [(h0, .inr (5, [.ref s1, .int (iI sc), .ref w0, .ref t0, .ref k0, .ref r0, .int (iI gf), .int (iI gs), .ref rp, .int (iI rc), .ref sh1, .int (iI tc), .int (iI ft)])), (s1, .inl (X.2.1.2.1, 8, .inr (.inr (.inr (.inr sf))))), (sa, .inr (3, [.int (iI wt), .int (iI wd), .int (iI rg), .int (iI ly), .int (iI wo)])), (w0, .inr (4, [.int (iI l1), .int (iI l2), .int (iI l3), .int (iI l4), .int (iI l5), .int (iI l6), .ref w1, .int (iI wc), .int (iI sh)])), (w1, .inl (X.2.1.1, 20, .inl (iF Fw)))])) 0 0 := by
  refine g_start2 (lo := [(0, .ref h0), (1, .int (iI x)), (2, .int (iI v)), (3, .int (iI f1))]) (by decide +kernel) rfl rfl (Nat.le_of_ble_eq_true rfl) (fun p e s m args below meth c A C => ?_)
  refine r_aload_n C dX5_line_0 0 rfl ?_
  refine r_iload_n C dX5_line_1 1 rfl ?_
  refine g_V_q (ws2 := (fun _ => [(h0, .inr (5, [.ref s1, .int (iI sc), .ref w0, .ref t0, .ref k0, .ref r0, .int (iI gf), .int (iI gs), .ref rp, .int (iI rc), .ref sh1, .int (iI tc), .int (iI ft)])), (s1, .inl (X.2.1.2.1, 8, .inr (.inr (.inr (.inr sf))))), (sa, .inr (3, [.int (iI wt), .int (iI wd), .int (iI rg), .int (iI ly), .int (iI wo)])), (w0, .inr (4, [.int (iI l1), .int (iI l2), .int (iI l3), .int (iI l4), .int (iI l5), .int (iI l6), .ref w1, .int (iI wc), .int (iI sh)])), (w1, .inl (X.2.1.1, 20, .inl (iF Fw)))])) (As := [.int (iI x)]) C (c_X5_stoneAt_in l X h0 s1 w0 t0 k0 r0 rp sh1 sc gf gs rc tc ft sf sa x (by first | assumption | omega) (by first | assumption | omega)) gX5_line_X5_stoneAt rfl rfl rfl hd_V_X5_stoneAt_X5_line (by decide) dX5_line_2 [0, 1] [2, 3, 4] [3, 4, 0, 1, 2] rfl rfl rfl rfl (by decide) rfl 0 5 rfl rfl rfl rfl (Nat.le_of_ble_eq_true rfl) (by decide) (fun _ => rfl) (fun _ hy_ => ?_)
  clear hy_
  refine r_astore (lo2 := [(4, .ref sa), (0, .ref h0), (1, .int (iI x)), (2, .int (iI v)), (3, .int (iI f1))]) C dX5_line_5 (by decide) rfl ?_
  refine r_aload C dX5_line_7 0 rfl ?_
  refine r_ifnonnull (tgt := 14) C dX5_line_9 (by decide) ?_
  refine r_iload_n C dX5_line_14 3 rfl ?_
  refine r_iconst C dX5_line_15 ?_
  refine r_bipush C dX5_line_16 (by decide) ?_
  refine g_S_i (ws2 := (fun _ => [(h0, .inr (5, [.ref s1, .int (iI sc), .ref w0, .ref t0, .ref k0, .ref r0, .int (iI gf), .int (iI gs), .ref rp, .int (iI rc), .ref sh1, .int (iI tc), .int (iI ft)])), (s1, .inl (X.2.1.2.1, 8, .inr (.inr (.inr (.inr sf))))), (sa, .inr (3, [.int (iI wt), .int (iI wd), .int (iI rg), .int (iI ly), .int (iI wo)])), (w0, .inr (4, [.int (iI l1), .int (iI l2), .int (iI l3), .int (iI l4), .int (iI l5), .int (iI l6), .ref w1, .int (iI wc), .int (iI sh)])), (w1, .inl (X.2.1.1, 20, .inl (iF Fw)))])) (As := [.int (iI v), .int (iI 0), .int (iI 45)]) C (c_X5_within l X v 0 45 (by first | assumption | omega) (by first | assumption | omega) (by first | assumption | omega)) gX5_line_X5_within rfl rfl rfl hd_S_X5_within_X5_line (by decide) dX5_line_18 [] [0, 1, 2, 3, 4] [0, 1, 2, 3, 4] rfl rfl rfl rfl (by decide) rfl rfl rfl (Nat.le_of_ble_eq_true rfl) (by decide) (fun _ => rfl) (fun _ hy_ => ?_)
  clear hy_
  refine r_ite (fun h_1 => ?_) (fun h_1 => ?_)
  · skip
    refine r_if_eq (tgt := 34) C dX5_line_21 (by decide) (by decide) (fun h_2 => absurd h_2 (by decide)) (fun h_2 => ?_)
    refine r_iload_n C dX5_line_24 4 rfl ?_
    refine r_iconst C dX5_line_25 ?_
    refine r_bipush C dX5_line_26 (by decide) ?_
    refine g_S_i (ws2 := (fun _ => [(h0, .inr (5, [.ref s1, .int (iI sc), .ref w0, .ref t0, .ref k0, .ref r0, .int (iI gf), .int (iI gs), .ref rp, .int (iI rc), .ref sh1, .int (iI tc), .int (iI ft)])), (s1, .inl (X.2.1.2.1, 8, .inr (.inr (.inr (.inr sf))))), (sa, .inr (3, [.int (iI wt), .int (iI wd), .int (iI rg), .int (iI ly), .int (iI wo)])), (w0, .inr (4, [.int (iI l1), .int (iI l2), .int (iI l3), .int (iI l4), .int (iI l5), .int (iI l6), .ref w1, .int (iI wc), .int (iI sh)])), (w1, .inl (X.2.1.1, 20, .inl (iF Fw)))])) (As := [.int (iI f1), .int (iI 1), .int (iI 99)]) C (c_X5_within l X f1 1 99 (by first | assumption | omega) (by first | assumption | omega) (by first | assumption | omega)) gX5_line_X5_within rfl rfl rfl hd_S_X5_within_X5_line (by decide) dX5_line_28 [] [0, 1, 2, 3, 4] [0, 1, 2, 3, 4] rfl rfl rfl rfl (by decide) rfl rfl rfl (Nat.le_of_ble_eq_true rfl) (by decide) (fun _ => rfl) (fun _ hy_ => ?_)
    clear hy_
    refine r_ite (fun h_3 => ?_) (fun h_3 => ?_)
    · skip
      refine r_if_ne (tgt := 37) C dX5_line_31 (by decide) (by decide) (fun h_4 => ?_) (fun h_4 => absurd h_4 (by decide))
      refine r_iload_n C dX5_line_37 3 rfl ?_
      refine r_aload_n C dX5_line_38 1 rfl ?_
      refine gf_5_2 C hi_X5_line_5 kw_X5_line_0 dX5_line_39 0 rfl rfl ?_
      refine r_iconst C dX5_line_42 ?_
      refine r_aload_n C dX5_line_43 1 rfl ?_
      refine gf_5_2 C hi_X5_line_5 kw_X5_line_0 dX5_line_44 0 rfl rfl ?_
      refine gf_4_8 C hi_X5_line_4 kw_X5_line_1 dX5_line_47 3 rfl rfl ?_
      refine g_V_i (ws2 := (fun _ => [(h0, .inr (5, [.ref s1, .int (iI sc), .ref w0, .ref t0, .ref k0, .ref r0, .int (iI gf), .int (iI gs), .ref rp, .int (iI rc), .ref sh1, .int (iI tc), .int (iI ft)])), (s1, .inl (X.2.1.2.1, 8, .inr (.inr (.inr (.inr sf))))), (sa, .inr (3, [.int (iI wt), .int (iI wd), .int (iI rg), .int (iI ly), .int (iI wo)])), (w0, .inr (4, [.int (iI l1), .int (iI l2), .int (iI l3), .int (iI l4), .int (iI l5), .int (iI l6), .ref w1, .int (iI wc), .int (iI sh)])), (w1, .inl (X.2.1.1, 20, .inl (iF Fw)))])) (As := [.int (iI 0), .int (iI sh)]) C (c_X4_waveAt l X w0 w1 l1 l2 l3 l4 l5 l6 wc sh Fw 0 sh (by first | assumption | omega) (by first | assumption | omega) (by first | assumption | omega)) gX5_line_X4_waveAt rfl rfl rfl hd_V_X4_waveAt_X5_line (by decide) dX5_line_50 [3, 4] [0, 1, 2] [0, 1, 2, 3, 4] rfl rfl rfl rfl (by decide) rfl 3 4 rfl rfl rfl rfl (Nat.le_of_ble_eq_true rfl) (by decide) (fun _ => rfl) (fun _ hy_ => ?_)
      clear hy_
      refine r_iadd C dX5_line_53 ?_
      refine r_istore (lo2 := [(5, .int (iI (v + (Fw (Int.toNat ((0 + sh) % wc)))))), (4, .ref sa), (0, .ref h0), (1, .int (iI x)), (2, .int (iI v)), (3, .int (iI f1))]) C dX5_line_54 (by decide) rfl ?_
      refine r_iconst C dX5_line_56 ?_
      refine r_istore (lo2 := [(6, .int (iI 1)), (5, .int (iI (v + (Fw (Int.toNat ((0 + sh) % wc)))))), (4, .ref sa), (0, .ref h0), (1, .int (iI x)), (2, .int (iI v)), (3, .int (iI f1))]) C dX5_line_57 (by decide) rfl ?_
      have L59 : ∀ (fu59 : Nat) (c1 : Int), (1 ≤ c1 ∧ c1 ≤ 301) → ((lnL l1 wt wd f1 (v + (Fw (Int.toNat ((0 + sh) % wc)))) 300 1) = lnL l1 wt wd f1 (v + (Fw (Int.toNat ((0 + sh) % wc)))) (301 - c1).toNat c1) → (301 - c1).toNat < fu59 → gW p l e (gr 1 0 0) s m args below meth c X A 7 (MQ below ((gQi X (Y := Unit) (fun _ => True) (fun _ => (if ¬ (0 ≤ v ∧ v ≤ 45 ∧ 1 ≤ f1 ∧ f1 ≤ 99) then -2 else (lnL l1 wt wd f1 (v + (Fw (Int.toNat ((0 + sh) % wc)))) 300 1))) (fun _ => [(h0, .inr (5, [.ref s1, .int (iI sc), .ref w0, .ref t0, .ref k0, .ref r0, .int (iI gf), .int (iI gs), .ref rp, .int (iI rc), .ref sh1, .int (iI tc), .int (iI ft)])), (s1, .inl (X.2.1.2.1, 8, .inr (.inr (.inr (.inr sf))))), (sa, .inr (3, [.int (iI wt), .int (iI wd), .int (iI rg), .int (iI ly), .int (iI wo)])), (w0, .inr (4, [.int (iI l1), .int (iI l2), .int (iI l3), .int (iI l4), .int (iI l5), .int (iI l6), .ref w1, .int (iI wc), .int (iI sh)])), (w1, .inl (X.2.1.1, 20, .inl (iF Fw)))])) A) args s 0 0 A) 0 0 [(h0, .inr (5, [.ref s1, .int (iI sc), .ref w0, .ref t0, .ref k0, .ref r0, .int (iI gf), .int (iI gs), .ref rp, .int (iI rc), .ref sh1, .int (iI tc), .int (iI ft)])), (s1, .inl (X.2.1.2.1, 8, .inr (.inr (.inr (.inr sf))))), (sa, .inr (3, [.int (iI wt), .int (iI wd), .int (iI rg), .int (iI ly), .int (iI wo)])), (w0, .inr (4, [.int (iI l1), .int (iI l2), .int (iI l3), .int (iI l4), .int (iI l5), .int (iI l6), .ref w1, .int (iI wc), .int (iI sh)])), (w1, .inl (X.2.1.1, 20, .inl (iF Fw)))] 59 [(5, .int (iI (v + (Fw (Int.toNat ((0 + sh) % wc)))))), (4, .ref sa), (0, .ref h0), (3, .int (iI f1)), (6, .int (iI c1))] [] := by
        intro fu59
        induction fu59 with
        | zero => intro c1 ic iL hm59; exact absurd hm59 (Nat.not_lt_zero _)
        | succ fu59 ih59 =>
          intro c1 ic iL hm59
          refine r_iload C dX5_line_59 4 rfl ?_
          refine r_sipush C dX5_line_61 (by decide) ?_
          refine r_icmp_gt (tgt := 93) C dX5_line_64 (by decide) (by omega) (by decide) (fun h_5 => ?_) (fun h_5 => ?_)
          · skip
            refine r_bipush C dX5_line_93 (by decide) ?_
            exact g_ret_i C rfl dX5_line_95 () trivial (by rw [if_neg (by omega), iL, show (301 - c1).toNat = 0 by omega, lnL]) [0, 1, 2, 3, 4] rfl (by (repeat' split) <;> first | rfl | omega)
          · skip
            refine r_aload C dX5_line_67 1 rfl ?_
            refine r_aload_n C dX5_line_69 2 rfl ?_
            refine gf_5_2 C hi_X5_line_5 kw_X5_line_0 dX5_line_70 0 rfl rfl ?_
            refine r_iload C dX5_line_73 4 rfl ?_
            refine r_iload_n C dX5_line_75 3 rfl ?_
            refine r_iload C dX5_line_76 0 rfl ?_
            refine g_S_i (ws2 := (fun _ => [(h0, .inr (5, [.ref s1, .int (iI sc), .ref w0, .ref t0, .ref k0, .ref r0, .int (iI gf), .int (iI gs), .ref rp, .int (iI rc), .ref sh1, .int (iI tc), .int (iI ft)])), (s1, .inl (X.2.1.2.1, 8, .inr (.inr (.inr (.inr sf))))), (sa, .inr (3, [.int (iI wt), .int (iI wd), .int (iI rg), .int (iI ly), .int (iI wo)])), (w0, .inr (4, [.int (iI l1), .int (iI l2), .int (iI l3), .int (iI l4), .int (iI l5), .int (iI l6), .ref w1, .int (iI wc), .int (iI sh)])), (w1, .inl (X.2.1.1, 20, .inl (iF Fw)))])) (As := [.ref sa, .ref w0, .int (iI c1), .int (iI f1), .int (iI (v + (Fw (Int.toNat ((0 + sh) % wc)))))]) C (c_X5_sinks l X sa wt wd rg ly wo w0 w1 l1 l2 l3 l4 l5 l6 wc sh Fw c1 f1 (v + (Fw (Int.toNat ((0 + sh) % wc)))) (by first | assumption | omega) (by first | assumption | omega) (by first | assumption | omega) (by first | assumption | omega) (by first | assumption | omega) (by first | assumption | omega) (by first | assumption | have := hFw (Int.toNat ((0 + sh) % wc)); omega)) gX5_line_X5_sinks rfl rfl rfl hd_S_X5_sinks_X5_line (by decide) dX5_line_78 [2, 3, 4] [0, 1] [0, 1, 2, 3, 4] rfl rfl rfl rfl (by decide) rfl rfl rfl (Nat.le_of_ble_eq_true rfl) (by decide) (fun _ => rfl) (fun _ hy_ => ?_)
            clear hy_
            refine r_ite (fun KS => ?_) (fun KS => ?_)
            · skip
              refine r_if_ne (tgt := 87) C dX5_line_81 (by decide) (by decide) (fun h_6 => ?_) (fun h_6 => absurd h_6 (by decide))
              refine r_iinc (lo2 := [(6, .int (iI (c1 + 1))), (5, .int (iI (v + (Fw (Int.toNat ((0 + sh) % wc)))))), (4, .ref sa), (0, .ref h0), (3, .int (iI f1))]) C dX5_line_87 4 rfl (by decide) rfl ?_
              refine r_goto (tgt := 59) C dX5_line_90 (by decide) ?_
              refine r_lo [1, 2, 3, 4, 0] (lo2 := [(5, .int (iI (v + (Fw (Int.toNat ((0 + sh) % wc)))))), (4, .ref sa), (0, .ref h0), (3, .int (iI f1)), (6, .int (iI (c1 + 1)))]) rfl ?_
              exact ih59 (c1 + 1) (by omega) (by rw [iL, lnL_t (by omega) KS]) (by omega)
            · skip
              refine r_if_ne (tgt := 87) C dX5_line_81 (by decide) (by decide) (fun h_7 => absurd h_7 (by decide)) (fun h_7 => ?_)
              refine r_iload C dX5_line_84 4 rfl ?_
              exact g_ret_i C rfl dX5_line_86 () trivial (by rw [if_neg (by omega), iL, lnL_f (by omega) KS]) [0, 1, 2, 3, 4] rfl (by (repeat' split) <;> first | rfl | omega)
      refine r_lo [1, 2, 3, 6, 0] (lo2 := [(5, .int (iI (v + (Fw (Int.toNat ((0 + sh) % wc)))))), (4, .ref sa), (0, .ref h0), (3, .int (iI f1)), (6, .int (iI 1))]) rfl ?_
      exact L59 ((301 - (1 : Int)).toNat + 1) 1 (by omega) rfl (Nat.lt_succ_self _)
    · skip
      refine r_if_ne (tgt := 37) C dX5_line_31 (by decide) (by decide) (fun h_8 => absurd h_8 (by decide)) (fun h_8 => ?_)
      refine r_bipush C dX5_line_34 (by decide) ?_
      exact g_ret_i C rfl dX5_line_36 () trivial (by (repeat' split) <;> first | rfl | omega) [0, 1, 2, 3, 4] rfl (by (repeat' split) <;> first | rfl | omega)
  · skip
    refine r_if_eq (tgt := 34) C dX5_line_21 (by decide) (by decide) (fun h_9 => ?_) (fun h_9 => absurd h_9 (by decide))
    refine r_bipush C dX5_line_34 (by decide) ?_
    exact g_ret_i C rfl dX5_line_36 () trivial (by (repeat' split) <;> first | rfl | omega) [0, 1, 2, 3, 4] rfl (by (repeat' split) <;> first | rfl | omega)

set_option maxHeartbeats 4000000 in
set_option maxRecDepth 100000 in
theorem c_X5_line_out (l : Launch) (X : gX) (h0 : Nat) (s1 : Nat) (w0 : Nat) (t0 : Nat) (k0 : Nat) (r0 : Nat) (rp : Nat) (sh1 : Nat) (sc : Int) (gf : Int) (gs : Int) (rc : Int) (tc : Int) (ft : Int) (sf : Nat → Option Nat) (x : Int) (v : Int) (f1 : Int) (hx : ¬ (0 ≤ x ∧ x < sc)) (hbx : inB x) (hc : 0 ≤ sc ∧ sc ≤ 8) : gM l yX5_line wsX5_line (gr 1 0 0) X [(h0, .inr (5, [.ref s1, .int (iI sc), .ref w0, .ref t0, .ref k0, .ref r0, .int (iI gf), .int (iI gs), .ref rp, .int (iI rc), .ref sh1, .int (iI tc), .int (iI ft)])), (s1, .inl (X.2.1.2.1, 8, .inr (.inr (.inr (.inr sf)))))] [.ref h0, .int (iI x), .int (iI v), .int (iI f1)] (gQi X (Y := Unit) (fun _ => True) (fun _ => -1) (fun _ => [(h0, .inr (5, [.ref s1, .int (iI sc), .ref w0, .ref t0, .ref k0, .ref r0, .int (iI gf), .int (iI gs), .ref rp, .int (iI rc), .ref sh1, .int (iI tc), .int (iI ft)])), (s1, .inl (X.2.1.2.1, 8, .inr (.inr (.inr (.inr sf)))))])) 0 0 := by
  refine g_start2 (lo := [(0, .ref h0), (1, .int (iI x)), (2, .int (iI v)), (3, .int (iI f1))]) (by decide +kernel) rfl rfl (Nat.le_of_ble_eq_true rfl) (fun p e s m args below meth c A C => ?_)
  refine r_aload_n C dX5_line_0 0 rfl ?_
  refine r_iload_n C dX5_line_1 1 rfl ?_
  refine g_V_q (ws2 := (fun _ => [(h0, .inr (5, [.ref s1, .int (iI sc), .ref w0, .ref t0, .ref k0, .ref r0, .int (iI gf), .int (iI gs), .ref rp, .int (iI rc), .ref sh1, .int (iI tc), .int (iI ft)])), (s1, .inl (X.2.1.2.1, 8, .inr (.inr (.inr (.inr sf)))))])) (As := [.int (iI x)]) C (c_X5_stoneAt_out l X h0 s1 w0 t0 k0 r0 rp sh1 sc gf gs rc tc ft sf x (by first | assumption | omega) (by first | assumption | omega) (by first | assumption | omega)) gX5_line_X5_stoneAt rfl rfl rfl hd_V_X5_stoneAt_X5_line (by decide) dX5_line_2 [0, 1] [] [0, 1] rfl rfl rfl rfl (by decide) rfl 0 5 rfl rfl rfl rfl (Nat.le_of_ble_eq_true rfl) (by decide) (fun _ => rfl) (fun _ hy_ => ?_)
  clear hy_
  refine r_astoreN (lo2 := [(4, .null), (0, .ref h0), (1, .int (iI x)), (2, .int (iI v)), (3, .int (iI f1))]) C dX5_line_5 (by decide) rfl ?_
  refine r_aloadN C dX5_line_7 0 rfl ?_
  refine r_ifnonnullN C dX5_line_9 ?_
  refine r_iconst C dX5_line_12 ?_
  exact g_ret_i C rfl dX5_line_13 () trivial (by (repeat' split) <;> first | rfl | omega) [0, 1] rfl (by (repeat' split) <;> first | rfl | omega)

set_option maxRecDepth 20000 in
theorem hd_V_X5_stoneAt_X5_when : yX5_stoneAt.cls = yX5_stoneAt.cls ∧ yX5_stoneAt.cls ≠ "java/lang/invoke/MethodHandle" ∧ yX5_stoneAt.cls ≠ "java/lang/invoke/VarHandle" ∧ (parseMethodDescriptor yX5_stoneAt.desc).map (fun d => d.parameters.length) = some 1 := by decide +kernel
set_option maxRecDepth 20000 in
theorem hd_S_X5_isJudge_X5_when : yX5_isJudge.cls ≠ "java/lang/invoke/MethodHandle" ∧ yX5_isJudge.cls ≠ "java/lang/invoke/VarHandle" ∧ (parseMethodDescriptor yX5_isJudge.desc).map (fun d => d.parameters.length) = some 1 := by decide +kernel
set_option maxRecDepth 20000 in
theorem hd_S_X5_within_X5_when : yX5_within.cls ≠ "java/lang/invoke/MethodHandle" ∧ yX5_within.cls ≠ "java/lang/invoke/VarHandle" ∧ (parseMethodDescriptor yX5_within.desc).map (fun d => d.parameters.length) = some 3 := by decide +kernel
set_option maxRecDepth 20000 in
theorem kw_X5_when_0 : Cond.fieldLink RX5 24 "SkipStones" "water" "LSkipStones$Water;" ∈ wsX5_when := List.mem_of_getElem? (i := 1) rfl
set_option maxRecDepth 20000 in
theorem kw_X5_when_1 : Cond.fieldLink RX5 145 "SkipStones$Water" "waveCount" "I" ∈ wsX5_when := List.mem_of_getElem? (i := 2) rfl
set_option maxRecDepth 20000 in
theorem hd_V_X5_countOf_X5_when : yX5_countOf.cls = yX5_countOf.cls ∧ yX5_countOf.cls ≠ "java/lang/invoke/MethodHandle" ∧ yX5_countOf.cls ≠ "java/lang/invoke/VarHandle" ∧ (parseMethodDescriptor yX5_countOf.desc).map (fun d => d.parameters.length) = some 5 := by decide +kernel
set_option maxRecDepth 20000 in
theorem hi_X5_when_5 : ∀ w ∈ wsX50, w ∈ wsX5_when := fun _ h => List.mem_cons_of_mem _ (List.mem_append_left _ (List.mem_append_left _ (List.mem_append_left _ (List.mem_append_right _ h))))
set_option maxRecDepth 20000 in
theorem hi_X5_when_4 : ∀ w ∈ wsX40, w ∈ wsX5_when := fun _ h => List.mem_cons_of_mem _ (List.mem_append_left _ (List.mem_append_left _ (List.mem_append_right _ h)))
set_option maxHeartbeats 4000000 in
set_option maxRecDepth 100000 in
theorem c_X5_when_in (l : Launch) (X : gX) (h0 : Nat) (s1 : Nat) (w0 : Nat) (t0 : Nat) (k0 : Nat) (r0 : Nat) (rp : Nat) (sh1 : Nat) (sc : Int) (gf : Int) (gs : Int) (rc : Int) (tc : Int) (ft : Int) (sf : Nat → Option Nat) (r1 : Nat) (c2 : Int) (x2 : Int) (s2 : Int) (f2 : Int) (z2 : Int) (n2 : Int) (b2 : Int) (Fr : Nat → Int) (sa : Nat) (wt : Int) (wd : Int) (rg : Int) (ly : Int) (wo : Int) (w1 : Nat) (l1 : Int) (l2 : Int) (l3 : Int) (l4 : Int) (l5 : Int) (l6 : Int) (wc : Int) (sh : Int) (Fw : Nat → Int) (x : Int) (v : Int) (n : Int) (j : Int) (w : Int) (hs1 : 1 ≤ wt ∧ wt ≤ 99) (hs2 : 1 ≤ wd ∧ wd ≤ 99) (hs3 : 0 ≤ rg ∧ rg ≤ 9) (hl1 : 1 ≤ l1 ∧ l1 ≤ 99) (hl2 : 0 ≤ l2 ∧ l2 ≤ 50) (hl3 : 1 ≤ l3 ∧ l3 ≤ 99) (hl4 : 0 ≤ l4 ∧ l4 ≤ 99) (hl5 : 0 ≤ l5 ∧ l5 ≤ 50) (hl6 : 1 ≤ l6 ∧ l6 ≤ 45) (hwc : 1 ≤ wc ∧ wc ≤ 20) (hFw : ∀ j, -9 ≤ Fw j ∧ Fw j ≤ 9) (hgf : 1 ≤ gf ∧ gf ≤ 99) (hgs : 0 ≤ gs ∧ gs ≤ 99) (hsh : 0 ≤ sh ∧ sh < 20) (hx : 0 ≤ x ∧ x < sc ∧ sc ≤ 8) (hsf : sf (Int.toNat x) = some sa) (hFr : ∀ i, -1000000 ≤ Fr i ∧ Fr i ≤ 1000000) (hb_v : inB v) (hb_n : inB n) (hb_j : inB j) (hb_w : inB w) : gM l yX5_when wsX5_when (gr 6 0 0) X [(h0, .inr (5, [.ref s1, .int (iI sc), .ref w0, .ref t0, .ref k0, .ref r0, .int (iI gf), .int (iI gs), .ref rp, .int (iI rc), .ref sh1, .int (iI tc), .int (iI ft)])), (s1, .inl (X.2.1.2.1, 8, .inr (.inr (.inr (.inr sf))))), (r0, .inr (0, [.ref r1, .int (iI c2), .int (iI x2), .int (iI s2), .int (iI f2), .int (iI z2), .int (iI n2), .int (iI b2)])), (r1, .inl (X.2.1.1, 810, .inl (iF Fr))), (sa, .inr (3, [.int (iI wt), .int (iI wd), .int (iI rg), .int (iI ly), .int (iI wo)])), (w0, .inr (4, [.int (iI l1), .int (iI l2), .int (iI l3), .int (iI l4), .int (iI l5), .int (iI l6), .ref w1, .int (iI wc), .int (iI sh)])), (w1, .inl (X.2.1.1, 20, .inl (iF Fw)))] [.ref h0, .int (iI x), .int (iI v), .int (iI n), .int (iI j), .int (iI w)] (gQi X (Y := Int × Int × Int × Int × Int × Int × Int × (Nat → Int)) (fun y => (∀ i, -1000000 ≤ (y.2.2.2.2.2.2.2) i ∧ (y.2.2.2.2.2.2.2) i ≤ 1000000)) (fun y => (if ¬ (0 ≤ j ∧ j ≤ 4) then -1 else if ¬ (1 ≤ v ∧ v ≤ 300 ∧ 0 ≤ n ∧ n ≤ 45 ∧ 0 ≤ w ∧ w ≤ 1) then -2 else if w = 0 then (whV (((l1, l2, l3, l4, l5, l6), (wt, wd, rg), (sh, wc, Fw)) : fEn) (tA v gf n gs) j wc).2 else (whV (((l1, l2, l3, l4, l5, l6), (wt, wd, rg), (sh, wc, Fw)) : fEn) (tA v gf n gs) j wc).1)) (fun y => [(h0, .inr (5, [.ref s1, .int (iI sc), .ref w0, .ref t0, .ref k0, .ref r0, .int (iI gf), .int (iI gs), .ref rp, .int (iI rc), .ref sh1, .int (iI tc), .int (iI ft)])), (s1, .inl (X.2.1.2.1, 8, .inr (.inr (.inr (.inr sf))))), (r0, .inr (0, [.ref r1, .int (iI y.1), .int (iI y.2.1), .int (iI y.2.2.1), .int (iI y.2.2.2.1), .int (iI y.2.2.2.2.1), .int (iI y.2.2.2.2.2.1), .int (iI y.2.2.2.2.2.2.1)])), (r1, .inl (X.2.1.1, 810, .inl (iF (y.2.2.2.2.2.2.2)))), (sa, .inr (3, [.int (iI wt), .int (iI wd), .int (iI rg), .int (iI ly), .int (iI wo)])), (w0, .inr (4, [.int (iI l1), .int (iI l2), .int (iI l3), .int (iI l4), .int (iI l5), .int (iI l6), .ref w1, .int (iI wc), .int (iI sh)])), (w1, .inl (X.2.1.1, 20, .inl (iF Fw)))])) 0 0 := by
  refine g_start2 (lo := [(0, .ref h0), (1, .int (iI x)), (2, .int (iI v)), (3, .int (iI n)), (4, .int (iI j)), (5, .int (iI w))]) (by decide +kernel) rfl rfl (Nat.le_of_ble_eq_true rfl) (fun p e s m args below meth c A C => ?_)
  refine r_aload_n C dX5_when_0 0 rfl ?_
  refine r_iload_n C dX5_when_1 1 rfl ?_
  refine g_V_q (ws2 := (fun _ => [(h0, .inr (5, [.ref s1, .int (iI sc), .ref w0, .ref t0, .ref k0, .ref r0, .int (iI gf), .int (iI gs), .ref rp, .int (iI rc), .ref sh1, .int (iI tc), .int (iI ft)])), (s1, .inl (X.2.1.2.1, 8, .inr (.inr (.inr (.inr sf))))), (r0, .inr (0, [.ref r1, .int (iI c2), .int (iI x2), .int (iI s2), .int (iI f2), .int (iI z2), .int (iI n2), .int (iI b2)])), (r1, .inl (X.2.1.1, 810, .inl (iF Fr))), (sa, .inr (3, [.int (iI wt), .int (iI wd), .int (iI rg), .int (iI ly), .int (iI wo)])), (w0, .inr (4, [.int (iI l1), .int (iI l2), .int (iI l3), .int (iI l4), .int (iI l5), .int (iI l6), .ref w1, .int (iI wc), .int (iI sh)])), (w1, .inl (X.2.1.1, 20, .inl (iF Fw)))])) (As := [.int (iI x)]) C (c_X5_stoneAt_in l X h0 s1 w0 t0 k0 r0 rp sh1 sc gf gs rc tc ft sf sa x (by first | assumption | omega) (by first | assumption | omega)) gX5_when_X5_stoneAt rfl rfl rfl hd_V_X5_stoneAt_X5_when (by decide) dX5_when_2 [0, 1] [2, 3, 4, 5, 6] [5, 6, 0, 1, 2, 3, 4] rfl rfl rfl rfl (by decide) rfl 0 5 rfl rfl rfl rfl (Nat.le_of_ble_eq_true rfl) (by decide) (fun _ => rfl) (fun _ hy_ => ?_)
  clear hy_
  refine r_astore (lo2 := [(6, .ref sa), (0, .ref h0), (1, .int (iI x)), (2, .int (iI v)), (3, .int (iI n)), (4, .int (iI j)), (5, .int (iI w))]) C dX5_when_5 (by decide) rfl ?_
  refine r_aload C dX5_when_7 0 rfl ?_
  refine r_ifnull C dX5_when_9 ?_
  refine r_iload C dX5_when_12 5 rfl ?_
  refine g_S_i (ws2 := (fun _ => [(h0, .inr (5, [.ref s1, .int (iI sc), .ref w0, .ref t0, .ref k0, .ref r0, .int (iI gf), .int (iI gs), .ref rp, .int (iI rc), .ref sh1, .int (iI tc), .int (iI ft)])), (s1, .inl (X.2.1.2.1, 8, .inr (.inr (.inr (.inr sf))))), (r0, .inr (0, [.ref r1, .int (iI c2), .int (iI x2), .int (iI s2), .int (iI f2), .int (iI z2), .int (iI n2), .int (iI b2)])), (r1, .inl (X.2.1.1, 810, .inl (iF Fr))), (sa, .inr (3, [.int (iI wt), .int (iI wd), .int (iI rg), .int (iI ly), .int (iI wo)])), (w0, .inr (4, [.int (iI l1), .int (iI l2), .int (iI l3), .int (iI l4), .int (iI l5), .int (iI l6), .ref w1, .int (iI wc), .int (iI sh)])), (w1, .inl (X.2.1.1, 20, .inl (iF Fw)))])) (As := [.int (iI j)]) C (c_X5_isJudge l X j (by first | assumption | omega)) gX5_when_X5_isJudge rfl rfl rfl hd_S_X5_isJudge_X5_when (by decide) dX5_when_14 [] [0, 1, 2, 3, 4, 5, 6] [0, 1, 2, 3, 4, 5, 6] rfl rfl rfl rfl (by decide) rfl rfl rfl (Nat.le_of_ble_eq_true rfl) (by decide) (fun _ => rfl) (fun _ hy_ => ?_)
  clear hy_
  refine r_ite (fun h_1 => ?_) (fun h_1 => ?_)
  · skip
    refine r_if_ne (tgt := 22) C dX5_when_17 (by decide) (by decide) (fun h_2 => ?_) (fun h_2 => absurd h_2 (by decide))
    refine r_iload_n C dX5_when_22 3 rfl ?_
    refine r_iconst C dX5_when_23 ?_
    refine r_sipush C dX5_when_24 (by decide) ?_
    refine g_S_i (ws2 := (fun _ => [(h0, .inr (5, [.ref s1, .int (iI sc), .ref w0, .ref t0, .ref k0, .ref r0, .int (iI gf), .int (iI gs), .ref rp, .int (iI rc), .ref sh1, .int (iI tc), .int (iI ft)])), (s1, .inl (X.2.1.2.1, 8, .inr (.inr (.inr (.inr sf))))), (r0, .inr (0, [.ref r1, .int (iI c2), .int (iI x2), .int (iI s2), .int (iI f2), .int (iI z2), .int (iI n2), .int (iI b2)])), (r1, .inl (X.2.1.1, 810, .inl (iF Fr))), (sa, .inr (3, [.int (iI wt), .int (iI wd), .int (iI rg), .int (iI ly), .int (iI wo)])), (w0, .inr (4, [.int (iI l1), .int (iI l2), .int (iI l3), .int (iI l4), .int (iI l5), .int (iI l6), .ref w1, .int (iI wc), .int (iI sh)])), (w1, .inl (X.2.1.1, 20, .inl (iF Fw)))])) (As := [.int (iI v), .int (iI 1), .int (iI 300)]) C (c_X5_within l X v 1 300 (by first | assumption | omega) (by first | assumption | omega) (by first | assumption | omega)) gX5_when_X5_within rfl rfl rfl hd_S_X5_within_X5_when (by decide) dX5_when_27 [] [0, 1, 2, 3, 4, 5, 6] [0, 1, 2, 3, 4, 5, 6] rfl rfl rfl rfl (by decide) rfl rfl rfl (Nat.le_of_ble_eq_true rfl) (by decide) (fun _ => rfl) (fun _ hy_ => ?_)
    clear hy_
    refine r_ite (fun h_3 => ?_) (fun h_3 => ?_)
    · skip
      refine r_if_eq (tgt := 53) C dX5_when_30 (by decide) (by decide) (fun h_4 => absurd h_4 (by decide)) (fun h_4 => ?_)
      refine r_iload_n C dX5_when_33 4 rfl ?_
      refine r_iconst C dX5_when_34 ?_
      refine r_bipush C dX5_when_35 (by decide) ?_
      refine g_S_i (ws2 := (fun _ => [(h0, .inr (5, [.ref s1, .int (iI sc), .ref w0, .ref t0, .ref k0, .ref r0, .int (iI gf), .int (iI gs), .ref rp, .int (iI rc), .ref sh1, .int (iI tc), .int (iI ft)])), (s1, .inl (X.2.1.2.1, 8, .inr (.inr (.inr (.inr sf))))), (r0, .inr (0, [.ref r1, .int (iI c2), .int (iI x2), .int (iI s2), .int (iI f2), .int (iI z2), .int (iI n2), .int (iI b2)])), (r1, .inl (X.2.1.1, 810, .inl (iF Fr))), (sa, .inr (3, [.int (iI wt), .int (iI wd), .int (iI rg), .int (iI ly), .int (iI wo)])), (w0, .inr (4, [.int (iI l1), .int (iI l2), .int (iI l3), .int (iI l4), .int (iI l5), .int (iI l6), .ref w1, .int (iI wc), .int (iI sh)])), (w1, .inl (X.2.1.1, 20, .inl (iF Fw)))])) (As := [.int (iI n), .int (iI 0), .int (iI 45)]) C (c_X5_within l X n 0 45 (by first | assumption | omega) (by first | assumption | omega) (by first | assumption | omega)) gX5_when_X5_within rfl rfl rfl hd_S_X5_within_X5_when (by decide) dX5_when_37 [] [0, 1, 2, 3, 4, 5, 6] [0, 1, 2, 3, 4, 5, 6] rfl rfl rfl rfl (by decide) rfl rfl rfl (Nat.le_of_ble_eq_true rfl) (by decide) (fun _ => rfl) (fun _ hy_ => ?_)
      clear hy_
      refine r_ite (fun h_5 => ?_) (fun h_5 => ?_)
      · skip
        refine r_if_eq (tgt := 53) C dX5_when_40 (by decide) (by decide) (fun h_6 => absurd h_6 (by decide)) (fun h_6 => ?_)
        refine r_iload C dX5_when_43 6 rfl ?_
        refine r_iconst C dX5_when_45 ?_
        refine r_iconst C dX5_when_46 ?_
        refine g_S_i (ws2 := (fun _ => [(h0, .inr (5, [.ref s1, .int (iI sc), .ref w0, .ref t0, .ref k0, .ref r0, .int (iI gf), .int (iI gs), .ref rp, .int (iI rc), .ref sh1, .int (iI tc), .int (iI ft)])), (s1, .inl (X.2.1.2.1, 8, .inr (.inr (.inr (.inr sf))))), (r0, .inr (0, [.ref r1, .int (iI c2), .int (iI x2), .int (iI s2), .int (iI f2), .int (iI z2), .int (iI n2), .int (iI b2)])), (r1, .inl (X.2.1.1, 810, .inl (iF Fr))), (sa, .inr (3, [.int (iI wt), .int (iI wd), .int (iI rg), .int (iI ly), .int (iI wo)])), (w0, .inr (4, [.int (iI l1), .int (iI l2), .int (iI l3), .int (iI l4), .int (iI l5), .int (iI l6), .ref w1, .int (iI wc), .int (iI sh)])), (w1, .inl (X.2.1.1, 20, .inl (iF Fw)))])) (As := [.int (iI w), .int (iI 0), .int (iI 1)]) C (c_X5_within l X w 0 1 (by first | assumption | omega) (by first | assumption | omega) (by first | assumption | omega)) gX5_when_X5_within rfl rfl rfl hd_S_X5_within_X5_when (by decide) dX5_when_47 [] [0, 1, 2, 3, 4, 5, 6] [0, 1, 2, 3, 4, 5, 6] rfl rfl rfl rfl (by decide) rfl rfl rfl (Nat.le_of_ble_eq_true rfl) (by decide) (fun _ => rfl) (fun _ hy_ => ?_)
        clear hy_
        refine r_ite (fun h_7 => ?_) (fun h_7 => ?_)
        · skip
          refine r_if_ne (tgt := 56) C dX5_when_50 (by decide) (by decide) (fun h_8 => ?_) (fun h_8 => absurd h_8 (by decide))
          refine r_iconst C dX5_when_56 ?_
          refine r_istore (lo2 := [(7, .int (iI (-1))), (6, .ref sa), (0, .ref h0), (1, .int (iI x)), (2, .int (iI v)), (3, .int (iI n)), (4, .int (iI j)), (5, .int (iI w))]) C dX5_when_57 (by decide) rfl ?_
          refine r_iconst C dX5_when_59 ?_
          refine r_istore (lo2 := [(8, .int (iI 0)), (7, .int (iI (-1))), (6, .ref sa), (0, .ref h0), (1, .int (iI x)), (2, .int (iI v)), (3, .int (iI n)), (4, .int (iI j)), (5, .int (iI w))]) C dX5_when_60 (by decide) rfl ?_
          refine r_iconst C dX5_when_62 ?_
          refine r_istore (lo2 := [(9, .int (iI 0)), (8, .int (iI 0)), (7, .int (iI (-1))), (6, .ref sa), (0, .ref h0), (1, .int (iI x)), (2, .int (iI v)), (3, .int (iI n)), (4, .int (iI j)), (5, .int (iI w))]) C dX5_when_63 (by decide) rfl ?_
          have L65 : ∀ (fu65 : Nat) (a1 : Int) (a2 : Int) (c1 : Int) (c3 : Int) (x3 : Int) (s3 : Int) (f3 : Int) (z3 : Int) (n3 : Int) (b3 : Int) (G3 : Nat → Int), (0 ≤ c1 ∧ c1 ≤ wc) → (-1 ≤ a1 ∧ a1 ≤ 1000000) → (∀ i, -1000000 ≤ G3 i ∧ G3 i ≤ 1000000) → (whV (((l1, l2, l3, l4, l5, l6), (wt, wd, rg), (sh, wc, Fw)) : fEn) (tA v gf n gs) j wc = gIn (whF (((l1, l2, l3, l4, l5, l6), (wt, wd, rg), (sh, wc, Fw)) : fEn) (tA v gf n gs) j) (wc - c1).toNat c1 (a1, a2)) → (wc - c1).toNat < fu65 → gW p l e (gr 6 0 0) s m args below meth c X A 11 (MQ below ((gQi X (Y := Int × Int × Int × Int × Int × Int × Int × (Nat → Int)) (fun y => (∀ i, -1000000 ≤ (y.2.2.2.2.2.2.2) i ∧ (y.2.2.2.2.2.2.2) i ≤ 1000000)) (fun y => (if ¬ (0 ≤ j ∧ j ≤ 4) then -1 else if ¬ (1 ≤ v ∧ v ≤ 300 ∧ 0 ≤ n ∧ n ≤ 45 ∧ 0 ≤ w ∧ w ≤ 1) then -2 else if w = 0 then (whV (((l1, l2, l3, l4, l5, l6), (wt, wd, rg), (sh, wc, Fw)) : fEn) (tA v gf n gs) j wc).2 else (whV (((l1, l2, l3, l4, l5, l6), (wt, wd, rg), (sh, wc, Fw)) : fEn) (tA v gf n gs) j wc).1)) (fun y => [(h0, .inr (5, [.ref s1, .int (iI sc), .ref w0, .ref t0, .ref k0, .ref r0, .int (iI gf), .int (iI gs), .ref rp, .int (iI rc), .ref sh1, .int (iI tc), .int (iI ft)])), (s1, .inl (X.2.1.2.1, 8, .inr (.inr (.inr (.inr sf))))), (r0, .inr (0, [.ref r1, .int (iI y.1), .int (iI y.2.1), .int (iI y.2.2.1), .int (iI y.2.2.2.1), .int (iI y.2.2.2.2.1), .int (iI y.2.2.2.2.2.1), .int (iI y.2.2.2.2.2.2.1)])), (r1, .inl (X.2.1.1, 810, .inl (iF (y.2.2.2.2.2.2.2)))), (sa, .inr (3, [.int (iI wt), .int (iI wd), .int (iI rg), .int (iI ly), .int (iI wo)])), (w0, .inr (4, [.int (iI l1), .int (iI l2), .int (iI l3), .int (iI l4), .int (iI l5), .int (iI l6), .ref w1, .int (iI wc), .int (iI sh)])), (w1, .inl (X.2.1.1, 20, .inl (iF Fw)))])) A) args s 0 0 A) 0 0 [(h0, .inr (5, [.ref s1, .int (iI sc), .ref w0, .ref t0, .ref k0, .ref r0, .int (iI gf), .int (iI gs), .ref rp, .int (iI rc), .ref sh1, .int (iI tc), .int (iI ft)])), (s1, .inl (X.2.1.2.1, 8, .inr (.inr (.inr (.inr sf))))), (r0, .inr (0, [.ref r1, .int (iI c3), .int (iI x3), .int (iI s3), .int (iI f3), .int (iI z3), .int (iI n3), .int (iI b3)])), (r1, .inl (X.2.1.1, 810, .inl (iF G3))), (sa, .inr (3, [.int (iI wt), .int (iI wd), .int (iI rg), .int (iI ly), .int (iI wo)])), (w0, .inr (4, [.int (iI l1), .int (iI l2), .int (iI l3), .int (iI l4), .int (iI l5), .int (iI l6), .ref w1, .int (iI wc), .int (iI sh)])), (w1, .inl (X.2.1.1, 20, .inl (iF Fw)))] 65 [(6, .ref sa), (0, .ref h0), (2, .int (iI v)), (3, .int (iI n)), (4, .int (iI j)), (5, .int (iI w)), (7, .int (iI a1)), (8, .int (iI a2)), (9, .int (iI c1))] [] := by
            intro fu65
            induction fu65 with
            | zero => intro a1 a2 c1 c3 x3 s3 f3 z3 n3 b3 G3 ic ia hG3 iL hm65; exact absurd hm65 (Nat.not_lt_zero _)
            | succ fu65 ih65 =>
              intro a1 a2 c1 c3 x3 s3 f3 z3 n3 b3 G3 ic ia hG3 iL hm65
              refine r_iload C dX5_when_65 8 rfl ?_
              refine r_aload_n C dX5_when_67 1 rfl ?_
              refine gf_5_2 C hi_X5_when_5 kw_X5_when_0 dX5_when_68 0 rfl rfl ?_
              refine gf_4_7 C hi_X5_when_4 kw_X5_when_1 dX5_when_71 5 rfl rfl ?_
              refine r_icmp_ge (tgt := 112) C dX5_when_74 (by decide) (by omega) (by omega) (fun h_9 => ?_) (fun h_9 => ?_)
              · skip
                refine r_iload C dX5_when_112 5 rfl ?_
                refine r_if_ne (tgt := 122) C dX5_when_114 (by decide) (by omega) (fun h_10 => ?_) (fun h_10 => ?_)
                · skip
                  refine r_iload C dX5_when_122 6 rfl ?_
                  exact g_ret_i C rfl dX5_when_124 (c3, x3, s3, f3, z3, n3, b3, G3) (by assumption) (by rw [iL, gIn_endW (by omega)]; (repeat' split) <;> first | rfl | omega) [0, 1, 2, 3, 4, 5, 6] rfl (by (repeat' split) <;> first | rfl | omega)
                · skip
                  refine r_iload C dX5_when_117 7 rfl ?_
                  refine r_goto (tgt := 124) C dX5_when_119 (by decide) ?_
                  exact g_ret_i C rfl dX5_when_124 (c3, x3, s3, f3, z3, n3, b3, G3) (by assumption) (by rw [iL, gIn_endW (by omega)]; (repeat' split) <;> first | rfl | omega) [0, 1, 2, 3, 4, 5, 6] rfl (by (repeat' split) <;> first | rfl | omega)
              · skip
                refine r_aload_n C dX5_when_77 1 rfl ?_
                refine r_aload C dX5_when_78 0 rfl ?_
                refine r_iload_n C dX5_when_80 2 rfl ?_
                refine r_iload_n C dX5_when_81 3 rfl ?_
                refine r_iload C dX5_when_82 4 rfl ?_
                refine r_iload C dX5_when_84 8 rfl ?_
                refine g_V_i (ws2 := (fun y_11 => [(h0, .inr (5, [.ref s1, .int (iI sc), .ref w0, .ref t0, .ref k0, .ref r0, .int (iI gf), .int (iI gs), .ref rp, .int (iI rc), .ref sh1, .int (iI tc), .int (iI ft)])), (s1, .inl (X.2.1.2.1, 8, .inr (.inr (.inr (.inr sf))))), (r0, .inr (0, [.ref r1, .int (iI y_11.1), .int (iI y_11.2.1), .int (iI y_11.2.2.1), .int (iI y_11.2.2.2.1), .int (iI y_11.2.2.2.2.1), .int (iI y_11.2.2.2.2.2.1), .int (iI y_11.2.2.2.2.2.2.1)])), (r1, .inl (X.2.1.1, 810, .inl (iF (y_11.2.2.2.2.2.2.2)))), (sa, .inr (3, [.int (iI wt), .int (iI wd), .int (iI rg), .int (iI ly), .int (iI wo)])), (w0, .inr (4, [.int (iI l1), .int (iI l2), .int (iI l3), .int (iI l4), .int (iI l5), .int (iI l6), .ref w1, .int (iI wc), .int (iI sh)])), (w1, .inl (X.2.1.1, 20, .inl (iF Fw)))])) (As := [.ref sa, .int (iI v), .int (iI n), .int (iI j), .int (iI c1)]) C (c_X5_countOf l X h0 s1 w0 t0 k0 r0 rp sh1 sc gf gs rc tc ft r1 c3 x3 s3 f3 z3 n3 b3 G3 sa wt wd rg ly wo w1 l1 l2 l3 l4 l5 l6 wc sh Fw v n j c1 (by first | assumption | omega) (by first | assumption | omega) (by first | assumption | omega) (by first | assumption | omega) (by first | assumption | omega) (by first | assumption | omega) (by first | assumption | omega) (by first | assumption | omega) (by first | assumption | omega) (by first | assumption | omega) (by assumption) (by first | assumption | omega) (by first | assumption | omega) (by first | assumption | omega) (by first | assumption | omega) (by first | assumption | omega) (by first | assumption | omega) (by assumption)) gX5_when_X5_countOf rfl rfl rfl hd_V_X5_countOf_X5_when (by decide) dX5_when_86 [0, 2, 3, 4, 5, 6] [1] [1, 0, 2, 3, 4, 5, 6] rfl rfl rfl rfl (by decide) rfl 0 5 rfl rfl rfl rfl (Nat.le_of_ble_eq_true rfl) (by decide) (fun _ => rfl) (fun y_11 hy_ => ?_)
                have y_12 := hy_
                obtain ⟨y_13, y_14⟩ := y_12
                clear hy_
                refine r_istore (lo2 := [(10, .int (iI (thV (((l1, l2, l3, l4, l5, l6), (wt, wd, rg), (c1, wc, Fw)) : fEn) (tA v gf n gs) j))), (6, .ref sa), (0, .ref h0), (2, .int (iI v)), (3, .int (iI n)), (4, .int (iI j)), (5, .int (iI w)), (7, .int (iI a1)), (8, .int (iI a2)), (9, .int (iI c1))]) C dX5_when_89 (by decide) rfl ?_
                refine r_iload C dX5_when_91 0 rfl ?_
                refine r_iload C dX5_when_93 7 rfl ?_
                refine r_icmp_le (tgt := 106) C dX5_when_95 (by decide) (by omega) (by omega) (fun h_15 => ?_) (fun h_15 => ?_)
                · skip
                  refine r_iinc (lo2 := [(9, .int (iI (c1 + 1))), (10, .int (iI (thV (((l1, l2, l3, l4, l5, l6), (wt, wd, rg), (c1, wc, Fw)) : fEn) (tA v gf n gs) j))), (6, .ref sa), (0, .ref h0), (2, .int (iI v)), (3, .int (iI n)), (4, .int (iI j)), (5, .int (iI w)), (7, .int (iI a1)), (8, .int (iI a2))]) C dX5_when_106 9 rfl (by decide) rfl ?_
                  refine r_goto (tgt := 65) C dX5_when_109 (by decide) ?_
                  refine r_lo [2, 3, 4, 5, 6, 7, 8, 9, 0] (lo2 := [(6, .ref sa), (0, .ref h0), (2, .int (iI v)), (3, .int (iI n)), (4, .int (iI j)), (5, .int (iI w)), (7, .int (iI a1)), (8, .int (iI a2)), (9, .int (iI (c1 + 1)))]) rfl ?_
                  exact ih65 a1 a2 (c1 + 1) y_11.1 y_11.2.1 y_11.2.2.1 y_11.2.2.2.1 y_11.2.2.2.2.1 y_11.2.2.2.2.2.1 y_11.2.2.2.2.2.2.1 (y_11.2.2.2.2.2.2.2) (by omega) (by omega) (by assumption) (by rw [iL, gIn_goW (by omega)]; first | (rw [whF_t (by omega)]; done) | (rw [whF_f (by omega)]; done)) (by omega)
                · skip
                  refine r_iload C dX5_when_98 0 rfl ?_
                  refine r_istore (lo2 := [(7, .int (iI (thV (((l1, l2, l3, l4, l5, l6), (wt, wd, rg), (c1, wc, Fw)) : fEn) (tA v gf n gs) j))), (10, .int (iI (thV (((l1, l2, l3, l4, l5, l6), (wt, wd, rg), (c1, wc, Fw)) : fEn) (tA v gf n gs) j))), (6, .ref sa), (0, .ref h0), (2, .int (iI v)), (3, .int (iI n)), (4, .int (iI j)), (5, .int (iI w)), (8, .int (iI a2)), (9, .int (iI c1))]) C dX5_when_100 (by decide) rfl ?_
                  refine r_iload C dX5_when_102 9 rfl ?_
                  refine r_istore (lo2 := [(8, .int (iI c1)), (7, .int (iI (thV (((l1, l2, l3, l4, l5, l6), (wt, wd, rg), (c1, wc, Fw)) : fEn) (tA v gf n gs) j))), (10, .int (iI (thV (((l1, l2, l3, l4, l5, l6), (wt, wd, rg), (c1, wc, Fw)) : fEn) (tA v gf n gs) j))), (6, .ref sa), (0, .ref h0), (2, .int (iI v)), (3, .int (iI n)), (4, .int (iI j)), (5, .int (iI w)), (9, .int (iI c1))]) C dX5_when_104 (by decide) rfl ?_
                  refine r_iinc (lo2 := [(9, .int (iI (c1 + 1))), (8, .int (iI c1)), (7, .int (iI (thV (((l1, l2, l3, l4, l5, l6), (wt, wd, rg), (c1, wc, Fw)) : fEn) (tA v gf n gs) j))), (10, .int (iI (thV (((l1, l2, l3, l4, l5, l6), (wt, wd, rg), (c1, wc, Fw)) : fEn) (tA v gf n gs) j))), (6, .ref sa), (0, .ref h0), (2, .int (iI v)), (3, .int (iI n)), (4, .int (iI j)), (5, .int (iI w))]) C dX5_when_106 9 rfl (by decide) rfl ?_
                  refine r_goto (tgt := 65) C dX5_when_109 (by decide) ?_
                  refine r_lo [4, 5, 6, 7, 8, 9, 2, 1, 0] (lo2 := [(6, .ref sa), (0, .ref h0), (2, .int (iI v)), (3, .int (iI n)), (4, .int (iI j)), (5, .int (iI w)), (7, .int (iI (thV (((l1, l2, l3, l4, l5, l6), (wt, wd, rg), (c1, wc, Fw)) : fEn) (tA v gf n gs) j))), (8, .int (iI c1)), (9, .int (iI (c1 + 1)))]) rfl ?_
                  exact ih65 (thV (((l1, l2, l3, l4, l5, l6), (wt, wd, rg), (c1, wc, Fw)) : fEn) (tA v gf n gs) j) c1 (c1 + 1) y_11.1 y_11.2.1 y_11.2.2.1 y_11.2.2.2.1 y_11.2.2.2.2.1 y_11.2.2.2.2.2.1 y_11.2.2.2.2.2.2.1 (y_11.2.2.2.2.2.2.2) (by omega) (by omega) (by assumption) (by rw [iL, gIn_goW (by omega)]; first | (rw [whF_t (by omega)]; done) | (rw [whF_f (by omega)]; done)) (by omega)
          refine r_lo [3, 4, 6, 7, 8, 9, 2, 1, 0] (lo2 := [(6, .ref sa), (0, .ref h0), (2, .int (iI v)), (3, .int (iI n)), (4, .int (iI j)), (5, .int (iI w)), (7, .int (iI (-1))), (8, .int (iI 0)), (9, .int (iI 0))]) rfl ?_
          exact L65 ((wc - (0 : Int)).toNat + 1) (-1) 0 0 c2 x2 s2 f2 z2 n2 b2 Fr (by omega) (by omega) hFr (by unfold whV; rw [show (wc - 0).toNat = wc.toNat by omega]) (Nat.lt_succ_self _)
        · skip
          refine r_if_ne (tgt := 56) C dX5_when_50 (by decide) (by decide) (fun h_16 => absurd h_16 (by decide)) (fun h_16 => ?_)
          refine r_bipush C dX5_when_53 (by decide) ?_
          exact g_ret_i C rfl dX5_when_55 (c2, x2, s2, f2, z2, n2, b2, Fr) (by assumption) (by (repeat' split) <;> first | rfl | omega) [0, 1, 2, 3, 4, 5, 6] rfl (by (repeat' split) <;> first | rfl | omega)
      · skip
        refine r_if_eq (tgt := 53) C dX5_when_40 (by decide) (by decide) (fun h_17 => ?_) (fun h_17 => absurd h_17 (by decide))
        refine r_bipush C dX5_when_53 (by decide) ?_
        exact g_ret_i C rfl dX5_when_55 (c2, x2, s2, f2, z2, n2, b2, Fr) (by assumption) (by (repeat' split) <;> first | rfl | omega) [0, 1, 2, 3, 4, 5, 6] rfl (by (repeat' split) <;> first | rfl | omega)
    · skip
      refine r_if_eq (tgt := 53) C dX5_when_30 (by decide) (by decide) (fun h_18 => ?_) (fun h_18 => absurd h_18 (by decide))
      refine r_bipush C dX5_when_53 (by decide) ?_
      exact g_ret_i C rfl dX5_when_55 (c2, x2, s2, f2, z2, n2, b2, Fr) (by assumption) (by (repeat' split) <;> first | rfl | omega) [0, 1, 2, 3, 4, 5, 6] rfl (by (repeat' split) <;> first | rfl | omega)
  · skip
    refine r_if_ne (tgt := 22) C dX5_when_17 (by decide) (by decide) (fun h_19 => absurd h_19 (by decide)) (fun h_19 => ?_)
    refine r_iconst C dX5_when_20 ?_
    exact g_ret_i C rfl dX5_when_21 (c2, x2, s2, f2, z2, n2, b2, Fr) (by assumption) (by (repeat' split) <;> first | rfl | omega) [0, 1, 2, 3, 4, 5, 6] rfl (by (repeat' split) <;> first | rfl | omega)

set_option maxHeartbeats 4000000 in
set_option maxRecDepth 100000 in
theorem c_X5_when_out (l : Launch) (X : gX) (h0 : Nat) (s1 : Nat) (w0 : Nat) (t0 : Nat) (k0 : Nat) (r0 : Nat) (rp : Nat) (sh1 : Nat) (sc : Int) (gf : Int) (gs : Int) (rc : Int) (tc : Int) (ft : Int) (sf : Nat → Option Nat) (x : Int) (v : Int) (n : Int) (j : Int) (w : Int) (hx : ¬ (0 ≤ x ∧ x < sc)) (hbx : inB x) (hc : 0 ≤ sc ∧ sc ≤ 8) : gM l yX5_when wsX5_when (gr 1 0 0) X [(h0, .inr (5, [.ref s1, .int (iI sc), .ref w0, .ref t0, .ref k0, .ref r0, .int (iI gf), .int (iI gs), .ref rp, .int (iI rc), .ref sh1, .int (iI tc), .int (iI ft)])), (s1, .inl (X.2.1.2.1, 8, .inr (.inr (.inr (.inr sf)))))] [.ref h0, .int (iI x), .int (iI v), .int (iI n), .int (iI j), .int (iI w)] (gQi X (Y := Unit) (fun _ => True) (fun _ => -1) (fun _ => [(h0, .inr (5, [.ref s1, .int (iI sc), .ref w0, .ref t0, .ref k0, .ref r0, .int (iI gf), .int (iI gs), .ref rp, .int (iI rc), .ref sh1, .int (iI tc), .int (iI ft)])), (s1, .inl (X.2.1.2.1, 8, .inr (.inr (.inr (.inr sf)))))])) 0 0 := by
  refine g_start2 (lo := [(0, .ref h0), (1, .int (iI x)), (2, .int (iI v)), (3, .int (iI n)), (4, .int (iI j)), (5, .int (iI w))]) (by decide +kernel) rfl rfl (Nat.le_of_ble_eq_true rfl) (fun p e s m args below meth c A C => ?_)
  refine r_aload_n C dX5_when_0 0 rfl ?_
  refine r_iload_n C dX5_when_1 1 rfl ?_
  refine g_V_q (ws2 := (fun _ => [(h0, .inr (5, [.ref s1, .int (iI sc), .ref w0, .ref t0, .ref k0, .ref r0, .int (iI gf), .int (iI gs), .ref rp, .int (iI rc), .ref sh1, .int (iI tc), .int (iI ft)])), (s1, .inl (X.2.1.2.1, 8, .inr (.inr (.inr (.inr sf)))))])) (As := [.int (iI x)]) C (c_X5_stoneAt_out l X h0 s1 w0 t0 k0 r0 rp sh1 sc gf gs rc tc ft sf x (by first | assumption | omega) (by first | assumption | omega) (by first | assumption | omega)) gX5_when_X5_stoneAt rfl rfl rfl hd_V_X5_stoneAt_X5_when (by decide) dX5_when_2 [0, 1] [] [0, 1] rfl rfl rfl rfl (by decide) rfl 0 5 rfl rfl rfl rfl (Nat.le_of_ble_eq_true rfl) (by decide) (fun _ => rfl) (fun _ hy_ => ?_)
  clear hy_
  refine r_astoreN (lo2 := [(6, .null), (0, .ref h0), (1, .int (iI x)), (2, .int (iI v)), (3, .int (iI n)), (4, .int (iI j)), (5, .int (iI w))]) C dX5_when_5 (by decide) rfl ?_
  refine r_aloadN C dX5_when_7 0 rfl ?_
  refine r_ifnullN (tgt := 20) C dX5_when_9 (by decide) ?_
  refine r_iconst C dX5_when_20 ?_
  exact g_ret_i C rfl dX5_when_21 () trivial (by (repeat' split) <;> first | rfl | omega) [0, 1] rfl (by (repeat' split) <;> first | rfl | omega)

set_option maxRecDepth 20000 in
theorem hd_V_X5_stoneAt_X5_odds : yX5_stoneAt.cls = yX5_stoneAt.cls ∧ yX5_stoneAt.cls ≠ "java/lang/invoke/MethodHandle" ∧ yX5_stoneAt.cls ≠ "java/lang/invoke/VarHandle" ∧ (parseMethodDescriptor yX5_stoneAt.desc).map (fun d => d.parameters.length) = some 1 := by decide +kernel
set_option maxRecDepth 20000 in
theorem hd_S_X5_isJudge_X5_odds : yX5_isJudge.cls ≠ "java/lang/invoke/MethodHandle" ∧ yX5_isJudge.cls ≠ "java/lang/invoke/VarHandle" ∧ (parseMethodDescriptor yX5_isJudge.desc).map (fun d => d.parameters.length) = some 1 := by decide +kernel
set_option maxRecDepth 20000 in
theorem hd_S_X5_isGrid_X5_odds : yX5_isGrid.cls ≠ "java/lang/invoke/MethodHandle" ∧ yX5_isGrid.cls ≠ "java/lang/invoke/VarHandle" ∧ (parseMethodDescriptor yX5_isGrid.desc).map (fun d => d.parameters.length) = some 4 := by decide +kernel
set_option maxRecDepth 20000 in
theorem hd_S_X5_within_X5_odds : yX5_within.cls ≠ "java/lang/invoke/MethodHandle" ∧ yX5_within.cls ≠ "java/lang/invoke/VarHandle" ∧ (parseMethodDescriptor yX5_within.desc).map (fun d => d.parameters.length) = some 3 := by decide +kernel
set_option maxRecDepth 20000 in
theorem hd_V_X5_hits_X5_odds : yX5_hits.cls = yX5_hits.cls ∧ yX5_hits.cls ≠ "java/lang/invoke/MethodHandle" ∧ yX5_hits.cls ≠ "java/lang/invoke/VarHandle" ∧ (parseMethodDescriptor yX5_hits.desc).map (fun d => d.parameters.length) = some 7 := by decide +kernel
set_option maxRecDepth 20000 in
theorem hd_S_X5_throwsOf_X5_odds : yX5_throwsOf.cls ≠ "java/lang/invoke/MethodHandle" ∧ yX5_throwsOf.cls ≠ "java/lang/invoke/VarHandle" ∧ (parseMethodDescriptor yX5_throwsOf.desc).map (fun d => d.parameters.length) = some 2 := by decide +kernel
set_option maxRecDepth 20000 in
theorem hd_S_X5_share_X5_odds : yX5_share.cls ≠ "java/lang/invoke/MethodHandle" ∧ yX5_share.cls ≠ "java/lang/invoke/VarHandle" ∧ (parseMethodDescriptor yX5_share.desc).map (fun d => d.parameters.length) = some 3 := by decide +kernel
set_option maxRecDepth 20000 in
theorem kw_X5_odds_0 : Cond.constantLong RX5 196 (-9223372036854775808) ∈ wsX5_odds := List.mem_of_getElem? (i := 1) rfl
set_option maxHeartbeats 4000000 in
set_option maxRecDepth 100000 in
theorem c_X5_odds_in (l : Launch) (X : gX) (h0 : Nat) (s1 : Nat) (w0 : Nat) (t0 : Nat) (k0 : Nat) (r0 : Nat) (rp : Nat) (sh1 : Nat) (sc : Int) (gf : Int) (gs : Int) (rc : Int) (tc : Int) (ft : Int) (sf : Nat → Option Nat) (r1 : Nat) (c2 : Int) (x2 : Int) (s2 : Int) (f2 : Int) (z2 : Int) (n2 : Int) (b2 : Int) (Fr : Nat → Int) (sa : Nat) (wt : Int) (wd : Int) (rg : Int) (ly : Int) (wo : Int) (w1 : Nat) (l1 : Int) (l2 : Int) (l3 : Int) (l4 : Int) (l5 : Int) (l6 : Int) (wc : Int) (sh : Int) (Fw : Nat → Int) (x : Int) (v : Int) (dv : Int) (n : Int) (dn : Int) (j : Int) (m1 : Int) (w : Int) (hs1 : 1 ≤ wt ∧ wt ≤ 99) (hs2 : 1 ≤ wd ∧ wd ≤ 99) (hs3 : 0 ≤ rg ∧ rg ≤ 9) (hl1 : 1 ≤ l1 ∧ l1 ≤ 99) (hl2 : 0 ≤ l2 ∧ l2 ≤ 50) (hl3 : 1 ≤ l3 ∧ l3 ≤ 99) (hl4 : 0 ≤ l4 ∧ l4 ≤ 99) (hl5 : 0 ≤ l5 ∧ l5 ≤ 50) (hl6 : 1 ≤ l6 ∧ l6 ≤ 45) (hwc : 1 ≤ wc ∧ wc ≤ 20) (hFw : ∀ j, -9 ≤ Fw j ∧ Fw j ≤ 9) (hgf : 1 ≤ gf ∧ gf ≤ 99) (hgs : 0 ≤ gs ∧ gs ≤ 99) (hsh : 0 ≤ sh ∧ sh < 20) (hx : 0 ≤ x ∧ x < sc ∧ sc ≤ 8) (hsf : sf (Int.toNat x) = some sa) (hFr : ∀ i, -1000000 ≤ Fr i ∧ Fr i ≤ 1000000) (hb_v : inB v) (hb_dv : inB dv) (hb_n : inB n) (hb_dn : inB dn) (hb_j : inB j) (hb_m1 : inB m1) (hb_w : inB w) : gM l yX5_odds wsX5_odds (gr 7 0 0) X [(h0, .inr (5, [.ref s1, .int (iI sc), .ref w0, .ref t0, .ref k0, .ref r0, .int (iI gf), .int (iI gs), .ref rp, .int (iI rc), .ref sh1, .int (iI tc), .int (iI ft)])), (s1, .inl (X.2.1.2.1, 8, .inr (.inr (.inr (.inr sf))))), (r0, .inr (0, [.ref r1, .int (iI c2), .int (iI x2), .int (iI s2), .int (iI f2), .int (iI z2), .int (iI n2), .int (iI b2)])), (r1, .inl (X.2.1.1, 810, .inl (iF Fr))), (sa, .inr (3, [.int (iI wt), .int (iI wd), .int (iI rg), .int (iI ly), .int (iI wo)])), (w0, .inr (4, [.int (iI l1), .int (iI l2), .int (iI l3), .int (iI l4), .int (iI l5), .int (iI l6), .ref w1, .int (iI wc), .int (iI sh)])), (w1, .inl (X.2.1.1, 20, .inl (iF Fw)))] [.ref h0, .int (iI x), .int (iI v), .int (iI dv), .int (iI n), .int (iI dn), .int (iI j), .int (iI m1), .int (iI w)] (gQl X (Y := Int × Int × Int × Int × Int × Int × Int × (Nat → Int)) (fun y => (∀ i, -1000000 ≤ (y.2.2.2.2.2.2.2) i ∧ (y.2.2.2.2.2.2.2) i ≤ 1000000)) (fun y => (if 0 ≤ j ∧ j ≤ 4 ∧ (0 ≤ dv ∧ dv ≤ 20 ∧ 0 ≤ dn ∧ dn ≤ 10 ∧ 1 ≤ v ∧ v ≤ 300 - dv ∧ 0 ≤ n ∧ n ≤ 45 - dn) ∧ 0 ≤ w ∧ w ≤ 1 then shV (htV (((l1, l2, l3, l4, l5, l6), (wt, wd, rg), (sh, wc, Fw)) : fEn) gf gs j m1 v dv n dn) ((dv + 1) * (dn + 1)) w else -9223372036854775808)) (fun y => [(h0, .inr (5, [.ref s1, .int (iI sc), .ref w0, .ref t0, .ref k0, .ref r0, .int (iI gf), .int (iI gs), .ref rp, .int (iI rc), .ref sh1, .int (iI tc), .int (iI ft)])), (s1, .inl (X.2.1.2.1, 8, .inr (.inr (.inr (.inr sf))))), (r0, .inr (0, [.ref r1, .int (iI y.1), .int (iI y.2.1), .int (iI y.2.2.1), .int (iI y.2.2.2.1), .int (iI y.2.2.2.2.1), .int (iI y.2.2.2.2.2.1), .int (iI y.2.2.2.2.2.2.1)])), (r1, .inl (X.2.1.1, 810, .inl (iF (y.2.2.2.2.2.2.2)))), (sa, .inr (3, [.int (iI wt), .int (iI wd), .int (iI rg), .int (iI ly), .int (iI wo)])), (w0, .inr (4, [.int (iI l1), .int (iI l2), .int (iI l3), .int (iI l4), .int (iI l5), .int (iI l6), .ref w1, .int (iI wc), .int (iI sh)])), (w1, .inl (X.2.1.1, 20, .inl (iF Fw)))])) 0 0 := by
  refine g_start2 (lo := [(0, .ref h0), (1, .int (iI x)), (2, .int (iI v)), (3, .int (iI dv)), (4, .int (iI n)), (5, .int (iI dn)), (6, .int (iI j)), (7, .int (iI m1)), (8, .int (iI w))]) (by decide +kernel) rfl rfl (Nat.le_of_ble_eq_true rfl) (fun p e s m args below meth c A C => ?_)
  refine r_aload_n C dX5_odds_0 0 rfl ?_
  refine r_iload_n C dX5_odds_1 1 rfl ?_
  refine g_V_q (ws2 := (fun _ => [(h0, .inr (5, [.ref s1, .int (iI sc), .ref w0, .ref t0, .ref k0, .ref r0, .int (iI gf), .int (iI gs), .ref rp, .int (iI rc), .ref sh1, .int (iI tc), .int (iI ft)])), (s1, .inl (X.2.1.2.1, 8, .inr (.inr (.inr (.inr sf))))), (r0, .inr (0, [.ref r1, .int (iI c2), .int (iI x2), .int (iI s2), .int (iI f2), .int (iI z2), .int (iI n2), .int (iI b2)])), (r1, .inl (X.2.1.1, 810, .inl (iF Fr))), (sa, .inr (3, [.int (iI wt), .int (iI wd), .int (iI rg), .int (iI ly), .int (iI wo)])), (w0, .inr (4, [.int (iI l1), .int (iI l2), .int (iI l3), .int (iI l4), .int (iI l5), .int (iI l6), .ref w1, .int (iI wc), .int (iI sh)])), (w1, .inl (X.2.1.1, 20, .inl (iF Fw)))])) (As := [.int (iI x)]) C (c_X5_stoneAt_in l X h0 s1 w0 t0 k0 r0 rp sh1 sc gf gs rc tc ft sf sa x (by first | assumption | omega) (by first | assumption | omega)) gX5_odds_X5_stoneAt rfl rfl rfl hd_V_X5_stoneAt_X5_odds (by decide) dX5_odds_2 [0, 1] [2, 3, 4, 5, 6] [5, 6, 0, 1, 2, 3, 4] rfl rfl rfl rfl (by decide) rfl 0 5 rfl rfl rfl rfl (Nat.le_of_ble_eq_true rfl) (by decide) (fun _ => rfl) (fun _ hy_ => ?_)
  clear hy_
  refine r_astore (lo2 := [(9, .ref sa), (0, .ref h0), (1, .int (iI x)), (2, .int (iI v)), (3, .int (iI dv)), (4, .int (iI n)), (5, .int (iI dn)), (6, .int (iI j)), (7, .int (iI m1)), (8, .int (iI w))]) C dX5_odds_5 (by decide) rfl ?_
  refine r_aload C dX5_odds_7 0 rfl ?_
  refine r_ifnull C dX5_odds_9 ?_
  refine r_iload C dX5_odds_12 7 rfl ?_
  refine g_S_i (ws2 := (fun _ => [(h0, .inr (5, [.ref s1, .int (iI sc), .ref w0, .ref t0, .ref k0, .ref r0, .int (iI gf), .int (iI gs), .ref rp, .int (iI rc), .ref sh1, .int (iI tc), .int (iI ft)])), (s1, .inl (X.2.1.2.1, 8, .inr (.inr (.inr (.inr sf))))), (r0, .inr (0, [.ref r1, .int (iI c2), .int (iI x2), .int (iI s2), .int (iI f2), .int (iI z2), .int (iI n2), .int (iI b2)])), (r1, .inl (X.2.1.1, 810, .inl (iF Fr))), (sa, .inr (3, [.int (iI wt), .int (iI wd), .int (iI rg), .int (iI ly), .int (iI wo)])), (w0, .inr (4, [.int (iI l1), .int (iI l2), .int (iI l3), .int (iI l4), .int (iI l5), .int (iI l6), .ref w1, .int (iI wc), .int (iI sh)])), (w1, .inl (X.2.1.1, 20, .inl (iF Fw)))])) (As := [.int (iI j)]) C (c_X5_isJudge l X j (by first | assumption | omega)) gX5_odds_X5_isJudge rfl rfl rfl hd_S_X5_isJudge_X5_odds (by decide) dX5_odds_14 [] [0, 1, 2, 3, 4, 5, 6] [0, 1, 2, 3, 4, 5, 6] rfl rfl rfl rfl (by decide) rfl rfl rfl (Nat.le_of_ble_eq_true rfl) (by decide) (fun _ => rfl) (fun _ hy_ => ?_)
  clear hy_
  refine r_ite (fun h_1 => ?_) (fun h_1 => ?_)
  · skip
    refine r_if_eq (tgt := 42) C dX5_odds_17 (by decide) (by decide) (fun h_2 => absurd h_2 (by decide)) (fun h_2 => ?_)
    refine r_iload_n C dX5_odds_20 3 rfl ?_
    refine r_iload_n C dX5_odds_21 4 rfl ?_
    refine r_iload C dX5_odds_22 5 rfl ?_
    refine r_iload C dX5_odds_24 6 rfl ?_
    refine g_S_i (ws2 := (fun _ => [(h0, .inr (5, [.ref s1, .int (iI sc), .ref w0, .ref t0, .ref k0, .ref r0, .int (iI gf), .int (iI gs), .ref rp, .int (iI rc), .ref sh1, .int (iI tc), .int (iI ft)])), (s1, .inl (X.2.1.2.1, 8, .inr (.inr (.inr (.inr sf))))), (r0, .inr (0, [.ref r1, .int (iI c2), .int (iI x2), .int (iI s2), .int (iI f2), .int (iI z2), .int (iI n2), .int (iI b2)])), (r1, .inl (X.2.1.1, 810, .inl (iF Fr))), (sa, .inr (3, [.int (iI wt), .int (iI wd), .int (iI rg), .int (iI ly), .int (iI wo)])), (w0, .inr (4, [.int (iI l1), .int (iI l2), .int (iI l3), .int (iI l4), .int (iI l5), .int (iI l6), .ref w1, .int (iI wc), .int (iI sh)])), (w1, .inl (X.2.1.1, 20, .inl (iF Fw)))])) (As := [.int (iI v), .int (iI dv), .int (iI n), .int (iI dn)]) C (c_X5_isGrid l X v dv n dn (by first | assumption | omega) (by first | assumption | omega) (by first | assumption | omega) (by first | assumption | omega)) gX5_odds_X5_isGrid rfl rfl rfl hd_S_X5_isGrid_X5_odds (by decide) dX5_odds_26 [] [0, 1, 2, 3, 4, 5, 6] [0, 1, 2, 3, 4, 5, 6] rfl rfl rfl rfl (by decide) rfl rfl rfl (Nat.le_of_ble_eq_true rfl) (by decide) (fun _ => rfl) (fun _ hy_ => ?_)
    clear hy_
    refine r_ite (fun h_3 => ?_) (fun h_3 => ?_)
    · skip
      refine r_if_eq (tgt := 42) C dX5_odds_29 (by decide) (by decide) (fun h_4 => absurd h_4 (by decide)) (fun h_4 => ?_)
      refine r_iload C dX5_odds_32 9 rfl ?_
      refine r_iconst C dX5_odds_34 ?_
      refine r_iconst C dX5_odds_35 ?_
      refine g_S_i (ws2 := (fun _ => [(h0, .inr (5, [.ref s1, .int (iI sc), .ref w0, .ref t0, .ref k0, .ref r0, .int (iI gf), .int (iI gs), .ref rp, .int (iI rc), .ref sh1, .int (iI tc), .int (iI ft)])), (s1, .inl (X.2.1.2.1, 8, .inr (.inr (.inr (.inr sf))))), (r0, .inr (0, [.ref r1, .int (iI c2), .int (iI x2), .int (iI s2), .int (iI f2), .int (iI z2), .int (iI n2), .int (iI b2)])), (r1, .inl (X.2.1.1, 810, .inl (iF Fr))), (sa, .inr (3, [.int (iI wt), .int (iI wd), .int (iI rg), .int (iI ly), .int (iI wo)])), (w0, .inr (4, [.int (iI l1), .int (iI l2), .int (iI l3), .int (iI l4), .int (iI l5), .int (iI l6), .ref w1, .int (iI wc), .int (iI sh)])), (w1, .inl (X.2.1.1, 20, .inl (iF Fw)))])) (As := [.int (iI w), .int (iI 0), .int (iI 1)]) C (c_X5_within l X w 0 1 (by first | assumption | omega) (by first | assumption | omega) (by first | assumption | omega)) gX5_odds_X5_within rfl rfl rfl hd_S_X5_within_X5_odds (by decide) dX5_odds_36 [] [0, 1, 2, 3, 4, 5, 6] [0, 1, 2, 3, 4, 5, 6] rfl rfl rfl rfl (by decide) rfl rfl rfl (Nat.le_of_ble_eq_true rfl) (by decide) (fun _ => rfl) (fun _ hy_ => ?_)
      clear hy_
      refine r_ite (fun h_5 => ?_) (fun h_5 => ?_)
      · skip
        refine r_if_ne (tgt := 46) C dX5_odds_39 (by decide) (by decide) (fun h_6 => ?_) (fun h_6 => absurd h_6 (by decide))
        have pq := mulB (a := dv + 1) (b := dn + 1) (A := 21) (B := 11) (by omega) (by omega)
        have pz := Int.mul_le_mul (a := 1) (b := 1) (c := dv + 1) (d := dn + 1) (by omega) (by omega) (by omega) (by omega)
        refine r_aload_n C dX5_odds_46 1 rfl ?_
        refine r_aload C dX5_odds_47 0 rfl ?_
        refine r_iload_n C dX5_odds_49 3 rfl ?_
        refine r_iload_n C dX5_odds_50 4 rfl ?_
        refine r_iload C dX5_odds_51 5 rfl ?_
        refine r_iload C dX5_odds_53 6 rfl ?_
        refine r_iload C dX5_odds_55 7 rfl ?_
        refine r_iload C dX5_odds_57 8 rfl ?_
        refine g_V_i (ws2 := (fun y_7 => [(h0, .inr (5, [.ref s1, .int (iI sc), .ref w0, .ref t0, .ref k0, .ref r0, .int (iI gf), .int (iI gs), .ref rp, .int (iI rc), .ref sh1, .int (iI tc), .int (iI ft)])), (s1, .inl (X.2.1.2.1, 8, .inr (.inr (.inr (.inr sf))))), (r0, .inr (0, [.ref r1, .int (iI y_7.1), .int (iI y_7.2.1), .int (iI y_7.2.2.1), .int (iI y_7.2.2.2.1), .int (iI y_7.2.2.2.2.1), .int (iI y_7.2.2.2.2.2.1), .int (iI y_7.2.2.2.2.2.2.1)])), (r1, .inl (X.2.1.1, 810, .inl (iF (y_7.2.2.2.2.2.2.2)))), (sa, .inr (3, [.int (iI wt), .int (iI wd), .int (iI rg), .int (iI ly), .int (iI wo)])), (w0, .inr (4, [.int (iI l1), .int (iI l2), .int (iI l3), .int (iI l4), .int (iI l5), .int (iI l6), .ref w1, .int (iI wc), .int (iI sh)])), (w1, .inl (X.2.1.1, 20, .inl (iF Fw)))])) (As := [.ref sa, .int (iI v), .int (iI dv), .int (iI n), .int (iI dn), .int (iI j), .int (iI m1)]) C (c_X5_hits l X h0 s1 w0 t0 k0 r0 rp sh1 sc gf gs rc tc ft r1 c2 x2 s2 f2 z2 n2 b2 Fr sa wt wd rg ly wo w1 l1 l2 l3 l4 l5 l6 wc sh Fw v dv n dn j m1 (by first | assumption | omega) (by first | assumption | omega) (by first | assumption | omega) (by first | assumption | omega) (by first | assumption | omega) (by first | assumption | omega) (by first | assumption | omega) (by first | assumption | omega) (by first | assumption | omega) (by first | assumption | omega) (by assumption) (by first | assumption | omega) (by first | assumption | omega) (by first | assumption | omega) (by first | assumption | omega) (by first | assumption | omega) (by first | assumption | omega) (by assumption)) gX5_odds_X5_hits rfl rfl rfl hd_V_X5_hits_X5_odds (by decide) dX5_odds_59 [0, 2, 3, 4, 5, 6] [1] [1, 0, 2, 3, 4, 5, 6] rfl rfl rfl rfl (by decide) rfl 0 5 rfl rfl rfl rfl (Nat.le_of_ble_eq_true rfl) (by decide) (fun _ => rfl) (fun y_7 hy_ => ?_)
        have y_8 := hy_
        obtain ⟨y_9, y_10⟩ := y_8
        clear hy_
        refine r_i2l C dX5_odds_62 (by omega) ?_
        refine r_iload_n C dX5_odds_63 4 rfl ?_
        refine r_iload C dX5_odds_64 6 rfl ?_
        refine g_S_i (ws2 := (fun _ => [(h0, .inr (5, [.ref s1, .int (iI sc), .ref w0, .ref t0, .ref k0, .ref r0, .int (iI gf), .int (iI gs), .ref rp, .int (iI rc), .ref sh1, .int (iI tc), .int (iI ft)])), (s1, .inl (X.2.1.2.1, 8, .inr (.inr (.inr (.inr sf))))), (r0, .inr (0, [.ref r1, .int (iI y_7.1), .int (iI y_7.2.1), .int (iI y_7.2.2.1), .int (iI y_7.2.2.2.1), .int (iI y_7.2.2.2.2.1), .int (iI y_7.2.2.2.2.2.1), .int (iI y_7.2.2.2.2.2.2.1)])), (r1, .inl (X.2.1.1, 810, .inl (iF (y_7.2.2.2.2.2.2.2)))), (sa, .inr (3, [.int (iI wt), .int (iI wd), .int (iI rg), .int (iI ly), .int (iI wo)])), (w0, .inr (4, [.int (iI l1), .int (iI l2), .int (iI l3), .int (iI l4), .int (iI l5), .int (iI l6), .ref w1, .int (iI wc), .int (iI sh)])), (w1, .inl (X.2.1.1, 20, .inl (iF Fw)))])) (As := [.int (iI dv), .int (iI dn)]) C (c_X5_throwsOf l X dv dn ) gX5_odds_X5_throwsOf rfl rfl rfl hd_S_X5_throwsOf_X5_odds (by decide) dX5_odds_66 [] [0, 1, 2, 3, 4, 5, 6] [0, 1, 2, 3, 4, 5, 6] rfl rfl rfl rfl (by decide) rfl rfl rfl (Nat.le_of_ble_eq_true rfl) (by decide) (fun _ => rfl) (fun _ hy_ => ?_)
        clear hy_
        refine r_i2l C dX5_odds_69 (by omega) ?_
        refine r_iload C dX5_odds_70 9 rfl ?_
        refine g_S_l (ws2 := (fun _ => [(h0, .inr (5, [.ref s1, .int (iI sc), .ref w0, .ref t0, .ref k0, .ref r0, .int (iI gf), .int (iI gs), .ref rp, .int (iI rc), .ref sh1, .int (iI tc), .int (iI ft)])), (s1, .inl (X.2.1.2.1, 8, .inr (.inr (.inr (.inr sf))))), (r0, .inr (0, [.ref r1, .int (iI y_7.1), .int (iI y_7.2.1), .int (iI y_7.2.2.1), .int (iI y_7.2.2.2.1), .int (iI y_7.2.2.2.2.1), .int (iI y_7.2.2.2.2.2.1), .int (iI y_7.2.2.2.2.2.2.1)])), (r1, .inl (X.2.1.1, 810, .inl (iF (y_7.2.2.2.2.2.2.2)))), (sa, .inr (3, [.int (iI wt), .int (iI wd), .int (iI rg), .int (iI ly), .int (iI wo)])), (w0, .inr (4, [.int (iI l1), .int (iI l2), .int (iI l3), .int (iI l4), .int (iI l5), .int (iI l6), .ref w1, .int (iI wc), .int (iI sh)])), (w1, .inl (X.2.1.1, 20, .inl (iF Fw)))])) (As := [.long (lI (htV (((l1, l2, l3, l4, l5, l6), (wt, wd, rg), (sh, wc, Fw)) : fEn) gf gs j m1 v dv n dn)), .long (lI ((dv + 1) * (dn + 1))), .int (iI w)]) C (c_X5_share l X (htV (((l1, l2, l3, l4, l5, l6), (wt, wd, rg), (sh, wc, Fw)) : fEn) gf gs j m1 v dv n dn) ((dv + 1) * (dn + 1)) w (by first | assumption | omega) (by first | assumption | omega) (by first | assumption | omega)) gX5_odds_X5_share rfl rfl rfl hd_S_X5_share_X5_odds (by decide) dX5_odds_72 [] [0, 1, 2, 3, 4, 5, 6] [0, 1, 2, 3, 4, 5, 6] rfl rfl rfl rfl (by decide) rfl rfl rfl (Nat.le_of_ble_eq_true rfl) (by decide) (fun _ => rfl) (fun _ hy_ => ?_)
        clear hy_
        exact g_ret_l C rfl dX5_odds_75 (y_7.1, y_7.2.1, y_7.2.2.1, y_7.2.2.2.1, y_7.2.2.2.2.1, y_7.2.2.2.2.2.1, y_7.2.2.2.2.2.2.1, (y_7.2.2.2.2.2.2.2)) (by assumption) (by first | (rw [if_pos (by omega)]; done) | (rw [if_neg (by omega)]; done)) [0, 1, 2, 3, 4, 5, 6] rfl (by (repeat' split) <;> first | rfl | omega)
      · skip
        refine r_if_ne (tgt := 46) C dX5_odds_39 (by decide) (by decide) (fun h_11 => absurd h_11 (by decide)) (fun h_11 => ?_)
        refine r_ldc2 (z := -9223372036854775808) C dX5_odds_42 kw_X5_odds_0 rfl ?_
        exact g_ret_l C rfl dX5_odds_45 (c2, x2, s2, f2, z2, n2, b2, Fr) (by assumption) (by first | (rw [if_pos (by omega)]; done) | (rw [if_neg (by omega)]; done)) [0, 1, 2, 3, 4, 5, 6] rfl (by (repeat' split) <;> first | rfl | omega)
    · skip
      refine r_if_eq (tgt := 42) C dX5_odds_29 (by decide) (by decide) (fun h_12 => ?_) (fun h_12 => absurd h_12 (by decide))
      refine r_ldc2 (z := -9223372036854775808) C dX5_odds_42 kw_X5_odds_0 rfl ?_
      exact g_ret_l C rfl dX5_odds_45 (c2, x2, s2, f2, z2, n2, b2, Fr) (by assumption) (by first | (rw [if_pos (by omega)]; done) | (rw [if_neg (by omega)]; done)) [0, 1, 2, 3, 4, 5, 6] rfl (by (repeat' split) <;> first | rfl | omega)
  · skip
    refine r_if_eq (tgt := 42) C dX5_odds_17 (by decide) (by decide) (fun h_13 => ?_) (fun h_13 => absurd h_13 (by decide))
    refine r_ldc2 (z := -9223372036854775808) C dX5_odds_42 kw_X5_odds_0 rfl ?_
    exact g_ret_l C rfl dX5_odds_45 (c2, x2, s2, f2, z2, n2, b2, Fr) (by assumption) (by first | (rw [if_pos (by omega)]; done) | (rw [if_neg (by omega)]; done)) [0, 1, 2, 3, 4, 5, 6] rfl (by (repeat' split) <;> first | rfl | omega)

set_option maxHeartbeats 4000000 in
set_option maxRecDepth 100000 in
theorem c_X5_odds_out (l : Launch) (X : gX) (h0 : Nat) (s1 : Nat) (w0 : Nat) (t0 : Nat) (k0 : Nat) (r0 : Nat) (rp : Nat) (sh1 : Nat) (sc : Int) (gf : Int) (gs : Int) (rc : Int) (tc : Int) (ft : Int) (sf : Nat → Option Nat) (x : Int) (v : Int) (dv : Int) (n : Int) (dn : Int) (j : Int) (m1 : Int) (w : Int) (hx : ¬ (0 ≤ x ∧ x < sc)) (hbx : inB x) (hc : 0 ≤ sc ∧ sc ≤ 8) : gM l yX5_odds wsX5_odds (gr 1 0 0) X [(h0, .inr (5, [.ref s1, .int (iI sc), .ref w0, .ref t0, .ref k0, .ref r0, .int (iI gf), .int (iI gs), .ref rp, .int (iI rc), .ref sh1, .int (iI tc), .int (iI ft)])), (s1, .inl (X.2.1.2.1, 8, .inr (.inr (.inr (.inr sf)))))] [.ref h0, .int (iI x), .int (iI v), .int (iI dv), .int (iI n), .int (iI dn), .int (iI j), .int (iI m1), .int (iI w)] (gQl X (Y := Unit) (fun _ => True) (fun _ => -9223372036854775808) (fun _ => [(h0, .inr (5, [.ref s1, .int (iI sc), .ref w0, .ref t0, .ref k0, .ref r0, .int (iI gf), .int (iI gs), .ref rp, .int (iI rc), .ref sh1, .int (iI tc), .int (iI ft)])), (s1, .inl (X.2.1.2.1, 8, .inr (.inr (.inr (.inr sf)))))])) 0 0 := by
  refine g_start2 (lo := [(0, .ref h0), (1, .int (iI x)), (2, .int (iI v)), (3, .int (iI dv)), (4, .int (iI n)), (5, .int (iI dn)), (6, .int (iI j)), (7, .int (iI m1)), (8, .int (iI w))]) (by decide +kernel) rfl rfl (Nat.le_of_ble_eq_true rfl) (fun p e s m args below meth c A C => ?_)
  refine r_aload_n C dX5_odds_0 0 rfl ?_
  refine r_iload_n C dX5_odds_1 1 rfl ?_
  refine g_V_q (ws2 := (fun _ => [(h0, .inr (5, [.ref s1, .int (iI sc), .ref w0, .ref t0, .ref k0, .ref r0, .int (iI gf), .int (iI gs), .ref rp, .int (iI rc), .ref sh1, .int (iI tc), .int (iI ft)])), (s1, .inl (X.2.1.2.1, 8, .inr (.inr (.inr (.inr sf)))))])) (As := [.int (iI x)]) C (c_X5_stoneAt_out l X h0 s1 w0 t0 k0 r0 rp sh1 sc gf gs rc tc ft sf x (by first | assumption | omega) (by first | assumption | omega) (by first | assumption | omega)) gX5_odds_X5_stoneAt rfl rfl rfl hd_V_X5_stoneAt_X5_odds (by decide) dX5_odds_2 [0, 1] [] [0, 1] rfl rfl rfl rfl (by decide) rfl 0 5 rfl rfl rfl rfl (Nat.le_of_ble_eq_true rfl) (by decide) (fun _ => rfl) (fun _ hy_ => ?_)
  clear hy_
  refine r_astoreN (lo2 := [(9, .null), (0, .ref h0), (1, .int (iI x)), (2, .int (iI v)), (3, .int (iI dv)), (4, .int (iI n)), (5, .int (iI dn)), (6, .int (iI j)), (7, .int (iI m1)), (8, .int (iI w))]) C dX5_odds_5 (by decide) rfl ?_
  refine r_aloadN C dX5_odds_7 0 rfl ?_
  refine r_ifnullN (tgt := 42) C dX5_odds_9 (by decide) ?_
  refine r_ldc2 (z := -9223372036854775808) C dX5_odds_42 kw_X5_odds_0 rfl ?_
  exact g_ret_l C rfl dX5_odds_45 () trivial (by (repeat' split) <;> first | rfl | omega) [0, 1] rfl (by (repeat' split) <;> first | rfl | omega)

set_option maxRecDepth 20000 in
theorem hd_V_X5_stoneAt_X5_narrow : yX5_stoneAt.cls = yX5_stoneAt.cls ∧ yX5_stoneAt.cls ≠ "java/lang/invoke/MethodHandle" ∧ yX5_stoneAt.cls ≠ "java/lang/invoke/VarHandle" ∧ (parseMethodDescriptor yX5_stoneAt.desc).map (fun d => d.parameters.length) = some 1 := by decide +kernel
set_option maxRecDepth 20000 in
theorem hd_S_X5_isJudge_X5_narrow : yX5_isJudge.cls ≠ "java/lang/invoke/MethodHandle" ∧ yX5_isJudge.cls ≠ "java/lang/invoke/VarHandle" ∧ (parseMethodDescriptor yX5_isJudge.desc).map (fun d => d.parameters.length) = some 1 := by decide +kernel
set_option maxRecDepth 20000 in
theorem hd_S_X5_isGrid_X5_narrow : yX5_isGrid.cls ≠ "java/lang/invoke/MethodHandle" ∧ yX5_isGrid.cls ≠ "java/lang/invoke/VarHandle" ∧ (parseMethodDescriptor yX5_isGrid.desc).map (fun d => d.parameters.length) = some 4 := by decide +kernel
set_option maxRecDepth 20000 in
theorem hd_V_X5_hits_X5_narrow : yX5_hits.cls = yX5_hits.cls ∧ yX5_hits.cls ≠ "java/lang/invoke/MethodHandle" ∧ yX5_hits.cls ≠ "java/lang/invoke/VarHandle" ∧ (parseMethodDescriptor yX5_hits.desc).map (fun d => d.parameters.length) = some 7 := by decide +kernel
set_option maxRecDepth 20000 in
theorem hd_S_X5_throwsOf_X5_narrow : yX5_throwsOf.cls ≠ "java/lang/invoke/MethodHandle" ∧ yX5_throwsOf.cls ≠ "java/lang/invoke/VarHandle" ∧ (parseMethodDescriptor yX5_throwsOf.desc).map (fun d => d.parameters.length) = some 2 := by decide +kernel
set_option maxHeartbeats 4000000 in
set_option maxRecDepth 100000 in
theorem c_X5_narrow_in (l : Launch) (X : gX) (h0 : Nat) (s1 : Nat) (w0 : Nat) (t0 : Nat) (k0 : Nat) (r0 : Nat) (rp : Nat) (sh1 : Nat) (sc : Int) (gf : Int) (gs : Int) (rc : Int) (tc : Int) (ft : Int) (sf : Nat → Option Nat) (r1 : Nat) (c2 : Int) (x2 : Int) (s2 : Int) (f2 : Int) (z2 : Int) (n2 : Int) (b2 : Int) (Fr : Nat → Int) (sa : Nat) (wt : Int) (wd : Int) (rg : Int) (ly : Int) (wo : Int) (w1 : Nat) (l1 : Int) (l2 : Int) (l3 : Int) (l4 : Int) (l5 : Int) (l6 : Int) (wc : Int) (sh : Int) (Fw : Nat → Int) (x : Int) (v : Int) (dv : Int) (n : Int) (dn : Int) (j : Int) (m1 : Int) (hs1 : 1 ≤ wt ∧ wt ≤ 99) (hs2 : 1 ≤ wd ∧ wd ≤ 99) (hs3 : 0 ≤ rg ∧ rg ≤ 9) (hl1 : 1 ≤ l1 ∧ l1 ≤ 99) (hl2 : 0 ≤ l2 ∧ l2 ≤ 50) (hl3 : 1 ≤ l3 ∧ l3 ≤ 99) (hl4 : 0 ≤ l4 ∧ l4 ≤ 99) (hl5 : 0 ≤ l5 ∧ l5 ≤ 50) (hl6 : 1 ≤ l6 ∧ l6 ≤ 45) (hwc : 1 ≤ wc ∧ wc ≤ 20) (hFw : ∀ j, -9 ≤ Fw j ∧ Fw j ≤ 9) (hgf : 1 ≤ gf ∧ gf ≤ 99) (hgs : 0 ≤ gs ∧ gs ≤ 99) (hsh : 0 ≤ sh ∧ sh < 20) (hx : 0 ≤ x ∧ x < sc ∧ sc ≤ 8) (hsf : sf (Int.toNat x) = some sa) (hFr : ∀ i, -1000000 ≤ Fr i ∧ Fr i ≤ 1000000) (hb_v : inB v) (hb_dv : inB dv) (hb_n : inB n) (hb_dn : inB dn) (hb_j : inB j) (hb_m1 : inB m1) : gM l yX5_narrow wsX5_narrow (gr 7 0 0) X [(h0, .inr (5, [.ref s1, .int (iI sc), .ref w0, .ref t0, .ref k0, .ref r0, .int (iI gf), .int (iI gs), .ref rp, .int (iI rc), .ref sh1, .int (iI tc), .int (iI ft)])), (s1, .inl (X.2.1.2.1, 8, .inr (.inr (.inr (.inr sf))))), (r0, .inr (0, [.ref r1, .int (iI c2), .int (iI x2), .int (iI s2), .int (iI f2), .int (iI z2), .int (iI n2), .int (iI b2)])), (r1, .inl (X.2.1.1, 810, .inl (iF Fr))), (sa, .inr (3, [.int (iI wt), .int (iI wd), .int (iI rg), .int (iI ly), .int (iI wo)])), (w0, .inr (4, [.int (iI l1), .int (iI l2), .int (iI l3), .int (iI l4), .int (iI l5), .int (iI l6), .ref w1, .int (iI wc), .int (iI sh)])), (w1, .inl (X.2.1.1, 20, .inl (iF Fw)))] [.ref h0, .int (iI x), .int (iI v), .int (iI dv), .int (iI n), .int (iI dn), .int (iI j), .int (iI m1)] (gQi X (Y := Int × Int × Int × Int × Int × Int × Int × (Nat → Int)) (fun y => (∀ i, -1000000 ≤ (y.2.2.2.2.2.2.2) i ∧ (y.2.2.2.2.2.2.2) i ≤ 1000000)) (fun y => (if ¬ (0 ≤ j ∧ j ≤ 4) then -1 else if ¬ (0 ≤ dv ∧ dv ≤ 20 ∧ 0 ≤ dn ∧ dn ≤ 10 ∧ 1 ≤ v ∧ v ≤ 300 - dv ∧ 0 ≤ n ∧ n ≤ 45 - dn) then -2 else (if dv = 0 then (if dn = 0 then -9 else 1) else if dn = 0 then 0 else if (htV (((l1, l2, l3, l4, l5, l6), (wt, wd, rg), (sh, wc, Fw)) : fEn) gf gs j m1 v (dv - 1) n dn) * ((dv + 1) * ((dn - 1) + 1)) < (htV (((l1, l2, l3, l4, l5, l6), (wt, wd, rg), (sh, wc, Fw)) : fEn) gf gs j m1 v dv n (dn - 1)) * (((dv - 1) + 1) * (dn + 1)) then 1 else 0))) (fun y => [(h0, .inr (5, [.ref s1, .int (iI sc), .ref w0, .ref t0, .ref k0, .ref r0, .int (iI gf), .int (iI gs), .ref rp, .int (iI rc), .ref sh1, .int (iI tc), .int (iI ft)])), (s1, .inl (X.2.1.2.1, 8, .inr (.inr (.inr (.inr sf))))), (r0, .inr (0, [.ref r1, .int (iI y.1), .int (iI y.2.1), .int (iI y.2.2.1), .int (iI y.2.2.2.1), .int (iI y.2.2.2.2.1), .int (iI y.2.2.2.2.2.1), .int (iI y.2.2.2.2.2.2.1)])), (r1, .inl (X.2.1.1, 810, .inl (iF (y.2.2.2.2.2.2.2)))), (sa, .inr (3, [.int (iI wt), .int (iI wd), .int (iI rg), .int (iI ly), .int (iI wo)])), (w0, .inr (4, [.int (iI l1), .int (iI l2), .int (iI l3), .int (iI l4), .int (iI l5), .int (iI l6), .ref w1, .int (iI wc), .int (iI sh)])), (w1, .inl (X.2.1.1, 20, .inl (iF Fw)))])) 0 0 := by
  refine g_start2 (lo := [(0, .ref h0), (1, .int (iI x)), (2, .int (iI v)), (3, .int (iI dv)), (4, .int (iI n)), (5, .int (iI dn)), (6, .int (iI j)), (7, .int (iI m1))]) (by decide +kernel) rfl rfl (Nat.le_of_ble_eq_true rfl) (fun p e s m args below meth c A C => ?_)
  refine r_aload_n C dX5_narrow_0 0 rfl ?_
  refine r_iload_n C dX5_narrow_1 1 rfl ?_
  refine g_V_q (ws2 := (fun _ => [(h0, .inr (5, [.ref s1, .int (iI sc), .ref w0, .ref t0, .ref k0, .ref r0, .int (iI gf), .int (iI gs), .ref rp, .int (iI rc), .ref sh1, .int (iI tc), .int (iI ft)])), (s1, .inl (X.2.1.2.1, 8, .inr (.inr (.inr (.inr sf))))), (r0, .inr (0, [.ref r1, .int (iI c2), .int (iI x2), .int (iI s2), .int (iI f2), .int (iI z2), .int (iI n2), .int (iI b2)])), (r1, .inl (X.2.1.1, 810, .inl (iF Fr))), (sa, .inr (3, [.int (iI wt), .int (iI wd), .int (iI rg), .int (iI ly), .int (iI wo)])), (w0, .inr (4, [.int (iI l1), .int (iI l2), .int (iI l3), .int (iI l4), .int (iI l5), .int (iI l6), .ref w1, .int (iI wc), .int (iI sh)])), (w1, .inl (X.2.1.1, 20, .inl (iF Fw)))])) (As := [.int (iI x)]) C (c_X5_stoneAt_in l X h0 s1 w0 t0 k0 r0 rp sh1 sc gf gs rc tc ft sf sa x (by first | assumption | omega) (by first | assumption | omega)) gX5_narrow_X5_stoneAt rfl rfl rfl hd_V_X5_stoneAt_X5_narrow (by decide) dX5_narrow_2 [0, 1] [2, 3, 4, 5, 6] [5, 6, 0, 1, 2, 3, 4] rfl rfl rfl rfl (by decide) rfl 0 5 rfl rfl rfl rfl (Nat.le_of_ble_eq_true rfl) (by decide) (fun _ => rfl) (fun _ hy_ => ?_)
  clear hy_
  refine r_astore (lo2 := [(8, .ref sa), (0, .ref h0), (1, .int (iI x)), (2, .int (iI v)), (3, .int (iI dv)), (4, .int (iI n)), (5, .int (iI dn)), (6, .int (iI j)), (7, .int (iI m1))]) C dX5_narrow_5 (by decide) rfl ?_
  refine r_aload C dX5_narrow_7 0 rfl ?_
  refine r_ifnull C dX5_narrow_9 ?_
  refine r_iload C dX5_narrow_12 7 rfl ?_
  refine g_S_i (ws2 := (fun _ => [(h0, .inr (5, [.ref s1, .int (iI sc), .ref w0, .ref t0, .ref k0, .ref r0, .int (iI gf), .int (iI gs), .ref rp, .int (iI rc), .ref sh1, .int (iI tc), .int (iI ft)])), (s1, .inl (X.2.1.2.1, 8, .inr (.inr (.inr (.inr sf))))), (r0, .inr (0, [.ref r1, .int (iI c2), .int (iI x2), .int (iI s2), .int (iI f2), .int (iI z2), .int (iI n2), .int (iI b2)])), (r1, .inl (X.2.1.1, 810, .inl (iF Fr))), (sa, .inr (3, [.int (iI wt), .int (iI wd), .int (iI rg), .int (iI ly), .int (iI wo)])), (w0, .inr (4, [.int (iI l1), .int (iI l2), .int (iI l3), .int (iI l4), .int (iI l5), .int (iI l6), .ref w1, .int (iI wc), .int (iI sh)])), (w1, .inl (X.2.1.1, 20, .inl (iF Fw)))])) (As := [.int (iI j)]) C (c_X5_isJudge l X j (by first | assumption | omega)) gX5_narrow_X5_isJudge rfl rfl rfl hd_S_X5_isJudge_X5_narrow (by decide) dX5_narrow_14 [] [0, 1, 2, 3, 4, 5, 6] [0, 1, 2, 3, 4, 5, 6] rfl rfl rfl rfl (by decide) rfl rfl rfl (Nat.le_of_ble_eq_true rfl) (by decide) (fun _ => rfl) (fun _ hy_ => ?_)
  clear hy_
  refine r_ite (fun h_1 => ?_) (fun h_1 => ?_)
  · skip
    refine r_if_ne (tgt := 22) C dX5_narrow_17 (by decide) (by decide) (fun h_2 => ?_) (fun h_2 => absurd h_2 (by decide))
    refine r_iload_n C dX5_narrow_22 3 rfl ?_
    refine r_iload_n C dX5_narrow_23 4 rfl ?_
    refine r_iload C dX5_narrow_24 5 rfl ?_
    refine r_iload C dX5_narrow_26 6 rfl ?_
    refine g_S_i (ws2 := (fun _ => [(h0, .inr (5, [.ref s1, .int (iI sc), .ref w0, .ref t0, .ref k0, .ref r0, .int (iI gf), .int (iI gs), .ref rp, .int (iI rc), .ref sh1, .int (iI tc), .int (iI ft)])), (s1, .inl (X.2.1.2.1, 8, .inr (.inr (.inr (.inr sf))))), (r0, .inr (0, [.ref r1, .int (iI c2), .int (iI x2), .int (iI s2), .int (iI f2), .int (iI z2), .int (iI n2), .int (iI b2)])), (r1, .inl (X.2.1.1, 810, .inl (iF Fr))), (sa, .inr (3, [.int (iI wt), .int (iI wd), .int (iI rg), .int (iI ly), .int (iI wo)])), (w0, .inr (4, [.int (iI l1), .int (iI l2), .int (iI l3), .int (iI l4), .int (iI l5), .int (iI l6), .ref w1, .int (iI wc), .int (iI sh)])), (w1, .inl (X.2.1.1, 20, .inl (iF Fw)))])) (As := [.int (iI v), .int (iI dv), .int (iI n), .int (iI dn)]) C (c_X5_isGrid l X v dv n dn (by first | assumption | omega) (by first | assumption | omega) (by first | assumption | omega) (by first | assumption | omega)) gX5_narrow_X5_isGrid rfl rfl rfl hd_S_X5_isGrid_X5_narrow (by decide) dX5_narrow_28 [] [0, 1, 2, 3, 4, 5, 6] [0, 1, 2, 3, 4, 5, 6] rfl rfl rfl rfl (by decide) rfl rfl rfl (Nat.le_of_ble_eq_true rfl) (by decide) (fun _ => rfl) (fun _ hy_ => ?_)
    clear hy_
    refine r_ite (fun h_3 => ?_) (fun h_3 => ?_)
    · skip
      refine r_if_ne (tgt := 37) C dX5_narrow_31 (by decide) (by decide) (fun h_4 => ?_) (fun h_4 => absurd h_4 (by decide))
      refine r_iload_n C dX5_narrow_37 4 rfl ?_
      refine r_if_ne (tgt := 53) C dX5_narrow_38 (by decide) (by omega) (fun h_5 => ?_) (fun h_5 => ?_)
      · skip
        refine r_iload C dX5_narrow_53 6 rfl ?_
        refine r_if_ne (tgt := 60) C dX5_narrow_55 (by decide) (by omega) (fun h_6 => ?_) (fun h_6 => ?_)
        · skip
          refine r_aload_n C dX5_narrow_60 1 rfl ?_
          refine r_aload C dX5_narrow_61 0 rfl ?_
          refine r_iload_n C dX5_narrow_63 3 rfl ?_
          refine r_iload_n C dX5_narrow_64 4 rfl ?_
          refine r_iconst C dX5_narrow_65 ?_
          refine r_isub C dX5_narrow_66 ?_
          refine r_iload C dX5_narrow_67 5 rfl ?_
          refine r_iload C dX5_narrow_69 6 rfl ?_
          refine r_iload C dX5_narrow_71 7 rfl ?_
          refine r_iload C dX5_narrow_73 8 rfl ?_
          refine g_V_i (ws2 := (fun y_7 => [(h0, .inr (5, [.ref s1, .int (iI sc), .ref w0, .ref t0, .ref k0, .ref r0, .int (iI gf), .int (iI gs), .ref rp, .int (iI rc), .ref sh1, .int (iI tc), .int (iI ft)])), (s1, .inl (X.2.1.2.1, 8, .inr (.inr (.inr (.inr sf))))), (r0, .inr (0, [.ref r1, .int (iI y_7.1), .int (iI y_7.2.1), .int (iI y_7.2.2.1), .int (iI y_7.2.2.2.1), .int (iI y_7.2.2.2.2.1), .int (iI y_7.2.2.2.2.2.1), .int (iI y_7.2.2.2.2.2.2.1)])), (r1, .inl (X.2.1.1, 810, .inl (iF (y_7.2.2.2.2.2.2.2)))), (sa, .inr (3, [.int (iI wt), .int (iI wd), .int (iI rg), .int (iI ly), .int (iI wo)])), (w0, .inr (4, [.int (iI l1), .int (iI l2), .int (iI l3), .int (iI l4), .int (iI l5), .int (iI l6), .ref w1, .int (iI wc), .int (iI sh)])), (w1, .inl (X.2.1.1, 20, .inl (iF Fw)))])) (As := [.ref sa, .int (iI v), .int (iI (dv - 1)), .int (iI n), .int (iI dn), .int (iI j), .int (iI m1)]) C (c_X5_hits l X h0 s1 w0 t0 k0 r0 rp sh1 sc gf gs rc tc ft r1 c2 x2 s2 f2 z2 n2 b2 Fr sa wt wd rg ly wo w1 l1 l2 l3 l4 l5 l6 wc sh Fw v (dv - 1) n dn j m1 (by first | assumption | omega) (by first | assumption | omega) (by first | assumption | omega) (by first | assumption | omega) (by first | assumption | omega) (by first | assumption | omega) (by first | assumption | omega) (by first | assumption | omega) (by first | assumption | omega) (by first | assumption | omega) (by assumption) (by first | assumption | omega) (by first | assumption | omega) (by first | assumption | omega) (by first | assumption | omega) (by first | assumption | omega) (by first | assumption | omega) (by assumption)) gX5_narrow_X5_hits rfl rfl rfl hd_V_X5_hits_X5_narrow (by decide) dX5_narrow_75 [0, 2, 3, 4, 5, 6] [1] [1, 0, 2, 3, 4, 5, 6] rfl rfl rfl rfl (by decide) rfl 0 5 rfl rfl rfl rfl (Nat.le_of_ble_eq_true rfl) (by decide) (fun _ => rfl) (fun y_7 hy_ => ?_)
          have y_8 := hy_
          obtain ⟨y_9, y_10⟩ := y_8
          clear hy_
          have n1 := mulB (a := dv - 1 + 1) (b := dn + 1) (A := 20) (B := 11) (by omega) (by omega)
          have n2 := mulB (a := dv + 1) (b := dn - 1 + 1) (A := 21) (B := 10) (by omega) (by omega)
          have n3 := mulB (a := (htV (((l1, l2, l3, l4, l5, l6), (wt, wd, rg), (sh, wc, Fw)) : fEn) gf gs j m1 v (dv - 1) n dn)) (b := (dv + 1) * (dn - 1 + 1)) (A := 220) (B := 210) (by omega) (by omega)
          refine r_iload_n C dX5_narrow_78 4 rfl ?_
          refine r_iload C dX5_narrow_79 6 rfl ?_
          refine r_iconst C dX5_narrow_81 ?_
          refine r_isub C dX5_narrow_82 ?_
          refine g_S_i (ws2 := (fun _ => [(h0, .inr (5, [.ref s1, .int (iI sc), .ref w0, .ref t0, .ref k0, .ref r0, .int (iI gf), .int (iI gs), .ref rp, .int (iI rc), .ref sh1, .int (iI tc), .int (iI ft)])), (s1, .inl (X.2.1.2.1, 8, .inr (.inr (.inr (.inr sf))))), (r0, .inr (0, [.ref r1, .int (iI y_7.1), .int (iI y_7.2.1), .int (iI y_7.2.2.1), .int (iI y_7.2.2.2.1), .int (iI y_7.2.2.2.2.1), .int (iI y_7.2.2.2.2.2.1), .int (iI y_7.2.2.2.2.2.2.1)])), (r1, .inl (X.2.1.1, 810, .inl (iF (y_7.2.2.2.2.2.2.2)))), (sa, .inr (3, [.int (iI wt), .int (iI wd), .int (iI rg), .int (iI ly), .int (iI wo)])), (w0, .inr (4, [.int (iI l1), .int (iI l2), .int (iI l3), .int (iI l4), .int (iI l5), .int (iI l6), .ref w1, .int (iI wc), .int (iI sh)])), (w1, .inl (X.2.1.1, 20, .inl (iF Fw)))])) (As := [.int (iI dv), .int (iI (dn - 1))]) C (c_X5_throwsOf l X dv (dn - 1) ) gX5_narrow_X5_throwsOf rfl rfl rfl hd_S_X5_throwsOf_X5_narrow (by decide) dX5_narrow_83 [] [0, 1, 2, 3, 4, 5, 6] [0, 1, 2, 3, 4, 5, 6] rfl rfl rfl rfl (by decide) rfl rfl rfl (Nat.le_of_ble_eq_true rfl) (by decide) (fun _ => rfl) (fun _ hy_ => ?_)
          clear hy_
          refine r_imul C dX5_narrow_86 ?_
          refine r_i2l C dX5_narrow_87 (by omega) ?_
          refine r_lstore (lo2 := [(9, .long (lI ((htV (((l1, l2, l3, l4, l5, l6), (wt, wd, rg), (sh, wc, Fw)) : fEn) gf gs j m1 v (dv - 1) n dn) * ((dv + 1) * ((dn - 1) + 1))))), (8, .ref sa), (0, .ref h0), (1, .int (iI x)), (2, .int (iI v)), (3, .int (iI dv)), (4, .int (iI n)), (5, .int (iI dn)), (6, .int (iI j)), (7, .int (iI m1))]) C dX5_narrow_88 (by decide) rfl ?_
          refine r_aload_n C dX5_narrow_90 2 rfl ?_
          refine r_aload C dX5_narrow_91 1 rfl ?_
          refine r_iload_n C dX5_narrow_93 4 rfl ?_
          refine r_iload_n C dX5_narrow_94 5 rfl ?_
          refine r_iload C dX5_narrow_95 6 rfl ?_
          refine r_iload C dX5_narrow_97 7 rfl ?_
          refine r_iconst C dX5_narrow_99 ?_
          refine r_isub C dX5_narrow_100 ?_
          refine r_iload C dX5_narrow_101 8 rfl ?_
          refine r_iload C dX5_narrow_103 9 rfl ?_
          refine g_V_i (ws2 := (fun y_11 => [(h0, .inr (5, [.ref s1, .int (iI sc), .ref w0, .ref t0, .ref k0, .ref r0, .int (iI gf), .int (iI gs), .ref rp, .int (iI rc), .ref sh1, .int (iI tc), .int (iI ft)])), (s1, .inl (X.2.1.2.1, 8, .inr (.inr (.inr (.inr sf))))), (r0, .inr (0, [.ref r1, .int (iI y_11.1), .int (iI y_11.2.1), .int (iI y_11.2.2.1), .int (iI y_11.2.2.2.1), .int (iI y_11.2.2.2.2.1), .int (iI y_11.2.2.2.2.2.1), .int (iI y_11.2.2.2.2.2.2.1)])), (r1, .inl (X.2.1.1, 810, .inl (iF (y_11.2.2.2.2.2.2.2)))), (sa, .inr (3, [.int (iI wt), .int (iI wd), .int (iI rg), .int (iI ly), .int (iI wo)])), (w0, .inr (4, [.int (iI l1), .int (iI l2), .int (iI l3), .int (iI l4), .int (iI l5), .int (iI l6), .ref w1, .int (iI wc), .int (iI sh)])), (w1, .inl (X.2.1.1, 20, .inl (iF Fw)))])) (As := [.ref sa, .int (iI v), .int (iI dv), .int (iI n), .int (iI (dn - 1)), .int (iI j), .int (iI m1)]) C (c_X5_hits l X h0 s1 w0 t0 k0 r0 rp sh1 sc gf gs rc tc ft r1 y_7.1 y_7.2.1 y_7.2.2.1 y_7.2.2.2.1 y_7.2.2.2.2.1 y_7.2.2.2.2.2.1 y_7.2.2.2.2.2.2.1 (y_7.2.2.2.2.2.2.2) sa wt wd rg ly wo w1 l1 l2 l3 l4 l5 l6 wc sh Fw v dv n (dn - 1) j m1 (by first | assumption | omega) (by first | assumption | omega) (by first | assumption | omega) (by first | assumption | omega) (by first | assumption | omega) (by first | assumption | omega) (by first | assumption | omega) (by first | assumption | omega) (by first | assumption | omega) (by first | assumption | omega) (by assumption) (by first | assumption | omega) (by first | assumption | omega) (by first | assumption | omega) (by first | assumption | omega) (by first | assumption | omega) (by first | assumption | omega) (by assumption)) gX5_narrow_X5_hits rfl rfl rfl hd_V_X5_hits_X5_narrow (by decide) dX5_narrow_105 [0, 2, 3, 4, 5, 6] [1] [1, 0, 2, 3, 4, 5, 6] rfl rfl rfl rfl (by decide) rfl 0 5 rfl rfl rfl rfl (Nat.le_of_ble_eq_true rfl) (by decide) (fun _ => rfl) (fun y_11 hy_ => ?_)
          have y_12 := hy_
          obtain ⟨y_13, y_14⟩ := y_12
          clear hy_
          have n4 := mulB (a := (htV (((l1, l2, l3, l4, l5, l6), (wt, wd, rg), (sh, wc, Fw)) : fEn) gf gs j m1 v dv n (dn - 1))) (b := (dv - 1 + 1) * (dn + 1)) (A := 210) (B := 220) (by omega) (by omega)
          refine r_iload_n C dX5_narrow_108 5 rfl ?_
          refine r_iconst C dX5_narrow_109 ?_
          refine r_isub C dX5_narrow_110 ?_
          refine r_iload C dX5_narrow_111 7 rfl ?_
          refine g_S_i (ws2 := (fun _ => [(h0, .inr (5, [.ref s1, .int (iI sc), .ref w0, .ref t0, .ref k0, .ref r0, .int (iI gf), .int (iI gs), .ref rp, .int (iI rc), .ref sh1, .int (iI tc), .int (iI ft)])), (s1, .inl (X.2.1.2.1, 8, .inr (.inr (.inr (.inr sf))))), (r0, .inr (0, [.ref r1, .int (iI y_11.1), .int (iI y_11.2.1), .int (iI y_11.2.2.1), .int (iI y_11.2.2.2.1), .int (iI y_11.2.2.2.2.1), .int (iI y_11.2.2.2.2.2.1), .int (iI y_11.2.2.2.2.2.2.1)])), (r1, .inl (X.2.1.1, 810, .inl (iF (y_11.2.2.2.2.2.2.2)))), (sa, .inr (3, [.int (iI wt), .int (iI wd), .int (iI rg), .int (iI ly), .int (iI wo)])), (w0, .inr (4, [.int (iI l1), .int (iI l2), .int (iI l3), .int (iI l4), .int (iI l5), .int (iI l6), .ref w1, .int (iI wc), .int (iI sh)])), (w1, .inl (X.2.1.1, 20, .inl (iF Fw)))])) (As := [.int (iI (dv - 1)), .int (iI dn)]) C (c_X5_throwsOf l X (dv - 1) dn ) gX5_narrow_X5_throwsOf rfl rfl rfl hd_S_X5_throwsOf_X5_narrow (by decide) dX5_narrow_113 [] [0, 1, 2, 3, 4, 5, 6] [0, 1, 2, 3, 4, 5, 6] rfl rfl rfl rfl (by decide) rfl rfl rfl (Nat.le_of_ble_eq_true rfl) (by decide) (fun _ => rfl) (fun _ hy_ => ?_)
          clear hy_
          refine r_imul C dX5_narrow_116 ?_
          refine r_i2l C dX5_narrow_117 (by omega) ?_
          refine r_lstore (lo2 := [(11, .long (lI ((htV (((l1, l2, l3, l4, l5, l6), (wt, wd, rg), (sh, wc, Fw)) : fEn) gf gs j m1 v dv n (dn - 1)) * (((dv - 1) + 1) * (dn + 1))))), (9, .long (lI ((htV (((l1, l2, l3, l4, l5, l6), (wt, wd, rg), (sh, wc, Fw)) : fEn) gf gs j m1 v (dv - 1) n dn) * ((dv + 1) * ((dn - 1) + 1))))), (8, .ref sa), (0, .ref h0), (1, .int (iI x)), (2, .int (iI v)), (3, .int (iI dv)), (4, .int (iI n)), (5, .int (iI dn)), (6, .int (iI j)), (7, .int (iI m1))]) C dX5_narrow_118 (by decide) rfl ?_
          refine r_lload C dX5_narrow_120 0 rfl ?_
          refine r_lload C dX5_narrow_122 1 rfl ?_
          refine r_lcmp_le (tgt := 132) C dX5_narrow_124 dX5_narrow_125 (by decide) (by omega) (by omega) (fun h_15 => ?_) (fun h_15 => ?_)
          · skip
            refine r_iconst C dX5_narrow_132 ?_
            exact g_ret_i C rfl dX5_narrow_133 (y_11.1, y_11.2.1, y_11.2.2.1, y_11.2.2.2.1, y_11.2.2.2.2.1, y_11.2.2.2.2.2.1, y_11.2.2.2.2.2.2.1, (y_11.2.2.2.2.2.2.2)) (by assumption) (by (repeat' split) <;> first | rfl | omega) [0, 1, 2, 3, 4, 5, 6] rfl (by (repeat' split) <;> first | rfl | omega)
          · skip
            refine r_iconst C dX5_narrow_128 ?_
            refine r_goto (tgt := 133) C dX5_narrow_129 (by decide) ?_
            exact g_ret_i C rfl dX5_narrow_133 (y_11.1, y_11.2.1, y_11.2.2.1, y_11.2.2.2.1, y_11.2.2.2.2.1, y_11.2.2.2.2.2.1, y_11.2.2.2.2.2.2.1, (y_11.2.2.2.2.2.2.2)) (by assumption) (by (repeat' split) <;> first | rfl | omega) [0, 1, 2, 3, 4, 5, 6] rfl (by (repeat' split) <;> first | rfl | omega)
        · skip
          refine r_iconst C dX5_narrow_58 ?_
          exact g_ret_i C rfl dX5_narrow_59 (c2, x2, s2, f2, z2, n2, b2, Fr) (by assumption) (by (repeat' split) <;> first | rfl | omega) [0, 1, 2, 3, 4, 5, 6] rfl (by (repeat' split) <;> first | rfl | omega)
      · skip
        refine r_iload C dX5_narrow_41 6 rfl ?_
        refine r_if_ne (tgt := 51) C dX5_narrow_43 (by decide) (by omega) (fun h_16 => ?_) (fun h_16 => ?_)
        · skip
          refine r_iconst C dX5_narrow_51 ?_
          exact g_ret_i C rfl dX5_narrow_52 (c2, x2, s2, f2, z2, n2, b2, Fr) (by assumption) (by (repeat' split) <;> first | rfl | omega) [0, 1, 2, 3, 4, 5, 6] rfl (by (repeat' split) <;> first | rfl | omega)
        · skip
          refine r_bipush C dX5_narrow_46 (by decide) ?_
          refine r_goto (tgt := 52) C dX5_narrow_48 (by decide) ?_
          exact g_ret_i C rfl dX5_narrow_52 (c2, x2, s2, f2, z2, n2, b2, Fr) (by assumption) (by (repeat' split) <;> first | rfl | omega) [0, 1, 2, 3, 4, 5, 6] rfl (by (repeat' split) <;> first | rfl | omega)
    · skip
      refine r_if_ne (tgt := 37) C dX5_narrow_31 (by decide) (by decide) (fun h_17 => absurd h_17 (by decide)) (fun h_17 => ?_)
      refine r_bipush C dX5_narrow_34 (by decide) ?_
      exact g_ret_i C rfl dX5_narrow_36 (c2, x2, s2, f2, z2, n2, b2, Fr) (by assumption) (by (repeat' split) <;> first | rfl | omega) [0, 1, 2, 3, 4, 5, 6] rfl (by (repeat' split) <;> first | rfl | omega)
  · skip
    refine r_if_ne (tgt := 22) C dX5_narrow_17 (by decide) (by decide) (fun h_18 => absurd h_18 (by decide)) (fun h_18 => ?_)
    refine r_iconst C dX5_narrow_20 ?_
    exact g_ret_i C rfl dX5_narrow_21 (c2, x2, s2, f2, z2, n2, b2, Fr) (by assumption) (by (repeat' split) <;> first | rfl | omega) [0, 1, 2, 3, 4, 5, 6] rfl (by (repeat' split) <;> first | rfl | omega)

set_option maxHeartbeats 4000000 in
set_option maxRecDepth 100000 in
theorem c_X5_narrow_out (l : Launch) (X : gX) (h0 : Nat) (s1 : Nat) (w0 : Nat) (t0 : Nat) (k0 : Nat) (r0 : Nat) (rp : Nat) (sh1 : Nat) (sc : Int) (gf : Int) (gs : Int) (rc : Int) (tc : Int) (ft : Int) (sf : Nat → Option Nat) (x : Int) (v : Int) (dv : Int) (n : Int) (dn : Int) (j : Int) (m1 : Int) (hx : ¬ (0 ≤ x ∧ x < sc)) (hbx : inB x) (hc : 0 ≤ sc ∧ sc ≤ 8) : gM l yX5_narrow wsX5_narrow (gr 1 0 0) X [(h0, .inr (5, [.ref s1, .int (iI sc), .ref w0, .ref t0, .ref k0, .ref r0, .int (iI gf), .int (iI gs), .ref rp, .int (iI rc), .ref sh1, .int (iI tc), .int (iI ft)])), (s1, .inl (X.2.1.2.1, 8, .inr (.inr (.inr (.inr sf)))))] [.ref h0, .int (iI x), .int (iI v), .int (iI dv), .int (iI n), .int (iI dn), .int (iI j), .int (iI m1)] (gQi X (Y := Unit) (fun _ => True) (fun _ => -1) (fun _ => [(h0, .inr (5, [.ref s1, .int (iI sc), .ref w0, .ref t0, .ref k0, .ref r0, .int (iI gf), .int (iI gs), .ref rp, .int (iI rc), .ref sh1, .int (iI tc), .int (iI ft)])), (s1, .inl (X.2.1.2.1, 8, .inr (.inr (.inr (.inr sf)))))])) 0 0 := by
  refine g_start2 (lo := [(0, .ref h0), (1, .int (iI x)), (2, .int (iI v)), (3, .int (iI dv)), (4, .int (iI n)), (5, .int (iI dn)), (6, .int (iI j)), (7, .int (iI m1))]) (by decide +kernel) rfl rfl (Nat.le_of_ble_eq_true rfl) (fun p e s m args below meth c A C => ?_)
  refine r_aload_n C dX5_narrow_0 0 rfl ?_
  refine r_iload_n C dX5_narrow_1 1 rfl ?_
  refine g_V_q (ws2 := (fun _ => [(h0, .inr (5, [.ref s1, .int (iI sc), .ref w0, .ref t0, .ref k0, .ref r0, .int (iI gf), .int (iI gs), .ref rp, .int (iI rc), .ref sh1, .int (iI tc), .int (iI ft)])), (s1, .inl (X.2.1.2.1, 8, .inr (.inr (.inr (.inr sf)))))])) (As := [.int (iI x)]) C (c_X5_stoneAt_out l X h0 s1 w0 t0 k0 r0 rp sh1 sc gf gs rc tc ft sf x (by first | assumption | omega) (by first | assumption | omega) (by first | assumption | omega)) gX5_narrow_X5_stoneAt rfl rfl rfl hd_V_X5_stoneAt_X5_narrow (by decide) dX5_narrow_2 [0, 1] [] [0, 1] rfl rfl rfl rfl (by decide) rfl 0 5 rfl rfl rfl rfl (Nat.le_of_ble_eq_true rfl) (by decide) (fun _ => rfl) (fun _ hy_ => ?_)
  clear hy_
  refine r_astoreN (lo2 := [(8, .null), (0, .ref h0), (1, .int (iI x)), (2, .int (iI v)), (3, .int (iI dv)), (4, .int (iI n)), (5, .int (iI dn)), (6, .int (iI j)), (7, .int (iI m1))]) C dX5_narrow_5 (by decide) rfl ?_
  refine r_aloadN C dX5_narrow_7 0 rfl ?_
  refine r_ifnullN (tgt := 20) C dX5_narrow_9 (by decide) ?_
  refine r_iconst C dX5_narrow_20 ?_
  exact g_ret_i C rfl dX5_narrow_21 () trivial (by (repeat' split) <;> first | rfl | omega) [0, 1] rfl (by (repeat' split) <;> first | rfl | omega)

set_option maxRecDepth 20000 in
theorem hd_V_X5_stoneAt_X5_toss : yX5_stoneAt.cls = yX5_stoneAt.cls ∧ yX5_stoneAt.cls ≠ "java/lang/invoke/MethodHandle" ∧ yX5_stoneAt.cls ≠ "java/lang/invoke/VarHandle" ∧ (parseMethodDescriptor yX5_stoneAt.desc).map (fun d => d.parameters.length) = some 1 := by decide +kernel
set_option maxRecDepth 20000 in
theorem hd_S_X5_within_X5_toss : yX5_within.cls ≠ "java/lang/invoke/MethodHandle" ∧ yX5_within.cls ≠ "java/lang/invoke/VarHandle" ∧ (parseMethodDescriptor yX5_within.desc).map (fun d => d.parameters.length) = some 3 := by decide +kernel
set_option maxHeartbeats 4000000 in
set_option maxRecDepth 100000 in
theorem c_X5_toss_no (l : Launch) (X : gX) (h0 : Nat) (s1 : Nat) (w0 : Nat) (t0 : Nat) (k0 : Nat) (r0 : Nat) (rp : Nat) (sh1 : Nat) (sc : Int) (gf : Int) (gs : Int) (rc : Int) (tc : Int) (ft : Int) (sf : Nat → Option Nat) (k1 : Nat) (cnt : Int) (xx : Int) (sp : Int) (fa : Int) (sl : Int) (sn : Int) (bt : Int) (Fk : Nat → Int) (sa : Nat) (wt : Int) (wd : Int) (rg : Int) (ly : Int) (wo : Int) (w1 : Nat) (l1 : Int) (l2 : Int) (l3 : Int) (l4 : Int) (l5 : Int) (l6 : Int) (wc : Int) (sh : Int) (Fw : Nat → Int) (x : Int) (v : Int) (f1 : Int) (n : Int) (g1 : Int) (hs1 : 1 ≤ wt ∧ wt ≤ 99) (hs2 : 1 ≤ wd ∧ wd ≤ 99) (hs3 : 0 ≤ rg ∧ rg ≤ 9) (hl1 : 1 ≤ l1 ∧ l1 ≤ 99) (hl2 : 0 ≤ l2 ∧ l2 ≤ 50) (hl3 : 1 ≤ l3 ∧ l3 ≤ 99) (hl4 : 0 ≤ l4 ∧ l4 ≤ 99) (hl5 : 0 ≤ l5 ∧ l5 ≤ 50) (hl6 : 1 ≤ l6 ∧ l6 ≤ 45) (hwc : 1 ≤ wc ∧ wc ≤ 20) (hFw : ∀ j, -9 ≤ Fw j ∧ Fw j ≤ 9) (hsh : 0 ≤ sh ∧ sh < 20) (hx : 0 ≤ x ∧ x < sc ∧ sc ≤ 8) (hsf : sf (Int.toNat x) = some sa) (hb_v : inB v) (hb_f1 : inB f1) (hb_n : inB n) (hb_g1 : inB g1) (hok : ¬ (1 ≤ v ∧ v ≤ 300 ∧ 1 ≤ f1 ∧ f1 ≤ 99 ∧ 0 ≤ n ∧ n ≤ 45 ∧ 0 ≤ g1 ∧ g1 ≤ 99)) : gM l yX5_toss wsX5_toss (gr 4 0 0) X [(h0, .inr (5, [.ref s1, .int (iI sc), .ref w0, .ref t0, .ref k0, .ref r0, .int (iI gf), .int (iI gs), .ref rp, .int (iI rc), .ref sh1, .int (iI tc), .int (iI ft)])), (s1, .inl (X.2.1.2.1, 8, .inr (.inr (.inr (.inr sf))))), (k0, .inr (0, [.ref k1, .int (iI cnt), .int (iI xx), .int (iI sp), .int (iI fa), .int (iI sl), .int (iI sn), .int (iI bt)])), (k1, .inl (X.2.1.1, 810, .inl (iF Fk))), (sa, .inr (3, [.int (iI wt), .int (iI wd), .int (iI rg), .int (iI ly), .int (iI wo)])), (w0, .inr (4, [.int (iI l1), .int (iI l2), .int (iI l3), .int (iI l4), .int (iI l5), .int (iI l6), .ref w1, .int (iI wc), .int (iI sh)])), (w1, .inl (X.2.1.1, 20, .inl (iF Fw)))] [.ref h0, .int (iI x), .int (iI v), .int (iI f1), .int (iI n), .int (iI g1)] (gQi X (Y := Unit) (fun _ => True) (fun _ => -2) (fun _ => [(h0, .inr (5, [.ref s1, .int (iI sc), .ref w0, .ref t0, .ref k0, .ref r0, .int (iI gf), .int (iI gs), .ref rp, .int (iI rc), .ref sh1, .int (iI tc), .int (iI ft)])), (s1, .inl (X.2.1.2.1, 8, .inr (.inr (.inr (.inr sf))))), (k0, .inr (0, [.ref k1, .int (iI cnt), .int (iI xx), .int (iI sp), .int (iI fa), .int (iI sl), .int (iI sn), .int (iI bt)])), (k1, .inl (X.2.1.1, 810, .inl (iF Fk))), (sa, .inr (3, [.int (iI wt), .int (iI wd), .int (iI rg), .int (iI ly), .int (iI wo)])), (w0, .inr (4, [.int (iI l1), .int (iI l2), .int (iI l3), .int (iI l4), .int (iI l5), .int (iI l6), .ref w1, .int (iI wc), .int (iI sh)])), (w1, .inl (X.2.1.1, 20, .inl (iF Fw)))])) 0 0 := by
  refine g_start2 (lo := [(0, .ref h0), (1, .int (iI x)), (2, .int (iI v)), (3, .int (iI f1)), (4, .int (iI n)), (5, .int (iI g1))]) (by decide +kernel) rfl rfl (Nat.le_of_ble_eq_true rfl) (fun p e s m args below meth c A C => ?_)
  refine r_aload_n C dX5_toss_0 0 rfl ?_
  refine r_iload_n C dX5_toss_1 1 rfl ?_
  refine g_V_q (ws2 := (fun _ => [(h0, .inr (5, [.ref s1, .int (iI sc), .ref w0, .ref t0, .ref k0, .ref r0, .int (iI gf), .int (iI gs), .ref rp, .int (iI rc), .ref sh1, .int (iI tc), .int (iI ft)])), (s1, .inl (X.2.1.2.1, 8, .inr (.inr (.inr (.inr sf))))), (k0, .inr (0, [.ref k1, .int (iI cnt), .int (iI xx), .int (iI sp), .int (iI fa), .int (iI sl), .int (iI sn), .int (iI bt)])), (k1, .inl (X.2.1.1, 810, .inl (iF Fk))), (sa, .inr (3, [.int (iI wt), .int (iI wd), .int (iI rg), .int (iI ly), .int (iI wo)])), (w0, .inr (4, [.int (iI l1), .int (iI l2), .int (iI l3), .int (iI l4), .int (iI l5), .int (iI l6), .ref w1, .int (iI wc), .int (iI sh)])), (w1, .inl (X.2.1.1, 20, .inl (iF Fw)))])) (As := [.int (iI x)]) C (c_X5_stoneAt_in l X h0 s1 w0 t0 k0 r0 rp sh1 sc gf gs rc tc ft sf sa x (by first | assumption | omega) (by first | assumption | omega)) gX5_toss_X5_stoneAt rfl rfl rfl hd_V_X5_stoneAt_X5_toss (by decide) dX5_toss_2 [0, 1] [2, 3, 4, 5, 6] [5, 6, 0, 1, 2, 3, 4] rfl rfl rfl rfl (by decide) rfl 0 5 rfl rfl rfl rfl (Nat.le_of_ble_eq_true rfl) (by decide) (fun _ => rfl) (fun _ hy_ => ?_)
  clear hy_
  refine r_astore (lo2 := [(6, .ref sa), (0, .ref h0), (1, .int (iI x)), (2, .int (iI v)), (3, .int (iI f1)), (4, .int (iI n)), (5, .int (iI g1))]) C dX5_toss_5 (by decide) rfl ?_
  refine r_aload C dX5_toss_7 0 rfl ?_
  refine r_ifnonnull (tgt := 14) C dX5_toss_9 (by decide) ?_
  refine r_iload_n C dX5_toss_14 3 rfl ?_
  refine r_iconst C dX5_toss_15 ?_
  refine r_sipush C dX5_toss_16 (by decide) ?_
  refine g_S_i (ws2 := (fun _ => [(h0, .inr (5, [.ref s1, .int (iI sc), .ref w0, .ref t0, .ref k0, .ref r0, .int (iI gf), .int (iI gs), .ref rp, .int (iI rc), .ref sh1, .int (iI tc), .int (iI ft)])), (s1, .inl (X.2.1.2.1, 8, .inr (.inr (.inr (.inr sf))))), (k0, .inr (0, [.ref k1, .int (iI cnt), .int (iI xx), .int (iI sp), .int (iI fa), .int (iI sl), .int (iI sn), .int (iI bt)])), (k1, .inl (X.2.1.1, 810, .inl (iF Fk))), (sa, .inr (3, [.int (iI wt), .int (iI wd), .int (iI rg), .int (iI ly), .int (iI wo)])), (w0, .inr (4, [.int (iI l1), .int (iI l2), .int (iI l3), .int (iI l4), .int (iI l5), .int (iI l6), .ref w1, .int (iI wc), .int (iI sh)])), (w1, .inl (X.2.1.1, 20, .inl (iF Fw)))])) (As := [.int (iI v), .int (iI 1), .int (iI 300)]) C (c_X5_within l X v 1 300 (by first | assumption | omega) (by first | assumption | omega) (by first | assumption | omega)) gX5_toss_X5_within rfl rfl rfl hd_S_X5_within_X5_toss (by decide) dX5_toss_19 [] [0, 1, 2, 3, 4, 5, 6] [0, 1, 2, 3, 4, 5, 6] rfl rfl rfl rfl (by decide) rfl rfl rfl (Nat.le_of_ble_eq_true rfl) (by decide) (fun _ => rfl) (fun _ hy_ => ?_)
  clear hy_
  refine r_ite (fun h_1 => ?_) (fun h_1 => ?_)
  · skip
    refine r_if_eq (tgt := 57) C dX5_toss_22 (by decide) (by decide) (fun h_2 => absurd h_2 (by decide)) (fun h_2 => ?_)
    refine r_iload_n C dX5_toss_25 4 rfl ?_
    refine r_iconst C dX5_toss_26 ?_
    refine r_bipush C dX5_toss_27 (by decide) ?_
    refine g_S_i (ws2 := (fun _ => [(h0, .inr (5, [.ref s1, .int (iI sc), .ref w0, .ref t0, .ref k0, .ref r0, .int (iI gf), .int (iI gs), .ref rp, .int (iI rc), .ref sh1, .int (iI tc), .int (iI ft)])), (s1, .inl (X.2.1.2.1, 8, .inr (.inr (.inr (.inr sf))))), (k0, .inr (0, [.ref k1, .int (iI cnt), .int (iI xx), .int (iI sp), .int (iI fa), .int (iI sl), .int (iI sn), .int (iI bt)])), (k1, .inl (X.2.1.1, 810, .inl (iF Fk))), (sa, .inr (3, [.int (iI wt), .int (iI wd), .int (iI rg), .int (iI ly), .int (iI wo)])), (w0, .inr (4, [.int (iI l1), .int (iI l2), .int (iI l3), .int (iI l4), .int (iI l5), .int (iI l6), .ref w1, .int (iI wc), .int (iI sh)])), (w1, .inl (X.2.1.1, 20, .inl (iF Fw)))])) (As := [.int (iI f1), .int (iI 1), .int (iI 99)]) C (c_X5_within l X f1 1 99 (by first | assumption | omega) (by first | assumption | omega) (by first | assumption | omega)) gX5_toss_X5_within rfl rfl rfl hd_S_X5_within_X5_toss (by decide) dX5_toss_29 [] [0, 1, 2, 3, 4, 5, 6] [0, 1, 2, 3, 4, 5, 6] rfl rfl rfl rfl (by decide) rfl rfl rfl (Nat.le_of_ble_eq_true rfl) (by decide) (fun _ => rfl) (fun _ hy_ => ?_)
    clear hy_
    refine r_ite (fun h_3 => ?_) (fun h_3 => ?_)
    · skip
      refine r_if_eq (tgt := 57) C dX5_toss_32 (by decide) (by decide) (fun h_4 => absurd h_4 (by decide)) (fun h_4 => ?_)
      refine r_iload C dX5_toss_35 5 rfl ?_
      refine r_iconst C dX5_toss_37 ?_
      refine r_bipush C dX5_toss_38 (by decide) ?_
      refine g_S_i (ws2 := (fun _ => [(h0, .inr (5, [.ref s1, .int (iI sc), .ref w0, .ref t0, .ref k0, .ref r0, .int (iI gf), .int (iI gs), .ref rp, .int (iI rc), .ref sh1, .int (iI tc), .int (iI ft)])), (s1, .inl (X.2.1.2.1, 8, .inr (.inr (.inr (.inr sf))))), (k0, .inr (0, [.ref k1, .int (iI cnt), .int (iI xx), .int (iI sp), .int (iI fa), .int (iI sl), .int (iI sn), .int (iI bt)])), (k1, .inl (X.2.1.1, 810, .inl (iF Fk))), (sa, .inr (3, [.int (iI wt), .int (iI wd), .int (iI rg), .int (iI ly), .int (iI wo)])), (w0, .inr (4, [.int (iI l1), .int (iI l2), .int (iI l3), .int (iI l4), .int (iI l5), .int (iI l6), .ref w1, .int (iI wc), .int (iI sh)])), (w1, .inl (X.2.1.1, 20, .inl (iF Fw)))])) (As := [.int (iI n), .int (iI 0), .int (iI 45)]) C (c_X5_within l X n 0 45 (by first | assumption | omega) (by first | assumption | omega) (by first | assumption | omega)) gX5_toss_X5_within rfl rfl rfl hd_S_X5_within_X5_toss (by decide) dX5_toss_40 [] [0, 1, 2, 3, 4, 5, 6] [0, 1, 2, 3, 4, 5, 6] rfl rfl rfl rfl (by decide) rfl rfl rfl (Nat.le_of_ble_eq_true rfl) (by decide) (fun _ => rfl) (fun _ hy_ => ?_)
      clear hy_
      refine r_ite (fun h_5 => ?_) (fun h_5 => ?_)
      · skip
        refine r_if_eq (tgt := 57) C dX5_toss_43 (by decide) (by decide) (fun h_6 => absurd h_6 (by decide)) (fun h_6 => ?_)
        refine r_iload C dX5_toss_46 6 rfl ?_
        refine r_iconst C dX5_toss_48 ?_
        refine r_bipush C dX5_toss_49 (by decide) ?_
        refine g_S_i (ws2 := (fun _ => [(h0, .inr (5, [.ref s1, .int (iI sc), .ref w0, .ref t0, .ref k0, .ref r0, .int (iI gf), .int (iI gs), .ref rp, .int (iI rc), .ref sh1, .int (iI tc), .int (iI ft)])), (s1, .inl (X.2.1.2.1, 8, .inr (.inr (.inr (.inr sf))))), (k0, .inr (0, [.ref k1, .int (iI cnt), .int (iI xx), .int (iI sp), .int (iI fa), .int (iI sl), .int (iI sn), .int (iI bt)])), (k1, .inl (X.2.1.1, 810, .inl (iF Fk))), (sa, .inr (3, [.int (iI wt), .int (iI wd), .int (iI rg), .int (iI ly), .int (iI wo)])), (w0, .inr (4, [.int (iI l1), .int (iI l2), .int (iI l3), .int (iI l4), .int (iI l5), .int (iI l6), .ref w1, .int (iI wc), .int (iI sh)])), (w1, .inl (X.2.1.1, 20, .inl (iF Fw)))])) (As := [.int (iI g1), .int (iI 0), .int (iI 99)]) C (c_X5_within l X g1 0 99 (by first | assumption | omega) (by first | assumption | omega) (by first | assumption | omega)) gX5_toss_X5_within rfl rfl rfl hd_S_X5_within_X5_toss (by decide) dX5_toss_51 [] [0, 1, 2, 3, 4, 5, 6] [0, 1, 2, 3, 4, 5, 6] rfl rfl rfl rfl (by decide) rfl rfl rfl (Nat.le_of_ble_eq_true rfl) (by decide) (fun _ => rfl) (fun _ hy_ => ?_)
        clear hy_
        refine r_ite (fun h_7 => absurd h_7 (by omega)) (fun h_7 => ?_)
        refine r_if_ne (tgt := 60) C dX5_toss_54 (by decide) (by decide) (fun h_8 => absurd h_8 (by decide)) (fun h_8 => ?_)
        refine r_bipush C dX5_toss_57 (by decide) ?_
        exact g_ret_i C rfl dX5_toss_59 () trivial (by (repeat' split) <;> first | rfl | omega) [0, 1, 2, 3, 4, 5, 6] rfl (by (repeat' split) <;> first | rfl | omega)
      · skip
        refine r_if_eq (tgt := 57) C dX5_toss_43 (by decide) (by decide) (fun h_9 => ?_) (fun h_9 => absurd h_9 (by decide))
        refine r_bipush C dX5_toss_57 (by decide) ?_
        exact g_ret_i C rfl dX5_toss_59 () trivial (by (repeat' split) <;> first | rfl | omega) [0, 1, 2, 3, 4, 5, 6] rfl (by (repeat' split) <;> first | rfl | omega)
    · skip
      refine r_if_eq (tgt := 57) C dX5_toss_32 (by decide) (by decide) (fun h_10 => ?_) (fun h_10 => absurd h_10 (by decide))
      refine r_bipush C dX5_toss_57 (by decide) ?_
      exact g_ret_i C rfl dX5_toss_59 () trivial (by (repeat' split) <;> first | rfl | omega) [0, 1, 2, 3, 4, 5, 6] rfl (by (repeat' split) <;> first | rfl | omega)
  · skip
    refine r_if_eq (tgt := 57) C dX5_toss_22 (by decide) (by decide) (fun h_11 => ?_) (fun h_11 => absurd h_11 (by decide))
    refine r_bipush C dX5_toss_57 (by decide) ?_
    exact g_ret_i C rfl dX5_toss_59 () trivial (by (repeat' split) <;> first | rfl | omega) [0, 1, 2, 3, 4, 5, 6] rfl (by (repeat' split) <;> first | rfl | omega)

set_option maxRecDepth 20000 in
theorem kw_X5_toss_0 : Cond.fieldLink RX5 38 "SkipStones" "kept" "LSkipStones$Flight;" ∈ wsX5_toss := List.mem_of_getElem? (i := 1) rfl
set_option maxRecDepth 20000 in
theorem hd_V_X0_begin_X5_toss : yX0_begin.cls = yX0_begin.cls ∧ yX0_begin.cls ≠ "java/lang/invoke/MethodHandle" ∧ yX0_begin.cls ≠ "java/lang/invoke/VarHandle" ∧ (parseMethodDescriptor yX0_begin.desc).map (fun d => d.parameters.length) = some 4 := by decide +kernel
set_option maxRecDepth 20000 in
theorem kw_X5_toss_1 : Cond.fieldLink RX5 24 "SkipStones" "water" "LSkipStones$Water;" ∈ wsX5_toss := List.mem_of_getElem? (i := 2) rfl
set_option maxRecDepth 20000 in
theorem kw_X5_toss_2 : Cond.fieldLink RX5 148 "SkipStones$Water" "shifted" "I" ∈ wsX5_toss := List.mem_of_getElem? (i := 3) rfl
set_option maxRecDepth 20000 in
theorem hd_V_X0_goOn_X5_toss : yX0_goOn.cls = yX0_goOn.cls ∧ yX0_goOn.cls ≠ "java/lang/invoke/MethodHandle" ∧ yX0_goOn.cls ≠ "java/lang/invoke/VarHandle" ∧ (parseMethodDescriptor yX0_goOn.desc).map (fun d => d.parameters.length) = some 3 := by decide +kernel
set_option maxRecDepth 20000 in
theorem kw_X5_toss_3 : Cond.fieldLink RX5 164 "SkipStones$Flight" "count" "I" ∈ wsX5_toss := List.mem_of_getElem? (i := 4) rfl
set_option maxRecDepth 20000 in
theorem hi_X5_toss_5 : ∀ w ∈ wsX50, w ∈ wsX5_toss := fun _ h => List.mem_cons_of_mem _ (List.mem_append_left _ (List.mem_append_left _ (List.mem_append_left _ (List.mem_append_right _ h))))
set_option maxRecDepth 20000 in
theorem hi_X5_toss_4 : ∀ w ∈ wsX40, w ∈ wsX5_toss := fun _ h => List.mem_cons_of_mem _ (List.mem_append_left _ (List.mem_append_left _ (List.mem_append_right _ h)))
set_option maxRecDepth 20000 in
theorem hi_X5_toss_0 : ∀ w ∈ wsX00, w ∈ wsX5_toss := fun _ h => List.mem_cons_of_mem _ (List.mem_append_left _ (List.mem_append_right _ h))
set_option maxHeartbeats 4000000 in
set_option maxRecDepth 100000 in
theorem c_X5_toss_ok (l : Launch) (X : gX) (h0 : Nat) (s1 : Nat) (w0 : Nat) (t0 : Nat) (k0 : Nat) (r0 : Nat) (rp : Nat) (sh1 : Nat) (sc : Int) (gf : Int) (gs : Int) (rc : Int) (tc : Int) (ft : Int) (sf : Nat → Option Nat) (k1 : Nat) (cnt : Int) (xx : Int) (sp : Int) (fa : Int) (sl : Int) (sn : Int) (bt : Int) (Fk : Nat → Int) (sa : Nat) (wt : Int) (wd : Int) (rg : Int) (ly : Int) (wo : Int) (w1 : Nat) (l1 : Int) (l2 : Int) (l3 : Int) (l4 : Int) (l5 : Int) (l6 : Int) (wc : Int) (sh : Int) (Fw : Nat → Int) (x : Int) (v : Int) (f1 : Int) (n : Int) (g1 : Int) (hs1 : 1 ≤ wt ∧ wt ≤ 99) (hs2 : 1 ≤ wd ∧ wd ≤ 99) (hs3 : 0 ≤ rg ∧ rg ≤ 9) (hl1 : 1 ≤ l1 ∧ l1 ≤ 99) (hl2 : 0 ≤ l2 ∧ l2 ≤ 50) (hl3 : 1 ≤ l3 ∧ l3 ≤ 99) (hl4 : 0 ≤ l4 ∧ l4 ≤ 99) (hl5 : 0 ≤ l5 ∧ l5 ≤ 50) (hl6 : 1 ≤ l6 ∧ l6 ≤ 45) (hwc : 1 ≤ wc ∧ wc ≤ 20) (hFw : ∀ j, -9 ≤ Fw j ∧ Fw j ≤ 9) (hsh : 0 ≤ sh ∧ sh < 20) (hx : 0 ≤ x ∧ x < sc ∧ sc ≤ 8) (hsf : sf (Int.toNat x) = some sa) (hok : 1 ≤ v ∧ v ≤ 300 ∧ 1 ≤ f1 ∧ f1 ≤ 99 ∧ 0 ≤ n ∧ n ≤ 45 ∧ 0 ≤ g1 ∧ g1 ≤ 99) : gM l yX5_toss wsX5_toss (gr 4 0 0) X [(h0, .inr (5, [.ref s1, .int (iI sc), .ref w0, .ref t0, .ref k0, .ref r0, .int (iI gf), .int (iI gs), .ref rp, .int (iI rc), .ref sh1, .int (iI tc), .int (iI ft)])), (s1, .inl (X.2.1.2.1, 8, .inr (.inr (.inr (.inr sf))))), (k0, .inr (0, [.ref k1, .int (iI cnt), .int (iI xx), .int (iI sp), .int (iI fa), .int (iI sl), .int (iI sn), .int (iI bt)])), (k1, .inl (X.2.1.1, 810, .inl (iF Fk))), (sa, .inr (3, [.int (iI wt), .int (iI wd), .int (iI rg), .int (iI ly), .int (iI wo)])), (w0, .inr (4, [.int (iI l1), .int (iI l2), .int (iI l3), .int (iI l4), .int (iI l5), .int (iI l6), .ref w1, .int (iI wc), .int (iI sh)])), (w1, .inl (X.2.1.1, 20, .inl (iF Fw)))] [.ref h0, .int (iI x), .int (iI v), .int (iI f1), .int (iI n), .int (iI g1)] (gQi X (Y := Int × Int × Int × Int × Int × Int) (fun y => True) (fun y => (fNum (((l1, l2, l3, l4, l5, l6), (wt, wd, rg), (sh, wc, Fw)) : fEn) 90 0 ((0, v, f1, n, g1, 0) : fS))) (fun y => [(h0, .inr (5, [.ref s1, .int (iI sc), .ref w0, .ref t0, .ref k0, .ref r0, .int (iI gf), .int (iI gs), .ref rp, .int (iI rc), .ref sh1, .int (iI tc), .int (iI ft)])), (s1, .inl (X.2.1.2.1, 8, .inr (.inr (.inr (.inr sf))))), (k0, .inr (0, [.ref k1, .int (iI (fNum (((l1, l2, l3, l4, l5, l6), (wt, wd, rg), (sh, wc, Fw)) : fEn) 90 0 ((0, v, f1, n, g1, 0) : fS))), .int (iI y.1), .int (iI y.2.1), .int (iI y.2.2.1), .int (iI y.2.2.2.1), .int (iI y.2.2.2.2.1), .int (iI y.2.2.2.2.2)])), (k1, .inl (X.2.1.1, 810, .inl (iF (fRes (((l1, l2, l3, l4, l5, l6), (wt, wd, rg), (sh, wc, Fw)) : fEn) 90 Fk 0 ((0, v, f1, n, g1, 0) : fS))))), (sa, .inr (3, [.int (iI wt), .int (iI wd), .int (iI rg), .int (iI ly), .int (iI wo)])), (w0, .inr (4, [.int (iI l1), .int (iI l2), .int (iI l3), .int (iI l4), .int (iI l5), .int (iI l6), .ref w1, .int (iI wc), .int (iI sh)])), (w1, .inl (X.2.1.1, 20, .inl (iF Fw)))])) 0 0 := by
  refine g_start2 (lo := [(0, .ref h0), (1, .int (iI x)), (2, .int (iI v)), (3, .int (iI f1)), (4, .int (iI n)), (5, .int (iI g1))]) (by decide +kernel) rfl rfl (Nat.le_of_ble_eq_true rfl) (fun p e s m args below meth c A C => ?_)
  refine r_aload_n C dX5_toss_0 0 rfl ?_
  refine r_iload_n C dX5_toss_1 1 rfl ?_
  refine g_V_q (ws2 := (fun _ => [(h0, .inr (5, [.ref s1, .int (iI sc), .ref w0, .ref t0, .ref k0, .ref r0, .int (iI gf), .int (iI gs), .ref rp, .int (iI rc), .ref sh1, .int (iI tc), .int (iI ft)])), (s1, .inl (X.2.1.2.1, 8, .inr (.inr (.inr (.inr sf))))), (k0, .inr (0, [.ref k1, .int (iI cnt), .int (iI xx), .int (iI sp), .int (iI fa), .int (iI sl), .int (iI sn), .int (iI bt)])), (k1, .inl (X.2.1.1, 810, .inl (iF Fk))), (sa, .inr (3, [.int (iI wt), .int (iI wd), .int (iI rg), .int (iI ly), .int (iI wo)])), (w0, .inr (4, [.int (iI l1), .int (iI l2), .int (iI l3), .int (iI l4), .int (iI l5), .int (iI l6), .ref w1, .int (iI wc), .int (iI sh)])), (w1, .inl (X.2.1.1, 20, .inl (iF Fw)))])) (As := [.int (iI x)]) C (c_X5_stoneAt_in l X h0 s1 w0 t0 k0 r0 rp sh1 sc gf gs rc tc ft sf sa x (by first | assumption | omega) (by first | assumption | omega)) gX5_toss_X5_stoneAt rfl rfl rfl hd_V_X5_stoneAt_X5_toss (by decide) dX5_toss_2 [0, 1] [2, 3, 4, 5, 6] [5, 6, 0, 1, 2, 3, 4] rfl rfl rfl rfl (by decide) rfl 0 5 rfl rfl rfl rfl (Nat.le_of_ble_eq_true rfl) (by decide) (fun _ => rfl) (fun _ hy_ => ?_)
  clear hy_
  refine r_astore (lo2 := [(6, .ref sa), (0, .ref h0), (1, .int (iI x)), (2, .int (iI v)), (3, .int (iI f1)), (4, .int (iI n)), (5, .int (iI g1))]) C dX5_toss_5 (by decide) rfl ?_
  refine r_aload C dX5_toss_7 0 rfl ?_
  refine r_ifnonnull (tgt := 14) C dX5_toss_9 (by decide) ?_
  refine r_iload_n C dX5_toss_14 3 rfl ?_
  refine r_iconst C dX5_toss_15 ?_
  refine r_sipush C dX5_toss_16 (by decide) ?_
  refine g_S_i (ws2 := (fun _ => [(h0, .inr (5, [.ref s1, .int (iI sc), .ref w0, .ref t0, .ref k0, .ref r0, .int (iI gf), .int (iI gs), .ref rp, .int (iI rc), .ref sh1, .int (iI tc), .int (iI ft)])), (s1, .inl (X.2.1.2.1, 8, .inr (.inr (.inr (.inr sf))))), (k0, .inr (0, [.ref k1, .int (iI cnt), .int (iI xx), .int (iI sp), .int (iI fa), .int (iI sl), .int (iI sn), .int (iI bt)])), (k1, .inl (X.2.1.1, 810, .inl (iF Fk))), (sa, .inr (3, [.int (iI wt), .int (iI wd), .int (iI rg), .int (iI ly), .int (iI wo)])), (w0, .inr (4, [.int (iI l1), .int (iI l2), .int (iI l3), .int (iI l4), .int (iI l5), .int (iI l6), .ref w1, .int (iI wc), .int (iI sh)])), (w1, .inl (X.2.1.1, 20, .inl (iF Fw)))])) (As := [.int (iI v), .int (iI 1), .int (iI 300)]) C (c_X5_within l X v 1 300 (by first | assumption | omega) (by first | assumption | omega) (by first | assumption | omega)) gX5_toss_X5_within rfl rfl rfl hd_S_X5_within_X5_toss (by decide) dX5_toss_19 [] [0, 1, 2, 3, 4, 5, 6] [0, 1, 2, 3, 4, 5, 6] rfl rfl rfl rfl (by decide) rfl rfl rfl (Nat.le_of_ble_eq_true rfl) (by decide) (fun _ => rfl) (fun _ hy_ => ?_)
  clear hy_
  refine r_ite (fun h_1 => ?_) (fun h_1 => absurd h_1 (by omega))
  refine r_if_eq (tgt := 57) C dX5_toss_22 (by decide) (by decide) (fun h_2 => absurd h_2 (by decide)) (fun h_2 => ?_)
  refine r_iload_n C dX5_toss_25 4 rfl ?_
  refine r_iconst C dX5_toss_26 ?_
  refine r_bipush C dX5_toss_27 (by decide) ?_
  refine g_S_i (ws2 := (fun _ => [(h0, .inr (5, [.ref s1, .int (iI sc), .ref w0, .ref t0, .ref k0, .ref r0, .int (iI gf), .int (iI gs), .ref rp, .int (iI rc), .ref sh1, .int (iI tc), .int (iI ft)])), (s1, .inl (X.2.1.2.1, 8, .inr (.inr (.inr (.inr sf))))), (k0, .inr (0, [.ref k1, .int (iI cnt), .int (iI xx), .int (iI sp), .int (iI fa), .int (iI sl), .int (iI sn), .int (iI bt)])), (k1, .inl (X.2.1.1, 810, .inl (iF Fk))), (sa, .inr (3, [.int (iI wt), .int (iI wd), .int (iI rg), .int (iI ly), .int (iI wo)])), (w0, .inr (4, [.int (iI l1), .int (iI l2), .int (iI l3), .int (iI l4), .int (iI l5), .int (iI l6), .ref w1, .int (iI wc), .int (iI sh)])), (w1, .inl (X.2.1.1, 20, .inl (iF Fw)))])) (As := [.int (iI f1), .int (iI 1), .int (iI 99)]) C (c_X5_within l X f1 1 99 (by first | assumption | omega) (by first | assumption | omega) (by first | assumption | omega)) gX5_toss_X5_within rfl rfl rfl hd_S_X5_within_X5_toss (by decide) dX5_toss_29 [] [0, 1, 2, 3, 4, 5, 6] [0, 1, 2, 3, 4, 5, 6] rfl rfl rfl rfl (by decide) rfl rfl rfl (Nat.le_of_ble_eq_true rfl) (by decide) (fun _ => rfl) (fun _ hy_ => ?_)
  clear hy_
  refine r_ite (fun h_3 => ?_) (fun h_3 => absurd h_3 (by omega))
  refine r_if_eq (tgt := 57) C dX5_toss_32 (by decide) (by decide) (fun h_4 => absurd h_4 (by decide)) (fun h_4 => ?_)
  refine r_iload C dX5_toss_35 5 rfl ?_
  refine r_iconst C dX5_toss_37 ?_
  refine r_bipush C dX5_toss_38 (by decide) ?_
  refine g_S_i (ws2 := (fun _ => [(h0, .inr (5, [.ref s1, .int (iI sc), .ref w0, .ref t0, .ref k0, .ref r0, .int (iI gf), .int (iI gs), .ref rp, .int (iI rc), .ref sh1, .int (iI tc), .int (iI ft)])), (s1, .inl (X.2.1.2.1, 8, .inr (.inr (.inr (.inr sf))))), (k0, .inr (0, [.ref k1, .int (iI cnt), .int (iI xx), .int (iI sp), .int (iI fa), .int (iI sl), .int (iI sn), .int (iI bt)])), (k1, .inl (X.2.1.1, 810, .inl (iF Fk))), (sa, .inr (3, [.int (iI wt), .int (iI wd), .int (iI rg), .int (iI ly), .int (iI wo)])), (w0, .inr (4, [.int (iI l1), .int (iI l2), .int (iI l3), .int (iI l4), .int (iI l5), .int (iI l6), .ref w1, .int (iI wc), .int (iI sh)])), (w1, .inl (X.2.1.1, 20, .inl (iF Fw)))])) (As := [.int (iI n), .int (iI 0), .int (iI 45)]) C (c_X5_within l X n 0 45 (by first | assumption | omega) (by first | assumption | omega) (by first | assumption | omega)) gX5_toss_X5_within rfl rfl rfl hd_S_X5_within_X5_toss (by decide) dX5_toss_40 [] [0, 1, 2, 3, 4, 5, 6] [0, 1, 2, 3, 4, 5, 6] rfl rfl rfl rfl (by decide) rfl rfl rfl (Nat.le_of_ble_eq_true rfl) (by decide) (fun _ => rfl) (fun _ hy_ => ?_)
  clear hy_
  refine r_ite (fun h_5 => ?_) (fun h_5 => absurd h_5 (by omega))
  refine r_if_eq (tgt := 57) C dX5_toss_43 (by decide) (by decide) (fun h_6 => absurd h_6 (by decide)) (fun h_6 => ?_)
  refine r_iload C dX5_toss_46 6 rfl ?_
  refine r_iconst C dX5_toss_48 ?_
  refine r_bipush C dX5_toss_49 (by decide) ?_
  refine g_S_i (ws2 := (fun _ => [(h0, .inr (5, [.ref s1, .int (iI sc), .ref w0, .ref t0, .ref k0, .ref r0, .int (iI gf), .int (iI gs), .ref rp, .int (iI rc), .ref sh1, .int (iI tc), .int (iI ft)])), (s1, .inl (X.2.1.2.1, 8, .inr (.inr (.inr (.inr sf))))), (k0, .inr (0, [.ref k1, .int (iI cnt), .int (iI xx), .int (iI sp), .int (iI fa), .int (iI sl), .int (iI sn), .int (iI bt)])), (k1, .inl (X.2.1.1, 810, .inl (iF Fk))), (sa, .inr (3, [.int (iI wt), .int (iI wd), .int (iI rg), .int (iI ly), .int (iI wo)])), (w0, .inr (4, [.int (iI l1), .int (iI l2), .int (iI l3), .int (iI l4), .int (iI l5), .int (iI l6), .ref w1, .int (iI wc), .int (iI sh)])), (w1, .inl (X.2.1.1, 20, .inl (iF Fw)))])) (As := [.int (iI g1), .int (iI 0), .int (iI 99)]) C (c_X5_within l X g1 0 99 (by first | assumption | omega) (by first | assumption | omega) (by first | assumption | omega)) gX5_toss_X5_within rfl rfl rfl hd_S_X5_within_X5_toss (by decide) dX5_toss_51 [] [0, 1, 2, 3, 4, 5, 6] [0, 1, 2, 3, 4, 5, 6] rfl rfl rfl rfl (by decide) rfl rfl rfl (Nat.le_of_ble_eq_true rfl) (by decide) (fun _ => rfl) (fun _ hy_ => ?_)
  clear hy_
  refine r_ite (fun h_7 => ?_) (fun h_7 => absurd h_7 (by omega))
  refine r_if_ne (tgt := 60) C dX5_toss_54 (by decide) (by decide) (fun h_8 => ?_) (fun h_8 => absurd h_8 (by decide))
  refine r_aload_n C dX5_toss_60 1 rfl ?_
  refine gf_5_4 C hi_X5_toss_5 kw_X5_toss_0 dX5_toss_61 0 rfl rfl ?_
  refine r_iload_n C dX5_toss_64 3 rfl ?_
  refine r_iload_n C dX5_toss_65 4 rfl ?_
  refine r_iload C dX5_toss_66 5 rfl ?_
  refine r_iload C dX5_toss_68 6 rfl ?_
  refine g_V_v (ws2 := (fun _ => [(h0, .inr (5, [.ref s1, .int (iI sc), .ref w0, .ref t0, .ref k0, .ref r0, .int (iI gf), .int (iI gs), .ref rp, .int (iI rc), .ref sh1, .int (iI tc), .int (iI ft)])), (s1, .inl (X.2.1.2.1, 8, .inr (.inr (.inr (.inr sf))))), (k0, .inr (0, [.ref k1, .int (iI 0), .int (iI 0), .int (iI v), .int (iI f1), .int (iI n), .int (iI g1), .int (iI 0)])), (k1, .inl (X.2.1.1, 810, .inl (iF Fk))), (sa, .inr (3, [.int (iI wt), .int (iI wd), .int (iI rg), .int (iI ly), .int (iI wo)])), (w0, .inr (4, [.int (iI l1), .int (iI l2), .int (iI l3), .int (iI l4), .int (iI l5), .int (iI l6), .ref w1, .int (iI wc), .int (iI sh)])), (w1, .inl (X.2.1.1, 20, .inl (iF Fw)))])) (As := [.int (iI v), .int (iI f1), .int (iI n), .int (iI g1)]) C (c_X0_begin l X k0 k1 cnt xx sp fa sl sn bt Fk v f1 n g1 ) gX5_toss_X0_begin rfl rfl rfl hd_V_X0_begin_X5_toss (by decide) dX5_toss_70 [2, 3] [0, 1, 4, 5, 6] [0, 1, 5, 6, 2, 3, 4] rfl rfl rfl rfl (by decide) rfl 2 0 rfl rfl rfl rfl (Nat.le_of_ble_eq_true rfl) (by decide) (fun _ => rfl) (fun _ hy_ => ?_)
  clear hy_
  refine r_aload_n C dX5_toss_73 1 rfl ?_
  refine gf_5_4 C hi_X5_toss_5 kw_X5_toss_0 dX5_toss_74 0 rfl rfl ?_
  refine r_aload C dX5_toss_77 0 rfl ?_
  refine r_aload_n C dX5_toss_79 1 rfl ?_
  refine gf_5_2 C hi_X5_toss_5 kw_X5_toss_1 dX5_toss_80 0 rfl rfl ?_
  refine r_aload_n C dX5_toss_83 1 rfl ?_
  refine gf_5_2 C hi_X5_toss_5 kw_X5_toss_1 dX5_toss_84 0 rfl rfl ?_
  refine gf_4_8 C hi_X5_toss_4 kw_X5_toss_2 dX5_toss_87 5 rfl rfl ?_
  refine g_V_v (ws2 := (fun y_9 => [(h0, .inr (5, [.ref s1, .int (iI sc), .ref w0, .ref t0, .ref k0, .ref r0, .int (iI gf), .int (iI gs), .ref rp, .int (iI rc), .ref sh1, .int (iI tc), .int (iI ft)])), (s1, .inl (X.2.1.2.1, 8, .inr (.inr (.inr (.inr sf))))), (k0, .inr (0, [.ref k1, .int (iI (fNum (((l1, l2, l3, l4, l5, l6), (wt, wd, rg), (sh, wc, Fw)) : fEn) 90 0 ((0, v, f1, n, g1, 0) : fS))), .int (iI y_9.1), .int (iI y_9.2.1), .int (iI y_9.2.2.1), .int (iI y_9.2.2.2.1), .int (iI y_9.2.2.2.2.1), .int (iI y_9.2.2.2.2.2)])), (k1, .inl (X.2.1.1, 810, .inl (iF (fRes (((l1, l2, l3, l4, l5, l6), (wt, wd, rg), (sh, wc, Fw)) : fEn) 90 Fk 0 ((0, v, f1, n, g1, 0) : fS))))), (sa, .inr (3, [.int (iI wt), .int (iI wd), .int (iI rg), .int (iI ly), .int (iI wo)])), (w0, .inr (4, [.int (iI l1), .int (iI l2), .int (iI l3), .int (iI l4), .int (iI l5), .int (iI l6), .ref w1, .int (iI wc), .int (iI sh)])), (w1, .inl (X.2.1.1, 20, .inl (iF Fw)))])) (As := [.ref sa, .ref w0, .int (iI sh)]) C (c_X0_goOn l X k0 k1 v f1 n g1 Fk sa wt wd rg ly wo w0 w1 l1 l2 l3 l4 l5 l6 wc sh Fw sh (by first | assumption | omega) (by first | assumption | omega) (by first | assumption | omega) (by first | assumption | omega) (by first | assumption | omega) (by first | assumption | omega) (by first | assumption | omega) (by first | assumption | omega) (by first | assumption | omega) (by first | assumption | omega) (by first | assumption | omega) (by first | assumption | omega) (by first | assumption | omega) (by first | assumption | omega) (by first | assumption | omega) (by assumption)) gX5_toss_X0_goOn rfl rfl rfl hd_V_X0_goOn_X5_toss (by decide) dX5_toss_90 [2, 3, 4, 5, 6] [0, 1] [0, 1, 2, 3, 4, 5, 6] rfl rfl rfl rfl (by decide) rfl 2 0 rfl rfl rfl rfl (Nat.le_of_ble_eq_true rfl) (by decide) (fun _ => rfl) (fun y_9 hy_ => ?_)
  clear hy_
  refine r_aload_n C dX5_toss_93 1 rfl ?_
  refine gf_5_4 C hi_X5_toss_5 kw_X5_toss_0 dX5_toss_94 0 rfl rfl ?_
  refine gf_0_1 C hi_X5_toss_0 kw_X5_toss_3 dX5_toss_97 2 rfl rfl ?_
  exact g_ret_i C rfl dX5_toss_100 (y_9.1, y_9.2.1, y_9.2.2.1, y_9.2.2.2.1, y_9.2.2.2.2.1, y_9.2.2.2.2.2) trivial rfl [0, 1, 2, 3, 4, 5, 6] rfl rfl

set_option maxHeartbeats 4000000 in
set_option maxRecDepth 100000 in
theorem c_X5_toss_out (l : Launch) (X : gX) (h0 : Nat) (s1 : Nat) (w0 : Nat) (t0 : Nat) (k0 : Nat) (r0 : Nat) (rp : Nat) (sh1 : Nat) (sc : Int) (gf : Int) (gs : Int) (rc : Int) (tc : Int) (ft : Int) (sf : Nat → Option Nat) (x : Int) (v : Int) (f1 : Int) (n : Int) (g1 : Int) (hx : ¬ (0 ≤ x ∧ x < sc)) (hbx : inB x) (hc : 0 ≤ sc ∧ sc ≤ 8) : gM l yX5_toss wsX5_toss (gr 1 0 0) X [(h0, .inr (5, [.ref s1, .int (iI sc), .ref w0, .ref t0, .ref k0, .ref r0, .int (iI gf), .int (iI gs), .ref rp, .int (iI rc), .ref sh1, .int (iI tc), .int (iI ft)])), (s1, .inl (X.2.1.2.1, 8, .inr (.inr (.inr (.inr sf)))))] [.ref h0, .int (iI x), .int (iI v), .int (iI f1), .int (iI n), .int (iI g1)] (gQi X (Y := Unit) (fun _ => True) (fun _ => -1) (fun _ => [(h0, .inr (5, [.ref s1, .int (iI sc), .ref w0, .ref t0, .ref k0, .ref r0, .int (iI gf), .int (iI gs), .ref rp, .int (iI rc), .ref sh1, .int (iI tc), .int (iI ft)])), (s1, .inl (X.2.1.2.1, 8, .inr (.inr (.inr (.inr sf)))))])) 0 0 := by
  refine g_start2 (lo := [(0, .ref h0), (1, .int (iI x)), (2, .int (iI v)), (3, .int (iI f1)), (4, .int (iI n)), (5, .int (iI g1))]) (by decide +kernel) rfl rfl (Nat.le_of_ble_eq_true rfl) (fun p e s m args below meth c A C => ?_)
  refine r_aload_n C dX5_toss_0 0 rfl ?_
  refine r_iload_n C dX5_toss_1 1 rfl ?_
  refine g_V_q (ws2 := (fun _ => [(h0, .inr (5, [.ref s1, .int (iI sc), .ref w0, .ref t0, .ref k0, .ref r0, .int (iI gf), .int (iI gs), .ref rp, .int (iI rc), .ref sh1, .int (iI tc), .int (iI ft)])), (s1, .inl (X.2.1.2.1, 8, .inr (.inr (.inr (.inr sf)))))])) (As := [.int (iI x)]) C (c_X5_stoneAt_out l X h0 s1 w0 t0 k0 r0 rp sh1 sc gf gs rc tc ft sf x (by first | assumption | omega) (by first | assumption | omega) (by first | assumption | omega)) gX5_toss_X5_stoneAt rfl rfl rfl hd_V_X5_stoneAt_X5_toss (by decide) dX5_toss_2 [0, 1] [] [0, 1] rfl rfl rfl rfl (by decide) rfl 0 5 rfl rfl rfl rfl (Nat.le_of_ble_eq_true rfl) (by decide) (fun _ => rfl) (fun _ hy_ => ?_)
  clear hy_
  refine r_astoreN (lo2 := [(6, .null), (0, .ref h0), (1, .int (iI x)), (2, .int (iI v)), (3, .int (iI f1)), (4, .int (iI n)), (5, .int (iI g1))]) C dX5_toss_5 (by decide) rfl ?_
  refine r_aloadN C dX5_toss_7 0 rfl ?_
  refine r_ifnonnullN C dX5_toss_9 ?_
  refine r_iconst C dX5_toss_12 ?_
  exact g_ret_i C rfl dX5_toss_13 () trivial (by (repeat' split) <;> first | rfl | omega) [0, 1] rfl (by (repeat' split) <;> first | rfl | omega)
end M9
