section M10
set_option maxRecDepth 20000 in
theorem kw_X5_lyingBelow_0 : Cond.fieldLink RX5 17 "SkipStones" "stoneCount" "I" ∈ wsX5_lyingBelow := List.mem_of_getElem? (i := 1) rfl
set_option maxRecDepth 20000 in
theorem hi_X5_lyingBelow_5 : ∀ w ∈ wsX50, w ∈ wsX5_lyingBelow := fun _ h => List.mem_cons_of_mem _ (List.mem_append_left _ (List.mem_append_right _ h))
set_option maxHeartbeats 4000000 in
set_option maxRecDepth 100000 in
theorem c_X5_lyingBelow_0 (l : Launch) (X : gX) (h0 : Nat) (s1 : Nat) (w0 : Nat) (t0 : Nat) (k0 : Nat) (r0 : Nat) (rp : Nat) (sh1 : Nat) (gf : Int) (gs : Int) (rc : Int) (tc : Int) (ft : Int) (sf : Nat → Option Nat) (sa : Nat → Nat) (Wt : Nat → Int) (Wd : Nat → Int) (Rg : Nat → Int) (Ly : Nat → Int) (Wo : Nat → Int) (w : Int) (hsf : ∀ j : Nat, j < 0 → sf j = some (sa j)) (hLy : ∀ j : Nat, j < 0 → 0 ≤ Ly j ∧ Ly j ≤ 9) (hWo : ∀ j : Nat, j < 0 → 0 ≤ Wo j ∧ Wo j ≤ 99) (hb_w : inB w) : gM l yX5_lyingBelow wsX5_lyingBelow (gr 1 0 0) X [(h0, .inr (5, [.ref s1, .int (iI 0), .ref w0, .ref t0, .ref k0, .ref r0, .int (iI gf), .int (iI gs), .ref rp, .int (iI rc), .ref sh1, .int (iI tc), .int (iI ft)])), (s1, .inl (X.2.1.2.1, 8, .inr (.inr (.inr (.inr sf)))))] [.ref h0, .int (iI w)] (gQl X (Y := Unit) (fun _ => (0 ≤ lbL Ly Wo w 0 ∧ lbL Ly Wo w 0 ≤ 72)) (fun _ => (lbL Ly Wo w 0)) (fun _ => [(h0, .inr (5, [.ref s1, .int (iI 0), .ref w0, .ref t0, .ref k0, .ref r0, .int (iI gf), .int (iI gs), .ref rp, .int (iI rc), .ref sh1, .int (iI tc), .int (iI ft)])), (s1, .inl (X.2.1.2.1, 8, .inr (.inr (.inr (.inr sf)))))])) 0 0 := by
  refine g_start2 (lo := [(0, .ref h0), (1, .int (iI w))]) (by decide +kernel) rfl rfl (Nat.le_of_ble_eq_true rfl) (fun p e s m args below meth c A C => ?_)
  refine r_lconst (z := 0) C dX5_lyingBelow_0 rfl ?_
  refine r_lstore_n (lo2 := [(2, .long (lI 0)), (0, .ref h0), (1, .int (iI w))]) C dX5_lyingBelow_1 rfl (by decide) rfl ?_
  refine r_iconst C dX5_lyingBelow_2 ?_
  refine r_istore (lo2 := [(4, .int (iI 0)), (2, .long (lI 0)), (0, .ref h0), (1, .int (iI w))]) C dX5_lyingBelow_3 (by decide) rfl ?_
  have J5_0 : ∀ (mk : Int), (mk = lbL Ly Wo w 0) → gW p l e (gr 1 0 0) s m args below meth c X A 6 (MQ below ((gQl X (Y := Unit) (fun _ => (0 ≤ lbL Ly Wo w 0 ∧ lbL Ly Wo w 0 ≤ 72)) (fun _ => (lbL Ly Wo w 0)) (fun _ => [(h0, .inr (5, [.ref s1, .int (iI 0), .ref w0, .ref t0, .ref k0, .ref r0, .int (iI gf), .int (iI gs), .ref rp, .int (iI rc), .ref sh1, .int (iI tc), .int (iI ft)])), (s1, .inl (X.2.1.2.1, 8, .inr (.inr (.inr (.inr sf)))))])) A) args s 0 0 A) 0 0 [(h0, .inr (5, [.ref s1, .int (iI 0), .ref w0, .ref t0, .ref k0, .ref r0, .int (iI gf), .int (iI gs), .ref rp, .int (iI rc), .ref sh1, .int (iI tc), .int (iI ft)])), (s1, .inl (X.2.1.2.1, 8, .inr (.inr (.inr (.inr sf)))))] 5 [(0, .ref h0), (1, .int (iI w)), (4, .int (iI 0)), (2, .long (lI mk))] [] := by
    intro mk im
    refine r_iload C dX5_lyingBelow_5 2 rfl ?_
    refine r_aload_n C dX5_lyingBelow_7 0 rfl ?_
    refine gf_5_1 C hi_X5_lyingBelow_5 kw_X5_lyingBelow_0 dX5_lyingBelow_8 0 rfl rfl ?_
    refine r_icmp_ge (tgt := 51) C dX5_lyingBelow_11 (by decide) (by decide) (by decide) (fun h_1 => ?_) (fun h_1 => absurd h_1 (by decide))
    refine r_lload_n C dX5_lyingBelow_51 3 rfl ?_
    exact g_ret_l C rfl dX5_lyingBelow_52 () (by have := lbL_B (Ly := Ly) (Wo := Wo) w 0 hLy; omega) im [0, 1] rfl (by (repeat' split) <;> first | rfl | omega)
  refine r_lo [2, 3, 0, 1] (lo2 := [(0, .ref h0), (1, .int (iI w)), (4, .int (iI 0)), (2, .long (lI 0))]) rfl ?_
  exact J5_0 0 rfl

set_option maxRecDepth 20000 in
theorem hd_V_X5_lyingBelow_X5_bestWorths : yX5_lyingBelow.cls = yX5_lyingBelow.cls ∧ yX5_lyingBelow.cls ≠ "java/lang/invoke/MethodHandle" ∧ yX5_lyingBelow.cls ≠ "java/lang/invoke/VarHandle" ∧ (parseMethodDescriptor yX5_lyingBelow.desc).map (fun d => d.parameters.length) = some 1 := by decide +kernel
set_option maxRecDepth 20000 in
theorem hd_S_X5_power_X5_bestWorths : yX5_power.cls ≠ "java/lang/invoke/MethodHandle" ∧ yX5_power.cls ≠ "java/lang/invoke/VarHandle" ∧ (parseMethodDescriptor yX5_power.desc).map (fun d => d.parameters.length) = some 2 := by decide +kernel
set_option maxHeartbeats 4000000 in
set_option maxRecDepth 100000 in
theorem c_X5_bestWorths_0 (l : Launch) (X : gX) (h0 : Nat) (s1 : Nat) (w0 : Nat) (t0 : Nat) (k0 : Nat) (r0 : Nat) (rp : Nat) (sh1 : Nat) (gf : Int) (gs : Int) (rc : Int) (tc : Int) (ft : Int) (sf : Nat → Option Nat) (sa : Nat → Nat) (Wt : Nat → Int) (Wd : Nat → Int) (Rg : Nat → Int) (Ly : Nat → Int) (Wo : Nat → Int) (k : Int) (hsf : ∀ j : Nat, j < 0 → sf j = some (sa j)) (hLy : ∀ j : Nat, j < 0 → 0 ≤ Ly j ∧ Ly j ≤ 9) (hWo : ∀ j : Nat, j < 0 → 0 ≤ Wo j ∧ Wo j ≤ 99) (hk : 0 ≤ k ∧ k ≤ 6) : gM l yX5_bestWorths wsX5_bestWorths (gr 2 0 0) X [(h0, .inr (5, [.ref s1, .int (iI 0), .ref w0, .ref t0, .ref k0, .ref r0, .int (iI gf), .int (iI gs), .ref rp, .int (iI rc), .ref sh1, .int (iI tc), .int (iI ft)])), (s1, .inl (X.2.1.2.1, 8, .inr (.inr (.inr (.inr sf)))))] [.ref h0, .int (iI k)] (gQl X (Y := Unit) (fun _ => True) (fun _ => (bwV Ly Wo 0 k)) (fun _ => [(h0, .inr (5, [.ref s1, .int (iI 0), .ref w0, .ref t0, .ref k0, .ref r0, .int (iI gf), .int (iI gs), .ref rp, .int (iI rc), .ref sh1, .int (iI tc), .int (iI ft)])), (s1, .inl (X.2.1.2.1, 8, .inr (.inr (.inr (.inr sf)))))])) 0 0 := by
  refine g_start2 (lo := [(0, .ref h0), (1, .int (iI k))]) (by decide +kernel) rfl rfl (Nat.le_of_ble_eq_true rfl) (fun p e s m args below meth c A C => ?_)
  refine r_aload_n C dX5_bestWorths_0 0 rfl ?_
  refine r_bipush C dX5_bestWorths_1 (by decide) ?_
  refine g_V_l (ws2 := (fun _ => [(h0, .inr (5, [.ref s1, .int (iI 0), .ref w0, .ref t0, .ref k0, .ref r0, .int (iI gf), .int (iI gs), .ref rp, .int (iI rc), .ref sh1, .int (iI tc), .int (iI ft)])), (s1, .inl (X.2.1.2.1, 8, .inr (.inr (.inr (.inr sf)))))])) (As := [.int (iI 100)]) C (c_X5_lyingBelow_0 l X h0 s1 w0 t0 k0 r0 rp sh1 gf gs rc tc ft sf sa Wt Wd Rg Ly Wo 100 hsf hLy hWo (by first | assumption | omega)) gX5_bestWorths_X5_lyingBelow rfl rfl rfl hd_V_X5_lyingBelow_X5_bestWorths (by decide) dX5_bestWorths_3 [0, 1] [] [0, 1] rfl rfl rfl rfl (by decide) rfl 0 5 rfl rfl rfl rfl (Nat.le_of_ble_eq_true rfl) (by decide) (fun _ => rfl) (fun _ hy_ => ?_)
  have y_1 : 0 ≤ lbL Ly Wo 100 0 ∧ lbL Ly Wo 100 0 ≤ 72 := hy_
  clear hy_
  refine r_iload_n C dX5_bestWorths_6 1 rfl ?_
  refine g_S_l (ws2 := (fun _ => [(h0, .inr (5, [.ref s1, .int (iI 0), .ref w0, .ref t0, .ref k0, .ref r0, .int (iI gf), .int (iI gs), .ref rp, .int (iI rc), .ref sh1, .int (iI tc), .int (iI ft)])), (s1, .inl (X.2.1.2.1, 8, .inr (.inr (.inr (.inr sf)))))])) (As := [.long (lI (lbL Ly Wo 100 0)), .int (iI k)]) C (c_X5_power l X (lbL Ly Wo 100 0) k (by first | assumption | omega)) gX5_bestWorths_X5_power rfl rfl rfl hd_S_X5_power_X5_bestWorths (by decide) dX5_bestWorths_7 [] [0, 1] [0, 1] rfl rfl rfl rfl (by decide) rfl rfl rfl (Nat.le_of_ble_eq_true rfl) (by decide) (fun _ => rfl) (fun _ hy_ => ?_)
  clear hy_
  refine r_lstore_n (lo2 := [(2, .long (lI (pwI (lbL Ly Wo 100 0) k))), (0, .ref h0), (1, .int (iI k))]) C dX5_bestWorths_10 rfl (by decide) rfl ?_
  refine r_lconst (z := 0) C dX5_bestWorths_11 rfl ?_
  refine r_lstore (lo2 := [(4, .long (lI 0)), (2, .long (lI (pwI (lbL Ly Wo 100 0) k))), (0, .ref h0), (1, .int (iI k))]) C dX5_bestWorths_12 (by decide) rfl ?_
  refine r_iconst C dX5_bestWorths_14 ?_
  refine r_istore (lo2 := [(6, .int (iI 1)), (4, .long (lI 0)), (2, .long (lI (pwI (lbL Ly Wo 100 0) k))), (0, .ref h0), (1, .int (iI k))]) C dX5_bestWorths_15 (by decide) rfl ?_
  have L17 : ∀ (fu17 : Nat) (a1 : Int) (wk : Int), (1 ≤ wk ∧ wk ≤ 100) → (bwV Ly Wo 0 k = bwL (fun w => pwI (lbL Ly Wo w 0) k) (pwI (lbL Ly Wo 100 0) k) (100 - wk).toNat wk a1) → (100 - wk).toNat < fu17 → gW p l e (gr 2 0 0) s m args below meth c X A 7 (MQ below ((gQl X (Y := Unit) (fun _ => True) (fun _ => (bwV Ly Wo 0 k)) (fun _ => [(h0, .inr (5, [.ref s1, .int (iI 0), .ref w0, .ref t0, .ref k0, .ref r0, .int (iI gf), .int (iI gs), .ref rp, .int (iI rc), .ref sh1, .int (iI tc), .int (iI ft)])), (s1, .inl (X.2.1.2.1, 8, .inr (.inr (.inr (.inr sf)))))])) A) args s 0 0 A) 0 0 [(h0, .inr (5, [.ref s1, .int (iI 0), .ref w0, .ref t0, .ref k0, .ref r0, .int (iI gf), .int (iI gs), .ref rp, .int (iI rc), .ref sh1, .int (iI tc), .int (iI ft)])), (s1, .inl (X.2.1.2.1, 8, .inr (.inr (.inr (.inr sf)))))] 17 [(2, .long (lI (pwI (lbL Ly Wo 100 0) k))), (0, .ref h0), (1, .int (iI k)), (4, .long (lI a1)), (6, .int (iI wk))] [] := by
    intro fu17
    induction fu17 with
    | zero => intro a1 wk iw iB hm17; exact absurd hm17 (Nat.not_lt_zero _)
    | succ fu17 ih17 =>
      intro a1 wk iw iB hm17
      refine r_iload C dX5_bestWorths_17 4 rfl ?_
      refine r_bipush C dX5_bestWorths_19 (by decide) ?_
      refine r_icmp_gt (tgt := 47) C dX5_bestWorths_21 (by decide) (by omega) (by decide) (fun h_3 => ?_) (fun h_3 => ?_)
      · skip
        refine r_lload C dX5_bestWorths_47 3 rfl ?_
        exact g_ret_l C rfl dX5_bestWorths_49 () trivial (by rw [iB, show (100 - wk).toNat = 0 by omega]; rfl) [0, 1] rfl (by (repeat' split) <;> first | rfl | omega)
      · skip
        refine r_lload C dX5_bestWorths_24 3 rfl ?_
        refine r_lload_n C dX5_bestWorths_26 0 rfl ?_
        refine r_aload_n C dX5_bestWorths_27 1 rfl ?_
        refine r_iload C dX5_bestWorths_28 4 rfl ?_
        refine g_V_l (ws2 := (fun _ => [(h0, .inr (5, [.ref s1, .int (iI 0), .ref w0, .ref t0, .ref k0, .ref r0, .int (iI gf), .int (iI gs), .ref rp, .int (iI rc), .ref sh1, .int (iI tc), .int (iI ft)])), (s1, .inl (X.2.1.2.1, 8, .inr (.inr (.inr (.inr sf)))))])) (As := [.int (iI wk)]) C (c_X5_lyingBelow_0 l X h0 s1 w0 t0 k0 r0 rp sh1 gf gs rc tc ft sf sa Wt Wd Rg Ly Wo wk hsf hLy hWo (by first | assumption | omega)) gX5_bestWorths_X5_lyingBelow rfl rfl rfl hd_V_X5_lyingBelow_X5_bestWorths (by decide) dX5_bestWorths_30 [0, 1] [] [0, 1] rfl rfl rfl rfl (by decide) rfl 0 5 rfl rfl rfl rfl (Nat.le_of_ble_eq_true rfl) (by decide) (fun _ => rfl) (fun _ hy_ => ?_)
        have y_4 : 0 ≤ lbL Ly Wo wk 0 ∧ lbL Ly Wo wk 0 ≤ 72 := hy_
        clear hy_
        refine r_iload_n C dX5_bestWorths_33 2 rfl ?_
        refine g_S_l (ws2 := (fun _ => [(h0, .inr (5, [.ref s1, .int (iI 0), .ref w0, .ref t0, .ref k0, .ref r0, .int (iI gf), .int (iI gs), .ref rp, .int (iI rc), .ref sh1, .int (iI tc), .int (iI ft)])), (s1, .inl (X.2.1.2.1, 8, .inr (.inr (.inr (.inr sf)))))])) (As := [.long (lI (lbL Ly Wo wk 0)), .int (iI k)]) C (c_X5_power l X (lbL Ly Wo wk 0) k (by first | assumption | omega)) gX5_bestWorths_X5_power rfl rfl rfl hd_S_X5_power_X5_bestWorths (by decide) dX5_bestWorths_34 [] [0, 1] [0, 1] rfl rfl rfl rfl (by decide) rfl rfl rfl (Nat.le_of_ble_eq_true rfl) (by decide) (fun _ => rfl) (fun _ hy_ => ?_)
        clear hy_
        refine r_lsub C dX5_bestWorths_37 ?_
        refine r_ladd C dX5_bestWorths_38 ?_
        refine r_lstore (lo2 := [(4, .long (lI (a1 + ((pwI (lbL Ly Wo 100 0) k) - (pwI (lbL Ly Wo wk 0) k))))), (2, .long (lI (pwI (lbL Ly Wo 100 0) k))), (0, .ref h0), (1, .int (iI k)), (6, .int (iI wk))]) C dX5_bestWorths_39 (by decide) rfl ?_
        refine r_iinc (lo2 := [(6, .int (iI (wk + 1))), (4, .long (lI (a1 + ((pwI (lbL Ly Wo 100 0) k) - (pwI (lbL Ly Wo wk 0) k))))), (2, .long (lI (pwI (lbL Ly Wo 100 0) k))), (0, .ref h0), (1, .int (iI k))]) C dX5_bestWorths_41 4 rfl (by decide) rfl ?_
        refine r_goto (tgt := 17) C dX5_bestWorths_44 (by decide) ?_
        refine r_lo [2, 3, 4, 1, 0] (lo2 := [(2, .long (lI (pwI (lbL Ly Wo 100 0) k))), (0, .ref h0), (1, .int (iI k)), (4, .long (lI (a1 + ((pwI (lbL Ly Wo 100 0) k) - (pwI (lbL Ly Wo wk 0) k))))), (6, .int (iI (wk + 1)))]) rfl ?_
        exact ih17 (a1 + ((pwI (lbL Ly Wo 100 0) k) - (pwI (lbL Ly Wo wk 0) k))) (wk + 1) (by omega) (by rw [iB, bwL_go (by omega)]) (by omega)
  refine r_lo [2, 3, 4, 1, 0] (lo2 := [(2, .long (lI (pwI (lbL Ly Wo 100 0) k))), (0, .ref h0), (1, .int (iI k)), (4, .long (lI 0)), (6, .int (iI 1))]) rfl ?_
  exact L17 ((100 - (1 : Int)).toNat + 1) 0 1 (by omega) rfl (Nat.lt_succ_self _)

set_option maxRecDepth 20000 in
theorem hd_S_X5_within_X5_mean : yX5_within.cls ≠ "java/lang/invoke/MethodHandle" ∧ yX5_within.cls ≠ "java/lang/invoke/VarHandle" ∧ (parseMethodDescriptor yX5_within.desc).map (fun d => d.parameters.length) = some 3 := by decide +kernel
set_option maxRecDepth 20000 in
theorem hd_V_X5_lyingBelow_X5_mean : yX5_lyingBelow.cls = yX5_lyingBelow.cls ∧ yX5_lyingBelow.cls ≠ "java/lang/invoke/MethodHandle" ∧ yX5_lyingBelow.cls ≠ "java/lang/invoke/VarHandle" ∧ (parseMethodDescriptor yX5_lyingBelow.desc).map (fun d => d.parameters.length) = some 1 := by decide +kernel
set_option maxRecDepth 20000 in
theorem hd_V_X5_bestWorths_X5_mean : yX5_bestWorths.cls = yX5_bestWorths.cls ∧ yX5_bestWorths.cls ≠ "java/lang/invoke/MethodHandle" ∧ yX5_bestWorths.cls ≠ "java/lang/invoke/VarHandle" ∧ (parseMethodDescriptor yX5_bestWorths.desc).map (fun d => d.parameters.length) = some 1 := by decide +kernel
set_option maxRecDepth 20000 in
theorem hd_S_X5_power_X5_mean : yX5_power.cls ≠ "java/lang/invoke/MethodHandle" ∧ yX5_power.cls ≠ "java/lang/invoke/VarHandle" ∧ (parseMethodDescriptor yX5_power.desc).map (fun d => d.parameters.length) = some 2 := by decide +kernel
set_option maxRecDepth 20000 in
theorem hd_S_X5_share_X5_mean : yX5_share.cls ≠ "java/lang/invoke/MethodHandle" ∧ yX5_share.cls ≠ "java/lang/invoke/VarHandle" ∧ (parseMethodDescriptor yX5_share.desc).map (fun d => d.parameters.length) = some 3 := by decide +kernel
set_option maxRecDepth 20000 in
theorem kw_X5_mean_0 : Cond.constantLong RX5 196 (-9223372036854775808) ∈ wsX5_mean := List.mem_of_getElem? (i := 1) rfl
set_option maxHeartbeats 4000000 in
set_option maxRecDepth 100000 in
theorem c_X5_mean_0 (l : Launch) (X : gX) (h0 : Nat) (s1 : Nat) (w0 : Nat) (t0 : Nat) (k0 : Nat) (r0 : Nat) (rp : Nat) (sh1 : Nat) (gf : Int) (gs : Int) (rc : Int) (tc : Int) (ft : Int) (sf : Nat → Option Nat) (sa : Nat → Nat) (Wt : Nat → Int) (Wd : Nat → Int) (Rg : Nat → Int) (Ly : Nat → Int) (Wo : Nat → Int) (k : Int) (w : Int) (hsf : ∀ j : Nat, j < 0 → sf j = some (sa j)) (hLy : ∀ j : Nat, j < 0 → 0 ≤ Ly j ∧ Ly j ≤ 9) (hWo : ∀ j : Nat, j < 0 → 0 ≤ Wo j ∧ Wo j ≤ 99) (hb_k : inB k) (hb_w : inB w) : gM l yX5_mean wsX5_mean (gr 3 0 0) X [(h0, .inr (5, [.ref s1, .int (iI 0), .ref w0, .ref t0, .ref k0, .ref r0, .int (iI gf), .int (iI gs), .ref rp, .int (iI rc), .ref sh1, .int (iI tc), .int (iI ft)])), (s1, .inl (X.2.1.2.1, 8, .inr (.inr (.inr (.inr sf)))))] [.ref h0, .int (iI k), .int (iI w)] (gQl X (Y := Unit) (fun _ => True) (fun _ => (if 1 ≤ k ∧ k ≤ 6 ∧ 0 ≤ w ∧ w ≤ 1 ∧ ¬ (lbL Ly Wo 100 0) = 0 then shV (bwV Ly Wo 0 k) (pwI (lbL Ly Wo 100 0) k) w else -9223372036854775808)) (fun _ => [(h0, .inr (5, [.ref s1, .int (iI 0), .ref w0, .ref t0, .ref k0, .ref r0, .int (iI gf), .int (iI gs), .ref rp, .int (iI rc), .ref sh1, .int (iI tc), .int (iI ft)])), (s1, .inl (X.2.1.2.1, 8, .inr (.inr (.inr (.inr sf)))))])) 0 0 := by
  refine g_start2 (lo := [(0, .ref h0), (1, .int (iI k)), (2, .int (iI w))]) (by decide +kernel) rfl rfl (Nat.le_of_ble_eq_true rfl) (fun p e s m args below meth c A C => ?_)
  refine r_iload_n C dX5_mean_0 1 rfl ?_
  refine r_iconst C dX5_mean_1 ?_
  refine r_bipush C dX5_mean_2 (by decide) ?_
  refine g_S_i (ws2 := (fun _ => [(h0, .inr (5, [.ref s1, .int (iI 0), .ref w0, .ref t0, .ref k0, .ref r0, .int (iI gf), .int (iI gs), .ref rp, .int (iI rc), .ref sh1, .int (iI tc), .int (iI ft)])), (s1, .inl (X.2.1.2.1, 8, .inr (.inr (.inr (.inr sf)))))])) (As := [.int (iI k), .int (iI 1), .int (iI 6)]) C (c_X5_within l X k 1 6 (by first | assumption | omega) (by first | assumption | omega) (by first | assumption | omega)) gX5_mean_X5_within rfl rfl rfl hd_S_X5_within_X5_mean (by decide) dX5_mean_4 [] [0, 1] [0, 1] rfl rfl rfl rfl (by decide) rfl rfl rfl (Nat.le_of_ble_eq_true rfl) (by decide) (fun _ => rfl) (fun _ hy_ => ?_)
  clear hy_
  refine r_ite (fun h_1 => ?_) (fun h_1 => ?_)
  · skip
    refine r_if_eq (tgt := 19) C dX5_mean_7 (by decide) (by decide) (fun h_2 => absurd h_2 (by decide)) (fun h_2 => ?_)
    refine r_iload_n C dX5_mean_10 2 rfl ?_
    refine r_iconst C dX5_mean_11 ?_
    refine r_iconst C dX5_mean_12 ?_
    refine g_S_i (ws2 := (fun _ => [(h0, .inr (5, [.ref s1, .int (iI 0), .ref w0, .ref t0, .ref k0, .ref r0, .int (iI gf), .int (iI gs), .ref rp, .int (iI rc), .ref sh1, .int (iI tc), .int (iI ft)])), (s1, .inl (X.2.1.2.1, 8, .inr (.inr (.inr (.inr sf)))))])) (As := [.int (iI w), .int (iI 0), .int (iI 1)]) C (c_X5_within l X w 0 1 (by first | assumption | omega) (by first | assumption | omega) (by first | assumption | omega)) gX5_mean_X5_within rfl rfl rfl hd_S_X5_within_X5_mean (by decide) dX5_mean_13 [] [0, 1] [0, 1] rfl rfl rfl rfl (by decide) rfl rfl rfl (Nat.le_of_ble_eq_true rfl) (by decide) (fun _ => rfl) (fun _ hy_ => ?_)
    clear hy_
    refine r_ite (fun h_3 => ?_) (fun h_3 => ?_)
    · skip
      refine r_if_ne (tgt := 23) C dX5_mean_16 (by decide) (by decide) (fun h_4 => ?_) (fun h_4 => absurd h_4 (by decide))
      refine r_aload_n C dX5_mean_23 0 rfl ?_
      refine r_bipush C dX5_mean_24 (by decide) ?_
      refine g_V_l (ws2 := (fun _ => [(h0, .inr (5, [.ref s1, .int (iI 0), .ref w0, .ref t0, .ref k0, .ref r0, .int (iI gf), .int (iI gs), .ref rp, .int (iI rc), .ref sh1, .int (iI tc), .int (iI ft)])), (s1, .inl (X.2.1.2.1, 8, .inr (.inr (.inr (.inr sf)))))])) (As := [.int (iI 100)]) C (c_X5_lyingBelow_0 l X h0 s1 w0 t0 k0 r0 rp sh1 gf gs rc tc ft sf sa Wt Wd Rg Ly Wo 100 hsf hLy hWo (by first | assumption | omega)) gX5_mean_X5_lyingBelow rfl rfl rfl hd_V_X5_lyingBelow_X5_mean (by decide) dX5_mean_26 [0, 1] [] [0, 1] rfl rfl rfl rfl (by decide) rfl 0 5 rfl rfl rfl rfl (Nat.le_of_ble_eq_true rfl) (by decide) (fun _ => rfl) (fun _ hy_ => ?_)
      have y_5 : 0 ≤ lbL Ly Wo 100 0 ∧ lbL Ly Wo 100 0 ≤ 72 := hy_
      clear hy_
      refine r_lstore_n (lo2 := [(3, .long (lI (lbL Ly Wo 100 0))), (0, .ref h0), (1, .int (iI k)), (2, .int (iI w))]) C dX5_mean_29 rfl (by decide) rfl ?_
      refine r_lload_n C dX5_mean_30 0 rfl ?_
      refine r_lconst (z := 0) C dX5_mean_31 rfl ?_
      refine r_lcmp_ne (tgt := 40) C dX5_mean_32 dX5_mean_33 (by decide) (by omega) (by decide) (fun h_7 => ?_) (fun h_7 => ?_)
      · skip
        have bb := bwV_B (Ly := Ly) (Wo := Wo) (ns := 0) (k := k) (by decide) hLy (by omega) hWo
        have pp := pwI_72 (a := (lbL Ly Wo 100 0)) (k := k) (by omega) (by omega)
        have p1_ : 1 ≤ pwI (lbL Ly Wo 100 0) k := pwI_pos (by omega) _
        refine r_aload_n C dX5_mean_40 1 rfl ?_
        refine r_iload_n C dX5_mean_41 2 rfl ?_
        refine g_V_l (ws2 := (fun _ => [(h0, .inr (5, [.ref s1, .int (iI 0), .ref w0, .ref t0, .ref k0, .ref r0, .int (iI gf), .int (iI gs), .ref rp, .int (iI rc), .ref sh1, .int (iI tc), .int (iI ft)])), (s1, .inl (X.2.1.2.1, 8, .inr (.inr (.inr (.inr sf)))))])) (As := [.int (iI k)]) C (c_X5_bestWorths_0 l X h0 s1 w0 t0 k0 r0 rp sh1 gf gs rc tc ft sf sa Wt Wd Rg Ly Wo k hsf hLy hWo (by first | assumption | omega)) gX5_mean_X5_bestWorths rfl rfl rfl hd_V_X5_bestWorths_X5_mean (by decide) dX5_mean_42 [0, 1] [] [0, 1] rfl rfl rfl rfl (by decide) rfl 0 5 rfl rfl rfl rfl (Nat.le_of_ble_eq_true rfl) (by decide) (fun _ => rfl) (fun _ hy_ => ?_)
        clear hy_
        refine r_lload_n C dX5_mean_45 0 rfl ?_
        refine r_iload_n C dX5_mean_46 2 rfl ?_
        refine g_S_l (ws2 := (fun _ => [(h0, .inr (5, [.ref s1, .int (iI 0), .ref w0, .ref t0, .ref k0, .ref r0, .int (iI gf), .int (iI gs), .ref rp, .int (iI rc), .ref sh1, .int (iI tc), .int (iI ft)])), (s1, .inl (X.2.1.2.1, 8, .inr (.inr (.inr (.inr sf)))))])) (As := [.long (lI (lbL Ly Wo 100 0)), .int (iI k)]) C (c_X5_power l X (lbL Ly Wo 100 0) k (by first | assumption | omega)) gX5_mean_X5_power rfl rfl rfl hd_S_X5_power_X5_mean (by decide) dX5_mean_47 [] [0, 1] [0, 1] rfl rfl rfl rfl (by decide) rfl rfl rfl (Nat.le_of_ble_eq_true rfl) (by decide) (fun _ => rfl) (fun _ hy_ => ?_)
        clear hy_
        refine r_iload_n C dX5_mean_50 3 rfl ?_
        refine g_S_l (ws2 := (fun _ => [(h0, .inr (5, [.ref s1, .int (iI 0), .ref w0, .ref t0, .ref k0, .ref r0, .int (iI gf), .int (iI gs), .ref rp, .int (iI rc), .ref sh1, .int (iI tc), .int (iI ft)])), (s1, .inl (X.2.1.2.1, 8, .inr (.inr (.inr (.inr sf)))))])) (As := [.long (lI (bwV Ly Wo 0 k)), .long (lI (pwI (lbL Ly Wo 100 0) k)), .int (iI w)]) C (c_X5_share l X (bwV Ly Wo 0 k) (pwI (lbL Ly Wo 100 0) k) w (by first | assumption | omega) (by first | assumption | omega) (by first | assumption | omega)) gX5_mean_X5_share rfl rfl rfl hd_S_X5_share_X5_mean (by decide) dX5_mean_51 [] [0, 1] [0, 1] rfl rfl rfl rfl (by decide) rfl rfl rfl (Nat.le_of_ble_eq_true rfl) (by decide) (fun _ => rfl) (fun _ hy_ => ?_)
        clear hy_
        exact g_ret_l C rfl dX5_mean_54 () trivial (by first | (rw [if_pos (by omega)]; done) | (rw [if_neg (by omega)]; done)) [0, 1] rfl (by (repeat' split) <;> first | rfl | omega)
      · skip
        refine r_ldc2 (z := -9223372036854775808) C dX5_mean_36 kw_X5_mean_0 rfl ?_
        exact g_ret_l C rfl dX5_mean_39 () trivial (by first | (rw [if_pos (by omega)]; done) | (rw [if_neg (by omega)]; done)) [0, 1] rfl (by (repeat' split) <;> first | rfl | omega)
    · skip
      refine r_if_ne (tgt := 23) C dX5_mean_16 (by decide) (by decide) (fun h_8 => absurd h_8 (by decide)) (fun h_8 => ?_)
      refine r_ldc2 (z := -9223372036854775808) C dX5_mean_19 kw_X5_mean_0 rfl ?_
      exact g_ret_l C rfl dX5_mean_22 () trivial (by first | (rw [if_pos (by omega)]; done) | (rw [if_neg (by omega)]; done)) [0, 1] rfl (by (repeat' split) <;> first | rfl | omega)
  · skip
    refine r_if_eq (tgt := 19) C dX5_mean_7 (by decide) (by decide) (fun h_9 => ?_) (fun h_9 => absurd h_9 (by decide))
    refine r_ldc2 (z := -9223372036854775808) C dX5_mean_19 kw_X5_mean_0 rfl ?_
    exact g_ret_l C rfl dX5_mean_22 () trivial (by first | (rw [if_pos (by omega)]; done) | (rw [if_neg (by omega)]; done)) [0, 1] rfl (by (repeat' split) <;> first | rfl | omega)

set_option maxRecDepth 20000 in
theorem hd_S_X5_within_X5_hours : yX5_within.cls ≠ "java/lang/invoke/MethodHandle" ∧ yX5_within.cls ≠ "java/lang/invoke/VarHandle" ∧ (parseMethodDescriptor yX5_within.desc).map (fun d => d.parameters.length) = some 3 := by decide +kernel
set_option maxRecDepth 20000 in
theorem hd_V_X5_lyingBelow_X5_hours : yX5_lyingBelow.cls = yX5_lyingBelow.cls ∧ yX5_lyingBelow.cls ≠ "java/lang/invoke/MethodHandle" ∧ yX5_lyingBelow.cls ≠ "java/lang/invoke/VarHandle" ∧ (parseMethodDescriptor yX5_lyingBelow.desc).map (fun d => d.parameters.length) = some 1 := by decide +kernel
set_option maxRecDepth 20000 in
theorem hd_S_X5_power_X5_hours : yX5_power.cls ≠ "java/lang/invoke/MethodHandle" ∧ yX5_power.cls ≠ "java/lang/invoke/VarHandle" ∧ (parseMethodDescriptor yX5_power.desc).map (fun d => d.parameters.length) = some 2 := by decide +kernel
set_option maxRecDepth 20000 in
theorem hd_V_X5_bestWorths_X5_hours : yX5_bestWorths.cls = yX5_bestWorths.cls ∧ yX5_bestWorths.cls ≠ "java/lang/invoke/MethodHandle" ∧ yX5_bestWorths.cls ≠ "java/lang/invoke/VarHandle" ∧ (parseMethodDescriptor yX5_bestWorths.desc).map (fun d => d.parameters.length) = some 1 := by decide +kernel
set_option maxHeartbeats 4000000 in
set_option maxRecDepth 100000 in
theorem c_X5_hours_0 (l : Launch) (X : gX) (h0 : Nat) (s1 : Nat) (w0 : Nat) (t0 : Nat) (k0 : Nat) (r0 : Nat) (rp : Nat) (sh1 : Nat) (gf : Int) (gs : Int) (rc : Int) (tc : Int) (ft : Int) (sf : Nat → Option Nat) (sa : Nat → Nat) (Wt : Nat → Int) (Wd : Nat → Int) (Rg : Nat → Int) (Ly : Nat → Int) (Wo : Nat → Int) (cost : Int) (hsf : ∀ j : Nat, j < 0 → sf j = some (sa j)) (hLy : ∀ j : Nat, j < 0 → 0 ≤ Ly j ∧ Ly j ≤ 9) (hWo : ∀ j : Nat, j < 0 → 0 ≤ Wo j ∧ Wo j ≤ 99) (hb_cost : inB cost) : gM l yX5_hours wsX5_hours (gr 3 0 0) X [(h0, .inr (5, [.ref s1, .int (iI 0), .ref w0, .ref t0, .ref k0, .ref r0, .int (iI gf), .int (iI gs), .ref rp, .int (iI rc), .ref sh1, .int (iI tc), .int (iI ft)])), (s1, .inl (X.2.1.2.1, 8, .inr (.inr (.inr (.inr sf)))))] [.ref h0, .int (iI cost)] (gQi X (Y := Unit) (fun _ => True) (fun _ => (if ¬ (0 ≤ cost ∧ cost ≤ 99) then -2 else if (lbL Ly Wo 100 0) = 0 then -3 else (hrV Ly Wo 0 cost).2)) (fun _ => [(h0, .inr (5, [.ref s1, .int (iI 0), .ref w0, .ref t0, .ref k0, .ref r0, .int (iI gf), .int (iI gs), .ref rp, .int (iI rc), .ref sh1, .int (iI tc), .int (iI ft)])), (s1, .inl (X.2.1.2.1, 8, .inr (.inr (.inr (.inr sf)))))])) 0 0 := by
  refine g_start2 (lo := [(0, .ref h0), (1, .int (iI cost))]) (by decide +kernel) rfl rfl (Nat.le_of_ble_eq_true rfl) (fun p e s m args below meth c A C => ?_)
  refine r_iload_n C dX5_hours_0 1 rfl ?_
  refine r_iconst C dX5_hours_1 ?_
  refine r_bipush C dX5_hours_2 (by decide) ?_
  refine g_S_i (ws2 := (fun _ => [(h0, .inr (5, [.ref s1, .int (iI 0), .ref w0, .ref t0, .ref k0, .ref r0, .int (iI gf), .int (iI gs), .ref rp, .int (iI rc), .ref sh1, .int (iI tc), .int (iI ft)])), (s1, .inl (X.2.1.2.1, 8, .inr (.inr (.inr (.inr sf)))))])) (As := [.int (iI cost), .int (iI 0), .int (iI 99)]) C (c_X5_within l X cost 0 99 (by first | assumption | omega) (by first | assumption | omega) (by first | assumption | omega)) gX5_hours_X5_within rfl rfl rfl hd_S_X5_within_X5_hours (by decide) dX5_hours_4 [] [0, 1] [0, 1] rfl rfl rfl rfl (by decide) rfl rfl rfl (Nat.le_of_ble_eq_true rfl) (by decide) (fun _ => rfl) (fun _ hy_ => ?_)
  clear hy_
  refine r_ite (fun h_1 => ?_) (fun h_1 => ?_)
  · skip
    refine r_if_ne (tgt := 13) C dX5_hours_7 (by decide) (by decide) (fun h_2 => ?_) (fun h_2 => absurd h_2 (by decide))
    refine r_aload_n C dX5_hours_13 0 rfl ?_
    refine r_bipush C dX5_hours_14 (by decide) ?_
    refine g_V_l (ws2 := (fun _ => [(h0, .inr (5, [.ref s1, .int (iI 0), .ref w0, .ref t0, .ref k0, .ref r0, .int (iI gf), .int (iI gs), .ref rp, .int (iI rc), .ref sh1, .int (iI tc), .int (iI ft)])), (s1, .inl (X.2.1.2.1, 8, .inr (.inr (.inr (.inr sf)))))])) (As := [.int (iI 100)]) C (c_X5_lyingBelow_0 l X h0 s1 w0 t0 k0 r0 rp sh1 gf gs rc tc ft sf sa Wt Wd Rg Ly Wo 100 hsf hLy hWo (by first | assumption | omega)) gX5_hours_X5_lyingBelow rfl rfl rfl hd_V_X5_lyingBelow_X5_hours (by decide) dX5_hours_16 [0, 1] [] [0, 1] rfl rfl rfl rfl (by decide) rfl 0 5 rfl rfl rfl rfl (Nat.le_of_ble_eq_true rfl) (by decide) (fun _ => rfl) (fun _ hy_ => ?_)
    have y_3 : 0 ≤ lbL Ly Wo 100 0 ∧ lbL Ly Wo 100 0 ≤ 72 := hy_
    clear hy_
    refine r_lstore_n (lo2 := [(2, .long (lI (lbL Ly Wo 100 0))), (0, .ref h0), (1, .int (iI cost))]) C dX5_hours_19 rfl (by decide) rfl ?_
    refine r_lload_n C dX5_hours_20 0 rfl ?_
    refine r_lconst (z := 0) C dX5_hours_21 rfl ?_
    refine r_lcmp_ne (tgt := 29) C dX5_hours_22 dX5_hours_23 (by decide) (by omega) (by decide) (fun h_5 => ?_) (fun h_5 => ?_)
    · skip
      refine r_lload_n C dX5_hours_29 0 rfl ?_
      refine r_bipush C dX5_hours_30 (by decide) ?_
      refine g_S_l (ws2 := (fun _ => [(h0, .inr (5, [.ref s1, .int (iI 0), .ref w0, .ref t0, .ref k0, .ref r0, .int (iI gf), .int (iI gs), .ref rp, .int (iI rc), .ref sh1, .int (iI tc), .int (iI ft)])), (s1, .inl (X.2.1.2.1, 8, .inr (.inr (.inr (.inr sf)))))])) (As := [.long (lI (lbL Ly Wo 100 0)), .int (iI 6)]) C (c_X5_power l X (lbL Ly Wo 100 0) 6 (by first | assumption | omega)) gX5_hours_X5_power rfl rfl rfl hd_S_X5_power_X5_hours (by decide) dX5_hours_32 [] [0, 1] [0, 1] rfl rfl rfl rfl (by decide) rfl rfl rfl (Nat.le_of_ble_eq_true rfl) (by decide) (fun _ => rfl) (fun _ hy_ => ?_)
      clear hy_
      refine r_lstore (lo2 := [(4, .long (lI (pwI (lbL Ly Wo 100 0) 6))), (2, .long (lI (lbL Ly Wo 100 0))), (0, .ref h0), (1, .int (iI cost))]) C dX5_hours_35 (by decide) rfl ?_
      refine r_iconst C dX5_hours_37 ?_
      refine r_istore (lo2 := [(6, .int (iI 1)), (4, .long (lI (pwI (lbL Ly Wo 100 0) 6))), (2, .long (lI (lbL Ly Wo 100 0))), (0, .ref h0), (1, .int (iI cost))]) C dX5_hours_38 (by decide) rfl ?_
      refine r_lconst (z := 0) C dX5_hours_40 rfl ?_
      refine r_lstore (lo2 := [(7, .long (lI 0)), (6, .int (iI 1)), (4, .long (lI (pwI (lbL Ly Wo 100 0) 6))), (2, .long (lI (lbL Ly Wo 100 0))), (0, .ref h0), (1, .int (iI cost))]) C dX5_hours_41 (by decide) rfl ?_
      refine r_iconst C dX5_hours_43 ?_
      refine r_istore (lo2 := [(9, .int (iI 1)), (7, .long (lI 0)), (6, .int (iI 1)), (4, .long (lI (pwI (lbL Ly Wo 100 0) 6))), (2, .long (lI (lbL Ly Wo 100 0))), (0, .ref h0), (1, .int (iI cost))]) C dX5_hours_44 (by decide) rfl ?_
      have L46 : ∀ (fu46 : Nat) (a2 : Int) (a1 : Int) (c1 : Int), (1 ≤ c1 ∧ c1 ≤ 7) → (-100000000000000 ≤ a1 ∧ a1 ≤ 100000000000000) → (hrV Ly Wo 0 cost = gIn (hrF Ly Wo 0 cost) (7 - c1).toNat c1 (a1, a2)) → (7 - c1).toNat < fu46 → gW p l e (gr 3 0 0) s m args below meth c X A 12 (MQ below ((gQi X (Y := Unit) (fun _ => True) (fun _ => (if ¬ (0 ≤ cost ∧ cost ≤ 99) then -2 else if (lbL Ly Wo 100 0) = 0 then -3 else (hrV Ly Wo 0 cost).2)) (fun _ => [(h0, .inr (5, [.ref s1, .int (iI 0), .ref w0, .ref t0, .ref k0, .ref r0, .int (iI gf), .int (iI gs), .ref rp, .int (iI rc), .ref sh1, .int (iI tc), .int (iI ft)])), (s1, .inl (X.2.1.2.1, 8, .inr (.inr (.inr (.inr sf)))))])) A) args s 0 0 A) 0 0 [(h0, .inr (5, [.ref s1, .int (iI 0), .ref w0, .ref t0, .ref k0, .ref r0, .int (iI gf), .int (iI gs), .ref rp, .int (iI rc), .ref sh1, .int (iI tc), .int (iI ft)])), (s1, .inl (X.2.1.2.1, 8, .inr (.inr (.inr (.inr sf)))))] 46 [(4, .long (lI (pwI (lbL Ly Wo 100 0) 6))), (2, .long (lI (lbL Ly Wo 100 0))), (0, .ref h0), (1, .int (iI cost)), (6, .int (iI a2)), (7, .long (lI a1)), (9, .int (iI c1))] [] := by
        intro fu46
        induction fu46 with
        | zero => intro a2 a1 c1 ic ia iL hm46; exact absurd hm46 (Nat.not_lt_zero _)
        | succ fu46 ih46 =>
          intro a2 a1 c1 ic ia iL hm46
          refine r_iload C dX5_hours_46 6 rfl ?_
          refine r_bipush C dX5_hours_48 (by decide) ?_
          refine r_icmp_gt (tgt := 108) C dX5_hours_50 (by decide) (by omega) (by decide) (fun h_6 => ?_) (fun h_6 => ?_)
          · skip
            refine r_iload C dX5_hours_108 4 rfl ?_
            exact g_ret_i C rfl dX5_hours_110 () trivial (by rw [iL, gIn_endW (by omega)]; (repeat' split) <;> first | rfl | omega) [0, 1] rfl (by (repeat' split) <;> first | rfl | omega)
          · skip
            have hB := hr_B (Ly := Ly) (Wo := Wo) (ns := 0) (cost := cost) (n := c1) (by decide) hLy hWo (by omega) (by omega)
            have hm_ := mulB (a := c1) (b := cost) (A := 6) (B := 99) (by omega) (by omega)
            refine r_aload_n C dX5_hours_53 2 rfl ?_
            refine r_iload C dX5_hours_54 6 rfl ?_
            refine g_V_l (ws2 := (fun _ => [(h0, .inr (5, [.ref s1, .int (iI 0), .ref w0, .ref t0, .ref k0, .ref r0, .int (iI gf), .int (iI gs), .ref rp, .int (iI rc), .ref sh1, .int (iI tc), .int (iI ft)])), (s1, .inl (X.2.1.2.1, 8, .inr (.inr (.inr (.inr sf)))))])) (As := [.int (iI c1)]) C (c_X5_bestWorths_0 l X h0 s1 w0 t0 k0 r0 rp sh1 gf gs rc tc ft sf sa Wt Wd Rg Ly Wo c1 hsf hLy hWo (by first | assumption | omega)) gX5_hours_X5_bestWorths rfl rfl rfl hd_V_X5_bestWorths_X5_hours (by decide) dX5_hours_56 [0, 1] [] [0, 1] rfl rfl rfl rfl (by decide) rfl 0 5 rfl rfl rfl rfl (Nat.le_of_ble_eq_true rfl) (by decide) (fun _ => rfl) (fun _ hy_ => ?_)
            clear hy_
            refine r_lload_n C dX5_hours_59 1 rfl ?_
            refine r_bipush C dX5_hours_60 (by decide) ?_
            refine r_iload C dX5_hours_62 6 rfl ?_
            refine r_isub C dX5_hours_64 ?_
            refine g_S_l (ws2 := (fun _ => [(h0, .inr (5, [.ref s1, .int (iI 0), .ref w0, .ref t0, .ref k0, .ref r0, .int (iI gf), .int (iI gs), .ref rp, .int (iI rc), .ref sh1, .int (iI tc), .int (iI ft)])), (s1, .inl (X.2.1.2.1, 8, .inr (.inr (.inr (.inr sf)))))])) (As := [.long (lI (lbL Ly Wo 100 0)), .int (iI (6 - c1))]) C (c_X5_power l X (lbL Ly Wo 100 0) (6 - c1) (by first | assumption | omega)) gX5_hours_X5_power rfl rfl rfl hd_S_X5_power_X5_hours (by decide) dX5_hours_65 [] [0, 1] [0, 1] rfl rfl rfl rfl (by decide) rfl rfl rfl (Nat.le_of_ble_eq_true rfl) (by decide) (fun _ => rfl) (fun _ hy_ => ?_)
            clear hy_
            refine r_lmul C dX5_hours_68 ?_
            refine r_iload C dX5_hours_69 6 rfl ?_
            refine r_iload_n C dX5_hours_71 3 rfl ?_
            refine r_imul C dX5_hours_72 ?_
            refine r_i2l C dX5_hours_73 (by omega) ?_
            refine r_lload C dX5_hours_74 0 rfl ?_
            refine r_lmul C dX5_hours_76 ?_
            refine r_lsub C dX5_hours_77 ?_
            refine r_lstore (lo2 := [(10, .long (lI (((bwV Ly Wo 0 c1) * (pwI (lbL Ly Wo 100 0) (6 - c1))) - ((c1 * cost) * (pwI (lbL Ly Wo 100 0) 6))))), (4, .long (lI (pwI (lbL Ly Wo 100 0) 6))), (2, .long (lI (lbL Ly Wo 100 0))), (0, .ref h0), (1, .int (iI cost)), (6, .int (iI a2)), (7, .long (lI a1)), (9, .int (iI c1))]) C dX5_hours_78 (by decide) rfl ?_
            refine r_iload C dX5_hours_80 7 rfl ?_
            refine r_iconst C dX5_hours_82 ?_
            refine r_icmp_eq (tgt := 94) C dX5_hours_83 (by decide) (by omega) (by decide) (fun h_7 => ?_) (fun h_7 => ?_)
            · skip
              refine r_lload C dX5_hours_94 0 rfl ?_
              refine r_lstore (lo2 := [(7, .long (lI (((bwV Ly Wo 0 c1) * (pwI (lbL Ly Wo 100 0) (6 - c1))) - ((c1 * cost) * (pwI (lbL Ly Wo 100 0) 6))))), (10, .long (lI (((bwV Ly Wo 0 c1) * (pwI (lbL Ly Wo 100 0) (6 - c1))) - ((c1 * cost) * (pwI (lbL Ly Wo 100 0) 6))))), (4, .long (lI (pwI (lbL Ly Wo 100 0) 6))), (2, .long (lI (lbL Ly Wo 100 0))), (0, .ref h0), (1, .int (iI cost)), (6, .int (iI a2)), (9, .int (iI c1))]) C dX5_hours_96 (by decide) rfl ?_
              refine r_iload C dX5_hours_98 7 rfl ?_
              refine r_istore (lo2 := [(6, .int (iI c1)), (7, .long (lI (((bwV Ly Wo 0 c1) * (pwI (lbL Ly Wo 100 0) (6 - c1))) - ((c1 * cost) * (pwI (lbL Ly Wo 100 0) 6))))), (10, .long (lI (((bwV Ly Wo 0 c1) * (pwI (lbL Ly Wo 100 0) (6 - c1))) - ((c1 * cost) * (pwI (lbL Ly Wo 100 0) 6))))), (4, .long (lI (pwI (lbL Ly Wo 100 0) 6))), (2, .long (lI (lbL Ly Wo 100 0))), (0, .ref h0), (1, .int (iI cost)), (9, .int (iI c1))]) C dX5_hours_100 (by decide) rfl ?_
              refine r_iinc (lo2 := [(9, .int (iI (c1 + 1))), (6, .int (iI c1)), (7, .long (lI (((bwV Ly Wo 0 c1) * (pwI (lbL Ly Wo 100 0) (6 - c1))) - ((c1 * cost) * (pwI (lbL Ly Wo 100 0) 6))))), (10, .long (lI (((bwV Ly Wo 0 c1) * (pwI (lbL Ly Wo 100 0) (6 - c1))) - ((c1 * cost) * (pwI (lbL Ly Wo 100 0) 6))))), (4, .long (lI (pwI (lbL Ly Wo 100 0) 6))), (2, .long (lI (lbL Ly Wo 100 0))), (0, .ref h0), (1, .int (iI cost))]) C dX5_hours_102 7 rfl (by decide) rfl ?_
              refine r_goto (tgt := 46) C dX5_hours_105 (by decide) ?_
              refine r_lo [4, 5, 6, 7, 1, 2, 0] (lo2 := [(4, .long (lI (pwI (lbL Ly Wo 100 0) 6))), (2, .long (lI (lbL Ly Wo 100 0))), (0, .ref h0), (1, .int (iI cost)), (6, .int (iI c1)), (7, .long (lI (((bwV Ly Wo 0 c1) * (pwI (lbL Ly Wo 100 0) (6 - c1))) - ((c1 * cost) * (pwI (lbL Ly Wo 100 0) 6))))), (9, .int (iI (c1 + 1)))]) rfl ?_
              exact ih46 c1 (((bwV Ly Wo 0 c1) * (pwI (lbL Ly Wo 100 0) (6 - c1))) - ((c1 * cost) * (pwI (lbL Ly Wo 100 0) 6))) (c1 + 1) (by omega) (by omega) (by rw [iL, gIn_goW (by omega)]; first | (rw [hrF_t (by first | exact Or.inl (by omega) | exact Or.inr (by omega))]; done) | (rw [hrF_f (by intro q; rcases q with q | q <;> first | omega | (dsimp only at q; omega))]; done)) (by omega)
            · skip
              refine r_lload C dX5_hours_86 0 rfl ?_
              refine r_lload C dX5_hours_88 6 rfl ?_
              refine r_lcmp_le (tgt := 102) C dX5_hours_90 dX5_hours_91 (by decide) (by omega) (by omega) (fun h_8 => ?_) (fun h_8 => ?_)
              · skip
                refine r_iinc (lo2 := [(9, .int (iI (c1 + 1))), (10, .long (lI (((bwV Ly Wo 0 c1) * (pwI (lbL Ly Wo 100 0) (6 - c1))) - ((c1 * cost) * (pwI (lbL Ly Wo 100 0) 6))))), (4, .long (lI (pwI (lbL Ly Wo 100 0) 6))), (2, .long (lI (lbL Ly Wo 100 0))), (0, .ref h0), (1, .int (iI cost)), (6, .int (iI a2)), (7, .long (lI a1))]) C dX5_hours_102 7 rfl (by decide) rfl ?_
                refine r_goto (tgt := 46) C dX5_hours_105 (by decide) ?_
                refine r_lo [2, 3, 4, 5, 6, 7, 0] (lo2 := [(4, .long (lI (pwI (lbL Ly Wo 100 0) 6))), (2, .long (lI (lbL Ly Wo 100 0))), (0, .ref h0), (1, .int (iI cost)), (6, .int (iI a2)), (7, .long (lI a1)), (9, .int (iI (c1 + 1)))]) rfl ?_
                exact ih46 a2 a1 (c1 + 1) (by omega) (by omega) (by rw [iL, gIn_goW (by omega)]; first | (rw [hrF_t (by first | exact Or.inl (by omega) | exact Or.inr (by omega))]; done) | (rw [hrF_f (by intro q; rcases q with q | q <;> first | omega | (dsimp only at q; omega))]; done)) (by omega)
              · skip
                refine r_lload C dX5_hours_94 0 rfl ?_
                refine r_lstore (lo2 := [(7, .long (lI (((bwV Ly Wo 0 c1) * (pwI (lbL Ly Wo 100 0) (6 - c1))) - ((c1 * cost) * (pwI (lbL Ly Wo 100 0) 6))))), (10, .long (lI (((bwV Ly Wo 0 c1) * (pwI (lbL Ly Wo 100 0) (6 - c1))) - ((c1 * cost) * (pwI (lbL Ly Wo 100 0) 6))))), (4, .long (lI (pwI (lbL Ly Wo 100 0) 6))), (2, .long (lI (lbL Ly Wo 100 0))), (0, .ref h0), (1, .int (iI cost)), (6, .int (iI a2)), (9, .int (iI c1))]) C dX5_hours_96 (by decide) rfl ?_
                refine r_iload C dX5_hours_98 7 rfl ?_
                refine r_istore (lo2 := [(6, .int (iI c1)), (7, .long (lI (((bwV Ly Wo 0 c1) * (pwI (lbL Ly Wo 100 0) (6 - c1))) - ((c1 * cost) * (pwI (lbL Ly Wo 100 0) 6))))), (10, .long (lI (((bwV Ly Wo 0 c1) * (pwI (lbL Ly Wo 100 0) (6 - c1))) - ((c1 * cost) * (pwI (lbL Ly Wo 100 0) 6))))), (4, .long (lI (pwI (lbL Ly Wo 100 0) 6))), (2, .long (lI (lbL Ly Wo 100 0))), (0, .ref h0), (1, .int (iI cost)), (9, .int (iI c1))]) C dX5_hours_100 (by decide) rfl ?_
                refine r_iinc (lo2 := [(9, .int (iI (c1 + 1))), (6, .int (iI c1)), (7, .long (lI (((bwV Ly Wo 0 c1) * (pwI (lbL Ly Wo 100 0) (6 - c1))) - ((c1 * cost) * (pwI (lbL Ly Wo 100 0) 6))))), (10, .long (lI (((bwV Ly Wo 0 c1) * (pwI (lbL Ly Wo 100 0) (6 - c1))) - ((c1 * cost) * (pwI (lbL Ly Wo 100 0) 6))))), (4, .long (lI (pwI (lbL Ly Wo 100 0) 6))), (2, .long (lI (lbL Ly Wo 100 0))), (0, .ref h0), (1, .int (iI cost))]) C dX5_hours_102 7 rfl (by decide) rfl ?_
                refine r_goto (tgt := 46) C dX5_hours_105 (by decide) ?_
                refine r_lo [4, 5, 6, 7, 1, 2, 0] (lo2 := [(4, .long (lI (pwI (lbL Ly Wo 100 0) 6))), (2, .long (lI (lbL Ly Wo 100 0))), (0, .ref h0), (1, .int (iI cost)), (6, .int (iI c1)), (7, .long (lI (((bwV Ly Wo 0 c1) * (pwI (lbL Ly Wo 100 0) (6 - c1))) - ((c1 * cost) * (pwI (lbL Ly Wo 100 0) 6))))), (9, .int (iI (c1 + 1)))]) rfl ?_
                exact ih46 c1 (((bwV Ly Wo 0 c1) * (pwI (lbL Ly Wo 100 0) (6 - c1))) - ((c1 * cost) * (pwI (lbL Ly Wo 100 0) 6))) (c1 + 1) (by omega) (by omega) (by rw [iL, gIn_goW (by omega)]; first | (rw [hrF_t (by first | exact Or.inl (by omega) | exact Or.inr (by omega))]; done) | (rw [hrF_f (by intro q; rcases q with q | q <;> first | omega | (dsimp only at q; omega))]; done)) (by omega)
      refine r_lo [3, 4, 5, 6, 2, 1, 0] (lo2 := [(4, .long (lI (pwI (lbL Ly Wo 100 0) 6))), (2, .long (lI (lbL Ly Wo 100 0))), (0, .ref h0), (1, .int (iI cost)), (6, .int (iI 1)), (7, .long (lI 0)), (9, .int (iI 1))]) rfl ?_
      exact L46 ((7 - (1 : Int)).toNat + 1) 1 0 1 (by omega) (by omega) rfl (Nat.lt_succ_self _)
    · skip
      refine r_bipush C dX5_hours_26 (by decide) ?_
      exact g_ret_i C rfl dX5_hours_28 () trivial (by (repeat' split) <;> first | rfl | omega) [0, 1] rfl (by (repeat' split) <;> first | rfl | omega)
  · skip
    refine r_if_ne (tgt := 13) C dX5_hours_7 (by decide) (by decide) (fun h_9 => absurd h_9 (by decide)) (fun h_9 => ?_)
    refine r_bipush C dX5_hours_10 (by decide) ?_
    exact g_ret_i C rfl dX5_hours_12 () trivial (by (repeat' split) <;> first | rfl | omega) [0, 1] rfl (by (repeat' split) <;> first | rfl | omega)

set_option maxRecDepth 20000 in
theorem hd_V_X5_stoneAt_X5_lyingBelow : yX5_stoneAt.cls = yX5_stoneAt.cls ∧ yX5_stoneAt.cls ≠ "java/lang/invoke/MethodHandle" ∧ yX5_stoneAt.cls ≠ "java/lang/invoke/VarHandle" ∧ (parseMethodDescriptor yX5_stoneAt.desc).map (fun d => d.parameters.length) = some 1 := by decide +kernel
set_option maxRecDepth 20000 in
theorem kw_X5_lyingBelow_1 : Cond.fieldLink RX5 98 "SkipStones$Stone" "worth" "I" ∈ wsX5_lyingBelow := List.mem_of_getElem? (i := 2) rfl
set_option maxRecDepth 20000 in
theorem kw_X5_lyingBelow_2 : Cond.fieldLink RX5 95 "SkipStones$Stone" "lying" "I" ∈ wsX5_lyingBelow := List.mem_of_getElem? (i := 3) rfl
set_option maxRecDepth 20000 in
theorem hi_X5_lyingBelow_3 : ∀ w ∈ wsX30, w ∈ wsX5_lyingBelow := fun _ h => List.mem_cons_of_mem _ (List.mem_append_right _ h)
set_option maxHeartbeats 4000000 in
set_option maxRecDepth 100000 in
theorem c_X5_lyingBelow_1 (l : Launch) (X : gX) (h0 : Nat) (s1 : Nat) (w0 : Nat) (t0 : Nat) (k0 : Nat) (r0 : Nat) (rp : Nat) (sh1 : Nat) (gf : Int) (gs : Int) (rc : Int) (tc : Int) (ft : Int) (sf : Nat → Option Nat) (sa : Nat → Nat) (Wt : Nat → Int) (Wd : Nat → Int) (Rg : Nat → Int) (Ly : Nat → Int) (Wo : Nat → Int) (w : Int) (hsf : ∀ j : Nat, j < 1 → sf j = some (sa j)) (hLy : ∀ j : Nat, j < 1 → 0 ≤ Ly j ∧ Ly j ≤ 9) (hWo : ∀ j : Nat, j < 1 → 0 ≤ Wo j ∧ Wo j ≤ 99) (hb_w : inB w) : gM l yX5_lyingBelow wsX5_lyingBelow (gr 1 0 0) X [(h0, .inr (5, [.ref s1, .int (iI 1), .ref w0, .ref t0, .ref k0, .ref r0, .int (iI gf), .int (iI gs), .ref rp, .int (iI rc), .ref sh1, .int (iI tc), .int (iI ft)])), (s1, .inl (X.2.1.2.1, 8, .inr (.inr (.inr (.inr sf))))), ((sa 0), .inr (3, [.int (iI (Wt 0)), .int (iI (Wd 0)), .int (iI (Rg 0)), .int (iI (Ly 0)), .int (iI (Wo 0))]))] [.ref h0, .int (iI w)] (gQl X (Y := Unit) (fun _ => (0 ≤ lbL Ly Wo w 1 ∧ lbL Ly Wo w 1 ≤ 72)) (fun _ => (lbL Ly Wo w 1)) (fun _ => [(h0, .inr (5, [.ref s1, .int (iI 1), .ref w0, .ref t0, .ref k0, .ref r0, .int (iI gf), .int (iI gs), .ref rp, .int (iI rc), .ref sh1, .int (iI tc), .int (iI ft)])), (s1, .inl (X.2.1.2.1, 8, .inr (.inr (.inr (.inr sf))))), ((sa 0), .inr (3, [.int (iI (Wt 0)), .int (iI (Wd 0)), .int (iI (Rg 0)), .int (iI (Ly 0)), .int (iI (Wo 0))]))])) 0 0 := by
  refine g_start2 (lo := [(0, .ref h0), (1, .int (iI w))]) (by decide +kernel) rfl rfl (Nat.le_of_ble_eq_true rfl) (fun p e s m args below meth c A C => ?_)
  have hLy0 := hLy 0 (by decide)
  have hWo0 := hWo 0 (by decide)
  refine r_lconst (z := 0) C dX5_lyingBelow_0 rfl ?_
  refine r_lstore_n (lo2 := [(2, .long (lI 0)), (0, .ref h0), (1, .int (iI w))]) C dX5_lyingBelow_1 rfl (by decide) rfl ?_
  refine r_iconst C dX5_lyingBelow_2 ?_
  refine r_istore (lo2 := [(4, .int (iI 0)), (2, .long (lI 0)), (0, .ref h0), (1, .int (iI w))]) C dX5_lyingBelow_3 (by decide) rfl ?_
  have J5_1 : ∀ (mk : Int), (mk = lbL Ly Wo w 1) → gW p l e (gr 1 0 0) s m args below meth c X A 6 (MQ below ((gQl X (Y := Unit) (fun _ => (0 ≤ lbL Ly Wo w 1 ∧ lbL Ly Wo w 1 ≤ 72)) (fun _ => (lbL Ly Wo w 1)) (fun _ => [(h0, .inr (5, [.ref s1, .int (iI 1), .ref w0, .ref t0, .ref k0, .ref r0, .int (iI gf), .int (iI gs), .ref rp, .int (iI rc), .ref sh1, .int (iI tc), .int (iI ft)])), (s1, .inl (X.2.1.2.1, 8, .inr (.inr (.inr (.inr sf))))), ((sa 0), .inr (3, [.int (iI (Wt 0)), .int (iI (Wd 0)), .int (iI (Rg 0)), .int (iI (Ly 0)), .int (iI (Wo 0))]))])) A) args s 0 0 A) 0 0 [(h0, .inr (5, [.ref s1, .int (iI 1), .ref w0, .ref t0, .ref k0, .ref r0, .int (iI gf), .int (iI gs), .ref rp, .int (iI rc), .ref sh1, .int (iI tc), .int (iI ft)])), (s1, .inl (X.2.1.2.1, 8, .inr (.inr (.inr (.inr sf))))), ((sa 0), .inr (3, [.int (iI (Wt 0)), .int (iI (Wd 0)), .int (iI (Rg 0)), .int (iI (Ly 0)), .int (iI (Wo 0))]))] 5 [(0, .ref h0), (1, .int (iI w)), (4, .int (iI 1)), (2, .long (lI mk))] [] := by
    intro mk im
    refine r_iload C dX5_lyingBelow_5 2 rfl ?_
    refine r_aload_n C dX5_lyingBelow_7 0 rfl ?_
    refine gf_5_1 C hi_X5_lyingBelow_5 kw_X5_lyingBelow_0 dX5_lyingBelow_8 0 rfl rfl ?_
    refine r_icmp_ge (tgt := 51) C dX5_lyingBelow_11 (by decide) (by decide) (by decide) (fun h_1 => ?_) (fun h_1 => absurd h_1 (by decide))
    refine r_lload_n C dX5_lyingBelow_51 3 rfl ?_
    exact g_ret_l C rfl dX5_lyingBelow_52 () (by have := lbL_B (Ly := Ly) (Wo := Wo) w 1 hLy; omega) im [0, 1, 2] rfl (by (repeat' split) <;> first | rfl | omega)
  have J5_0 : ∀ (mk : Int), (mk = lbL Ly Wo w 0) → gW p l e (gr 1 0 0) s m args below meth c X A 6 (MQ below ((gQl X (Y := Unit) (fun _ => (0 ≤ lbL Ly Wo w 1 ∧ lbL Ly Wo w 1 ≤ 72)) (fun _ => (lbL Ly Wo w 1)) (fun _ => [(h0, .inr (5, [.ref s1, .int (iI 1), .ref w0, .ref t0, .ref k0, .ref r0, .int (iI gf), .int (iI gs), .ref rp, .int (iI rc), .ref sh1, .int (iI tc), .int (iI ft)])), (s1, .inl (X.2.1.2.1, 8, .inr (.inr (.inr (.inr sf))))), ((sa 0), .inr (3, [.int (iI (Wt 0)), .int (iI (Wd 0)), .int (iI (Rg 0)), .int (iI (Ly 0)), .int (iI (Wo 0))]))])) A) args s 0 0 A) 0 0 [(h0, .inr (5, [.ref s1, .int (iI 1), .ref w0, .ref t0, .ref k0, .ref r0, .int (iI gf), .int (iI gs), .ref rp, .int (iI rc), .ref sh1, .int (iI tc), .int (iI ft)])), (s1, .inl (X.2.1.2.1, 8, .inr (.inr (.inr (.inr sf))))), ((sa 0), .inr (3, [.int (iI (Wt 0)), .int (iI (Wd 0)), .int (iI (Rg 0)), .int (iI (Ly 0)), .int (iI (Wo 0))]))] 5 [(0, .ref h0), (1, .int (iI w)), (4, .int (iI 0)), (2, .long (lI mk))] [] := by
    intro mk im
    refine r_iload C dX5_lyingBelow_5 2 rfl ?_
    refine r_aload_n C dX5_lyingBelow_7 0 rfl ?_
    refine gf_5_1 C hi_X5_lyingBelow_5 kw_X5_lyingBelow_0 dX5_lyingBelow_8 0 rfl rfl ?_
    refine r_icmp_ge (tgt := 51) C dX5_lyingBelow_11 (by decide) (by decide) (by decide) (fun h_2 => absurd h_2 (by decide)) (fun h_2 => ?_)
    refine r_aload_n C dX5_lyingBelow_14 0 rfl ?_
    refine r_iload C dX5_lyingBelow_15 2 rfl ?_
    refine g_V_q (ws2 := (fun _ => [(h0, .inr (5, [.ref s1, .int (iI 1), .ref w0, .ref t0, .ref k0, .ref r0, .int (iI gf), .int (iI gs), .ref rp, .int (iI rc), .ref sh1, .int (iI tc), .int (iI ft)])), (s1, .inl (X.2.1.2.1, 8, .inr (.inr (.inr (.inr sf))))), ((sa 0), .inr (3, [.int (iI (Wt 0)), .int (iI (Wd 0)), .int (iI (Rg 0)), .int (iI (Ly 0)), .int (iI (Wo 0))]))])) (As := [.int (iI 0)]) C (c_X5_stoneAt_in l X h0 s1 w0 t0 k0 r0 rp sh1 1 gf gs rc tc ft sf (sa 0) 0 (by decide) (hsf 0 (by decide))) gX5_lyingBelow_X5_stoneAt rfl rfl rfl hd_V_X5_stoneAt_X5_lyingBelow (by decide) dX5_lyingBelow_17 [0, 1] [2] [1, 2, 0] rfl rfl rfl rfl (by decide) rfl 0 5 rfl rfl rfl rfl (Nat.le_of_ble_eq_true rfl) (by decide) (fun _ => rfl) (fun _ hy_ => ?_)
    clear hy_
    refine r_astore (lo2 := [(5, .ref (sa 0)), (0, .ref h0), (1, .int (iI w)), (4, .int (iI 0)), (2, .long (lI mk))]) C dX5_lyingBelow_20 (by decide) rfl ?_
    refine r_aload C dX5_lyingBelow_22 0 rfl ?_
    refine r_ifnull C dX5_lyingBelow_24 ?_
    refine r_aload C dX5_lyingBelow_27 0 rfl ?_
    refine gf_3_4 C hi_X5_lyingBelow_3 kw_X5_lyingBelow_1 dX5_lyingBelow_29 2 rfl rfl ?_
    refine r_iload_n C dX5_lyingBelow_32 2 rfl ?_
    refine r_icmp_ge (tgt := 45) C dX5_lyingBelow_33 (by decide) (by omega) (by omega) (fun h_3 => ?_) (fun h_3 => ?_)
    · skip
      refine r_iinc (lo2 := [(4, .int (iI 1)), (5, .ref (sa 0)), (0, .ref h0), (1, .int (iI w)), (2, .long (lI mk))]) C dX5_lyingBelow_45 3 rfl (by decide) rfl ?_
      refine r_goto (tgt := 5) C dX5_lyingBelow_48 (by decide) ?_
      refine r_lo [2, 3, 0, 4] (lo2 := [(0, .ref h0), (1, .int (iI w)), (4, .int (iI 1)), (2, .long (lI mk))]) rfl ?_
      exact J5_1 mk (by rw [im]; first | exact (lbL_t 0 (by omega)).symm | exact (lbL_f 0 (by omega)).symm)
    · skip
      refine r_lload_n C dX5_lyingBelow_36 4 rfl ?_
      refine r_aload C dX5_lyingBelow_37 0 rfl ?_
      refine gf_3_3 C hi_X5_lyingBelow_3 kw_X5_lyingBelow_2 dX5_lyingBelow_39 2 rfl rfl ?_
      refine r_i2l C dX5_lyingBelow_42 (by omega) ?_
      refine r_ladd C dX5_lyingBelow_43 ?_
      refine r_lstore_n (lo2 := [(2, .long (lI (mk + (Ly 0)))), (5, .ref (sa 0)), (0, .ref h0), (1, .int (iI w)), (4, .int (iI 0))]) C dX5_lyingBelow_44 rfl (by decide) rfl ?_
      refine r_iinc (lo2 := [(4, .int (iI 1)), (2, .long (lI (mk + (Ly 0)))), (5, .ref (sa 0)), (0, .ref h0), (1, .int (iI w))]) C dX5_lyingBelow_45 4 rfl (by decide) rfl ?_
      refine r_goto (tgt := 5) C dX5_lyingBelow_48 (by decide) ?_
      refine r_lo [3, 4, 0, 1] (lo2 := [(0, .ref h0), (1, .int (iI w)), (4, .int (iI 1)), (2, .long (lI (mk + (Ly 0))))]) rfl ?_
      exact J5_1 (mk + (Ly 0)) (by rw [im]; first | exact (lbL_t 0 (by omega)).symm | exact (lbL_f 0 (by omega)).symm)
  refine r_lo [2, 3, 0, 1] (lo2 := [(0, .ref h0), (1, .int (iI w)), (4, .int (iI 0)), (2, .long (lI 0))]) rfl ?_
  exact J5_0 0 rfl

set_option maxHeartbeats 4000000 in
set_option maxRecDepth 100000 in
theorem c_X5_bestWorths_1 (l : Launch) (X : gX) (h0 : Nat) (s1 : Nat) (w0 : Nat) (t0 : Nat) (k0 : Nat) (r0 : Nat) (rp : Nat) (sh1 : Nat) (gf : Int) (gs : Int) (rc : Int) (tc : Int) (ft : Int) (sf : Nat → Option Nat) (sa : Nat → Nat) (Wt : Nat → Int) (Wd : Nat → Int) (Rg : Nat → Int) (Ly : Nat → Int) (Wo : Nat → Int) (k : Int) (hsf : ∀ j : Nat, j < 1 → sf j = some (sa j)) (hLy : ∀ j : Nat, j < 1 → 0 ≤ Ly j ∧ Ly j ≤ 9) (hWo : ∀ j : Nat, j < 1 → 0 ≤ Wo j ∧ Wo j ≤ 99) (hk : 0 ≤ k ∧ k ≤ 6) : gM l yX5_bestWorths wsX5_bestWorths (gr 2 0 0) X [(h0, .inr (5, [.ref s1, .int (iI 1), .ref w0, .ref t0, .ref k0, .ref r0, .int (iI gf), .int (iI gs), .ref rp, .int (iI rc), .ref sh1, .int (iI tc), .int (iI ft)])), (s1, .inl (X.2.1.2.1, 8, .inr (.inr (.inr (.inr sf))))), ((sa 0), .inr (3, [.int (iI (Wt 0)), .int (iI (Wd 0)), .int (iI (Rg 0)), .int (iI (Ly 0)), .int (iI (Wo 0))]))] [.ref h0, .int (iI k)] (gQl X (Y := Unit) (fun _ => True) (fun _ => (bwV Ly Wo 1 k)) (fun _ => [(h0, .inr (5, [.ref s1, .int (iI 1), .ref w0, .ref t0, .ref k0, .ref r0, .int (iI gf), .int (iI gs), .ref rp, .int (iI rc), .ref sh1, .int (iI tc), .int (iI ft)])), (s1, .inl (X.2.1.2.1, 8, .inr (.inr (.inr (.inr sf))))), ((sa 0), .inr (3, [.int (iI (Wt 0)), .int (iI (Wd 0)), .int (iI (Rg 0)), .int (iI (Ly 0)), .int (iI (Wo 0))]))])) 0 0 := by
  refine g_start2 (lo := [(0, .ref h0), (1, .int (iI k))]) (by decide +kernel) rfl rfl (Nat.le_of_ble_eq_true rfl) (fun p e s m args below meth c A C => ?_)
  refine r_aload_n C dX5_bestWorths_0 0 rfl ?_
  refine r_bipush C dX5_bestWorths_1 (by decide) ?_
  refine g_V_l (ws2 := (fun _ => [(h0, .inr (5, [.ref s1, .int (iI 1), .ref w0, .ref t0, .ref k0, .ref r0, .int (iI gf), .int (iI gs), .ref rp, .int (iI rc), .ref sh1, .int (iI tc), .int (iI ft)])), (s1, .inl (X.2.1.2.1, 8, .inr (.inr (.inr (.inr sf))))), ((sa 0), .inr (3, [.int (iI (Wt 0)), .int (iI (Wd 0)), .int (iI (Rg 0)), .int (iI (Ly 0)), .int (iI (Wo 0))]))])) (As := [.int (iI 100)]) C (c_X5_lyingBelow_1 l X h0 s1 w0 t0 k0 r0 rp sh1 gf gs rc tc ft sf sa Wt Wd Rg Ly Wo 100 hsf hLy hWo (by first | assumption | omega)) gX5_bestWorths_X5_lyingBelow rfl rfl rfl hd_V_X5_lyingBelow_X5_bestWorths (by decide) dX5_bestWorths_3 [0, 1, 2] [] [0, 1, 2] rfl rfl rfl rfl (by decide) rfl 0 5 rfl rfl rfl rfl (Nat.le_of_ble_eq_true rfl) (by decide) (fun _ => rfl) (fun _ hy_ => ?_)
  have y_1 : 0 ≤ lbL Ly Wo 100 1 ∧ lbL Ly Wo 100 1 ≤ 72 := hy_
  clear hy_
  refine r_iload_n C dX5_bestWorths_6 1 rfl ?_
  refine g_S_l (ws2 := (fun _ => [(h0, .inr (5, [.ref s1, .int (iI 1), .ref w0, .ref t0, .ref k0, .ref r0, .int (iI gf), .int (iI gs), .ref rp, .int (iI rc), .ref sh1, .int (iI tc), .int (iI ft)])), (s1, .inl (X.2.1.2.1, 8, .inr (.inr (.inr (.inr sf))))), ((sa 0), .inr (3, [.int (iI (Wt 0)), .int (iI (Wd 0)), .int (iI (Rg 0)), .int (iI (Ly 0)), .int (iI (Wo 0))]))])) (As := [.long (lI (lbL Ly Wo 100 1)), .int (iI k)]) C (c_X5_power l X (lbL Ly Wo 100 1) k (by first | assumption | omega)) gX5_bestWorths_X5_power rfl rfl rfl hd_S_X5_power_X5_bestWorths (by decide) dX5_bestWorths_7 [] [0, 1, 2] [0, 1, 2] rfl rfl rfl rfl (by decide) rfl rfl rfl (Nat.le_of_ble_eq_true rfl) (by decide) (fun _ => rfl) (fun _ hy_ => ?_)
  clear hy_
  refine r_lstore_n (lo2 := [(2, .long (lI (pwI (lbL Ly Wo 100 1) k))), (0, .ref h0), (1, .int (iI k))]) C dX5_bestWorths_10 rfl (by decide) rfl ?_
  refine r_lconst (z := 0) C dX5_bestWorths_11 rfl ?_
  refine r_lstore (lo2 := [(4, .long (lI 0)), (2, .long (lI (pwI (lbL Ly Wo 100 1) k))), (0, .ref h0), (1, .int (iI k))]) C dX5_bestWorths_12 (by decide) rfl ?_
  refine r_iconst C dX5_bestWorths_14 ?_
  refine r_istore (lo2 := [(6, .int (iI 1)), (4, .long (lI 0)), (2, .long (lI (pwI (lbL Ly Wo 100 1) k))), (0, .ref h0), (1, .int (iI k))]) C dX5_bestWorths_15 (by decide) rfl ?_
  have L17 : ∀ (fu17 : Nat) (a1 : Int) (wk : Int), (1 ≤ wk ∧ wk ≤ 100) → (bwV Ly Wo 1 k = bwL (fun w => pwI (lbL Ly Wo w 1) k) (pwI (lbL Ly Wo 100 1) k) (100 - wk).toNat wk a1) → (100 - wk).toNat < fu17 → gW p l e (gr 2 0 0) s m args below meth c X A 7 (MQ below ((gQl X (Y := Unit) (fun _ => True) (fun _ => (bwV Ly Wo 1 k)) (fun _ => [(h0, .inr (5, [.ref s1, .int (iI 1), .ref w0, .ref t0, .ref k0, .ref r0, .int (iI gf), .int (iI gs), .ref rp, .int (iI rc), .ref sh1, .int (iI tc), .int (iI ft)])), (s1, .inl (X.2.1.2.1, 8, .inr (.inr (.inr (.inr sf))))), ((sa 0), .inr (3, [.int (iI (Wt 0)), .int (iI (Wd 0)), .int (iI (Rg 0)), .int (iI (Ly 0)), .int (iI (Wo 0))]))])) A) args s 0 0 A) 0 0 [(h0, .inr (5, [.ref s1, .int (iI 1), .ref w0, .ref t0, .ref k0, .ref r0, .int (iI gf), .int (iI gs), .ref rp, .int (iI rc), .ref sh1, .int (iI tc), .int (iI ft)])), (s1, .inl (X.2.1.2.1, 8, .inr (.inr (.inr (.inr sf))))), ((sa 0), .inr (3, [.int (iI (Wt 0)), .int (iI (Wd 0)), .int (iI (Rg 0)), .int (iI (Ly 0)), .int (iI (Wo 0))]))] 17 [(2, .long (lI (pwI (lbL Ly Wo 100 1) k))), (0, .ref h0), (1, .int (iI k)), (4, .long (lI a1)), (6, .int (iI wk))] [] := by
    intro fu17
    induction fu17 with
    | zero => intro a1 wk iw iB hm17; exact absurd hm17 (Nat.not_lt_zero _)
    | succ fu17 ih17 =>
      intro a1 wk iw iB hm17
      refine r_iload C dX5_bestWorths_17 4 rfl ?_
      refine r_bipush C dX5_bestWorths_19 (by decide) ?_
      refine r_icmp_gt (tgt := 47) C dX5_bestWorths_21 (by decide) (by omega) (by decide) (fun h_3 => ?_) (fun h_3 => ?_)
      · skip
        refine r_lload C dX5_bestWorths_47 3 rfl ?_
        exact g_ret_l C rfl dX5_bestWorths_49 () trivial (by rw [iB, show (100 - wk).toNat = 0 by omega]; rfl) [0, 1, 2] rfl (by (repeat' split) <;> first | rfl | omega)
      · skip
        refine r_lload C dX5_bestWorths_24 3 rfl ?_
        refine r_lload_n C dX5_bestWorths_26 0 rfl ?_
        refine r_aload_n C dX5_bestWorths_27 1 rfl ?_
        refine r_iload C dX5_bestWorths_28 4 rfl ?_
        refine g_V_l (ws2 := (fun _ => [(h0, .inr (5, [.ref s1, .int (iI 1), .ref w0, .ref t0, .ref k0, .ref r0, .int (iI gf), .int (iI gs), .ref rp, .int (iI rc), .ref sh1, .int (iI tc), .int (iI ft)])), (s1, .inl (X.2.1.2.1, 8, .inr (.inr (.inr (.inr sf))))), ((sa 0), .inr (3, [.int (iI (Wt 0)), .int (iI (Wd 0)), .int (iI (Rg 0)), .int (iI (Ly 0)), .int (iI (Wo 0))]))])) (As := [.int (iI wk)]) C (c_X5_lyingBelow_1 l X h0 s1 w0 t0 k0 r0 rp sh1 gf gs rc tc ft sf sa Wt Wd Rg Ly Wo wk hsf hLy hWo (by first | assumption | omega)) gX5_bestWorths_X5_lyingBelow rfl rfl rfl hd_V_X5_lyingBelow_X5_bestWorths (by decide) dX5_bestWorths_30 [0, 1, 2] [] [0, 1, 2] rfl rfl rfl rfl (by decide) rfl 0 5 rfl rfl rfl rfl (Nat.le_of_ble_eq_true rfl) (by decide) (fun _ => rfl) (fun _ hy_ => ?_)
        have y_4 : 0 ≤ lbL Ly Wo wk 1 ∧ lbL Ly Wo wk 1 ≤ 72 := hy_
        clear hy_
        refine r_iload_n C dX5_bestWorths_33 2 rfl ?_
        refine g_S_l (ws2 := (fun _ => [(h0, .inr (5, [.ref s1, .int (iI 1), .ref w0, .ref t0, .ref k0, .ref r0, .int (iI gf), .int (iI gs), .ref rp, .int (iI rc), .ref sh1, .int (iI tc), .int (iI ft)])), (s1, .inl (X.2.1.2.1, 8, .inr (.inr (.inr (.inr sf))))), ((sa 0), .inr (3, [.int (iI (Wt 0)), .int (iI (Wd 0)), .int (iI (Rg 0)), .int (iI (Ly 0)), .int (iI (Wo 0))]))])) (As := [.long (lI (lbL Ly Wo wk 1)), .int (iI k)]) C (c_X5_power l X (lbL Ly Wo wk 1) k (by first | assumption | omega)) gX5_bestWorths_X5_power rfl rfl rfl hd_S_X5_power_X5_bestWorths (by decide) dX5_bestWorths_34 [] [0, 1, 2] [0, 1, 2] rfl rfl rfl rfl (by decide) rfl rfl rfl (Nat.le_of_ble_eq_true rfl) (by decide) (fun _ => rfl) (fun _ hy_ => ?_)
        clear hy_
        refine r_lsub C dX5_bestWorths_37 ?_
        refine r_ladd C dX5_bestWorths_38 ?_
        refine r_lstore (lo2 := [(4, .long (lI (a1 + ((pwI (lbL Ly Wo 100 1) k) - (pwI (lbL Ly Wo wk 1) k))))), (2, .long (lI (pwI (lbL Ly Wo 100 1) k))), (0, .ref h0), (1, .int (iI k)), (6, .int (iI wk))]) C dX5_bestWorths_39 (by decide) rfl ?_
        refine r_iinc (lo2 := [(6, .int (iI (wk + 1))), (4, .long (lI (a1 + ((pwI (lbL Ly Wo 100 1) k) - (pwI (lbL Ly Wo wk 1) k))))), (2, .long (lI (pwI (lbL Ly Wo 100 1) k))), (0, .ref h0), (1, .int (iI k))]) C dX5_bestWorths_41 4 rfl (by decide) rfl ?_
        refine r_goto (tgt := 17) C dX5_bestWorths_44 (by decide) ?_
        refine r_lo [2, 3, 4, 1, 0] (lo2 := [(2, .long (lI (pwI (lbL Ly Wo 100 1) k))), (0, .ref h0), (1, .int (iI k)), (4, .long (lI (a1 + ((pwI (lbL Ly Wo 100 1) k) - (pwI (lbL Ly Wo wk 1) k))))), (6, .int (iI (wk + 1)))]) rfl ?_
        exact ih17 (a1 + ((pwI (lbL Ly Wo 100 1) k) - (pwI (lbL Ly Wo wk 1) k))) (wk + 1) (by omega) (by rw [iB, bwL_go (by omega)]) (by omega)
  refine r_lo [2, 3, 4, 1, 0] (lo2 := [(2, .long (lI (pwI (lbL Ly Wo 100 1) k))), (0, .ref h0), (1, .int (iI k)), (4, .long (lI 0)), (6, .int (iI 1))]) rfl ?_
  exact L17 ((100 - (1 : Int)).toNat + 1) 0 1 (by omega) rfl (Nat.lt_succ_self _)

set_option maxHeartbeats 4000000 in
set_option maxRecDepth 100000 in
theorem c_X5_mean_1 (l : Launch) (X : gX) (h0 : Nat) (s1 : Nat) (w0 : Nat) (t0 : Nat) (k0 : Nat) (r0 : Nat) (rp : Nat) (sh1 : Nat) (gf : Int) (gs : Int) (rc : Int) (tc : Int) (ft : Int) (sf : Nat → Option Nat) (sa : Nat → Nat) (Wt : Nat → Int) (Wd : Nat → Int) (Rg : Nat → Int) (Ly : Nat → Int) (Wo : Nat → Int) (k : Int) (w : Int) (hsf : ∀ j : Nat, j < 1 → sf j = some (sa j)) (hLy : ∀ j : Nat, j < 1 → 0 ≤ Ly j ∧ Ly j ≤ 9) (hWo : ∀ j : Nat, j < 1 → 0 ≤ Wo j ∧ Wo j ≤ 99) (hb_k : inB k) (hb_w : inB w) : gM l yX5_mean wsX5_mean (gr 3 0 0) X [(h0, .inr (5, [.ref s1, .int (iI 1), .ref w0, .ref t0, .ref k0, .ref r0, .int (iI gf), .int (iI gs), .ref rp, .int (iI rc), .ref sh1, .int (iI tc), .int (iI ft)])), (s1, .inl (X.2.1.2.1, 8, .inr (.inr (.inr (.inr sf))))), ((sa 0), .inr (3, [.int (iI (Wt 0)), .int (iI (Wd 0)), .int (iI (Rg 0)), .int (iI (Ly 0)), .int (iI (Wo 0))]))] [.ref h0, .int (iI k), .int (iI w)] (gQl X (Y := Unit) (fun _ => True) (fun _ => (if 1 ≤ k ∧ k ≤ 6 ∧ 0 ≤ w ∧ w ≤ 1 ∧ ¬ (lbL Ly Wo 100 1) = 0 then shV (bwV Ly Wo 1 k) (pwI (lbL Ly Wo 100 1) k) w else -9223372036854775808)) (fun _ => [(h0, .inr (5, [.ref s1, .int (iI 1), .ref w0, .ref t0, .ref k0, .ref r0, .int (iI gf), .int (iI gs), .ref rp, .int (iI rc), .ref sh1, .int (iI tc), .int (iI ft)])), (s1, .inl (X.2.1.2.1, 8, .inr (.inr (.inr (.inr sf))))), ((sa 0), .inr (3, [.int (iI (Wt 0)), .int (iI (Wd 0)), .int (iI (Rg 0)), .int (iI (Ly 0)), .int (iI (Wo 0))]))])) 0 0 := by
  refine g_start2 (lo := [(0, .ref h0), (1, .int (iI k)), (2, .int (iI w))]) (by decide +kernel) rfl rfl (Nat.le_of_ble_eq_true rfl) (fun p e s m args below meth c A C => ?_)
  refine r_iload_n C dX5_mean_0 1 rfl ?_
  refine r_iconst C dX5_mean_1 ?_
  refine r_bipush C dX5_mean_2 (by decide) ?_
  refine g_S_i (ws2 := (fun _ => [(h0, .inr (5, [.ref s1, .int (iI 1), .ref w0, .ref t0, .ref k0, .ref r0, .int (iI gf), .int (iI gs), .ref rp, .int (iI rc), .ref sh1, .int (iI tc), .int (iI ft)])), (s1, .inl (X.2.1.2.1, 8, .inr (.inr (.inr (.inr sf))))), ((sa 0), .inr (3, [.int (iI (Wt 0)), .int (iI (Wd 0)), .int (iI (Rg 0)), .int (iI (Ly 0)), .int (iI (Wo 0))]))])) (As := [.int (iI k), .int (iI 1), .int (iI 6)]) C (c_X5_within l X k 1 6 (by first | assumption | omega) (by first | assumption | omega) (by first | assumption | omega)) gX5_mean_X5_within rfl rfl rfl hd_S_X5_within_X5_mean (by decide) dX5_mean_4 [] [0, 1, 2] [0, 1, 2] rfl rfl rfl rfl (by decide) rfl rfl rfl (Nat.le_of_ble_eq_true rfl) (by decide) (fun _ => rfl) (fun _ hy_ => ?_)
  clear hy_
  refine r_ite (fun h_1 => ?_) (fun h_1 => ?_)
  · skip
    refine r_if_eq (tgt := 19) C dX5_mean_7 (by decide) (by decide) (fun h_2 => absurd h_2 (by decide)) (fun h_2 => ?_)
    refine r_iload_n C dX5_mean_10 2 rfl ?_
    refine r_iconst C dX5_mean_11 ?_
    refine r_iconst C dX5_mean_12 ?_
    refine g_S_i (ws2 := (fun _ => [(h0, .inr (5, [.ref s1, .int (iI 1), .ref w0, .ref t0, .ref k0, .ref r0, .int (iI gf), .int (iI gs), .ref rp, .int (iI rc), .ref sh1, .int (iI tc), .int (iI ft)])), (s1, .inl (X.2.1.2.1, 8, .inr (.inr (.inr (.inr sf))))), ((sa 0), .inr (3, [.int (iI (Wt 0)), .int (iI (Wd 0)), .int (iI (Rg 0)), .int (iI (Ly 0)), .int (iI (Wo 0))]))])) (As := [.int (iI w), .int (iI 0), .int (iI 1)]) C (c_X5_within l X w 0 1 (by first | assumption | omega) (by first | assumption | omega) (by first | assumption | omega)) gX5_mean_X5_within rfl rfl rfl hd_S_X5_within_X5_mean (by decide) dX5_mean_13 [] [0, 1, 2] [0, 1, 2] rfl rfl rfl rfl (by decide) rfl rfl rfl (Nat.le_of_ble_eq_true rfl) (by decide) (fun _ => rfl) (fun _ hy_ => ?_)
    clear hy_
    refine r_ite (fun h_3 => ?_) (fun h_3 => ?_)
    · skip
      refine r_if_ne (tgt := 23) C dX5_mean_16 (by decide) (by decide) (fun h_4 => ?_) (fun h_4 => absurd h_4 (by decide))
      refine r_aload_n C dX5_mean_23 0 rfl ?_
      refine r_bipush C dX5_mean_24 (by decide) ?_
      refine g_V_l (ws2 := (fun _ => [(h0, .inr (5, [.ref s1, .int (iI 1), .ref w0, .ref t0, .ref k0, .ref r0, .int (iI gf), .int (iI gs), .ref rp, .int (iI rc), .ref sh1, .int (iI tc), .int (iI ft)])), (s1, .inl (X.2.1.2.1, 8, .inr (.inr (.inr (.inr sf))))), ((sa 0), .inr (3, [.int (iI (Wt 0)), .int (iI (Wd 0)), .int (iI (Rg 0)), .int (iI (Ly 0)), .int (iI (Wo 0))]))])) (As := [.int (iI 100)]) C (c_X5_lyingBelow_1 l X h0 s1 w0 t0 k0 r0 rp sh1 gf gs rc tc ft sf sa Wt Wd Rg Ly Wo 100 hsf hLy hWo (by first | assumption | omega)) gX5_mean_X5_lyingBelow rfl rfl rfl hd_V_X5_lyingBelow_X5_mean (by decide) dX5_mean_26 [0, 1, 2] [] [0, 1, 2] rfl rfl rfl rfl (by decide) rfl 0 5 rfl rfl rfl rfl (Nat.le_of_ble_eq_true rfl) (by decide) (fun _ => rfl) (fun _ hy_ => ?_)
      have y_5 : 0 ≤ lbL Ly Wo 100 1 ∧ lbL Ly Wo 100 1 ≤ 72 := hy_
      clear hy_
      refine r_lstore_n (lo2 := [(3, .long (lI (lbL Ly Wo 100 1))), (0, .ref h0), (1, .int (iI k)), (2, .int (iI w))]) C dX5_mean_29 rfl (by decide) rfl ?_
      refine r_lload_n C dX5_mean_30 0 rfl ?_
      refine r_lconst (z := 0) C dX5_mean_31 rfl ?_
      refine r_lcmp_ne (tgt := 40) C dX5_mean_32 dX5_mean_33 (by decide) (by omega) (by decide) (fun h_7 => ?_) (fun h_7 => ?_)
      · skip
        have bb := bwV_B (Ly := Ly) (Wo := Wo) (ns := 1) (k := k) (by decide) hLy (by omega) hWo
        have pp := pwI_72 (a := (lbL Ly Wo 100 1)) (k := k) (by omega) (by omega)
        have p1_ : 1 ≤ pwI (lbL Ly Wo 100 1) k := pwI_pos (by omega) _
        refine r_aload_n C dX5_mean_40 1 rfl ?_
        refine r_iload_n C dX5_mean_41 2 rfl ?_
        refine g_V_l (ws2 := (fun _ => [(h0, .inr (5, [.ref s1, .int (iI 1), .ref w0, .ref t0, .ref k0, .ref r0, .int (iI gf), .int (iI gs), .ref rp, .int (iI rc), .ref sh1, .int (iI tc), .int (iI ft)])), (s1, .inl (X.2.1.2.1, 8, .inr (.inr (.inr (.inr sf))))), ((sa 0), .inr (3, [.int (iI (Wt 0)), .int (iI (Wd 0)), .int (iI (Rg 0)), .int (iI (Ly 0)), .int (iI (Wo 0))]))])) (As := [.int (iI k)]) C (c_X5_bestWorths_1 l X h0 s1 w0 t0 k0 r0 rp sh1 gf gs rc tc ft sf sa Wt Wd Rg Ly Wo k hsf hLy hWo (by first | assumption | omega)) gX5_mean_X5_bestWorths rfl rfl rfl hd_V_X5_bestWorths_X5_mean (by decide) dX5_mean_42 [0, 1, 2] [] [0, 1, 2] rfl rfl rfl rfl (by decide) rfl 0 5 rfl rfl rfl rfl (Nat.le_of_ble_eq_true rfl) (by decide) (fun _ => rfl) (fun _ hy_ => ?_)
        clear hy_
        refine r_lload_n C dX5_mean_45 0 rfl ?_
        refine r_iload_n C dX5_mean_46 2 rfl ?_
        refine g_S_l (ws2 := (fun _ => [(h0, .inr (5, [.ref s1, .int (iI 1), .ref w0, .ref t0, .ref k0, .ref r0, .int (iI gf), .int (iI gs), .ref rp, .int (iI rc), .ref sh1, .int (iI tc), .int (iI ft)])), (s1, .inl (X.2.1.2.1, 8, .inr (.inr (.inr (.inr sf))))), ((sa 0), .inr (3, [.int (iI (Wt 0)), .int (iI (Wd 0)), .int (iI (Rg 0)), .int (iI (Ly 0)), .int (iI (Wo 0))]))])) (As := [.long (lI (lbL Ly Wo 100 1)), .int (iI k)]) C (c_X5_power l X (lbL Ly Wo 100 1) k (by first | assumption | omega)) gX5_mean_X5_power rfl rfl rfl hd_S_X5_power_X5_mean (by decide) dX5_mean_47 [] [0, 1, 2] [0, 1, 2] rfl rfl rfl rfl (by decide) rfl rfl rfl (Nat.le_of_ble_eq_true rfl) (by decide) (fun _ => rfl) (fun _ hy_ => ?_)
        clear hy_
        refine r_iload_n C dX5_mean_50 3 rfl ?_
        refine g_S_l (ws2 := (fun _ => [(h0, .inr (5, [.ref s1, .int (iI 1), .ref w0, .ref t0, .ref k0, .ref r0, .int (iI gf), .int (iI gs), .ref rp, .int (iI rc), .ref sh1, .int (iI tc), .int (iI ft)])), (s1, .inl (X.2.1.2.1, 8, .inr (.inr (.inr (.inr sf))))), ((sa 0), .inr (3, [.int (iI (Wt 0)), .int (iI (Wd 0)), .int (iI (Rg 0)), .int (iI (Ly 0)), .int (iI (Wo 0))]))])) (As := [.long (lI (bwV Ly Wo 1 k)), .long (lI (pwI (lbL Ly Wo 100 1) k)), .int (iI w)]) C (c_X5_share l X (bwV Ly Wo 1 k) (pwI (lbL Ly Wo 100 1) k) w (by first | assumption | omega) (by first | assumption | omega) (by first | assumption | omega)) gX5_mean_X5_share rfl rfl rfl hd_S_X5_share_X5_mean (by decide) dX5_mean_51 [] [0, 1, 2] [0, 1, 2] rfl rfl rfl rfl (by decide) rfl rfl rfl (Nat.le_of_ble_eq_true rfl) (by decide) (fun _ => rfl) (fun _ hy_ => ?_)
        clear hy_
        exact g_ret_l C rfl dX5_mean_54 () trivial (by first | (rw [if_pos (by omega)]; done) | (rw [if_neg (by omega)]; done)) [0, 1, 2] rfl (by (repeat' split) <;> first | rfl | omega)
      · skip
        refine r_ldc2 (z := -9223372036854775808) C dX5_mean_36 kw_X5_mean_0 rfl ?_
        exact g_ret_l C rfl dX5_mean_39 () trivial (by first | (rw [if_pos (by omega)]; done) | (rw [if_neg (by omega)]; done)) [0, 1, 2] rfl (by (repeat' split) <;> first | rfl | omega)
    · skip
      refine r_if_ne (tgt := 23) C dX5_mean_16 (by decide) (by decide) (fun h_8 => absurd h_8 (by decide)) (fun h_8 => ?_)
      refine r_ldc2 (z := -9223372036854775808) C dX5_mean_19 kw_X5_mean_0 rfl ?_
      exact g_ret_l C rfl dX5_mean_22 () trivial (by first | (rw [if_pos (by omega)]; done) | (rw [if_neg (by omega)]; done)) [0, 1, 2] rfl (by (repeat' split) <;> first | rfl | omega)
  · skip
    refine r_if_eq (tgt := 19) C dX5_mean_7 (by decide) (by decide) (fun h_9 => ?_) (fun h_9 => absurd h_9 (by decide))
    refine r_ldc2 (z := -9223372036854775808) C dX5_mean_19 kw_X5_mean_0 rfl ?_
    exact g_ret_l C rfl dX5_mean_22 () trivial (by first | (rw [if_pos (by omega)]; done) | (rw [if_neg (by omega)]; done)) [0, 1, 2] rfl (by (repeat' split) <;> first | rfl | omega)

set_option maxHeartbeats 4000000 in
set_option maxRecDepth 100000 in
theorem c_X5_hours_1 (l : Launch) (X : gX) (h0 : Nat) (s1 : Nat) (w0 : Nat) (t0 : Nat) (k0 : Nat) (r0 : Nat) (rp : Nat) (sh1 : Nat) (gf : Int) (gs : Int) (rc : Int) (tc : Int) (ft : Int) (sf : Nat → Option Nat) (sa : Nat → Nat) (Wt : Nat → Int) (Wd : Nat → Int) (Rg : Nat → Int) (Ly : Nat → Int) (Wo : Nat → Int) (cost : Int) (hsf : ∀ j : Nat, j < 1 → sf j = some (sa j)) (hLy : ∀ j : Nat, j < 1 → 0 ≤ Ly j ∧ Ly j ≤ 9) (hWo : ∀ j : Nat, j < 1 → 0 ≤ Wo j ∧ Wo j ≤ 99) (hb_cost : inB cost) : gM l yX5_hours wsX5_hours (gr 3 0 0) X [(h0, .inr (5, [.ref s1, .int (iI 1), .ref w0, .ref t0, .ref k0, .ref r0, .int (iI gf), .int (iI gs), .ref rp, .int (iI rc), .ref sh1, .int (iI tc), .int (iI ft)])), (s1, .inl (X.2.1.2.1, 8, .inr (.inr (.inr (.inr sf))))), ((sa 0), .inr (3, [.int (iI (Wt 0)), .int (iI (Wd 0)), .int (iI (Rg 0)), .int (iI (Ly 0)), .int (iI (Wo 0))]))] [.ref h0, .int (iI cost)] (gQi X (Y := Unit) (fun _ => True) (fun _ => (if ¬ (0 ≤ cost ∧ cost ≤ 99) then -2 else if (lbL Ly Wo 100 1) = 0 then -3 else (hrV Ly Wo 1 cost).2)) (fun _ => [(h0, .inr (5, [.ref s1, .int (iI 1), .ref w0, .ref t0, .ref k0, .ref r0, .int (iI gf), .int (iI gs), .ref rp, .int (iI rc), .ref sh1, .int (iI tc), .int (iI ft)])), (s1, .inl (X.2.1.2.1, 8, .inr (.inr (.inr (.inr sf))))), ((sa 0), .inr (3, [.int (iI (Wt 0)), .int (iI (Wd 0)), .int (iI (Rg 0)), .int (iI (Ly 0)), .int (iI (Wo 0))]))])) 0 0 := by
  refine g_start2 (lo := [(0, .ref h0), (1, .int (iI cost))]) (by decide +kernel) rfl rfl (Nat.le_of_ble_eq_true rfl) (fun p e s m args below meth c A C => ?_)
  refine r_iload_n C dX5_hours_0 1 rfl ?_
  refine r_iconst C dX5_hours_1 ?_
  refine r_bipush C dX5_hours_2 (by decide) ?_
  refine g_S_i (ws2 := (fun _ => [(h0, .inr (5, [.ref s1, .int (iI 1), .ref w0, .ref t0, .ref k0, .ref r0, .int (iI gf), .int (iI gs), .ref rp, .int (iI rc), .ref sh1, .int (iI tc), .int (iI ft)])), (s1, .inl (X.2.1.2.1, 8, .inr (.inr (.inr (.inr sf))))), ((sa 0), .inr (3, [.int (iI (Wt 0)), .int (iI (Wd 0)), .int (iI (Rg 0)), .int (iI (Ly 0)), .int (iI (Wo 0))]))])) (As := [.int (iI cost), .int (iI 0), .int (iI 99)]) C (c_X5_within l X cost 0 99 (by first | assumption | omega) (by first | assumption | omega) (by first | assumption | omega)) gX5_hours_X5_within rfl rfl rfl hd_S_X5_within_X5_hours (by decide) dX5_hours_4 [] [0, 1, 2] [0, 1, 2] rfl rfl rfl rfl (by decide) rfl rfl rfl (Nat.le_of_ble_eq_true rfl) (by decide) (fun _ => rfl) (fun _ hy_ => ?_)
  clear hy_
  refine r_ite (fun h_1 => ?_) (fun h_1 => ?_)
  · skip
    refine r_if_ne (tgt := 13) C dX5_hours_7 (by decide) (by decide) (fun h_2 => ?_) (fun h_2 => absurd h_2 (by decide))
    refine r_aload_n C dX5_hours_13 0 rfl ?_
    refine r_bipush C dX5_hours_14 (by decide) ?_
    refine g_V_l (ws2 := (fun _ => [(h0, .inr (5, [.ref s1, .int (iI 1), .ref w0, .ref t0, .ref k0, .ref r0, .int (iI gf), .int (iI gs), .ref rp, .int (iI rc), .ref sh1, .int (iI tc), .int (iI ft)])), (s1, .inl (X.2.1.2.1, 8, .inr (.inr (.inr (.inr sf))))), ((sa 0), .inr (3, [.int (iI (Wt 0)), .int (iI (Wd 0)), .int (iI (Rg 0)), .int (iI (Ly 0)), .int (iI (Wo 0))]))])) (As := [.int (iI 100)]) C (c_X5_lyingBelow_1 l X h0 s1 w0 t0 k0 r0 rp sh1 gf gs rc tc ft sf sa Wt Wd Rg Ly Wo 100 hsf hLy hWo (by first | assumption | omega)) gX5_hours_X5_lyingBelow rfl rfl rfl hd_V_X5_lyingBelow_X5_hours (by decide) dX5_hours_16 [0, 1, 2] [] [0, 1, 2] rfl rfl rfl rfl (by decide) rfl 0 5 rfl rfl rfl rfl (Nat.le_of_ble_eq_true rfl) (by decide) (fun _ => rfl) (fun _ hy_ => ?_)
    have y_3 : 0 ≤ lbL Ly Wo 100 1 ∧ lbL Ly Wo 100 1 ≤ 72 := hy_
    clear hy_
    refine r_lstore_n (lo2 := [(2, .long (lI (lbL Ly Wo 100 1))), (0, .ref h0), (1, .int (iI cost))]) C dX5_hours_19 rfl (by decide) rfl ?_
    refine r_lload_n C dX5_hours_20 0 rfl ?_
    refine r_lconst (z := 0) C dX5_hours_21 rfl ?_
    refine r_lcmp_ne (tgt := 29) C dX5_hours_22 dX5_hours_23 (by decide) (by omega) (by decide) (fun h_5 => ?_) (fun h_5 => ?_)
    · skip
      refine r_lload_n C dX5_hours_29 0 rfl ?_
      refine r_bipush C dX5_hours_30 (by decide) ?_
      refine g_S_l (ws2 := (fun _ => [(h0, .inr (5, [.ref s1, .int (iI 1), .ref w0, .ref t0, .ref k0, .ref r0, .int (iI gf), .int (iI gs), .ref rp, .int (iI rc), .ref sh1, .int (iI tc), .int (iI ft)])), (s1, .inl (X.2.1.2.1, 8, .inr (.inr (.inr (.inr sf))))), ((sa 0), .inr (3, [.int (iI (Wt 0)), .int (iI (Wd 0)), .int (iI (Rg 0)), .int (iI (Ly 0)), .int (iI (Wo 0))]))])) (As := [.long (lI (lbL Ly Wo 100 1)), .int (iI 6)]) C (c_X5_power l X (lbL Ly Wo 100 1) 6 (by first | assumption | omega)) gX5_hours_X5_power rfl rfl rfl hd_S_X5_power_X5_hours (by decide) dX5_hours_32 [] [0, 1, 2] [0, 1, 2] rfl rfl rfl rfl (by decide) rfl rfl rfl (Nat.le_of_ble_eq_true rfl) (by decide) (fun _ => rfl) (fun _ hy_ => ?_)
      clear hy_
      refine r_lstore (lo2 := [(4, .long (lI (pwI (lbL Ly Wo 100 1) 6))), (2, .long (lI (lbL Ly Wo 100 1))), (0, .ref h0), (1, .int (iI cost))]) C dX5_hours_35 (by decide) rfl ?_
      refine r_iconst C dX5_hours_37 ?_
      refine r_istore (lo2 := [(6, .int (iI 1)), (4, .long (lI (pwI (lbL Ly Wo 100 1) 6))), (2, .long (lI (lbL Ly Wo 100 1))), (0, .ref h0), (1, .int (iI cost))]) C dX5_hours_38 (by decide) rfl ?_
      refine r_lconst (z := 0) C dX5_hours_40 rfl ?_
      refine r_lstore (lo2 := [(7, .long (lI 0)), (6, .int (iI 1)), (4, .long (lI (pwI (lbL Ly Wo 100 1) 6))), (2, .long (lI (lbL Ly Wo 100 1))), (0, .ref h0), (1, .int (iI cost))]) C dX5_hours_41 (by decide) rfl ?_
      refine r_iconst C dX5_hours_43 ?_
      refine r_istore (lo2 := [(9, .int (iI 1)), (7, .long (lI 0)), (6, .int (iI 1)), (4, .long (lI (pwI (lbL Ly Wo 100 1) 6))), (2, .long (lI (lbL Ly Wo 100 1))), (0, .ref h0), (1, .int (iI cost))]) C dX5_hours_44 (by decide) rfl ?_
      have L46 : ∀ (fu46 : Nat) (a2 : Int) (a1 : Int) (c1 : Int), (1 ≤ c1 ∧ c1 ≤ 7) → (-100000000000000 ≤ a1 ∧ a1 ≤ 100000000000000) → (hrV Ly Wo 1 cost = gIn (hrF Ly Wo 1 cost) (7 - c1).toNat c1 (a1, a2)) → (7 - c1).toNat < fu46 → gW p l e (gr 3 0 0) s m args below meth c X A 12 (MQ below ((gQi X (Y := Unit) (fun _ => True) (fun _ => (if ¬ (0 ≤ cost ∧ cost ≤ 99) then -2 else if (lbL Ly Wo 100 1) = 0 then -3 else (hrV Ly Wo 1 cost).2)) (fun _ => [(h0, .inr (5, [.ref s1, .int (iI 1), .ref w0, .ref t0, .ref k0, .ref r0, .int (iI gf), .int (iI gs), .ref rp, .int (iI rc), .ref sh1, .int (iI tc), .int (iI ft)])), (s1, .inl (X.2.1.2.1, 8, .inr (.inr (.inr (.inr sf))))), ((sa 0), .inr (3, [.int (iI (Wt 0)), .int (iI (Wd 0)), .int (iI (Rg 0)), .int (iI (Ly 0)), .int (iI (Wo 0))]))])) A) args s 0 0 A) 0 0 [(h0, .inr (5, [.ref s1, .int (iI 1), .ref w0, .ref t0, .ref k0, .ref r0, .int (iI gf), .int (iI gs), .ref rp, .int (iI rc), .ref sh1, .int (iI tc), .int (iI ft)])), (s1, .inl (X.2.1.2.1, 8, .inr (.inr (.inr (.inr sf))))), ((sa 0), .inr (3, [.int (iI (Wt 0)), .int (iI (Wd 0)), .int (iI (Rg 0)), .int (iI (Ly 0)), .int (iI (Wo 0))]))] 46 [(4, .long (lI (pwI (lbL Ly Wo 100 1) 6))), (2, .long (lI (lbL Ly Wo 100 1))), (0, .ref h0), (1, .int (iI cost)), (6, .int (iI a2)), (7, .long (lI a1)), (9, .int (iI c1))] [] := by
        intro fu46
        induction fu46 with
        | zero => intro a2 a1 c1 ic ia iL hm46; exact absurd hm46 (Nat.not_lt_zero _)
        | succ fu46 ih46 =>
          intro a2 a1 c1 ic ia iL hm46
          refine r_iload C dX5_hours_46 6 rfl ?_
          refine r_bipush C dX5_hours_48 (by decide) ?_
          refine r_icmp_gt (tgt := 108) C dX5_hours_50 (by decide) (by omega) (by decide) (fun h_6 => ?_) (fun h_6 => ?_)
          · skip
            refine r_iload C dX5_hours_108 4 rfl ?_
            exact g_ret_i C rfl dX5_hours_110 () trivial (by rw [iL, gIn_endW (by omega)]; (repeat' split) <;> first | rfl | omega) [0, 1, 2] rfl (by (repeat' split) <;> first | rfl | omega)
          · skip
            have hB := hr_B (Ly := Ly) (Wo := Wo) (ns := 1) (cost := cost) (n := c1) (by decide) hLy hWo (by omega) (by omega)
            have hm_ := mulB (a := c1) (b := cost) (A := 6) (B := 99) (by omega) (by omega)
            refine r_aload_n C dX5_hours_53 2 rfl ?_
            refine r_iload C dX5_hours_54 6 rfl ?_
            refine g_V_l (ws2 := (fun _ => [(h0, .inr (5, [.ref s1, .int (iI 1), .ref w0, .ref t0, .ref k0, .ref r0, .int (iI gf), .int (iI gs), .ref rp, .int (iI rc), .ref sh1, .int (iI tc), .int (iI ft)])), (s1, .inl (X.2.1.2.1, 8, .inr (.inr (.inr (.inr sf))))), ((sa 0), .inr (3, [.int (iI (Wt 0)), .int (iI (Wd 0)), .int (iI (Rg 0)), .int (iI (Ly 0)), .int (iI (Wo 0))]))])) (As := [.int (iI c1)]) C (c_X5_bestWorths_1 l X h0 s1 w0 t0 k0 r0 rp sh1 gf gs rc tc ft sf sa Wt Wd Rg Ly Wo c1 hsf hLy hWo (by first | assumption | omega)) gX5_hours_X5_bestWorths rfl rfl rfl hd_V_X5_bestWorths_X5_hours (by decide) dX5_hours_56 [0, 1, 2] [] [0, 1, 2] rfl rfl rfl rfl (by decide) rfl 0 5 rfl rfl rfl rfl (Nat.le_of_ble_eq_true rfl) (by decide) (fun _ => rfl) (fun _ hy_ => ?_)
            clear hy_
            refine r_lload_n C dX5_hours_59 1 rfl ?_
            refine r_bipush C dX5_hours_60 (by decide) ?_
            refine r_iload C dX5_hours_62 6 rfl ?_
            refine r_isub C dX5_hours_64 ?_
            refine g_S_l (ws2 := (fun _ => [(h0, .inr (5, [.ref s1, .int (iI 1), .ref w0, .ref t0, .ref k0, .ref r0, .int (iI gf), .int (iI gs), .ref rp, .int (iI rc), .ref sh1, .int (iI tc), .int (iI ft)])), (s1, .inl (X.2.1.2.1, 8, .inr (.inr (.inr (.inr sf))))), ((sa 0), .inr (3, [.int (iI (Wt 0)), .int (iI (Wd 0)), .int (iI (Rg 0)), .int (iI (Ly 0)), .int (iI (Wo 0))]))])) (As := [.long (lI (lbL Ly Wo 100 1)), .int (iI (6 - c1))]) C (c_X5_power l X (lbL Ly Wo 100 1) (6 - c1) (by first | assumption | omega)) gX5_hours_X5_power rfl rfl rfl hd_S_X5_power_X5_hours (by decide) dX5_hours_65 [] [0, 1, 2] [0, 1, 2] rfl rfl rfl rfl (by decide) rfl rfl rfl (Nat.le_of_ble_eq_true rfl) (by decide) (fun _ => rfl) (fun _ hy_ => ?_)
            clear hy_
            refine r_lmul C dX5_hours_68 ?_
            refine r_iload C dX5_hours_69 6 rfl ?_
            refine r_iload_n C dX5_hours_71 3 rfl ?_
            refine r_imul C dX5_hours_72 ?_
            refine r_i2l C dX5_hours_73 (by omega) ?_
            refine r_lload C dX5_hours_74 0 rfl ?_
            refine r_lmul C dX5_hours_76 ?_
            refine r_lsub C dX5_hours_77 ?_
            refine r_lstore (lo2 := [(10, .long (lI (((bwV Ly Wo 1 c1) * (pwI (lbL Ly Wo 100 1) (6 - c1))) - ((c1 * cost) * (pwI (lbL Ly Wo 100 1) 6))))), (4, .long (lI (pwI (lbL Ly Wo 100 1) 6))), (2, .long (lI (lbL Ly Wo 100 1))), (0, .ref h0), (1, .int (iI cost)), (6, .int (iI a2)), (7, .long (lI a1)), (9, .int (iI c1))]) C dX5_hours_78 (by decide) rfl ?_
            refine r_iload C dX5_hours_80 7 rfl ?_
            refine r_iconst C dX5_hours_82 ?_
            refine r_icmp_eq (tgt := 94) C dX5_hours_83 (by decide) (by omega) (by decide) (fun h_7 => ?_) (fun h_7 => ?_)
            · skip
              refine r_lload C dX5_hours_94 0 rfl ?_
              refine r_lstore (lo2 := [(7, .long (lI (((bwV Ly Wo 1 c1) * (pwI (lbL Ly Wo 100 1) (6 - c1))) - ((c1 * cost) * (pwI (lbL Ly Wo 100 1) 6))))), (10, .long (lI (((bwV Ly Wo 1 c1) * (pwI (lbL Ly Wo 100 1) (6 - c1))) - ((c1 * cost) * (pwI (lbL Ly Wo 100 1) 6))))), (4, .long (lI (pwI (lbL Ly Wo 100 1) 6))), (2, .long (lI (lbL Ly Wo 100 1))), (0, .ref h0), (1, .int (iI cost)), (6, .int (iI a2)), (9, .int (iI c1))]) C dX5_hours_96 (by decide) rfl ?_
              refine r_iload C dX5_hours_98 7 rfl ?_
              refine r_istore (lo2 := [(6, .int (iI c1)), (7, .long (lI (((bwV Ly Wo 1 c1) * (pwI (lbL Ly Wo 100 1) (6 - c1))) - ((c1 * cost) * (pwI (lbL Ly Wo 100 1) 6))))), (10, .long (lI (((bwV Ly Wo 1 c1) * (pwI (lbL Ly Wo 100 1) (6 - c1))) - ((c1 * cost) * (pwI (lbL Ly Wo 100 1) 6))))), (4, .long (lI (pwI (lbL Ly Wo 100 1) 6))), (2, .long (lI (lbL Ly Wo 100 1))), (0, .ref h0), (1, .int (iI cost)), (9, .int (iI c1))]) C dX5_hours_100 (by decide) rfl ?_
              refine r_iinc (lo2 := [(9, .int (iI (c1 + 1))), (6, .int (iI c1)), (7, .long (lI (((bwV Ly Wo 1 c1) * (pwI (lbL Ly Wo 100 1) (6 - c1))) - ((c1 * cost) * (pwI (lbL Ly Wo 100 1) 6))))), (10, .long (lI (((bwV Ly Wo 1 c1) * (pwI (lbL Ly Wo 100 1) (6 - c1))) - ((c1 * cost) * (pwI (lbL Ly Wo 100 1) 6))))), (4, .long (lI (pwI (lbL Ly Wo 100 1) 6))), (2, .long (lI (lbL Ly Wo 100 1))), (0, .ref h0), (1, .int (iI cost))]) C dX5_hours_102 7 rfl (by decide) rfl ?_
              refine r_goto (tgt := 46) C dX5_hours_105 (by decide) ?_
              refine r_lo [4, 5, 6, 7, 1, 2, 0] (lo2 := [(4, .long (lI (pwI (lbL Ly Wo 100 1) 6))), (2, .long (lI (lbL Ly Wo 100 1))), (0, .ref h0), (1, .int (iI cost)), (6, .int (iI c1)), (7, .long (lI (((bwV Ly Wo 1 c1) * (pwI (lbL Ly Wo 100 1) (6 - c1))) - ((c1 * cost) * (pwI (lbL Ly Wo 100 1) 6))))), (9, .int (iI (c1 + 1)))]) rfl ?_
              exact ih46 c1 (((bwV Ly Wo 1 c1) * (pwI (lbL Ly Wo 100 1) (6 - c1))) - ((c1 * cost) * (pwI (lbL Ly Wo 100 1) 6))) (c1 + 1) (by omega) (by omega) (by rw [iL, gIn_goW (by omega)]; first | (rw [hrF_t (by first | exact Or.inl (by omega) | exact Or.inr (by omega))]; done) | (rw [hrF_f (by intro q; rcases q with q | q <;> first | omega | (dsimp only at q; omega))]; done)) (by omega)
            · skip
              refine r_lload C dX5_hours_86 0 rfl ?_
              refine r_lload C dX5_hours_88 6 rfl ?_
              refine r_lcmp_le (tgt := 102) C dX5_hours_90 dX5_hours_91 (by decide) (by omega) (by omega) (fun h_8 => ?_) (fun h_8 => ?_)
              · skip
                refine r_iinc (lo2 := [(9, .int (iI (c1 + 1))), (10, .long (lI (((bwV Ly Wo 1 c1) * (pwI (lbL Ly Wo 100 1) (6 - c1))) - ((c1 * cost) * (pwI (lbL Ly Wo 100 1) 6))))), (4, .long (lI (pwI (lbL Ly Wo 100 1) 6))), (2, .long (lI (lbL Ly Wo 100 1))), (0, .ref h0), (1, .int (iI cost)), (6, .int (iI a2)), (7, .long (lI a1))]) C dX5_hours_102 7 rfl (by decide) rfl ?_
                refine r_goto (tgt := 46) C dX5_hours_105 (by decide) ?_
                refine r_lo [2, 3, 4, 5, 6, 7, 0] (lo2 := [(4, .long (lI (pwI (lbL Ly Wo 100 1) 6))), (2, .long (lI (lbL Ly Wo 100 1))), (0, .ref h0), (1, .int (iI cost)), (6, .int (iI a2)), (7, .long (lI a1)), (9, .int (iI (c1 + 1)))]) rfl ?_
                exact ih46 a2 a1 (c1 + 1) (by omega) (by omega) (by rw [iL, gIn_goW (by omega)]; first | (rw [hrF_t (by first | exact Or.inl (by omega) | exact Or.inr (by omega))]; done) | (rw [hrF_f (by intro q; rcases q with q | q <;> first | omega | (dsimp only at q; omega))]; done)) (by omega)
              · skip
                refine r_lload C dX5_hours_94 0 rfl ?_
                refine r_lstore (lo2 := [(7, .long (lI (((bwV Ly Wo 1 c1) * (pwI (lbL Ly Wo 100 1) (6 - c1))) - ((c1 * cost) * (pwI (lbL Ly Wo 100 1) 6))))), (10, .long (lI (((bwV Ly Wo 1 c1) * (pwI (lbL Ly Wo 100 1) (6 - c1))) - ((c1 * cost) * (pwI (lbL Ly Wo 100 1) 6))))), (4, .long (lI (pwI (lbL Ly Wo 100 1) 6))), (2, .long (lI (lbL Ly Wo 100 1))), (0, .ref h0), (1, .int (iI cost)), (6, .int (iI a2)), (9, .int (iI c1))]) C dX5_hours_96 (by decide) rfl ?_
                refine r_iload C dX5_hours_98 7 rfl ?_
                refine r_istore (lo2 := [(6, .int (iI c1)), (7, .long (lI (((bwV Ly Wo 1 c1) * (pwI (lbL Ly Wo 100 1) (6 - c1))) - ((c1 * cost) * (pwI (lbL Ly Wo 100 1) 6))))), (10, .long (lI (((bwV Ly Wo 1 c1) * (pwI (lbL Ly Wo 100 1) (6 - c1))) - ((c1 * cost) * (pwI (lbL Ly Wo 100 1) 6))))), (4, .long (lI (pwI (lbL Ly Wo 100 1) 6))), (2, .long (lI (lbL Ly Wo 100 1))), (0, .ref h0), (1, .int (iI cost)), (9, .int (iI c1))]) C dX5_hours_100 (by decide) rfl ?_
                refine r_iinc (lo2 := [(9, .int (iI (c1 + 1))), (6, .int (iI c1)), (7, .long (lI (((bwV Ly Wo 1 c1) * (pwI (lbL Ly Wo 100 1) (6 - c1))) - ((c1 * cost) * (pwI (lbL Ly Wo 100 1) 6))))), (10, .long (lI (((bwV Ly Wo 1 c1) * (pwI (lbL Ly Wo 100 1) (6 - c1))) - ((c1 * cost) * (pwI (lbL Ly Wo 100 1) 6))))), (4, .long (lI (pwI (lbL Ly Wo 100 1) 6))), (2, .long (lI (lbL Ly Wo 100 1))), (0, .ref h0), (1, .int (iI cost))]) C dX5_hours_102 7 rfl (by decide) rfl ?_
                refine r_goto (tgt := 46) C dX5_hours_105 (by decide) ?_
                refine r_lo [4, 5, 6, 7, 1, 2, 0] (lo2 := [(4, .long (lI (pwI (lbL Ly Wo 100 1) 6))), (2, .long (lI (lbL Ly Wo 100 1))), (0, .ref h0), (1, .int (iI cost)), (6, .int (iI c1)), (7, .long (lI (((bwV Ly Wo 1 c1) * (pwI (lbL Ly Wo 100 1) (6 - c1))) - ((c1 * cost) * (pwI (lbL Ly Wo 100 1) 6))))), (9, .int (iI (c1 + 1)))]) rfl ?_
                exact ih46 c1 (((bwV Ly Wo 1 c1) * (pwI (lbL Ly Wo 100 1) (6 - c1))) - ((c1 * cost) * (pwI (lbL Ly Wo 100 1) 6))) (c1 + 1) (by omega) (by omega) (by rw [iL, gIn_goW (by omega)]; first | (rw [hrF_t (by first | exact Or.inl (by omega) | exact Or.inr (by omega))]; done) | (rw [hrF_f (by intro q; rcases q with q | q <;> first | omega | (dsimp only at q; omega))]; done)) (by omega)
      refine r_lo [3, 4, 5, 6, 2, 1, 0] (lo2 := [(4, .long (lI (pwI (lbL Ly Wo 100 1) 6))), (2, .long (lI (lbL Ly Wo 100 1))), (0, .ref h0), (1, .int (iI cost)), (6, .int (iI 1)), (7, .long (lI 0)), (9, .int (iI 1))]) rfl ?_
      exact L46 ((7 - (1 : Int)).toNat + 1) 1 0 1 (by omega) (by omega) rfl (Nat.lt_succ_self _)
    · skip
      refine r_bipush C dX5_hours_26 (by decide) ?_
      exact g_ret_i C rfl dX5_hours_28 () trivial (by (repeat' split) <;> first | rfl | omega) [0, 1, 2] rfl (by (repeat' split) <;> first | rfl | omega)
  · skip
    refine r_if_ne (tgt := 13) C dX5_hours_7 (by decide) (by decide) (fun h_9 => absurd h_9 (by decide)) (fun h_9 => ?_)
    refine r_bipush C dX5_hours_10 (by decide) ?_
    exact g_ret_i C rfl dX5_hours_12 () trivial (by (repeat' split) <;> first | rfl | omega) [0, 1, 2] rfl (by (repeat' split) <;> first | rfl | omega)

set_option maxHeartbeats 4000000 in
set_option maxRecDepth 100000 in
theorem c_X5_lyingBelow_2 (l : Launch) (X : gX) (h0 : Nat) (s1 : Nat) (w0 : Nat) (t0 : Nat) (k0 : Nat) (r0 : Nat) (rp : Nat) (sh1 : Nat) (gf : Int) (gs : Int) (rc : Int) (tc : Int) (ft : Int) (sf : Nat → Option Nat) (sa : Nat → Nat) (Wt : Nat → Int) (Wd : Nat → Int) (Rg : Nat → Int) (Ly : Nat → Int) (Wo : Nat → Int) (w : Int) (hsf : ∀ j : Nat, j < 2 → sf j = some (sa j)) (hLy : ∀ j : Nat, j < 2 → 0 ≤ Ly j ∧ Ly j ≤ 9) (hWo : ∀ j : Nat, j < 2 → 0 ≤ Wo j ∧ Wo j ≤ 99) (hb_w : inB w) : gM l yX5_lyingBelow wsX5_lyingBelow (gr 1 0 0) X [(h0, .inr (5, [.ref s1, .int (iI 2), .ref w0, .ref t0, .ref k0, .ref r0, .int (iI gf), .int (iI gs), .ref rp, .int (iI rc), .ref sh1, .int (iI tc), .int (iI ft)])), (s1, .inl (X.2.1.2.1, 8, .inr (.inr (.inr (.inr sf))))), ((sa 0), .inr (3, [.int (iI (Wt 0)), .int (iI (Wd 0)), .int (iI (Rg 0)), .int (iI (Ly 0)), .int (iI (Wo 0))])), ((sa 1), .inr (3, [.int (iI (Wt 1)), .int (iI (Wd 1)), .int (iI (Rg 1)), .int (iI (Ly 1)), .int (iI (Wo 1))]))] [.ref h0, .int (iI w)] (gQl X (Y := Unit) (fun _ => (0 ≤ lbL Ly Wo w 2 ∧ lbL Ly Wo w 2 ≤ 72)) (fun _ => (lbL Ly Wo w 2)) (fun _ => [(h0, .inr (5, [.ref s1, .int (iI 2), .ref w0, .ref t0, .ref k0, .ref r0, .int (iI gf), .int (iI gs), .ref rp, .int (iI rc), .ref sh1, .int (iI tc), .int (iI ft)])), (s1, .inl (X.2.1.2.1, 8, .inr (.inr (.inr (.inr sf))))), ((sa 0), .inr (3, [.int (iI (Wt 0)), .int (iI (Wd 0)), .int (iI (Rg 0)), .int (iI (Ly 0)), .int (iI (Wo 0))])), ((sa 1), .inr (3, [.int (iI (Wt 1)), .int (iI (Wd 1)), .int (iI (Rg 1)), .int (iI (Ly 1)), .int (iI (Wo 1))]))])) 0 0 := by
  refine g_start2 (lo := [(0, .ref h0), (1, .int (iI w))]) (by decide +kernel) rfl rfl (Nat.le_of_ble_eq_true rfl) (fun p e s m args below meth c A C => ?_)
  have hLy0 := hLy 0 (by decide)
  have hWo0 := hWo 0 (by decide)
  have hLy1 := hLy 1 (by decide)
  have hWo1 := hWo 1 (by decide)
  refine r_lconst (z := 0) C dX5_lyingBelow_0 rfl ?_
  refine r_lstore_n (lo2 := [(2, .long (lI 0)), (0, .ref h0), (1, .int (iI w))]) C dX5_lyingBelow_1 rfl (by decide) rfl ?_
  refine r_iconst C dX5_lyingBelow_2 ?_
  refine r_istore (lo2 := [(4, .int (iI 0)), (2, .long (lI 0)), (0, .ref h0), (1, .int (iI w))]) C dX5_lyingBelow_3 (by decide) rfl ?_
  have J5_2 : ∀ (mk : Int), (mk = lbL Ly Wo w 2) → gW p l e (gr 1 0 0) s m args below meth c X A 6 (MQ below ((gQl X (Y := Unit) (fun _ => (0 ≤ lbL Ly Wo w 2 ∧ lbL Ly Wo w 2 ≤ 72)) (fun _ => (lbL Ly Wo w 2)) (fun _ => [(h0, .inr (5, [.ref s1, .int (iI 2), .ref w0, .ref t0, .ref k0, .ref r0, .int (iI gf), .int (iI gs), .ref rp, .int (iI rc), .ref sh1, .int (iI tc), .int (iI ft)])), (s1, .inl (X.2.1.2.1, 8, .inr (.inr (.inr (.inr sf))))), ((sa 0), .inr (3, [.int (iI (Wt 0)), .int (iI (Wd 0)), .int (iI (Rg 0)), .int (iI (Ly 0)), .int (iI (Wo 0))])), ((sa 1), .inr (3, [.int (iI (Wt 1)), .int (iI (Wd 1)), .int (iI (Rg 1)), .int (iI (Ly 1)), .int (iI (Wo 1))]))])) A) args s 0 0 A) 0 0 [(h0, .inr (5, [.ref s1, .int (iI 2), .ref w0, .ref t0, .ref k0, .ref r0, .int (iI gf), .int (iI gs), .ref rp, .int (iI rc), .ref sh1, .int (iI tc), .int (iI ft)])), (s1, .inl (X.2.1.2.1, 8, .inr (.inr (.inr (.inr sf))))), ((sa 0), .inr (3, [.int (iI (Wt 0)), .int (iI (Wd 0)), .int (iI (Rg 0)), .int (iI (Ly 0)), .int (iI (Wo 0))])), ((sa 1), .inr (3, [.int (iI (Wt 1)), .int (iI (Wd 1)), .int (iI (Rg 1)), .int (iI (Ly 1)), .int (iI (Wo 1))]))] 5 [(0, .ref h0), (1, .int (iI w)), (4, .int (iI 2)), (2, .long (lI mk))] [] := by
    intro mk im
    refine r_iload C dX5_lyingBelow_5 2 rfl ?_
    refine r_aload_n C dX5_lyingBelow_7 0 rfl ?_
    refine gf_5_1 C hi_X5_lyingBelow_5 kw_X5_lyingBelow_0 dX5_lyingBelow_8 0 rfl rfl ?_
    refine r_icmp_ge (tgt := 51) C dX5_lyingBelow_11 (by decide) (by decide) (by decide) (fun h_1 => ?_) (fun h_1 => absurd h_1 (by decide))
    refine r_lload_n C dX5_lyingBelow_51 3 rfl ?_
    exact g_ret_l C rfl dX5_lyingBelow_52 () (by have := lbL_B (Ly := Ly) (Wo := Wo) w 2 hLy; omega) im [0, 1, 2, 3] rfl (by (repeat' split) <;> first | rfl | omega)
  have J5_1 : ∀ (mk : Int), (mk = lbL Ly Wo w 1) → gW p l e (gr 1 0 0) s m args below meth c X A 6 (MQ below ((gQl X (Y := Unit) (fun _ => (0 ≤ lbL Ly Wo w 2 ∧ lbL Ly Wo w 2 ≤ 72)) (fun _ => (lbL Ly Wo w 2)) (fun _ => [(h0, .inr (5, [.ref s1, .int (iI 2), .ref w0, .ref t0, .ref k0, .ref r0, .int (iI gf), .int (iI gs), .ref rp, .int (iI rc), .ref sh1, .int (iI tc), .int (iI ft)])), (s1, .inl (X.2.1.2.1, 8, .inr (.inr (.inr (.inr sf))))), ((sa 0), .inr (3, [.int (iI (Wt 0)), .int (iI (Wd 0)), .int (iI (Rg 0)), .int (iI (Ly 0)), .int (iI (Wo 0))])), ((sa 1), .inr (3, [.int (iI (Wt 1)), .int (iI (Wd 1)), .int (iI (Rg 1)), .int (iI (Ly 1)), .int (iI (Wo 1))]))])) A) args s 0 0 A) 0 0 [(h0, .inr (5, [.ref s1, .int (iI 2), .ref w0, .ref t0, .ref k0, .ref r0, .int (iI gf), .int (iI gs), .ref rp, .int (iI rc), .ref sh1, .int (iI tc), .int (iI ft)])), (s1, .inl (X.2.1.2.1, 8, .inr (.inr (.inr (.inr sf))))), ((sa 0), .inr (3, [.int (iI (Wt 0)), .int (iI (Wd 0)), .int (iI (Rg 0)), .int (iI (Ly 0)), .int (iI (Wo 0))])), ((sa 1), .inr (3, [.int (iI (Wt 1)), .int (iI (Wd 1)), .int (iI (Rg 1)), .int (iI (Ly 1)), .int (iI (Wo 1))]))] 5 [(0, .ref h0), (1, .int (iI w)), (4, .int (iI 1)), (2, .long (lI mk))] [] := by
    intro mk im
    refine r_iload C dX5_lyingBelow_5 2 rfl ?_
    refine r_aload_n C dX5_lyingBelow_7 0 rfl ?_
    refine gf_5_1 C hi_X5_lyingBelow_5 kw_X5_lyingBelow_0 dX5_lyingBelow_8 0 rfl rfl ?_
    refine r_icmp_ge (tgt := 51) C dX5_lyingBelow_11 (by decide) (by decide) (by decide) (fun h_2 => absurd h_2 (by decide)) (fun h_2 => ?_)
    refine r_aload_n C dX5_lyingBelow_14 0 rfl ?_
    refine r_iload C dX5_lyingBelow_15 2 rfl ?_
    refine g_V_q (ws2 := (fun _ => [(h0, .inr (5, [.ref s1, .int (iI 2), .ref w0, .ref t0, .ref k0, .ref r0, .int (iI gf), .int (iI gs), .ref rp, .int (iI rc), .ref sh1, .int (iI tc), .int (iI ft)])), (s1, .inl (X.2.1.2.1, 8, .inr (.inr (.inr (.inr sf))))), ((sa 0), .inr (3, [.int (iI (Wt 0)), .int (iI (Wd 0)), .int (iI (Rg 0)), .int (iI (Ly 0)), .int (iI (Wo 0))])), ((sa 1), .inr (3, [.int (iI (Wt 1)), .int (iI (Wd 1)), .int (iI (Rg 1)), .int (iI (Ly 1)), .int (iI (Wo 1))]))])) (As := [.int (iI 1)]) C (c_X5_stoneAt_in l X h0 s1 w0 t0 k0 r0 rp sh1 2 gf gs rc tc ft sf (sa 1) 1 (by decide) (hsf 1 (by decide))) gX5_lyingBelow_X5_stoneAt rfl rfl rfl hd_V_X5_stoneAt_X5_lyingBelow (by decide) dX5_lyingBelow_17 [0, 1] [2, 3] [2, 3, 0, 1] rfl rfl rfl rfl (by decide) rfl 0 5 rfl rfl rfl rfl (Nat.le_of_ble_eq_true rfl) (by decide) (fun _ => rfl) (fun _ hy_ => ?_)
    clear hy_
    refine r_astore (lo2 := [(5, .ref (sa 1)), (0, .ref h0), (1, .int (iI w)), (4, .int (iI 1)), (2, .long (lI mk))]) C dX5_lyingBelow_20 (by decide) rfl ?_
    refine r_aload C dX5_lyingBelow_22 0 rfl ?_
    refine r_ifnull C dX5_lyingBelow_24 ?_
    refine r_aload C dX5_lyingBelow_27 0 rfl ?_
    refine gf_3_4 C hi_X5_lyingBelow_3 kw_X5_lyingBelow_1 dX5_lyingBelow_29 3 rfl rfl ?_
    refine r_iload_n C dX5_lyingBelow_32 2 rfl ?_
    refine r_icmp_ge (tgt := 45) C dX5_lyingBelow_33 (by decide) (by omega) (by omega) (fun h_3 => ?_) (fun h_3 => ?_)
    · skip
      refine r_iinc (lo2 := [(4, .int (iI 2)), (5, .ref (sa 1)), (0, .ref h0), (1, .int (iI w)), (2, .long (lI mk))]) C dX5_lyingBelow_45 3 rfl (by decide) rfl ?_
      refine r_goto (tgt := 5) C dX5_lyingBelow_48 (by decide) ?_
      refine r_lo [2, 3, 0, 4] (lo2 := [(0, .ref h0), (1, .int (iI w)), (4, .int (iI 2)), (2, .long (lI mk))]) rfl ?_
      exact J5_2 mk (by rw [im]; first | exact (lbL_t 1 (by omega)).symm | exact (lbL_f 1 (by omega)).symm)
    · skip
      refine r_lload_n C dX5_lyingBelow_36 4 rfl ?_
      refine r_aload C dX5_lyingBelow_37 0 rfl ?_
      refine gf_3_3 C hi_X5_lyingBelow_3 kw_X5_lyingBelow_2 dX5_lyingBelow_39 3 rfl rfl ?_
      refine r_i2l C dX5_lyingBelow_42 (by omega) ?_
      refine r_ladd C dX5_lyingBelow_43 ?_
      refine r_lstore_n (lo2 := [(2, .long (lI (mk + (Ly 1)))), (5, .ref (sa 1)), (0, .ref h0), (1, .int (iI w)), (4, .int (iI 1))]) C dX5_lyingBelow_44 rfl (by decide) rfl ?_
      refine r_iinc (lo2 := [(4, .int (iI 2)), (2, .long (lI (mk + (Ly 1)))), (5, .ref (sa 1)), (0, .ref h0), (1, .int (iI w))]) C dX5_lyingBelow_45 4 rfl (by decide) rfl ?_
      refine r_goto (tgt := 5) C dX5_lyingBelow_48 (by decide) ?_
      refine r_lo [3, 4, 0, 1] (lo2 := [(0, .ref h0), (1, .int (iI w)), (4, .int (iI 2)), (2, .long (lI (mk + (Ly 1))))]) rfl ?_
      exact J5_2 (mk + (Ly 1)) (by rw [im]; first | exact (lbL_t 1 (by omega)).symm | exact (lbL_f 1 (by omega)).symm)
  have J5_0 : ∀ (mk : Int), (mk = lbL Ly Wo w 0) → gW p l e (gr 1 0 0) s m args below meth c X A 6 (MQ below ((gQl X (Y := Unit) (fun _ => (0 ≤ lbL Ly Wo w 2 ∧ lbL Ly Wo w 2 ≤ 72)) (fun _ => (lbL Ly Wo w 2)) (fun _ => [(h0, .inr (5, [.ref s1, .int (iI 2), .ref w0, .ref t0, .ref k0, .ref r0, .int (iI gf), .int (iI gs), .ref rp, .int (iI rc), .ref sh1, .int (iI tc), .int (iI ft)])), (s1, .inl (X.2.1.2.1, 8, .inr (.inr (.inr (.inr sf))))), ((sa 0), .inr (3, [.int (iI (Wt 0)), .int (iI (Wd 0)), .int (iI (Rg 0)), .int (iI (Ly 0)), .int (iI (Wo 0))])), ((sa 1), .inr (3, [.int (iI (Wt 1)), .int (iI (Wd 1)), .int (iI (Rg 1)), .int (iI (Ly 1)), .int (iI (Wo 1))]))])) A) args s 0 0 A) 0 0 [(h0, .inr (5, [.ref s1, .int (iI 2), .ref w0, .ref t0, .ref k0, .ref r0, .int (iI gf), .int (iI gs), .ref rp, .int (iI rc), .ref sh1, .int (iI tc), .int (iI ft)])), (s1, .inl (X.2.1.2.1, 8, .inr (.inr (.inr (.inr sf))))), ((sa 0), .inr (3, [.int (iI (Wt 0)), .int (iI (Wd 0)), .int (iI (Rg 0)), .int (iI (Ly 0)), .int (iI (Wo 0))])), ((sa 1), .inr (3, [.int (iI (Wt 1)), .int (iI (Wd 1)), .int (iI (Rg 1)), .int (iI (Ly 1)), .int (iI (Wo 1))]))] 5 [(0, .ref h0), (1, .int (iI w)), (4, .int (iI 0)), (2, .long (lI mk))] [] := by
    intro mk im
    refine r_iload C dX5_lyingBelow_5 2 rfl ?_
    refine r_aload_n C dX5_lyingBelow_7 0 rfl ?_
    refine gf_5_1 C hi_X5_lyingBelow_5 kw_X5_lyingBelow_0 dX5_lyingBelow_8 0 rfl rfl ?_
    refine r_icmp_ge (tgt := 51) C dX5_lyingBelow_11 (by decide) (by decide) (by decide) (fun h_4 => absurd h_4 (by decide)) (fun h_4 => ?_)
    refine r_aload_n C dX5_lyingBelow_14 0 rfl ?_
    refine r_iload C dX5_lyingBelow_15 2 rfl ?_
    refine g_V_q (ws2 := (fun _ => [(h0, .inr (5, [.ref s1, .int (iI 2), .ref w0, .ref t0, .ref k0, .ref r0, .int (iI gf), .int (iI gs), .ref rp, .int (iI rc), .ref sh1, .int (iI tc), .int (iI ft)])), (s1, .inl (X.2.1.2.1, 8, .inr (.inr (.inr (.inr sf))))), ((sa 0), .inr (3, [.int (iI (Wt 0)), .int (iI (Wd 0)), .int (iI (Rg 0)), .int (iI (Ly 0)), .int (iI (Wo 0))])), ((sa 1), .inr (3, [.int (iI (Wt 1)), .int (iI (Wd 1)), .int (iI (Rg 1)), .int (iI (Ly 1)), .int (iI (Wo 1))]))])) (As := [.int (iI 0)]) C (c_X5_stoneAt_in l X h0 s1 w0 t0 k0 r0 rp sh1 2 gf gs rc tc ft sf (sa 0) 0 (by decide) (hsf 0 (by decide))) gX5_lyingBelow_X5_stoneAt rfl rfl rfl hd_V_X5_stoneAt_X5_lyingBelow (by decide) dX5_lyingBelow_17 [0, 1] [2, 3] [2, 3, 0, 1] rfl rfl rfl rfl (by decide) rfl 0 5 rfl rfl rfl rfl (Nat.le_of_ble_eq_true rfl) (by decide) (fun _ => rfl) (fun _ hy_ => ?_)
    clear hy_
    refine r_astore (lo2 := [(5, .ref (sa 0)), (0, .ref h0), (1, .int (iI w)), (4, .int (iI 0)), (2, .long (lI mk))]) C dX5_lyingBelow_20 (by decide) rfl ?_
    refine r_aload C dX5_lyingBelow_22 0 rfl ?_
    refine r_ifnull C dX5_lyingBelow_24 ?_
    refine r_aload C dX5_lyingBelow_27 0 rfl ?_
    refine gf_3_4 C hi_X5_lyingBelow_3 kw_X5_lyingBelow_1 dX5_lyingBelow_29 2 rfl rfl ?_
    refine r_iload_n C dX5_lyingBelow_32 2 rfl ?_
    refine r_icmp_ge (tgt := 45) C dX5_lyingBelow_33 (by decide) (by omega) (by omega) (fun h_5 => ?_) (fun h_5 => ?_)
    · skip
      refine r_iinc (lo2 := [(4, .int (iI 1)), (5, .ref (sa 0)), (0, .ref h0), (1, .int (iI w)), (2, .long (lI mk))]) C dX5_lyingBelow_45 3 rfl (by decide) rfl ?_
      refine r_goto (tgt := 5) C dX5_lyingBelow_48 (by decide) ?_
      refine r_lo [2, 3, 0, 4] (lo2 := [(0, .ref h0), (1, .int (iI w)), (4, .int (iI 1)), (2, .long (lI mk))]) rfl ?_
      exact J5_1 mk (by rw [im]; first | exact (lbL_t 0 (by omega)).symm | exact (lbL_f 0 (by omega)).symm)
    · skip
      refine r_lload_n C dX5_lyingBelow_36 4 rfl ?_
      refine r_aload C dX5_lyingBelow_37 0 rfl ?_
      refine gf_3_3 C hi_X5_lyingBelow_3 kw_X5_lyingBelow_2 dX5_lyingBelow_39 2 rfl rfl ?_
      refine r_i2l C dX5_lyingBelow_42 (by omega) ?_
      refine r_ladd C dX5_lyingBelow_43 ?_
      refine r_lstore_n (lo2 := [(2, .long (lI (mk + (Ly 0)))), (5, .ref (sa 0)), (0, .ref h0), (1, .int (iI w)), (4, .int (iI 0))]) C dX5_lyingBelow_44 rfl (by decide) rfl ?_
      refine r_iinc (lo2 := [(4, .int (iI 1)), (2, .long (lI (mk + (Ly 0)))), (5, .ref (sa 0)), (0, .ref h0), (1, .int (iI w))]) C dX5_lyingBelow_45 4 rfl (by decide) rfl ?_
      refine r_goto (tgt := 5) C dX5_lyingBelow_48 (by decide) ?_
      refine r_lo [3, 4, 0, 1] (lo2 := [(0, .ref h0), (1, .int (iI w)), (4, .int (iI 1)), (2, .long (lI (mk + (Ly 0))))]) rfl ?_
      exact J5_1 (mk + (Ly 0)) (by rw [im]; first | exact (lbL_t 0 (by omega)).symm | exact (lbL_f 0 (by omega)).symm)
  refine r_lo [2, 3, 0, 1] (lo2 := [(0, .ref h0), (1, .int (iI w)), (4, .int (iI 0)), (2, .long (lI 0))]) rfl ?_
  exact J5_0 0 rfl

set_option maxHeartbeats 4000000 in
set_option maxRecDepth 100000 in
theorem c_X5_bestWorths_2 (l : Launch) (X : gX) (h0 : Nat) (s1 : Nat) (w0 : Nat) (t0 : Nat) (k0 : Nat) (r0 : Nat) (rp : Nat) (sh1 : Nat) (gf : Int) (gs : Int) (rc : Int) (tc : Int) (ft : Int) (sf : Nat → Option Nat) (sa : Nat → Nat) (Wt : Nat → Int) (Wd : Nat → Int) (Rg : Nat → Int) (Ly : Nat → Int) (Wo : Nat → Int) (k : Int) (hsf : ∀ j : Nat, j < 2 → sf j = some (sa j)) (hLy : ∀ j : Nat, j < 2 → 0 ≤ Ly j ∧ Ly j ≤ 9) (hWo : ∀ j : Nat, j < 2 → 0 ≤ Wo j ∧ Wo j ≤ 99) (hk : 0 ≤ k ∧ k ≤ 6) : gM l yX5_bestWorths wsX5_bestWorths (gr 2 0 0) X [(h0, .inr (5, [.ref s1, .int (iI 2), .ref w0, .ref t0, .ref k0, .ref r0, .int (iI gf), .int (iI gs), .ref rp, .int (iI rc), .ref sh1, .int (iI tc), .int (iI ft)])), (s1, .inl (X.2.1.2.1, 8, .inr (.inr (.inr (.inr sf))))), ((sa 0), .inr (3, [.int (iI (Wt 0)), .int (iI (Wd 0)), .int (iI (Rg 0)), .int (iI (Ly 0)), .int (iI (Wo 0))])), ((sa 1), .inr (3, [.int (iI (Wt 1)), .int (iI (Wd 1)), .int (iI (Rg 1)), .int (iI (Ly 1)), .int (iI (Wo 1))]))] [.ref h0, .int (iI k)] (gQl X (Y := Unit) (fun _ => True) (fun _ => (bwV Ly Wo 2 k)) (fun _ => [(h0, .inr (5, [.ref s1, .int (iI 2), .ref w0, .ref t0, .ref k0, .ref r0, .int (iI gf), .int (iI gs), .ref rp, .int (iI rc), .ref sh1, .int (iI tc), .int (iI ft)])), (s1, .inl (X.2.1.2.1, 8, .inr (.inr (.inr (.inr sf))))), ((sa 0), .inr (3, [.int (iI (Wt 0)), .int (iI (Wd 0)), .int (iI (Rg 0)), .int (iI (Ly 0)), .int (iI (Wo 0))])), ((sa 1), .inr (3, [.int (iI (Wt 1)), .int (iI (Wd 1)), .int (iI (Rg 1)), .int (iI (Ly 1)), .int (iI (Wo 1))]))])) 0 0 := by
  refine g_start2 (lo := [(0, .ref h0), (1, .int (iI k))]) (by decide +kernel) rfl rfl (Nat.le_of_ble_eq_true rfl) (fun p e s m args below meth c A C => ?_)
  refine r_aload_n C dX5_bestWorths_0 0 rfl ?_
  refine r_bipush C dX5_bestWorths_1 (by decide) ?_
  refine g_V_l (ws2 := (fun _ => [(h0, .inr (5, [.ref s1, .int (iI 2), .ref w0, .ref t0, .ref k0, .ref r0, .int (iI gf), .int (iI gs), .ref rp, .int (iI rc), .ref sh1, .int (iI tc), .int (iI ft)])), (s1, .inl (X.2.1.2.1, 8, .inr (.inr (.inr (.inr sf))))), ((sa 0), .inr (3, [.int (iI (Wt 0)), .int (iI (Wd 0)), .int (iI (Rg 0)), .int (iI (Ly 0)), .int (iI (Wo 0))])), ((sa 1), .inr (3, [.int (iI (Wt 1)), .int (iI (Wd 1)), .int (iI (Rg 1)), .int (iI (Ly 1)), .int (iI (Wo 1))]))])) (As := [.int (iI 100)]) C (c_X5_lyingBelow_2 l X h0 s1 w0 t0 k0 r0 rp sh1 gf gs rc tc ft sf sa Wt Wd Rg Ly Wo 100 hsf hLy hWo (by first | assumption | omega)) gX5_bestWorths_X5_lyingBelow rfl rfl rfl hd_V_X5_lyingBelow_X5_bestWorths (by decide) dX5_bestWorths_3 [0, 1, 2, 3] [] [0, 1, 2, 3] rfl rfl rfl rfl (by decide) rfl 0 5 rfl rfl rfl rfl (Nat.le_of_ble_eq_true rfl) (by decide) (fun _ => rfl) (fun _ hy_ => ?_)
  have y_1 : 0 ≤ lbL Ly Wo 100 2 ∧ lbL Ly Wo 100 2 ≤ 72 := hy_
  clear hy_
  refine r_iload_n C dX5_bestWorths_6 1 rfl ?_
  refine g_S_l (ws2 := (fun _ => [(h0, .inr (5, [.ref s1, .int (iI 2), .ref w0, .ref t0, .ref k0, .ref r0, .int (iI gf), .int (iI gs), .ref rp, .int (iI rc), .ref sh1, .int (iI tc), .int (iI ft)])), (s1, .inl (X.2.1.2.1, 8, .inr (.inr (.inr (.inr sf))))), ((sa 0), .inr (3, [.int (iI (Wt 0)), .int (iI (Wd 0)), .int (iI (Rg 0)), .int (iI (Ly 0)), .int (iI (Wo 0))])), ((sa 1), .inr (3, [.int (iI (Wt 1)), .int (iI (Wd 1)), .int (iI (Rg 1)), .int (iI (Ly 1)), .int (iI (Wo 1))]))])) (As := [.long (lI (lbL Ly Wo 100 2)), .int (iI k)]) C (c_X5_power l X (lbL Ly Wo 100 2) k (by first | assumption | omega)) gX5_bestWorths_X5_power rfl rfl rfl hd_S_X5_power_X5_bestWorths (by decide) dX5_bestWorths_7 [] [0, 1, 2, 3] [0, 1, 2, 3] rfl rfl rfl rfl (by decide) rfl rfl rfl (Nat.le_of_ble_eq_true rfl) (by decide) (fun _ => rfl) (fun _ hy_ => ?_)
  clear hy_
  refine r_lstore_n (lo2 := [(2, .long (lI (pwI (lbL Ly Wo 100 2) k))), (0, .ref h0), (1, .int (iI k))]) C dX5_bestWorths_10 rfl (by decide) rfl ?_
  refine r_lconst (z := 0) C dX5_bestWorths_11 rfl ?_
  refine r_lstore (lo2 := [(4, .long (lI 0)), (2, .long (lI (pwI (lbL Ly Wo 100 2) k))), (0, .ref h0), (1, .int (iI k))]) C dX5_bestWorths_12 (by decide) rfl ?_
  refine r_iconst C dX5_bestWorths_14 ?_
  refine r_istore (lo2 := [(6, .int (iI 1)), (4, .long (lI 0)), (2, .long (lI (pwI (lbL Ly Wo 100 2) k))), (0, .ref h0), (1, .int (iI k))]) C dX5_bestWorths_15 (by decide) rfl ?_
  have L17 : ∀ (fu17 : Nat) (a1 : Int) (wk : Int), (1 ≤ wk ∧ wk ≤ 100) → (bwV Ly Wo 2 k = bwL (fun w => pwI (lbL Ly Wo w 2) k) (pwI (lbL Ly Wo 100 2) k) (100 - wk).toNat wk a1) → (100 - wk).toNat < fu17 → gW p l e (gr 2 0 0) s m args below meth c X A 7 (MQ below ((gQl X (Y := Unit) (fun _ => True) (fun _ => (bwV Ly Wo 2 k)) (fun _ => [(h0, .inr (5, [.ref s1, .int (iI 2), .ref w0, .ref t0, .ref k0, .ref r0, .int (iI gf), .int (iI gs), .ref rp, .int (iI rc), .ref sh1, .int (iI tc), .int (iI ft)])), (s1, .inl (X.2.1.2.1, 8, .inr (.inr (.inr (.inr sf))))), ((sa 0), .inr (3, [.int (iI (Wt 0)), .int (iI (Wd 0)), .int (iI (Rg 0)), .int (iI (Ly 0)), .int (iI (Wo 0))])), ((sa 1), .inr (3, [.int (iI (Wt 1)), .int (iI (Wd 1)), .int (iI (Rg 1)), .int (iI (Ly 1)), .int (iI (Wo 1))]))])) A) args s 0 0 A) 0 0 [(h0, .inr (5, [.ref s1, .int (iI 2), .ref w0, .ref t0, .ref k0, .ref r0, .int (iI gf), .int (iI gs), .ref rp, .int (iI rc), .ref sh1, .int (iI tc), .int (iI ft)])), (s1, .inl (X.2.1.2.1, 8, .inr (.inr (.inr (.inr sf))))), ((sa 0), .inr (3, [.int (iI (Wt 0)), .int (iI (Wd 0)), .int (iI (Rg 0)), .int (iI (Ly 0)), .int (iI (Wo 0))])), ((sa 1), .inr (3, [.int (iI (Wt 1)), .int (iI (Wd 1)), .int (iI (Rg 1)), .int (iI (Ly 1)), .int (iI (Wo 1))]))] 17 [(2, .long (lI (pwI (lbL Ly Wo 100 2) k))), (0, .ref h0), (1, .int (iI k)), (4, .long (lI a1)), (6, .int (iI wk))] [] := by
    intro fu17
    induction fu17 with
    | zero => intro a1 wk iw iB hm17; exact absurd hm17 (Nat.not_lt_zero _)
    | succ fu17 ih17 =>
      intro a1 wk iw iB hm17
      refine r_iload C dX5_bestWorths_17 4 rfl ?_
      refine r_bipush C dX5_bestWorths_19 (by decide) ?_
      refine r_icmp_gt (tgt := 47) C dX5_bestWorths_21 (by decide) (by omega) (by decide) (fun h_3 => ?_) (fun h_3 => ?_)
      · skip
        refine r_lload C dX5_bestWorths_47 3 rfl ?_
        exact g_ret_l C rfl dX5_bestWorths_49 () trivial (by rw [iB, show (100 - wk).toNat = 0 by omega]; rfl) [0, 1, 2, 3] rfl (by (repeat' split) <;> first | rfl | omega)
      · skip
        refine r_lload C dX5_bestWorths_24 3 rfl ?_
        refine r_lload_n C dX5_bestWorths_26 0 rfl ?_
        refine r_aload_n C dX5_bestWorths_27 1 rfl ?_
        refine r_iload C dX5_bestWorths_28 4 rfl ?_
        refine g_V_l (ws2 := (fun _ => [(h0, .inr (5, [.ref s1, .int (iI 2), .ref w0, .ref t0, .ref k0, .ref r0, .int (iI gf), .int (iI gs), .ref rp, .int (iI rc), .ref sh1, .int (iI tc), .int (iI ft)])), (s1, .inl (X.2.1.2.1, 8, .inr (.inr (.inr (.inr sf))))), ((sa 0), .inr (3, [.int (iI (Wt 0)), .int (iI (Wd 0)), .int (iI (Rg 0)), .int (iI (Ly 0)), .int (iI (Wo 0))])), ((sa 1), .inr (3, [.int (iI (Wt 1)), .int (iI (Wd 1)), .int (iI (Rg 1)), .int (iI (Ly 1)), .int (iI (Wo 1))]))])) (As := [.int (iI wk)]) C (c_X5_lyingBelow_2 l X h0 s1 w0 t0 k0 r0 rp sh1 gf gs rc tc ft sf sa Wt Wd Rg Ly Wo wk hsf hLy hWo (by first | assumption | omega)) gX5_bestWorths_X5_lyingBelow rfl rfl rfl hd_V_X5_lyingBelow_X5_bestWorths (by decide) dX5_bestWorths_30 [0, 1, 2, 3] [] [0, 1, 2, 3] rfl rfl rfl rfl (by decide) rfl 0 5 rfl rfl rfl rfl (Nat.le_of_ble_eq_true rfl) (by decide) (fun _ => rfl) (fun _ hy_ => ?_)
        have y_4 : 0 ≤ lbL Ly Wo wk 2 ∧ lbL Ly Wo wk 2 ≤ 72 := hy_
        clear hy_
        refine r_iload_n C dX5_bestWorths_33 2 rfl ?_
        refine g_S_l (ws2 := (fun _ => [(h0, .inr (5, [.ref s1, .int (iI 2), .ref w0, .ref t0, .ref k0, .ref r0, .int (iI gf), .int (iI gs), .ref rp, .int (iI rc), .ref sh1, .int (iI tc), .int (iI ft)])), (s1, .inl (X.2.1.2.1, 8, .inr (.inr (.inr (.inr sf))))), ((sa 0), .inr (3, [.int (iI (Wt 0)), .int (iI (Wd 0)), .int (iI (Rg 0)), .int (iI (Ly 0)), .int (iI (Wo 0))])), ((sa 1), .inr (3, [.int (iI (Wt 1)), .int (iI (Wd 1)), .int (iI (Rg 1)), .int (iI (Ly 1)), .int (iI (Wo 1))]))])) (As := [.long (lI (lbL Ly Wo wk 2)), .int (iI k)]) C (c_X5_power l X (lbL Ly Wo wk 2) k (by first | assumption | omega)) gX5_bestWorths_X5_power rfl rfl rfl hd_S_X5_power_X5_bestWorths (by decide) dX5_bestWorths_34 [] [0, 1, 2, 3] [0, 1, 2, 3] rfl rfl rfl rfl (by decide) rfl rfl rfl (Nat.le_of_ble_eq_true rfl) (by decide) (fun _ => rfl) (fun _ hy_ => ?_)
        clear hy_
        refine r_lsub C dX5_bestWorths_37 ?_
        refine r_ladd C dX5_bestWorths_38 ?_
        refine r_lstore (lo2 := [(4, .long (lI (a1 + ((pwI (lbL Ly Wo 100 2) k) - (pwI (lbL Ly Wo wk 2) k))))), (2, .long (lI (pwI (lbL Ly Wo 100 2) k))), (0, .ref h0), (1, .int (iI k)), (6, .int (iI wk))]) C dX5_bestWorths_39 (by decide) rfl ?_
        refine r_iinc (lo2 := [(6, .int (iI (wk + 1))), (4, .long (lI (a1 + ((pwI (lbL Ly Wo 100 2) k) - (pwI (lbL Ly Wo wk 2) k))))), (2, .long (lI (pwI (lbL Ly Wo 100 2) k))), (0, .ref h0), (1, .int (iI k))]) C dX5_bestWorths_41 4 rfl (by decide) rfl ?_
        refine r_goto (tgt := 17) C dX5_bestWorths_44 (by decide) ?_
        refine r_lo [2, 3, 4, 1, 0] (lo2 := [(2, .long (lI (pwI (lbL Ly Wo 100 2) k))), (0, .ref h0), (1, .int (iI k)), (4, .long (lI (a1 + ((pwI (lbL Ly Wo 100 2) k) - (pwI (lbL Ly Wo wk 2) k))))), (6, .int (iI (wk + 1)))]) rfl ?_
        exact ih17 (a1 + ((pwI (lbL Ly Wo 100 2) k) - (pwI (lbL Ly Wo wk 2) k))) (wk + 1) (by omega) (by rw [iB, bwL_go (by omega)]) (by omega)
  refine r_lo [2, 3, 4, 1, 0] (lo2 := [(2, .long (lI (pwI (lbL Ly Wo 100 2) k))), (0, .ref h0), (1, .int (iI k)), (4, .long (lI 0)), (6, .int (iI 1))]) rfl ?_
  exact L17 ((100 - (1 : Int)).toNat + 1) 0 1 (by omega) rfl (Nat.lt_succ_self _)

set_option maxHeartbeats 4000000 in
set_option maxRecDepth 100000 in
theorem c_X5_mean_2 (l : Launch) (X : gX) (h0 : Nat) (s1 : Nat) (w0 : Nat) (t0 : Nat) (k0 : Nat) (r0 : Nat) (rp : Nat) (sh1 : Nat) (gf : Int) (gs : Int) (rc : Int) (tc : Int) (ft : Int) (sf : Nat → Option Nat) (sa : Nat → Nat) (Wt : Nat → Int) (Wd : Nat → Int) (Rg : Nat → Int) (Ly : Nat → Int) (Wo : Nat → Int) (k : Int) (w : Int) (hsf : ∀ j : Nat, j < 2 → sf j = some (sa j)) (hLy : ∀ j : Nat, j < 2 → 0 ≤ Ly j ∧ Ly j ≤ 9) (hWo : ∀ j : Nat, j < 2 → 0 ≤ Wo j ∧ Wo j ≤ 99) (hb_k : inB k) (hb_w : inB w) : gM l yX5_mean wsX5_mean (gr 3 0 0) X [(h0, .inr (5, [.ref s1, .int (iI 2), .ref w0, .ref t0, .ref k0, .ref r0, .int (iI gf), .int (iI gs), .ref rp, .int (iI rc), .ref sh1, .int (iI tc), .int (iI ft)])), (s1, .inl (X.2.1.2.1, 8, .inr (.inr (.inr (.inr sf))))), ((sa 0), .inr (3, [.int (iI (Wt 0)), .int (iI (Wd 0)), .int (iI (Rg 0)), .int (iI (Ly 0)), .int (iI (Wo 0))])), ((sa 1), .inr (3, [.int (iI (Wt 1)), .int (iI (Wd 1)), .int (iI (Rg 1)), .int (iI (Ly 1)), .int (iI (Wo 1))]))] [.ref h0, .int (iI k), .int (iI w)] (gQl X (Y := Unit) (fun _ => True) (fun _ => (if 1 ≤ k ∧ k ≤ 6 ∧ 0 ≤ w ∧ w ≤ 1 ∧ ¬ (lbL Ly Wo 100 2) = 0 then shV (bwV Ly Wo 2 k) (pwI (lbL Ly Wo 100 2) k) w else -9223372036854775808)) (fun _ => [(h0, .inr (5, [.ref s1, .int (iI 2), .ref w0, .ref t0, .ref k0, .ref r0, .int (iI gf), .int (iI gs), .ref rp, .int (iI rc), .ref sh1, .int (iI tc), .int (iI ft)])), (s1, .inl (X.2.1.2.1, 8, .inr (.inr (.inr (.inr sf))))), ((sa 0), .inr (3, [.int (iI (Wt 0)), .int (iI (Wd 0)), .int (iI (Rg 0)), .int (iI (Ly 0)), .int (iI (Wo 0))])), ((sa 1), .inr (3, [.int (iI (Wt 1)), .int (iI (Wd 1)), .int (iI (Rg 1)), .int (iI (Ly 1)), .int (iI (Wo 1))]))])) 0 0 := by
  refine g_start2 (lo := [(0, .ref h0), (1, .int (iI k)), (2, .int (iI w))]) (by decide +kernel) rfl rfl (Nat.le_of_ble_eq_true rfl) (fun p e s m args below meth c A C => ?_)
  refine r_iload_n C dX5_mean_0 1 rfl ?_
  refine r_iconst C dX5_mean_1 ?_
  refine r_bipush C dX5_mean_2 (by decide) ?_
  refine g_S_i (ws2 := (fun _ => [(h0, .inr (5, [.ref s1, .int (iI 2), .ref w0, .ref t0, .ref k0, .ref r0, .int (iI gf), .int (iI gs), .ref rp, .int (iI rc), .ref sh1, .int (iI tc), .int (iI ft)])), (s1, .inl (X.2.1.2.1, 8, .inr (.inr (.inr (.inr sf))))), ((sa 0), .inr (3, [.int (iI (Wt 0)), .int (iI (Wd 0)), .int (iI (Rg 0)), .int (iI (Ly 0)), .int (iI (Wo 0))])), ((sa 1), .inr (3, [.int (iI (Wt 1)), .int (iI (Wd 1)), .int (iI (Rg 1)), .int (iI (Ly 1)), .int (iI (Wo 1))]))])) (As := [.int (iI k), .int (iI 1), .int (iI 6)]) C (c_X5_within l X k 1 6 (by first | assumption | omega) (by first | assumption | omega) (by first | assumption | omega)) gX5_mean_X5_within rfl rfl rfl hd_S_X5_within_X5_mean (by decide) dX5_mean_4 [] [0, 1, 2, 3] [0, 1, 2, 3] rfl rfl rfl rfl (by decide) rfl rfl rfl (Nat.le_of_ble_eq_true rfl) (by decide) (fun _ => rfl) (fun _ hy_ => ?_)
  clear hy_
  refine r_ite (fun h_1 => ?_) (fun h_1 => ?_)
  · skip
    refine r_if_eq (tgt := 19) C dX5_mean_7 (by decide) (by decide) (fun h_2 => absurd h_2 (by decide)) (fun h_2 => ?_)
    refine r_iload_n C dX5_mean_10 2 rfl ?_
    refine r_iconst C dX5_mean_11 ?_
    refine r_iconst C dX5_mean_12 ?_
    refine g_S_i (ws2 := (fun _ => [(h0, .inr (5, [.ref s1, .int (iI 2), .ref w0, .ref t0, .ref k0, .ref r0, .int (iI gf), .int (iI gs), .ref rp, .int (iI rc), .ref sh1, .int (iI tc), .int (iI ft)])), (s1, .inl (X.2.1.2.1, 8, .inr (.inr (.inr (.inr sf))))), ((sa 0), .inr (3, [.int (iI (Wt 0)), .int (iI (Wd 0)), .int (iI (Rg 0)), .int (iI (Ly 0)), .int (iI (Wo 0))])), ((sa 1), .inr (3, [.int (iI (Wt 1)), .int (iI (Wd 1)), .int (iI (Rg 1)), .int (iI (Ly 1)), .int (iI (Wo 1))]))])) (As := [.int (iI w), .int (iI 0), .int (iI 1)]) C (c_X5_within l X w 0 1 (by first | assumption | omega) (by first | assumption | omega) (by first | assumption | omega)) gX5_mean_X5_within rfl rfl rfl hd_S_X5_within_X5_mean (by decide) dX5_mean_13 [] [0, 1, 2, 3] [0, 1, 2, 3] rfl rfl rfl rfl (by decide) rfl rfl rfl (Nat.le_of_ble_eq_true rfl) (by decide) (fun _ => rfl) (fun _ hy_ => ?_)
    clear hy_
    refine r_ite (fun h_3 => ?_) (fun h_3 => ?_)
    · skip
      refine r_if_ne (tgt := 23) C dX5_mean_16 (by decide) (by decide) (fun h_4 => ?_) (fun h_4 => absurd h_4 (by decide))
      refine r_aload_n C dX5_mean_23 0 rfl ?_
      refine r_bipush C dX5_mean_24 (by decide) ?_
      refine g_V_l (ws2 := (fun _ => [(h0, .inr (5, [.ref s1, .int (iI 2), .ref w0, .ref t0, .ref k0, .ref r0, .int (iI gf), .int (iI gs), .ref rp, .int (iI rc), .ref sh1, .int (iI tc), .int (iI ft)])), (s1, .inl (X.2.1.2.1, 8, .inr (.inr (.inr (.inr sf))))), ((sa 0), .inr (3, [.int (iI (Wt 0)), .int (iI (Wd 0)), .int (iI (Rg 0)), .int (iI (Ly 0)), .int (iI (Wo 0))])), ((sa 1), .inr (3, [.int (iI (Wt 1)), .int (iI (Wd 1)), .int (iI (Rg 1)), .int (iI (Ly 1)), .int (iI (Wo 1))]))])) (As := [.int (iI 100)]) C (c_X5_lyingBelow_2 l X h0 s1 w0 t0 k0 r0 rp sh1 gf gs rc tc ft sf sa Wt Wd Rg Ly Wo 100 hsf hLy hWo (by first | assumption | omega)) gX5_mean_X5_lyingBelow rfl rfl rfl hd_V_X5_lyingBelow_X5_mean (by decide) dX5_mean_26 [0, 1, 2, 3] [] [0, 1, 2, 3] rfl rfl rfl rfl (by decide) rfl 0 5 rfl rfl rfl rfl (Nat.le_of_ble_eq_true rfl) (by decide) (fun _ => rfl) (fun _ hy_ => ?_)
      have y_5 : 0 ≤ lbL Ly Wo 100 2 ∧ lbL Ly Wo 100 2 ≤ 72 := hy_
      clear hy_
      refine r_lstore_n (lo2 := [(3, .long (lI (lbL Ly Wo 100 2))), (0, .ref h0), (1, .int (iI k)), (2, .int (iI w))]) C dX5_mean_29 rfl (by decide) rfl ?_
      refine r_lload_n C dX5_mean_30 0 rfl ?_
      refine r_lconst (z := 0) C dX5_mean_31 rfl ?_
      refine r_lcmp_ne (tgt := 40) C dX5_mean_32 dX5_mean_33 (by decide) (by omega) (by decide) (fun h_7 => ?_) (fun h_7 => ?_)
      · skip
        have bb := bwV_B (Ly := Ly) (Wo := Wo) (ns := 2) (k := k) (by decide) hLy (by omega) hWo
        have pp := pwI_72 (a := (lbL Ly Wo 100 2)) (k := k) (by omega) (by omega)
        have p1_ : 1 ≤ pwI (lbL Ly Wo 100 2) k := pwI_pos (by omega) _
        refine r_aload_n C dX5_mean_40 1 rfl ?_
        refine r_iload_n C dX5_mean_41 2 rfl ?_
        refine g_V_l (ws2 := (fun _ => [(h0, .inr (5, [.ref s1, .int (iI 2), .ref w0, .ref t0, .ref k0, .ref r0, .int (iI gf), .int (iI gs), .ref rp, .int (iI rc), .ref sh1, .int (iI tc), .int (iI ft)])), (s1, .inl (X.2.1.2.1, 8, .inr (.inr (.inr (.inr sf))))), ((sa 0), .inr (3, [.int (iI (Wt 0)), .int (iI (Wd 0)), .int (iI (Rg 0)), .int (iI (Ly 0)), .int (iI (Wo 0))])), ((sa 1), .inr (3, [.int (iI (Wt 1)), .int (iI (Wd 1)), .int (iI (Rg 1)), .int (iI (Ly 1)), .int (iI (Wo 1))]))])) (As := [.int (iI k)]) C (c_X5_bestWorths_2 l X h0 s1 w0 t0 k0 r0 rp sh1 gf gs rc tc ft sf sa Wt Wd Rg Ly Wo k hsf hLy hWo (by first | assumption | omega)) gX5_mean_X5_bestWorths rfl rfl rfl hd_V_X5_bestWorths_X5_mean (by decide) dX5_mean_42 [0, 1, 2, 3] [] [0, 1, 2, 3] rfl rfl rfl rfl (by decide) rfl 0 5 rfl rfl rfl rfl (Nat.le_of_ble_eq_true rfl) (by decide) (fun _ => rfl) (fun _ hy_ => ?_)
        clear hy_
        refine r_lload_n C dX5_mean_45 0 rfl ?_
        refine r_iload_n C dX5_mean_46 2 rfl ?_
        refine g_S_l (ws2 := (fun _ => [(h0, .inr (5, [.ref s1, .int (iI 2), .ref w0, .ref t0, .ref k0, .ref r0, .int (iI gf), .int (iI gs), .ref rp, .int (iI rc), .ref sh1, .int (iI tc), .int (iI ft)])), (s1, .inl (X.2.1.2.1, 8, .inr (.inr (.inr (.inr sf))))), ((sa 0), .inr (3, [.int (iI (Wt 0)), .int (iI (Wd 0)), .int (iI (Rg 0)), .int (iI (Ly 0)), .int (iI (Wo 0))])), ((sa 1), .inr (3, [.int (iI (Wt 1)), .int (iI (Wd 1)), .int (iI (Rg 1)), .int (iI (Ly 1)), .int (iI (Wo 1))]))])) (As := [.long (lI (lbL Ly Wo 100 2)), .int (iI k)]) C (c_X5_power l X (lbL Ly Wo 100 2) k (by first | assumption | omega)) gX5_mean_X5_power rfl rfl rfl hd_S_X5_power_X5_mean (by decide) dX5_mean_47 [] [0, 1, 2, 3] [0, 1, 2, 3] rfl rfl rfl rfl (by decide) rfl rfl rfl (Nat.le_of_ble_eq_true rfl) (by decide) (fun _ => rfl) (fun _ hy_ => ?_)
        clear hy_
        refine r_iload_n C dX5_mean_50 3 rfl ?_
        refine g_S_l (ws2 := (fun _ => [(h0, .inr (5, [.ref s1, .int (iI 2), .ref w0, .ref t0, .ref k0, .ref r0, .int (iI gf), .int (iI gs), .ref rp, .int (iI rc), .ref sh1, .int (iI tc), .int (iI ft)])), (s1, .inl (X.2.1.2.1, 8, .inr (.inr (.inr (.inr sf))))), ((sa 0), .inr (3, [.int (iI (Wt 0)), .int (iI (Wd 0)), .int (iI (Rg 0)), .int (iI (Ly 0)), .int (iI (Wo 0))])), ((sa 1), .inr (3, [.int (iI (Wt 1)), .int (iI (Wd 1)), .int (iI (Rg 1)), .int (iI (Ly 1)), .int (iI (Wo 1))]))])) (As := [.long (lI (bwV Ly Wo 2 k)), .long (lI (pwI (lbL Ly Wo 100 2) k)), .int (iI w)]) C (c_X5_share l X (bwV Ly Wo 2 k) (pwI (lbL Ly Wo 100 2) k) w (by first | assumption | omega) (by first | assumption | omega) (by first | assumption | omega)) gX5_mean_X5_share rfl rfl rfl hd_S_X5_share_X5_mean (by decide) dX5_mean_51 [] [0, 1, 2, 3] [0, 1, 2, 3] rfl rfl rfl rfl (by decide) rfl rfl rfl (Nat.le_of_ble_eq_true rfl) (by decide) (fun _ => rfl) (fun _ hy_ => ?_)
        clear hy_
        exact g_ret_l C rfl dX5_mean_54 () trivial (by first | (rw [if_pos (by omega)]; done) | (rw [if_neg (by omega)]; done)) [0, 1, 2, 3] rfl (by (repeat' split) <;> first | rfl | omega)
      · skip
        refine r_ldc2 (z := -9223372036854775808) C dX5_mean_36 kw_X5_mean_0 rfl ?_
        exact g_ret_l C rfl dX5_mean_39 () trivial (by first | (rw [if_pos (by omega)]; done) | (rw [if_neg (by omega)]; done)) [0, 1, 2, 3] rfl (by (repeat' split) <;> first | rfl | omega)
    · skip
      refine r_if_ne (tgt := 23) C dX5_mean_16 (by decide) (by decide) (fun h_8 => absurd h_8 (by decide)) (fun h_8 => ?_)
      refine r_ldc2 (z := -9223372036854775808) C dX5_mean_19 kw_X5_mean_0 rfl ?_
      exact g_ret_l C rfl dX5_mean_22 () trivial (by first | (rw [if_pos (by omega)]; done) | (rw [if_neg (by omega)]; done)) [0, 1, 2, 3] rfl (by (repeat' split) <;> first | rfl | omega)
  · skip
    refine r_if_eq (tgt := 19) C dX5_mean_7 (by decide) (by decide) (fun h_9 => ?_) (fun h_9 => absurd h_9 (by decide))
    refine r_ldc2 (z := -9223372036854775808) C dX5_mean_19 kw_X5_mean_0 rfl ?_
    exact g_ret_l C rfl dX5_mean_22 () trivial (by first | (rw [if_pos (by omega)]; done) | (rw [if_neg (by omega)]; done)) [0, 1, 2, 3] rfl (by (repeat' split) <;> first | rfl | omega)

set_option maxHeartbeats 4000000 in
set_option maxRecDepth 100000 in
theorem c_X5_hours_2 (l : Launch) (X : gX) (h0 : Nat) (s1 : Nat) (w0 : Nat) (t0 : Nat) (k0 : Nat) (r0 : Nat) (rp : Nat) (sh1 : Nat) (gf : Int) (gs : Int) (rc : Int) (tc : Int) (ft : Int) (sf : Nat → Option Nat) (sa : Nat → Nat) (Wt : Nat → Int) (Wd : Nat → Int) (Rg : Nat → Int) (Ly : Nat → Int) (Wo : Nat → Int) (cost : Int) (hsf : ∀ j : Nat, j < 2 → sf j = some (sa j)) (hLy : ∀ j : Nat, j < 2 → 0 ≤ Ly j ∧ Ly j ≤ 9) (hWo : ∀ j : Nat, j < 2 → 0 ≤ Wo j ∧ Wo j ≤ 99) (hb_cost : inB cost) : gM l yX5_hours wsX5_hours (gr 3 0 0) X [(h0, .inr (5, [.ref s1, .int (iI 2), .ref w0, .ref t0, .ref k0, .ref r0, .int (iI gf), .int (iI gs), .ref rp, .int (iI rc), .ref sh1, .int (iI tc), .int (iI ft)])), (s1, .inl (X.2.1.2.1, 8, .inr (.inr (.inr (.inr sf))))), ((sa 0), .inr (3, [.int (iI (Wt 0)), .int (iI (Wd 0)), .int (iI (Rg 0)), .int (iI (Ly 0)), .int (iI (Wo 0))])), ((sa 1), .inr (3, [.int (iI (Wt 1)), .int (iI (Wd 1)), .int (iI (Rg 1)), .int (iI (Ly 1)), .int (iI (Wo 1))]))] [.ref h0, .int (iI cost)] (gQi X (Y := Unit) (fun _ => True) (fun _ => (if ¬ (0 ≤ cost ∧ cost ≤ 99) then -2 else if (lbL Ly Wo 100 2) = 0 then -3 else (hrV Ly Wo 2 cost).2)) (fun _ => [(h0, .inr (5, [.ref s1, .int (iI 2), .ref w0, .ref t0, .ref k0, .ref r0, .int (iI gf), .int (iI gs), .ref rp, .int (iI rc), .ref sh1, .int (iI tc), .int (iI ft)])), (s1, .inl (X.2.1.2.1, 8, .inr (.inr (.inr (.inr sf))))), ((sa 0), .inr (3, [.int (iI (Wt 0)), .int (iI (Wd 0)), .int (iI (Rg 0)), .int (iI (Ly 0)), .int (iI (Wo 0))])), ((sa 1), .inr (3, [.int (iI (Wt 1)), .int (iI (Wd 1)), .int (iI (Rg 1)), .int (iI (Ly 1)), .int (iI (Wo 1))]))])) 0 0 := by
  refine g_start2 (lo := [(0, .ref h0), (1, .int (iI cost))]) (by decide +kernel) rfl rfl (Nat.le_of_ble_eq_true rfl) (fun p e s m args below meth c A C => ?_)
  refine r_iload_n C dX5_hours_0 1 rfl ?_
  refine r_iconst C dX5_hours_1 ?_
  refine r_bipush C dX5_hours_2 (by decide) ?_
  refine g_S_i (ws2 := (fun _ => [(h0, .inr (5, [.ref s1, .int (iI 2), .ref w0, .ref t0, .ref k0, .ref r0, .int (iI gf), .int (iI gs), .ref rp, .int (iI rc), .ref sh1, .int (iI tc), .int (iI ft)])), (s1, .inl (X.2.1.2.1, 8, .inr (.inr (.inr (.inr sf))))), ((sa 0), .inr (3, [.int (iI (Wt 0)), .int (iI (Wd 0)), .int (iI (Rg 0)), .int (iI (Ly 0)), .int (iI (Wo 0))])), ((sa 1), .inr (3, [.int (iI (Wt 1)), .int (iI (Wd 1)), .int (iI (Rg 1)), .int (iI (Ly 1)), .int (iI (Wo 1))]))])) (As := [.int (iI cost), .int (iI 0), .int (iI 99)]) C (c_X5_within l X cost 0 99 (by first | assumption | omega) (by first | assumption | omega) (by first | assumption | omega)) gX5_hours_X5_within rfl rfl rfl hd_S_X5_within_X5_hours (by decide) dX5_hours_4 [] [0, 1, 2, 3] [0, 1, 2, 3] rfl rfl rfl rfl (by decide) rfl rfl rfl (Nat.le_of_ble_eq_true rfl) (by decide) (fun _ => rfl) (fun _ hy_ => ?_)
  clear hy_
  refine r_ite (fun h_1 => ?_) (fun h_1 => ?_)
  · skip
    refine r_if_ne (tgt := 13) C dX5_hours_7 (by decide) (by decide) (fun h_2 => ?_) (fun h_2 => absurd h_2 (by decide))
    refine r_aload_n C dX5_hours_13 0 rfl ?_
    refine r_bipush C dX5_hours_14 (by decide) ?_
    refine g_V_l (ws2 := (fun _ => [(h0, .inr (5, [.ref s1, .int (iI 2), .ref w0, .ref t0, .ref k0, .ref r0, .int (iI gf), .int (iI gs), .ref rp, .int (iI rc), .ref sh1, .int (iI tc), .int (iI ft)])), (s1, .inl (X.2.1.2.1, 8, .inr (.inr (.inr (.inr sf))))), ((sa 0), .inr (3, [.int (iI (Wt 0)), .int (iI (Wd 0)), .int (iI (Rg 0)), .int (iI (Ly 0)), .int (iI (Wo 0))])), ((sa 1), .inr (3, [.int (iI (Wt 1)), .int (iI (Wd 1)), .int (iI (Rg 1)), .int (iI (Ly 1)), .int (iI (Wo 1))]))])) (As := [.int (iI 100)]) C (c_X5_lyingBelow_2 l X h0 s1 w0 t0 k0 r0 rp sh1 gf gs rc tc ft sf sa Wt Wd Rg Ly Wo 100 hsf hLy hWo (by first | assumption | omega)) gX5_hours_X5_lyingBelow rfl rfl rfl hd_V_X5_lyingBelow_X5_hours (by decide) dX5_hours_16 [0, 1, 2, 3] [] [0, 1, 2, 3] rfl rfl rfl rfl (by decide) rfl 0 5 rfl rfl rfl rfl (Nat.le_of_ble_eq_true rfl) (by decide) (fun _ => rfl) (fun _ hy_ => ?_)
    have y_3 : 0 ≤ lbL Ly Wo 100 2 ∧ lbL Ly Wo 100 2 ≤ 72 := hy_
    clear hy_
    refine r_lstore_n (lo2 := [(2, .long (lI (lbL Ly Wo 100 2))), (0, .ref h0), (1, .int (iI cost))]) C dX5_hours_19 rfl (by decide) rfl ?_
    refine r_lload_n C dX5_hours_20 0 rfl ?_
    refine r_lconst (z := 0) C dX5_hours_21 rfl ?_
    refine r_lcmp_ne (tgt := 29) C dX5_hours_22 dX5_hours_23 (by decide) (by omega) (by decide) (fun h_5 => ?_) (fun h_5 => ?_)
    · skip
      refine r_lload_n C dX5_hours_29 0 rfl ?_
      refine r_bipush C dX5_hours_30 (by decide) ?_
      refine g_S_l (ws2 := (fun _ => [(h0, .inr (5, [.ref s1, .int (iI 2), .ref w0, .ref t0, .ref k0, .ref r0, .int (iI gf), .int (iI gs), .ref rp, .int (iI rc), .ref sh1, .int (iI tc), .int (iI ft)])), (s1, .inl (X.2.1.2.1, 8, .inr (.inr (.inr (.inr sf))))), ((sa 0), .inr (3, [.int (iI (Wt 0)), .int (iI (Wd 0)), .int (iI (Rg 0)), .int (iI (Ly 0)), .int (iI (Wo 0))])), ((sa 1), .inr (3, [.int (iI (Wt 1)), .int (iI (Wd 1)), .int (iI (Rg 1)), .int (iI (Ly 1)), .int (iI (Wo 1))]))])) (As := [.long (lI (lbL Ly Wo 100 2)), .int (iI 6)]) C (c_X5_power l X (lbL Ly Wo 100 2) 6 (by first | assumption | omega)) gX5_hours_X5_power rfl rfl rfl hd_S_X5_power_X5_hours (by decide) dX5_hours_32 [] [0, 1, 2, 3] [0, 1, 2, 3] rfl rfl rfl rfl (by decide) rfl rfl rfl (Nat.le_of_ble_eq_true rfl) (by decide) (fun _ => rfl) (fun _ hy_ => ?_)
      clear hy_
      refine r_lstore (lo2 := [(4, .long (lI (pwI (lbL Ly Wo 100 2) 6))), (2, .long (lI (lbL Ly Wo 100 2))), (0, .ref h0), (1, .int (iI cost))]) C dX5_hours_35 (by decide) rfl ?_
      refine r_iconst C dX5_hours_37 ?_
      refine r_istore (lo2 := [(6, .int (iI 1)), (4, .long (lI (pwI (lbL Ly Wo 100 2) 6))), (2, .long (lI (lbL Ly Wo 100 2))), (0, .ref h0), (1, .int (iI cost))]) C dX5_hours_38 (by decide) rfl ?_
      refine r_lconst (z := 0) C dX5_hours_40 rfl ?_
      refine r_lstore (lo2 := [(7, .long (lI 0)), (6, .int (iI 1)), (4, .long (lI (pwI (lbL Ly Wo 100 2) 6))), (2, .long (lI (lbL Ly Wo 100 2))), (0, .ref h0), (1, .int (iI cost))]) C dX5_hours_41 (by decide) rfl ?_
      refine r_iconst C dX5_hours_43 ?_
      refine r_istore (lo2 := [(9, .int (iI 1)), (7, .long (lI 0)), (6, .int (iI 1)), (4, .long (lI (pwI (lbL Ly Wo 100 2) 6))), (2, .long (lI (lbL Ly Wo 100 2))), (0, .ref h0), (1, .int (iI cost))]) C dX5_hours_44 (by decide) rfl ?_
      have L46 : ∀ (fu46 : Nat) (a2 : Int) (a1 : Int) (c1 : Int), (1 ≤ c1 ∧ c1 ≤ 7) → (-100000000000000 ≤ a1 ∧ a1 ≤ 100000000000000) → (hrV Ly Wo 2 cost = gIn (hrF Ly Wo 2 cost) (7 - c1).toNat c1 (a1, a2)) → (7 - c1).toNat < fu46 → gW p l e (gr 3 0 0) s m args below meth c X A 12 (MQ below ((gQi X (Y := Unit) (fun _ => True) (fun _ => (if ¬ (0 ≤ cost ∧ cost ≤ 99) then -2 else if (lbL Ly Wo 100 2) = 0 then -3 else (hrV Ly Wo 2 cost).2)) (fun _ => [(h0, .inr (5, [.ref s1, .int (iI 2), .ref w0, .ref t0, .ref k0, .ref r0, .int (iI gf), .int (iI gs), .ref rp, .int (iI rc), .ref sh1, .int (iI tc), .int (iI ft)])), (s1, .inl (X.2.1.2.1, 8, .inr (.inr (.inr (.inr sf))))), ((sa 0), .inr (3, [.int (iI (Wt 0)), .int (iI (Wd 0)), .int (iI (Rg 0)), .int (iI (Ly 0)), .int (iI (Wo 0))])), ((sa 1), .inr (3, [.int (iI (Wt 1)), .int (iI (Wd 1)), .int (iI (Rg 1)), .int (iI (Ly 1)), .int (iI (Wo 1))]))])) A) args s 0 0 A) 0 0 [(h0, .inr (5, [.ref s1, .int (iI 2), .ref w0, .ref t0, .ref k0, .ref r0, .int (iI gf), .int (iI gs), .ref rp, .int (iI rc), .ref sh1, .int (iI tc), .int (iI ft)])), (s1, .inl (X.2.1.2.1, 8, .inr (.inr (.inr (.inr sf))))), ((sa 0), .inr (3, [.int (iI (Wt 0)), .int (iI (Wd 0)), .int (iI (Rg 0)), .int (iI (Ly 0)), .int (iI (Wo 0))])), ((sa 1), .inr (3, [.int (iI (Wt 1)), .int (iI (Wd 1)), .int (iI (Rg 1)), .int (iI (Ly 1)), .int (iI (Wo 1))]))] 46 [(4, .long (lI (pwI (lbL Ly Wo 100 2) 6))), (2, .long (lI (lbL Ly Wo 100 2))), (0, .ref h0), (1, .int (iI cost)), (6, .int (iI a2)), (7, .long (lI a1)), (9, .int (iI c1))] [] := by
        intro fu46
        induction fu46 with
        | zero => intro a2 a1 c1 ic ia iL hm46; exact absurd hm46 (Nat.not_lt_zero _)
        | succ fu46 ih46 =>
          intro a2 a1 c1 ic ia iL hm46
          refine r_iload C dX5_hours_46 6 rfl ?_
          refine r_bipush C dX5_hours_48 (by decide) ?_
          refine r_icmp_gt (tgt := 108) C dX5_hours_50 (by decide) (by omega) (by decide) (fun h_6 => ?_) (fun h_6 => ?_)
          · skip
            refine r_iload C dX5_hours_108 4 rfl ?_
            exact g_ret_i C rfl dX5_hours_110 () trivial (by rw [iL, gIn_endW (by omega)]; (repeat' split) <;> first | rfl | omega) [0, 1, 2, 3] rfl (by (repeat' split) <;> first | rfl | omega)
          · skip
            have hB := hr_B (Ly := Ly) (Wo := Wo) (ns := 2) (cost := cost) (n := c1) (by decide) hLy hWo (by omega) (by omega)
            have hm_ := mulB (a := c1) (b := cost) (A := 6) (B := 99) (by omega) (by omega)
            refine r_aload_n C dX5_hours_53 2 rfl ?_
            refine r_iload C dX5_hours_54 6 rfl ?_
            refine g_V_l (ws2 := (fun _ => [(h0, .inr (5, [.ref s1, .int (iI 2), .ref w0, .ref t0, .ref k0, .ref r0, .int (iI gf), .int (iI gs), .ref rp, .int (iI rc), .ref sh1, .int (iI tc), .int (iI ft)])), (s1, .inl (X.2.1.2.1, 8, .inr (.inr (.inr (.inr sf))))), ((sa 0), .inr (3, [.int (iI (Wt 0)), .int (iI (Wd 0)), .int (iI (Rg 0)), .int (iI (Ly 0)), .int (iI (Wo 0))])), ((sa 1), .inr (3, [.int (iI (Wt 1)), .int (iI (Wd 1)), .int (iI (Rg 1)), .int (iI (Ly 1)), .int (iI (Wo 1))]))])) (As := [.int (iI c1)]) C (c_X5_bestWorths_2 l X h0 s1 w0 t0 k0 r0 rp sh1 gf gs rc tc ft sf sa Wt Wd Rg Ly Wo c1 hsf hLy hWo (by first | assumption | omega)) gX5_hours_X5_bestWorths rfl rfl rfl hd_V_X5_bestWorths_X5_hours (by decide) dX5_hours_56 [0, 1, 2, 3] [] [0, 1, 2, 3] rfl rfl rfl rfl (by decide) rfl 0 5 rfl rfl rfl rfl (Nat.le_of_ble_eq_true rfl) (by decide) (fun _ => rfl) (fun _ hy_ => ?_)
            clear hy_
            refine r_lload_n C dX5_hours_59 1 rfl ?_
            refine r_bipush C dX5_hours_60 (by decide) ?_
            refine r_iload C dX5_hours_62 6 rfl ?_
            refine r_isub C dX5_hours_64 ?_
            refine g_S_l (ws2 := (fun _ => [(h0, .inr (5, [.ref s1, .int (iI 2), .ref w0, .ref t0, .ref k0, .ref r0, .int (iI gf), .int (iI gs), .ref rp, .int (iI rc), .ref sh1, .int (iI tc), .int (iI ft)])), (s1, .inl (X.2.1.2.1, 8, .inr (.inr (.inr (.inr sf))))), ((sa 0), .inr (3, [.int (iI (Wt 0)), .int (iI (Wd 0)), .int (iI (Rg 0)), .int (iI (Ly 0)), .int (iI (Wo 0))])), ((sa 1), .inr (3, [.int (iI (Wt 1)), .int (iI (Wd 1)), .int (iI (Rg 1)), .int (iI (Ly 1)), .int (iI (Wo 1))]))])) (As := [.long (lI (lbL Ly Wo 100 2)), .int (iI (6 - c1))]) C (c_X5_power l X (lbL Ly Wo 100 2) (6 - c1) (by first | assumption | omega)) gX5_hours_X5_power rfl rfl rfl hd_S_X5_power_X5_hours (by decide) dX5_hours_65 [] [0, 1, 2, 3] [0, 1, 2, 3] rfl rfl rfl rfl (by decide) rfl rfl rfl (Nat.le_of_ble_eq_true rfl) (by decide) (fun _ => rfl) (fun _ hy_ => ?_)
            clear hy_
            refine r_lmul C dX5_hours_68 ?_
            refine r_iload C dX5_hours_69 6 rfl ?_
            refine r_iload_n C dX5_hours_71 3 rfl ?_
            refine r_imul C dX5_hours_72 ?_
            refine r_i2l C dX5_hours_73 (by omega) ?_
            refine r_lload C dX5_hours_74 0 rfl ?_
            refine r_lmul C dX5_hours_76 ?_
            refine r_lsub C dX5_hours_77 ?_
            refine r_lstore (lo2 := [(10, .long (lI (((bwV Ly Wo 2 c1) * (pwI (lbL Ly Wo 100 2) (6 - c1))) - ((c1 * cost) * (pwI (lbL Ly Wo 100 2) 6))))), (4, .long (lI (pwI (lbL Ly Wo 100 2) 6))), (2, .long (lI (lbL Ly Wo 100 2))), (0, .ref h0), (1, .int (iI cost)), (6, .int (iI a2)), (7, .long (lI a1)), (9, .int (iI c1))]) C dX5_hours_78 (by decide) rfl ?_
            refine r_iload C dX5_hours_80 7 rfl ?_
            refine r_iconst C dX5_hours_82 ?_
            refine r_icmp_eq (tgt := 94) C dX5_hours_83 (by decide) (by omega) (by decide) (fun h_7 => ?_) (fun h_7 => ?_)
            · skip
              refine r_lload C dX5_hours_94 0 rfl ?_
              refine r_lstore (lo2 := [(7, .long (lI (((bwV Ly Wo 2 c1) * (pwI (lbL Ly Wo 100 2) (6 - c1))) - ((c1 * cost) * (pwI (lbL Ly Wo 100 2) 6))))), (10, .long (lI (((bwV Ly Wo 2 c1) * (pwI (lbL Ly Wo 100 2) (6 - c1))) - ((c1 * cost) * (pwI (lbL Ly Wo 100 2) 6))))), (4, .long (lI (pwI (lbL Ly Wo 100 2) 6))), (2, .long (lI (lbL Ly Wo 100 2))), (0, .ref h0), (1, .int (iI cost)), (6, .int (iI a2)), (9, .int (iI c1))]) C dX5_hours_96 (by decide) rfl ?_
              refine r_iload C dX5_hours_98 7 rfl ?_
              refine r_istore (lo2 := [(6, .int (iI c1)), (7, .long (lI (((bwV Ly Wo 2 c1) * (pwI (lbL Ly Wo 100 2) (6 - c1))) - ((c1 * cost) * (pwI (lbL Ly Wo 100 2) 6))))), (10, .long (lI (((bwV Ly Wo 2 c1) * (pwI (lbL Ly Wo 100 2) (6 - c1))) - ((c1 * cost) * (pwI (lbL Ly Wo 100 2) 6))))), (4, .long (lI (pwI (lbL Ly Wo 100 2) 6))), (2, .long (lI (lbL Ly Wo 100 2))), (0, .ref h0), (1, .int (iI cost)), (9, .int (iI c1))]) C dX5_hours_100 (by decide) rfl ?_
              refine r_iinc (lo2 := [(9, .int (iI (c1 + 1))), (6, .int (iI c1)), (7, .long (lI (((bwV Ly Wo 2 c1) * (pwI (lbL Ly Wo 100 2) (6 - c1))) - ((c1 * cost) * (pwI (lbL Ly Wo 100 2) 6))))), (10, .long (lI (((bwV Ly Wo 2 c1) * (pwI (lbL Ly Wo 100 2) (6 - c1))) - ((c1 * cost) * (pwI (lbL Ly Wo 100 2) 6))))), (4, .long (lI (pwI (lbL Ly Wo 100 2) 6))), (2, .long (lI (lbL Ly Wo 100 2))), (0, .ref h0), (1, .int (iI cost))]) C dX5_hours_102 7 rfl (by decide) rfl ?_
              refine r_goto (tgt := 46) C dX5_hours_105 (by decide) ?_
              refine r_lo [4, 5, 6, 7, 1, 2, 0] (lo2 := [(4, .long (lI (pwI (lbL Ly Wo 100 2) 6))), (2, .long (lI (lbL Ly Wo 100 2))), (0, .ref h0), (1, .int (iI cost)), (6, .int (iI c1)), (7, .long (lI (((bwV Ly Wo 2 c1) * (pwI (lbL Ly Wo 100 2) (6 - c1))) - ((c1 * cost) * (pwI (lbL Ly Wo 100 2) 6))))), (9, .int (iI (c1 + 1)))]) rfl ?_
              exact ih46 c1 (((bwV Ly Wo 2 c1) * (pwI (lbL Ly Wo 100 2) (6 - c1))) - ((c1 * cost) * (pwI (lbL Ly Wo 100 2) 6))) (c1 + 1) (by omega) (by omega) (by rw [iL, gIn_goW (by omega)]; first | (rw [hrF_t (by first | exact Or.inl (by omega) | exact Or.inr (by omega))]; done) | (rw [hrF_f (by intro q; rcases q with q | q <;> first | omega | (dsimp only at q; omega))]; done)) (by omega)
            · skip
              refine r_lload C dX5_hours_86 0 rfl ?_
              refine r_lload C dX5_hours_88 6 rfl ?_
              refine r_lcmp_le (tgt := 102) C dX5_hours_90 dX5_hours_91 (by decide) (by omega) (by omega) (fun h_8 => ?_) (fun h_8 => ?_)
              · skip
                refine r_iinc (lo2 := [(9, .int (iI (c1 + 1))), (10, .long (lI (((bwV Ly Wo 2 c1) * (pwI (lbL Ly Wo 100 2) (6 - c1))) - ((c1 * cost) * (pwI (lbL Ly Wo 100 2) 6))))), (4, .long (lI (pwI (lbL Ly Wo 100 2) 6))), (2, .long (lI (lbL Ly Wo 100 2))), (0, .ref h0), (1, .int (iI cost)), (6, .int (iI a2)), (7, .long (lI a1))]) C dX5_hours_102 7 rfl (by decide) rfl ?_
                refine r_goto (tgt := 46) C dX5_hours_105 (by decide) ?_
                refine r_lo [2, 3, 4, 5, 6, 7, 0] (lo2 := [(4, .long (lI (pwI (lbL Ly Wo 100 2) 6))), (2, .long (lI (lbL Ly Wo 100 2))), (0, .ref h0), (1, .int (iI cost)), (6, .int (iI a2)), (7, .long (lI a1)), (9, .int (iI (c1 + 1)))]) rfl ?_
                exact ih46 a2 a1 (c1 + 1) (by omega) (by omega) (by rw [iL, gIn_goW (by omega)]; first | (rw [hrF_t (by first | exact Or.inl (by omega) | exact Or.inr (by omega))]; done) | (rw [hrF_f (by intro q; rcases q with q | q <;> first | omega | (dsimp only at q; omega))]; done)) (by omega)
              · skip
                refine r_lload C dX5_hours_94 0 rfl ?_
                refine r_lstore (lo2 := [(7, .long (lI (((bwV Ly Wo 2 c1) * (pwI (lbL Ly Wo 100 2) (6 - c1))) - ((c1 * cost) * (pwI (lbL Ly Wo 100 2) 6))))), (10, .long (lI (((bwV Ly Wo 2 c1) * (pwI (lbL Ly Wo 100 2) (6 - c1))) - ((c1 * cost) * (pwI (lbL Ly Wo 100 2) 6))))), (4, .long (lI (pwI (lbL Ly Wo 100 2) 6))), (2, .long (lI (lbL Ly Wo 100 2))), (0, .ref h0), (1, .int (iI cost)), (6, .int (iI a2)), (9, .int (iI c1))]) C dX5_hours_96 (by decide) rfl ?_
                refine r_iload C dX5_hours_98 7 rfl ?_
                refine r_istore (lo2 := [(6, .int (iI c1)), (7, .long (lI (((bwV Ly Wo 2 c1) * (pwI (lbL Ly Wo 100 2) (6 - c1))) - ((c1 * cost) * (pwI (lbL Ly Wo 100 2) 6))))), (10, .long (lI (((bwV Ly Wo 2 c1) * (pwI (lbL Ly Wo 100 2) (6 - c1))) - ((c1 * cost) * (pwI (lbL Ly Wo 100 2) 6))))), (4, .long (lI (pwI (lbL Ly Wo 100 2) 6))), (2, .long (lI (lbL Ly Wo 100 2))), (0, .ref h0), (1, .int (iI cost)), (9, .int (iI c1))]) C dX5_hours_100 (by decide) rfl ?_
                refine r_iinc (lo2 := [(9, .int (iI (c1 + 1))), (6, .int (iI c1)), (7, .long (lI (((bwV Ly Wo 2 c1) * (pwI (lbL Ly Wo 100 2) (6 - c1))) - ((c1 * cost) * (pwI (lbL Ly Wo 100 2) 6))))), (10, .long (lI (((bwV Ly Wo 2 c1) * (pwI (lbL Ly Wo 100 2) (6 - c1))) - ((c1 * cost) * (pwI (lbL Ly Wo 100 2) 6))))), (4, .long (lI (pwI (lbL Ly Wo 100 2) 6))), (2, .long (lI (lbL Ly Wo 100 2))), (0, .ref h0), (1, .int (iI cost))]) C dX5_hours_102 7 rfl (by decide) rfl ?_
                refine r_goto (tgt := 46) C dX5_hours_105 (by decide) ?_
                refine r_lo [4, 5, 6, 7, 1, 2, 0] (lo2 := [(4, .long (lI (pwI (lbL Ly Wo 100 2) 6))), (2, .long (lI (lbL Ly Wo 100 2))), (0, .ref h0), (1, .int (iI cost)), (6, .int (iI c1)), (7, .long (lI (((bwV Ly Wo 2 c1) * (pwI (lbL Ly Wo 100 2) (6 - c1))) - ((c1 * cost) * (pwI (lbL Ly Wo 100 2) 6))))), (9, .int (iI (c1 + 1)))]) rfl ?_
                exact ih46 c1 (((bwV Ly Wo 2 c1) * (pwI (lbL Ly Wo 100 2) (6 - c1))) - ((c1 * cost) * (pwI (lbL Ly Wo 100 2) 6))) (c1 + 1) (by omega) (by omega) (by rw [iL, gIn_goW (by omega)]; first | (rw [hrF_t (by first | exact Or.inl (by omega) | exact Or.inr (by omega))]; done) | (rw [hrF_f (by intro q; rcases q with q | q <;> first | omega | (dsimp only at q; omega))]; done)) (by omega)
      refine r_lo [3, 4, 5, 6, 2, 1, 0] (lo2 := [(4, .long (lI (pwI (lbL Ly Wo 100 2) 6))), (2, .long (lI (lbL Ly Wo 100 2))), (0, .ref h0), (1, .int (iI cost)), (6, .int (iI 1)), (7, .long (lI 0)), (9, .int (iI 1))]) rfl ?_
      exact L46 ((7 - (1 : Int)).toNat + 1) 1 0 1 (by omega) (by omega) rfl (Nat.lt_succ_self _)
    · skip
      refine r_bipush C dX5_hours_26 (by decide) ?_
      exact g_ret_i C rfl dX5_hours_28 () trivial (by (repeat' split) <;> first | rfl | omega) [0, 1, 2, 3] rfl (by (repeat' split) <;> first | rfl | omega)
  · skip
    refine r_if_ne (tgt := 13) C dX5_hours_7 (by decide) (by decide) (fun h_9 => absurd h_9 (by decide)) (fun h_9 => ?_)
    refine r_bipush C dX5_hours_10 (by decide) ?_
    exact g_ret_i C rfl dX5_hours_12 () trivial (by (repeat' split) <;> first | rfl | omega) [0, 1, 2, 3] rfl (by (repeat' split) <;> first | rfl | omega)

set_option maxHeartbeats 4000000 in
set_option maxRecDepth 100000 in
theorem c_X5_lyingBelow_3 (l : Launch) (X : gX) (h0 : Nat) (s1 : Nat) (w0 : Nat) (t0 : Nat) (k0 : Nat) (r0 : Nat) (rp : Nat) (sh1 : Nat) (gf : Int) (gs : Int) (rc : Int) (tc : Int) (ft : Int) (sf : Nat → Option Nat) (sa : Nat → Nat) (Wt : Nat → Int) (Wd : Nat → Int) (Rg : Nat → Int) (Ly : Nat → Int) (Wo : Nat → Int) (w : Int) (hsf : ∀ j : Nat, j < 3 → sf j = some (sa j)) (hLy : ∀ j : Nat, j < 3 → 0 ≤ Ly j ∧ Ly j ≤ 9) (hWo : ∀ j : Nat, j < 3 → 0 ≤ Wo j ∧ Wo j ≤ 99) (hb_w : inB w) : gM l yX5_lyingBelow wsX5_lyingBelow (gr 1 0 0) X [(h0, .inr (5, [.ref s1, .int (iI 3), .ref w0, .ref t0, .ref k0, .ref r0, .int (iI gf), .int (iI gs), .ref rp, .int (iI rc), .ref sh1, .int (iI tc), .int (iI ft)])), (s1, .inl (X.2.1.2.1, 8, .inr (.inr (.inr (.inr sf))))), ((sa 0), .inr (3, [.int (iI (Wt 0)), .int (iI (Wd 0)), .int (iI (Rg 0)), .int (iI (Ly 0)), .int (iI (Wo 0))])), ((sa 1), .inr (3, [.int (iI (Wt 1)), .int (iI (Wd 1)), .int (iI (Rg 1)), .int (iI (Ly 1)), .int (iI (Wo 1))])), ((sa 2), .inr (3, [.int (iI (Wt 2)), .int (iI (Wd 2)), .int (iI (Rg 2)), .int (iI (Ly 2)), .int (iI (Wo 2))]))] [.ref h0, .int (iI w)] (gQl X (Y := Unit) (fun _ => (0 ≤ lbL Ly Wo w 3 ∧ lbL Ly Wo w 3 ≤ 72)) (fun _ => (lbL Ly Wo w 3)) (fun _ => [(h0, .inr (5, [.ref s1, .int (iI 3), .ref w0, .ref t0, .ref k0, .ref r0, .int (iI gf), .int (iI gs), .ref rp, .int (iI rc), .ref sh1, .int (iI tc), .int (iI ft)])), (s1, .inl (X.2.1.2.1, 8, .inr (.inr (.inr (.inr sf))))), ((sa 0), .inr (3, [.int (iI (Wt 0)), .int (iI (Wd 0)), .int (iI (Rg 0)), .int (iI (Ly 0)), .int (iI (Wo 0))])), ((sa 1), .inr (3, [.int (iI (Wt 1)), .int (iI (Wd 1)), .int (iI (Rg 1)), .int (iI (Ly 1)), .int (iI (Wo 1))])), ((sa 2), .inr (3, [.int (iI (Wt 2)), .int (iI (Wd 2)), .int (iI (Rg 2)), .int (iI (Ly 2)), .int (iI (Wo 2))]))])) 0 0 := by
  refine g_start2 (lo := [(0, .ref h0), (1, .int (iI w))]) (by decide +kernel) rfl rfl (Nat.le_of_ble_eq_true rfl) (fun p e s m args below meth c A C => ?_)
  have hLy0 := hLy 0 (by decide)
  have hWo0 := hWo 0 (by decide)
  have hLy1 := hLy 1 (by decide)
  have hWo1 := hWo 1 (by decide)
  have hLy2 := hLy 2 (by decide)
  have hWo2 := hWo 2 (by decide)
  refine r_lconst (z := 0) C dX5_lyingBelow_0 rfl ?_
  refine r_lstore_n (lo2 := [(2, .long (lI 0)), (0, .ref h0), (1, .int (iI w))]) C dX5_lyingBelow_1 rfl (by decide) rfl ?_
  refine r_iconst C dX5_lyingBelow_2 ?_
  refine r_istore (lo2 := [(4, .int (iI 0)), (2, .long (lI 0)), (0, .ref h0), (1, .int (iI w))]) C dX5_lyingBelow_3 (by decide) rfl ?_
  have J5_3 : ∀ (mk : Int), (mk = lbL Ly Wo w 3) → gW p l e (gr 1 0 0) s m args below meth c X A 6 (MQ below ((gQl X (Y := Unit) (fun _ => (0 ≤ lbL Ly Wo w 3 ∧ lbL Ly Wo w 3 ≤ 72)) (fun _ => (lbL Ly Wo w 3)) (fun _ => [(h0, .inr (5, [.ref s1, .int (iI 3), .ref w0, .ref t0, .ref k0, .ref r0, .int (iI gf), .int (iI gs), .ref rp, .int (iI rc), .ref sh1, .int (iI tc), .int (iI ft)])), (s1, .inl (X.2.1.2.1, 8, .inr (.inr (.inr (.inr sf))))), ((sa 0), .inr (3, [.int (iI (Wt 0)), .int (iI (Wd 0)), .int (iI (Rg 0)), .int (iI (Ly 0)), .int (iI (Wo 0))])), ((sa 1), .inr (3, [.int (iI (Wt 1)), .int (iI (Wd 1)), .int (iI (Rg 1)), .int (iI (Ly 1)), .int (iI (Wo 1))])), ((sa 2), .inr (3, [.int (iI (Wt 2)), .int (iI (Wd 2)), .int (iI (Rg 2)), .int (iI (Ly 2)), .int (iI (Wo 2))]))])) A) args s 0 0 A) 0 0 [(h0, .inr (5, [.ref s1, .int (iI 3), .ref w0, .ref t0, .ref k0, .ref r0, .int (iI gf), .int (iI gs), .ref rp, .int (iI rc), .ref sh1, .int (iI tc), .int (iI ft)])), (s1, .inl (X.2.1.2.1, 8, .inr (.inr (.inr (.inr sf))))), ((sa 0), .inr (3, [.int (iI (Wt 0)), .int (iI (Wd 0)), .int (iI (Rg 0)), .int (iI (Ly 0)), .int (iI (Wo 0))])), ((sa 1), .inr (3, [.int (iI (Wt 1)), .int (iI (Wd 1)), .int (iI (Rg 1)), .int (iI (Ly 1)), .int (iI (Wo 1))])), ((sa 2), .inr (3, [.int (iI (Wt 2)), .int (iI (Wd 2)), .int (iI (Rg 2)), .int (iI (Ly 2)), .int (iI (Wo 2))]))] 5 [(0, .ref h0), (1, .int (iI w)), (4, .int (iI 3)), (2, .long (lI mk))] [] := by
    intro mk im
    refine r_iload C dX5_lyingBelow_5 2 rfl ?_
    refine r_aload_n C dX5_lyingBelow_7 0 rfl ?_
    refine gf_5_1 C hi_X5_lyingBelow_5 kw_X5_lyingBelow_0 dX5_lyingBelow_8 0 rfl rfl ?_
    refine r_icmp_ge (tgt := 51) C dX5_lyingBelow_11 (by decide) (by decide) (by decide) (fun h_1 => ?_) (fun h_1 => absurd h_1 (by decide))
    refine r_lload_n C dX5_lyingBelow_51 3 rfl ?_
    exact g_ret_l C rfl dX5_lyingBelow_52 () (by have := lbL_B (Ly := Ly) (Wo := Wo) w 3 hLy; omega) im [0, 1, 2, 3, 4] rfl (by (repeat' split) <;> first | rfl | omega)
  have J5_2 : ∀ (mk : Int), (mk = lbL Ly Wo w 2) → gW p l e (gr 1 0 0) s m args below meth c X A 6 (MQ below ((gQl X (Y := Unit) (fun _ => (0 ≤ lbL Ly Wo w 3 ∧ lbL Ly Wo w 3 ≤ 72)) (fun _ => (lbL Ly Wo w 3)) (fun _ => [(h0, .inr (5, [.ref s1, .int (iI 3), .ref w0, .ref t0, .ref k0, .ref r0, .int (iI gf), .int (iI gs), .ref rp, .int (iI rc), .ref sh1, .int (iI tc), .int (iI ft)])), (s1, .inl (X.2.1.2.1, 8, .inr (.inr (.inr (.inr sf))))), ((sa 0), .inr (3, [.int (iI (Wt 0)), .int (iI (Wd 0)), .int (iI (Rg 0)), .int (iI (Ly 0)), .int (iI (Wo 0))])), ((sa 1), .inr (3, [.int (iI (Wt 1)), .int (iI (Wd 1)), .int (iI (Rg 1)), .int (iI (Ly 1)), .int (iI (Wo 1))])), ((sa 2), .inr (3, [.int (iI (Wt 2)), .int (iI (Wd 2)), .int (iI (Rg 2)), .int (iI (Ly 2)), .int (iI (Wo 2))]))])) A) args s 0 0 A) 0 0 [(h0, .inr (5, [.ref s1, .int (iI 3), .ref w0, .ref t0, .ref k0, .ref r0, .int (iI gf), .int (iI gs), .ref rp, .int (iI rc), .ref sh1, .int (iI tc), .int (iI ft)])), (s1, .inl (X.2.1.2.1, 8, .inr (.inr (.inr (.inr sf))))), ((sa 0), .inr (3, [.int (iI (Wt 0)), .int (iI (Wd 0)), .int (iI (Rg 0)), .int (iI (Ly 0)), .int (iI (Wo 0))])), ((sa 1), .inr (3, [.int (iI (Wt 1)), .int (iI (Wd 1)), .int (iI (Rg 1)), .int (iI (Ly 1)), .int (iI (Wo 1))])), ((sa 2), .inr (3, [.int (iI (Wt 2)), .int (iI (Wd 2)), .int (iI (Rg 2)), .int (iI (Ly 2)), .int (iI (Wo 2))]))] 5 [(0, .ref h0), (1, .int (iI w)), (4, .int (iI 2)), (2, .long (lI mk))] [] := by
    intro mk im
    refine r_iload C dX5_lyingBelow_5 2 rfl ?_
    refine r_aload_n C dX5_lyingBelow_7 0 rfl ?_
    refine gf_5_1 C hi_X5_lyingBelow_5 kw_X5_lyingBelow_0 dX5_lyingBelow_8 0 rfl rfl ?_
    refine r_icmp_ge (tgt := 51) C dX5_lyingBelow_11 (by decide) (by decide) (by decide) (fun h_2 => absurd h_2 (by decide)) (fun h_2 => ?_)
    refine r_aload_n C dX5_lyingBelow_14 0 rfl ?_
    refine r_iload C dX5_lyingBelow_15 2 rfl ?_
    refine g_V_q (ws2 := (fun _ => [(h0, .inr (5, [.ref s1, .int (iI 3), .ref w0, .ref t0, .ref k0, .ref r0, .int (iI gf), .int (iI gs), .ref rp, .int (iI rc), .ref sh1, .int (iI tc), .int (iI ft)])), (s1, .inl (X.2.1.2.1, 8, .inr (.inr (.inr (.inr sf))))), ((sa 0), .inr (3, [.int (iI (Wt 0)), .int (iI (Wd 0)), .int (iI (Rg 0)), .int (iI (Ly 0)), .int (iI (Wo 0))])), ((sa 1), .inr (3, [.int (iI (Wt 1)), .int (iI (Wd 1)), .int (iI (Rg 1)), .int (iI (Ly 1)), .int (iI (Wo 1))])), ((sa 2), .inr (3, [.int (iI (Wt 2)), .int (iI (Wd 2)), .int (iI (Rg 2)), .int (iI (Ly 2)), .int (iI (Wo 2))]))])) (As := [.int (iI 2)]) C (c_X5_stoneAt_in l X h0 s1 w0 t0 k0 r0 rp sh1 3 gf gs rc tc ft sf (sa 2) 2 (by decide) (hsf 2 (by decide))) gX5_lyingBelow_X5_stoneAt rfl rfl rfl hd_V_X5_stoneAt_X5_lyingBelow (by decide) dX5_lyingBelow_17 [0, 1] [2, 3, 4] [3, 4, 0, 1, 2] rfl rfl rfl rfl (by decide) rfl 0 5 rfl rfl rfl rfl (Nat.le_of_ble_eq_true rfl) (by decide) (fun _ => rfl) (fun _ hy_ => ?_)
    clear hy_
    refine r_astore (lo2 := [(5, .ref (sa 2)), (0, .ref h0), (1, .int (iI w)), (4, .int (iI 2)), (2, .long (lI mk))]) C dX5_lyingBelow_20 (by decide) rfl ?_
    refine r_aload C dX5_lyingBelow_22 0 rfl ?_
    refine r_ifnull C dX5_lyingBelow_24 ?_
    refine r_aload C dX5_lyingBelow_27 0 rfl ?_
    refine gf_3_4 C hi_X5_lyingBelow_3 kw_X5_lyingBelow_1 dX5_lyingBelow_29 4 rfl rfl ?_
    refine r_iload_n C dX5_lyingBelow_32 2 rfl ?_
    refine r_icmp_ge (tgt := 45) C dX5_lyingBelow_33 (by decide) (by omega) (by omega) (fun h_3 => ?_) (fun h_3 => ?_)
    · skip
      refine r_iinc (lo2 := [(4, .int (iI 3)), (5, .ref (sa 2)), (0, .ref h0), (1, .int (iI w)), (2, .long (lI mk))]) C dX5_lyingBelow_45 3 rfl (by decide) rfl ?_
      refine r_goto (tgt := 5) C dX5_lyingBelow_48 (by decide) ?_
      refine r_lo [2, 3, 0, 4] (lo2 := [(0, .ref h0), (1, .int (iI w)), (4, .int (iI 3)), (2, .long (lI mk))]) rfl ?_
      exact J5_3 mk (by rw [im]; first | exact (lbL_t 2 (by omega)).symm | exact (lbL_f 2 (by omega)).symm)
    · skip
      refine r_lload_n C dX5_lyingBelow_36 4 rfl ?_
      refine r_aload C dX5_lyingBelow_37 0 rfl ?_
      refine gf_3_3 C hi_X5_lyingBelow_3 kw_X5_lyingBelow_2 dX5_lyingBelow_39 4 rfl rfl ?_
      refine r_i2l C dX5_lyingBelow_42 (by omega) ?_
      refine r_ladd C dX5_lyingBelow_43 ?_
      refine r_lstore_n (lo2 := [(2, .long (lI (mk + (Ly 2)))), (5, .ref (sa 2)), (0, .ref h0), (1, .int (iI w)), (4, .int (iI 2))]) C dX5_lyingBelow_44 rfl (by decide) rfl ?_
      refine r_iinc (lo2 := [(4, .int (iI 3)), (2, .long (lI (mk + (Ly 2)))), (5, .ref (sa 2)), (0, .ref h0), (1, .int (iI w))]) C dX5_lyingBelow_45 4 rfl (by decide) rfl ?_
      refine r_goto (tgt := 5) C dX5_lyingBelow_48 (by decide) ?_
      refine r_lo [3, 4, 0, 1] (lo2 := [(0, .ref h0), (1, .int (iI w)), (4, .int (iI 3)), (2, .long (lI (mk + (Ly 2))))]) rfl ?_
      exact J5_3 (mk + (Ly 2)) (by rw [im]; first | exact (lbL_t 2 (by omega)).symm | exact (lbL_f 2 (by omega)).symm)
  have J5_1 : ∀ (mk : Int), (mk = lbL Ly Wo w 1) → gW p l e (gr 1 0 0) s m args below meth c X A 6 (MQ below ((gQl X (Y := Unit) (fun _ => (0 ≤ lbL Ly Wo w 3 ∧ lbL Ly Wo w 3 ≤ 72)) (fun _ => (lbL Ly Wo w 3)) (fun _ => [(h0, .inr (5, [.ref s1, .int (iI 3), .ref w0, .ref t0, .ref k0, .ref r0, .int (iI gf), .int (iI gs), .ref rp, .int (iI rc), .ref sh1, .int (iI tc), .int (iI ft)])), (s1, .inl (X.2.1.2.1, 8, .inr (.inr (.inr (.inr sf))))), ((sa 0), .inr (3, [.int (iI (Wt 0)), .int (iI (Wd 0)), .int (iI (Rg 0)), .int (iI (Ly 0)), .int (iI (Wo 0))])), ((sa 1), .inr (3, [.int (iI (Wt 1)), .int (iI (Wd 1)), .int (iI (Rg 1)), .int (iI (Ly 1)), .int (iI (Wo 1))])), ((sa 2), .inr (3, [.int (iI (Wt 2)), .int (iI (Wd 2)), .int (iI (Rg 2)), .int (iI (Ly 2)), .int (iI (Wo 2))]))])) A) args s 0 0 A) 0 0 [(h0, .inr (5, [.ref s1, .int (iI 3), .ref w0, .ref t0, .ref k0, .ref r0, .int (iI gf), .int (iI gs), .ref rp, .int (iI rc), .ref sh1, .int (iI tc), .int (iI ft)])), (s1, .inl (X.2.1.2.1, 8, .inr (.inr (.inr (.inr sf))))), ((sa 0), .inr (3, [.int (iI (Wt 0)), .int (iI (Wd 0)), .int (iI (Rg 0)), .int (iI (Ly 0)), .int (iI (Wo 0))])), ((sa 1), .inr (3, [.int (iI (Wt 1)), .int (iI (Wd 1)), .int (iI (Rg 1)), .int (iI (Ly 1)), .int (iI (Wo 1))])), ((sa 2), .inr (3, [.int (iI (Wt 2)), .int (iI (Wd 2)), .int (iI (Rg 2)), .int (iI (Ly 2)), .int (iI (Wo 2))]))] 5 [(0, .ref h0), (1, .int (iI w)), (4, .int (iI 1)), (2, .long (lI mk))] [] := by
    intro mk im
    refine r_iload C dX5_lyingBelow_5 2 rfl ?_
    refine r_aload_n C dX5_lyingBelow_7 0 rfl ?_
    refine gf_5_1 C hi_X5_lyingBelow_5 kw_X5_lyingBelow_0 dX5_lyingBelow_8 0 rfl rfl ?_
    refine r_icmp_ge (tgt := 51) C dX5_lyingBelow_11 (by decide) (by decide) (by decide) (fun h_4 => absurd h_4 (by decide)) (fun h_4 => ?_)
    refine r_aload_n C dX5_lyingBelow_14 0 rfl ?_
    refine r_iload C dX5_lyingBelow_15 2 rfl ?_
    refine g_V_q (ws2 := (fun _ => [(h0, .inr (5, [.ref s1, .int (iI 3), .ref w0, .ref t0, .ref k0, .ref r0, .int (iI gf), .int (iI gs), .ref rp, .int (iI rc), .ref sh1, .int (iI tc), .int (iI ft)])), (s1, .inl (X.2.1.2.1, 8, .inr (.inr (.inr (.inr sf))))), ((sa 0), .inr (3, [.int (iI (Wt 0)), .int (iI (Wd 0)), .int (iI (Rg 0)), .int (iI (Ly 0)), .int (iI (Wo 0))])), ((sa 1), .inr (3, [.int (iI (Wt 1)), .int (iI (Wd 1)), .int (iI (Rg 1)), .int (iI (Ly 1)), .int (iI (Wo 1))])), ((sa 2), .inr (3, [.int (iI (Wt 2)), .int (iI (Wd 2)), .int (iI (Rg 2)), .int (iI (Ly 2)), .int (iI (Wo 2))]))])) (As := [.int (iI 1)]) C (c_X5_stoneAt_in l X h0 s1 w0 t0 k0 r0 rp sh1 3 gf gs rc tc ft sf (sa 1) 1 (by decide) (hsf 1 (by decide))) gX5_lyingBelow_X5_stoneAt rfl rfl rfl hd_V_X5_stoneAt_X5_lyingBelow (by decide) dX5_lyingBelow_17 [0, 1] [2, 3, 4] [3, 4, 0, 1, 2] rfl rfl rfl rfl (by decide) rfl 0 5 rfl rfl rfl rfl (Nat.le_of_ble_eq_true rfl) (by decide) (fun _ => rfl) (fun _ hy_ => ?_)
    clear hy_
    refine r_astore (lo2 := [(5, .ref (sa 1)), (0, .ref h0), (1, .int (iI w)), (4, .int (iI 1)), (2, .long (lI mk))]) C dX5_lyingBelow_20 (by decide) rfl ?_
    refine r_aload C dX5_lyingBelow_22 0 rfl ?_
    refine r_ifnull C dX5_lyingBelow_24 ?_
    refine r_aload C dX5_lyingBelow_27 0 rfl ?_
    refine gf_3_4 C hi_X5_lyingBelow_3 kw_X5_lyingBelow_1 dX5_lyingBelow_29 3 rfl rfl ?_
    refine r_iload_n C dX5_lyingBelow_32 2 rfl ?_
    refine r_icmp_ge (tgt := 45) C dX5_lyingBelow_33 (by decide) (by omega) (by omega) (fun h_5 => ?_) (fun h_5 => ?_)
    · skip
      refine r_iinc (lo2 := [(4, .int (iI 2)), (5, .ref (sa 1)), (0, .ref h0), (1, .int (iI w)), (2, .long (lI mk))]) C dX5_lyingBelow_45 3 rfl (by decide) rfl ?_
      refine r_goto (tgt := 5) C dX5_lyingBelow_48 (by decide) ?_
      refine r_lo [2, 3, 0, 4] (lo2 := [(0, .ref h0), (1, .int (iI w)), (4, .int (iI 2)), (2, .long (lI mk))]) rfl ?_
      exact J5_2 mk (by rw [im]; first | exact (lbL_t 1 (by omega)).symm | exact (lbL_f 1 (by omega)).symm)
    · skip
      refine r_lload_n C dX5_lyingBelow_36 4 rfl ?_
      refine r_aload C dX5_lyingBelow_37 0 rfl ?_
      refine gf_3_3 C hi_X5_lyingBelow_3 kw_X5_lyingBelow_2 dX5_lyingBelow_39 3 rfl rfl ?_
      refine r_i2l C dX5_lyingBelow_42 (by omega) ?_
      refine r_ladd C dX5_lyingBelow_43 ?_
      refine r_lstore_n (lo2 := [(2, .long (lI (mk + (Ly 1)))), (5, .ref (sa 1)), (0, .ref h0), (1, .int (iI w)), (4, .int (iI 1))]) C dX5_lyingBelow_44 rfl (by decide) rfl ?_
      refine r_iinc (lo2 := [(4, .int (iI 2)), (2, .long (lI (mk + (Ly 1)))), (5, .ref (sa 1)), (0, .ref h0), (1, .int (iI w))]) C dX5_lyingBelow_45 4 rfl (by decide) rfl ?_
      refine r_goto (tgt := 5) C dX5_lyingBelow_48 (by decide) ?_
      refine r_lo [3, 4, 0, 1] (lo2 := [(0, .ref h0), (1, .int (iI w)), (4, .int (iI 2)), (2, .long (lI (mk + (Ly 1))))]) rfl ?_
      exact J5_2 (mk + (Ly 1)) (by rw [im]; first | exact (lbL_t 1 (by omega)).symm | exact (lbL_f 1 (by omega)).symm)
  have J5_0 : ∀ (mk : Int), (mk = lbL Ly Wo w 0) → gW p l e (gr 1 0 0) s m args below meth c X A 6 (MQ below ((gQl X (Y := Unit) (fun _ => (0 ≤ lbL Ly Wo w 3 ∧ lbL Ly Wo w 3 ≤ 72)) (fun _ => (lbL Ly Wo w 3)) (fun _ => [(h0, .inr (5, [.ref s1, .int (iI 3), .ref w0, .ref t0, .ref k0, .ref r0, .int (iI gf), .int (iI gs), .ref rp, .int (iI rc), .ref sh1, .int (iI tc), .int (iI ft)])), (s1, .inl (X.2.1.2.1, 8, .inr (.inr (.inr (.inr sf))))), ((sa 0), .inr (3, [.int (iI (Wt 0)), .int (iI (Wd 0)), .int (iI (Rg 0)), .int (iI (Ly 0)), .int (iI (Wo 0))])), ((sa 1), .inr (3, [.int (iI (Wt 1)), .int (iI (Wd 1)), .int (iI (Rg 1)), .int (iI (Ly 1)), .int (iI (Wo 1))])), ((sa 2), .inr (3, [.int (iI (Wt 2)), .int (iI (Wd 2)), .int (iI (Rg 2)), .int (iI (Ly 2)), .int (iI (Wo 2))]))])) A) args s 0 0 A) 0 0 [(h0, .inr (5, [.ref s1, .int (iI 3), .ref w0, .ref t0, .ref k0, .ref r0, .int (iI gf), .int (iI gs), .ref rp, .int (iI rc), .ref sh1, .int (iI tc), .int (iI ft)])), (s1, .inl (X.2.1.2.1, 8, .inr (.inr (.inr (.inr sf))))), ((sa 0), .inr (3, [.int (iI (Wt 0)), .int (iI (Wd 0)), .int (iI (Rg 0)), .int (iI (Ly 0)), .int (iI (Wo 0))])), ((sa 1), .inr (3, [.int (iI (Wt 1)), .int (iI (Wd 1)), .int (iI (Rg 1)), .int (iI (Ly 1)), .int (iI (Wo 1))])), ((sa 2), .inr (3, [.int (iI (Wt 2)), .int (iI (Wd 2)), .int (iI (Rg 2)), .int (iI (Ly 2)), .int (iI (Wo 2))]))] 5 [(0, .ref h0), (1, .int (iI w)), (4, .int (iI 0)), (2, .long (lI mk))] [] := by
    intro mk im
    refine r_iload C dX5_lyingBelow_5 2 rfl ?_
    refine r_aload_n C dX5_lyingBelow_7 0 rfl ?_
    refine gf_5_1 C hi_X5_lyingBelow_5 kw_X5_lyingBelow_0 dX5_lyingBelow_8 0 rfl rfl ?_
    refine r_icmp_ge (tgt := 51) C dX5_lyingBelow_11 (by decide) (by decide) (by decide) (fun h_6 => absurd h_6 (by decide)) (fun h_6 => ?_)
    refine r_aload_n C dX5_lyingBelow_14 0 rfl ?_
    refine r_iload C dX5_lyingBelow_15 2 rfl ?_
    refine g_V_q (ws2 := (fun _ => [(h0, .inr (5, [.ref s1, .int (iI 3), .ref w0, .ref t0, .ref k0, .ref r0, .int (iI gf), .int (iI gs), .ref rp, .int (iI rc), .ref sh1, .int (iI tc), .int (iI ft)])), (s1, .inl (X.2.1.2.1, 8, .inr (.inr (.inr (.inr sf))))), ((sa 0), .inr (3, [.int (iI (Wt 0)), .int (iI (Wd 0)), .int (iI (Rg 0)), .int (iI (Ly 0)), .int (iI (Wo 0))])), ((sa 1), .inr (3, [.int (iI (Wt 1)), .int (iI (Wd 1)), .int (iI (Rg 1)), .int (iI (Ly 1)), .int (iI (Wo 1))])), ((sa 2), .inr (3, [.int (iI (Wt 2)), .int (iI (Wd 2)), .int (iI (Rg 2)), .int (iI (Ly 2)), .int (iI (Wo 2))]))])) (As := [.int (iI 0)]) C (c_X5_stoneAt_in l X h0 s1 w0 t0 k0 r0 rp sh1 3 gf gs rc tc ft sf (sa 0) 0 (by decide) (hsf 0 (by decide))) gX5_lyingBelow_X5_stoneAt rfl rfl rfl hd_V_X5_stoneAt_X5_lyingBelow (by decide) dX5_lyingBelow_17 [0, 1] [2, 3, 4] [3, 4, 0, 1, 2] rfl rfl rfl rfl (by decide) rfl 0 5 rfl rfl rfl rfl (Nat.le_of_ble_eq_true rfl) (by decide) (fun _ => rfl) (fun _ hy_ => ?_)
    clear hy_
    refine r_astore (lo2 := [(5, .ref (sa 0)), (0, .ref h0), (1, .int (iI w)), (4, .int (iI 0)), (2, .long (lI mk))]) C dX5_lyingBelow_20 (by decide) rfl ?_
    refine r_aload C dX5_lyingBelow_22 0 rfl ?_
    refine r_ifnull C dX5_lyingBelow_24 ?_
    refine r_aload C dX5_lyingBelow_27 0 rfl ?_
    refine gf_3_4 C hi_X5_lyingBelow_3 kw_X5_lyingBelow_1 dX5_lyingBelow_29 2 rfl rfl ?_
    refine r_iload_n C dX5_lyingBelow_32 2 rfl ?_
    refine r_icmp_ge (tgt := 45) C dX5_lyingBelow_33 (by decide) (by omega) (by omega) (fun h_7 => ?_) (fun h_7 => ?_)
    · skip
      refine r_iinc (lo2 := [(4, .int (iI 1)), (5, .ref (sa 0)), (0, .ref h0), (1, .int (iI w)), (2, .long (lI mk))]) C dX5_lyingBelow_45 3 rfl (by decide) rfl ?_
      refine r_goto (tgt := 5) C dX5_lyingBelow_48 (by decide) ?_
      refine r_lo [2, 3, 0, 4] (lo2 := [(0, .ref h0), (1, .int (iI w)), (4, .int (iI 1)), (2, .long (lI mk))]) rfl ?_
      exact J5_1 mk (by rw [im]; first | exact (lbL_t 0 (by omega)).symm | exact (lbL_f 0 (by omega)).symm)
    · skip
      refine r_lload_n C dX5_lyingBelow_36 4 rfl ?_
      refine r_aload C dX5_lyingBelow_37 0 rfl ?_
      refine gf_3_3 C hi_X5_lyingBelow_3 kw_X5_lyingBelow_2 dX5_lyingBelow_39 2 rfl rfl ?_
      refine r_i2l C dX5_lyingBelow_42 (by omega) ?_
      refine r_ladd C dX5_lyingBelow_43 ?_
      refine r_lstore_n (lo2 := [(2, .long (lI (mk + (Ly 0)))), (5, .ref (sa 0)), (0, .ref h0), (1, .int (iI w)), (4, .int (iI 0))]) C dX5_lyingBelow_44 rfl (by decide) rfl ?_
      refine r_iinc (lo2 := [(4, .int (iI 1)), (2, .long (lI (mk + (Ly 0)))), (5, .ref (sa 0)), (0, .ref h0), (1, .int (iI w))]) C dX5_lyingBelow_45 4 rfl (by decide) rfl ?_
      refine r_goto (tgt := 5) C dX5_lyingBelow_48 (by decide) ?_
      refine r_lo [3, 4, 0, 1] (lo2 := [(0, .ref h0), (1, .int (iI w)), (4, .int (iI 1)), (2, .long (lI (mk + (Ly 0))))]) rfl ?_
      exact J5_1 (mk + (Ly 0)) (by rw [im]; first | exact (lbL_t 0 (by omega)).symm | exact (lbL_f 0 (by omega)).symm)
  refine r_lo [2, 3, 0, 1] (lo2 := [(0, .ref h0), (1, .int (iI w)), (4, .int (iI 0)), (2, .long (lI 0))]) rfl ?_
  exact J5_0 0 rfl

set_option maxHeartbeats 4000000 in
set_option maxRecDepth 100000 in
theorem c_X5_bestWorths_3 (l : Launch) (X : gX) (h0 : Nat) (s1 : Nat) (w0 : Nat) (t0 : Nat) (k0 : Nat) (r0 : Nat) (rp : Nat) (sh1 : Nat) (gf : Int) (gs : Int) (rc : Int) (tc : Int) (ft : Int) (sf : Nat → Option Nat) (sa : Nat → Nat) (Wt : Nat → Int) (Wd : Nat → Int) (Rg : Nat → Int) (Ly : Nat → Int) (Wo : Nat → Int) (k : Int) (hsf : ∀ j : Nat, j < 3 → sf j = some (sa j)) (hLy : ∀ j : Nat, j < 3 → 0 ≤ Ly j ∧ Ly j ≤ 9) (hWo : ∀ j : Nat, j < 3 → 0 ≤ Wo j ∧ Wo j ≤ 99) (hk : 0 ≤ k ∧ k ≤ 6) : gM l yX5_bestWorths wsX5_bestWorths (gr 2 0 0) X [(h0, .inr (5, [.ref s1, .int (iI 3), .ref w0, .ref t0, .ref k0, .ref r0, .int (iI gf), .int (iI gs), .ref rp, .int (iI rc), .ref sh1, .int (iI tc), .int (iI ft)])), (s1, .inl (X.2.1.2.1, 8, .inr (.inr (.inr (.inr sf))))), ((sa 0), .inr (3, [.int (iI (Wt 0)), .int (iI (Wd 0)), .int (iI (Rg 0)), .int (iI (Ly 0)), .int (iI (Wo 0))])), ((sa 1), .inr (3, [.int (iI (Wt 1)), .int (iI (Wd 1)), .int (iI (Rg 1)), .int (iI (Ly 1)), .int (iI (Wo 1))])), ((sa 2), .inr (3, [.int (iI (Wt 2)), .int (iI (Wd 2)), .int (iI (Rg 2)), .int (iI (Ly 2)), .int (iI (Wo 2))]))] [.ref h0, .int (iI k)] (gQl X (Y := Unit) (fun _ => True) (fun _ => (bwV Ly Wo 3 k)) (fun _ => [(h0, .inr (5, [.ref s1, .int (iI 3), .ref w0, .ref t0, .ref k0, .ref r0, .int (iI gf), .int (iI gs), .ref rp, .int (iI rc), .ref sh1, .int (iI tc), .int (iI ft)])), (s1, .inl (X.2.1.2.1, 8, .inr (.inr (.inr (.inr sf))))), ((sa 0), .inr (3, [.int (iI (Wt 0)), .int (iI (Wd 0)), .int (iI (Rg 0)), .int (iI (Ly 0)), .int (iI (Wo 0))])), ((sa 1), .inr (3, [.int (iI (Wt 1)), .int (iI (Wd 1)), .int (iI (Rg 1)), .int (iI (Ly 1)), .int (iI (Wo 1))])), ((sa 2), .inr (3, [.int (iI (Wt 2)), .int (iI (Wd 2)), .int (iI (Rg 2)), .int (iI (Ly 2)), .int (iI (Wo 2))]))])) 0 0 := by
  refine g_start2 (lo := [(0, .ref h0), (1, .int (iI k))]) (by decide +kernel) rfl rfl (Nat.le_of_ble_eq_true rfl) (fun p e s m args below meth c A C => ?_)
  refine r_aload_n C dX5_bestWorths_0 0 rfl ?_
  refine r_bipush C dX5_bestWorths_1 (by decide) ?_
  refine g_V_l (ws2 := (fun _ => [(h0, .inr (5, [.ref s1, .int (iI 3), .ref w0, .ref t0, .ref k0, .ref r0, .int (iI gf), .int (iI gs), .ref rp, .int (iI rc), .ref sh1, .int (iI tc), .int (iI ft)])), (s1, .inl (X.2.1.2.1, 8, .inr (.inr (.inr (.inr sf))))), ((sa 0), .inr (3, [.int (iI (Wt 0)), .int (iI (Wd 0)), .int (iI (Rg 0)), .int (iI (Ly 0)), .int (iI (Wo 0))])), ((sa 1), .inr (3, [.int (iI (Wt 1)), .int (iI (Wd 1)), .int (iI (Rg 1)), .int (iI (Ly 1)), .int (iI (Wo 1))])), ((sa 2), .inr (3, [.int (iI (Wt 2)), .int (iI (Wd 2)), .int (iI (Rg 2)), .int (iI (Ly 2)), .int (iI (Wo 2))]))])) (As := [.int (iI 100)]) C (c_X5_lyingBelow_3 l X h0 s1 w0 t0 k0 r0 rp sh1 gf gs rc tc ft sf sa Wt Wd Rg Ly Wo 100 hsf hLy hWo (by first | assumption | omega)) gX5_bestWorths_X5_lyingBelow rfl rfl rfl hd_V_X5_lyingBelow_X5_bestWorths (by decide) dX5_bestWorths_3 [0, 1, 2, 3, 4] [] [0, 1, 2, 3, 4] rfl rfl rfl rfl (by decide) rfl 0 5 rfl rfl rfl rfl (Nat.le_of_ble_eq_true rfl) (by decide) (fun _ => rfl) (fun _ hy_ => ?_)
  have y_1 : 0 ≤ lbL Ly Wo 100 3 ∧ lbL Ly Wo 100 3 ≤ 72 := hy_
  clear hy_
  refine r_iload_n C dX5_bestWorths_6 1 rfl ?_
  refine g_S_l (ws2 := (fun _ => [(h0, .inr (5, [.ref s1, .int (iI 3), .ref w0, .ref t0, .ref k0, .ref r0, .int (iI gf), .int (iI gs), .ref rp, .int (iI rc), .ref sh1, .int (iI tc), .int (iI ft)])), (s1, .inl (X.2.1.2.1, 8, .inr (.inr (.inr (.inr sf))))), ((sa 0), .inr (3, [.int (iI (Wt 0)), .int (iI (Wd 0)), .int (iI (Rg 0)), .int (iI (Ly 0)), .int (iI (Wo 0))])), ((sa 1), .inr (3, [.int (iI (Wt 1)), .int (iI (Wd 1)), .int (iI (Rg 1)), .int (iI (Ly 1)), .int (iI (Wo 1))])), ((sa 2), .inr (3, [.int (iI (Wt 2)), .int (iI (Wd 2)), .int (iI (Rg 2)), .int (iI (Ly 2)), .int (iI (Wo 2))]))])) (As := [.long (lI (lbL Ly Wo 100 3)), .int (iI k)]) C (c_X5_power l X (lbL Ly Wo 100 3) k (by first | assumption | omega)) gX5_bestWorths_X5_power rfl rfl rfl hd_S_X5_power_X5_bestWorths (by decide) dX5_bestWorths_7 [] [0, 1, 2, 3, 4] [0, 1, 2, 3, 4] rfl rfl rfl rfl (by decide) rfl rfl rfl (Nat.le_of_ble_eq_true rfl) (by decide) (fun _ => rfl) (fun _ hy_ => ?_)
  clear hy_
  refine r_lstore_n (lo2 := [(2, .long (lI (pwI (lbL Ly Wo 100 3) k))), (0, .ref h0), (1, .int (iI k))]) C dX5_bestWorths_10 rfl (by decide) rfl ?_
  refine r_lconst (z := 0) C dX5_bestWorths_11 rfl ?_
  refine r_lstore (lo2 := [(4, .long (lI 0)), (2, .long (lI (pwI (lbL Ly Wo 100 3) k))), (0, .ref h0), (1, .int (iI k))]) C dX5_bestWorths_12 (by decide) rfl ?_
  refine r_iconst C dX5_bestWorths_14 ?_
  refine r_istore (lo2 := [(6, .int (iI 1)), (4, .long (lI 0)), (2, .long (lI (pwI (lbL Ly Wo 100 3) k))), (0, .ref h0), (1, .int (iI k))]) C dX5_bestWorths_15 (by decide) rfl ?_
  have L17 : ∀ (fu17 : Nat) (a1 : Int) (wk : Int), (1 ≤ wk ∧ wk ≤ 100) → (bwV Ly Wo 3 k = bwL (fun w => pwI (lbL Ly Wo w 3) k) (pwI (lbL Ly Wo 100 3) k) (100 - wk).toNat wk a1) → (100 - wk).toNat < fu17 → gW p l e (gr 2 0 0) s m args below meth c X A 7 (MQ below ((gQl X (Y := Unit) (fun _ => True) (fun _ => (bwV Ly Wo 3 k)) (fun _ => [(h0, .inr (5, [.ref s1, .int (iI 3), .ref w0, .ref t0, .ref k0, .ref r0, .int (iI gf), .int (iI gs), .ref rp, .int (iI rc), .ref sh1, .int (iI tc), .int (iI ft)])), (s1, .inl (X.2.1.2.1, 8, .inr (.inr (.inr (.inr sf))))), ((sa 0), .inr (3, [.int (iI (Wt 0)), .int (iI (Wd 0)), .int (iI (Rg 0)), .int (iI (Ly 0)), .int (iI (Wo 0))])), ((sa 1), .inr (3, [.int (iI (Wt 1)), .int (iI (Wd 1)), .int (iI (Rg 1)), .int (iI (Ly 1)), .int (iI (Wo 1))])), ((sa 2), .inr (3, [.int (iI (Wt 2)), .int (iI (Wd 2)), .int (iI (Rg 2)), .int (iI (Ly 2)), .int (iI (Wo 2))]))])) A) args s 0 0 A) 0 0 [(h0, .inr (5, [.ref s1, .int (iI 3), .ref w0, .ref t0, .ref k0, .ref r0, .int (iI gf), .int (iI gs), .ref rp, .int (iI rc), .ref sh1, .int (iI tc), .int (iI ft)])), (s1, .inl (X.2.1.2.1, 8, .inr (.inr (.inr (.inr sf))))), ((sa 0), .inr (3, [.int (iI (Wt 0)), .int (iI (Wd 0)), .int (iI (Rg 0)), .int (iI (Ly 0)), .int (iI (Wo 0))])), ((sa 1), .inr (3, [.int (iI (Wt 1)), .int (iI (Wd 1)), .int (iI (Rg 1)), .int (iI (Ly 1)), .int (iI (Wo 1))])), ((sa 2), .inr (3, [.int (iI (Wt 2)), .int (iI (Wd 2)), .int (iI (Rg 2)), .int (iI (Ly 2)), .int (iI (Wo 2))]))] 17 [(2, .long (lI (pwI (lbL Ly Wo 100 3) k))), (0, .ref h0), (1, .int (iI k)), (4, .long (lI a1)), (6, .int (iI wk))] [] := by
    intro fu17
    induction fu17 with
    | zero => intro a1 wk iw iB hm17; exact absurd hm17 (Nat.not_lt_zero _)
    | succ fu17 ih17 =>
      intro a1 wk iw iB hm17
      refine r_iload C dX5_bestWorths_17 4 rfl ?_
      refine r_bipush C dX5_bestWorths_19 (by decide) ?_
      refine r_icmp_gt (tgt := 47) C dX5_bestWorths_21 (by decide) (by omega) (by decide) (fun h_3 => ?_) (fun h_3 => ?_)
      · skip
        refine r_lload C dX5_bestWorths_47 3 rfl ?_
        exact g_ret_l C rfl dX5_bestWorths_49 () trivial (by rw [iB, show (100 - wk).toNat = 0 by omega]; rfl) [0, 1, 2, 3, 4] rfl (by (repeat' split) <;> first | rfl | omega)
      · skip
        refine r_lload C dX5_bestWorths_24 3 rfl ?_
        refine r_lload_n C dX5_bestWorths_26 0 rfl ?_
        refine r_aload_n C dX5_bestWorths_27 1 rfl ?_
        refine r_iload C dX5_bestWorths_28 4 rfl ?_
        refine g_V_l (ws2 := (fun _ => [(h0, .inr (5, [.ref s1, .int (iI 3), .ref w0, .ref t0, .ref k0, .ref r0, .int (iI gf), .int (iI gs), .ref rp, .int (iI rc), .ref sh1, .int (iI tc), .int (iI ft)])), (s1, .inl (X.2.1.2.1, 8, .inr (.inr (.inr (.inr sf))))), ((sa 0), .inr (3, [.int (iI (Wt 0)), .int (iI (Wd 0)), .int (iI (Rg 0)), .int (iI (Ly 0)), .int (iI (Wo 0))])), ((sa 1), .inr (3, [.int (iI (Wt 1)), .int (iI (Wd 1)), .int (iI (Rg 1)), .int (iI (Ly 1)), .int (iI (Wo 1))])), ((sa 2), .inr (3, [.int (iI (Wt 2)), .int (iI (Wd 2)), .int (iI (Rg 2)), .int (iI (Ly 2)), .int (iI (Wo 2))]))])) (As := [.int (iI wk)]) C (c_X5_lyingBelow_3 l X h0 s1 w0 t0 k0 r0 rp sh1 gf gs rc tc ft sf sa Wt Wd Rg Ly Wo wk hsf hLy hWo (by first | assumption | omega)) gX5_bestWorths_X5_lyingBelow rfl rfl rfl hd_V_X5_lyingBelow_X5_bestWorths (by decide) dX5_bestWorths_30 [0, 1, 2, 3, 4] [] [0, 1, 2, 3, 4] rfl rfl rfl rfl (by decide) rfl 0 5 rfl rfl rfl rfl (Nat.le_of_ble_eq_true rfl) (by decide) (fun _ => rfl) (fun _ hy_ => ?_)
        have y_4 : 0 ≤ lbL Ly Wo wk 3 ∧ lbL Ly Wo wk 3 ≤ 72 := hy_
        clear hy_
        refine r_iload_n C dX5_bestWorths_33 2 rfl ?_
        refine g_S_l (ws2 := (fun _ => [(h0, .inr (5, [.ref s1, .int (iI 3), .ref w0, .ref t0, .ref k0, .ref r0, .int (iI gf), .int (iI gs), .ref rp, .int (iI rc), .ref sh1, .int (iI tc), .int (iI ft)])), (s1, .inl (X.2.1.2.1, 8, .inr (.inr (.inr (.inr sf))))), ((sa 0), .inr (3, [.int (iI (Wt 0)), .int (iI (Wd 0)), .int (iI (Rg 0)), .int (iI (Ly 0)), .int (iI (Wo 0))])), ((sa 1), .inr (3, [.int (iI (Wt 1)), .int (iI (Wd 1)), .int (iI (Rg 1)), .int (iI (Ly 1)), .int (iI (Wo 1))])), ((sa 2), .inr (3, [.int (iI (Wt 2)), .int (iI (Wd 2)), .int (iI (Rg 2)), .int (iI (Ly 2)), .int (iI (Wo 2))]))])) (As := [.long (lI (lbL Ly Wo wk 3)), .int (iI k)]) C (c_X5_power l X (lbL Ly Wo wk 3) k (by first | assumption | omega)) gX5_bestWorths_X5_power rfl rfl rfl hd_S_X5_power_X5_bestWorths (by decide) dX5_bestWorths_34 [] [0, 1, 2, 3, 4] [0, 1, 2, 3, 4] rfl rfl rfl rfl (by decide) rfl rfl rfl (Nat.le_of_ble_eq_true rfl) (by decide) (fun _ => rfl) (fun _ hy_ => ?_)
        clear hy_
        refine r_lsub C dX5_bestWorths_37 ?_
        refine r_ladd C dX5_bestWorths_38 ?_
        refine r_lstore (lo2 := [(4, .long (lI (a1 + ((pwI (lbL Ly Wo 100 3) k) - (pwI (lbL Ly Wo wk 3) k))))), (2, .long (lI (pwI (lbL Ly Wo 100 3) k))), (0, .ref h0), (1, .int (iI k)), (6, .int (iI wk))]) C dX5_bestWorths_39 (by decide) rfl ?_
        refine r_iinc (lo2 := [(6, .int (iI (wk + 1))), (4, .long (lI (a1 + ((pwI (lbL Ly Wo 100 3) k) - (pwI (lbL Ly Wo wk 3) k))))), (2, .long (lI (pwI (lbL Ly Wo 100 3) k))), (0, .ref h0), (1, .int (iI k))]) C dX5_bestWorths_41 4 rfl (by decide) rfl ?_
        refine r_goto (tgt := 17) C dX5_bestWorths_44 (by decide) ?_
        refine r_lo [2, 3, 4, 1, 0] (lo2 := [(2, .long (lI (pwI (lbL Ly Wo 100 3) k))), (0, .ref h0), (1, .int (iI k)), (4, .long (lI (a1 + ((pwI (lbL Ly Wo 100 3) k) - (pwI (lbL Ly Wo wk 3) k))))), (6, .int (iI (wk + 1)))]) rfl ?_
        exact ih17 (a1 + ((pwI (lbL Ly Wo 100 3) k) - (pwI (lbL Ly Wo wk 3) k))) (wk + 1) (by omega) (by rw [iB, bwL_go (by omega)]) (by omega)
  refine r_lo [2, 3, 4, 1, 0] (lo2 := [(2, .long (lI (pwI (lbL Ly Wo 100 3) k))), (0, .ref h0), (1, .int (iI k)), (4, .long (lI 0)), (6, .int (iI 1))]) rfl ?_
  exact L17 ((100 - (1 : Int)).toNat + 1) 0 1 (by omega) rfl (Nat.lt_succ_self _)

set_option maxHeartbeats 4000000 in
set_option maxRecDepth 100000 in
theorem c_X5_mean_3 (l : Launch) (X : gX) (h0 : Nat) (s1 : Nat) (w0 : Nat) (t0 : Nat) (k0 : Nat) (r0 : Nat) (rp : Nat) (sh1 : Nat) (gf : Int) (gs : Int) (rc : Int) (tc : Int) (ft : Int) (sf : Nat → Option Nat) (sa : Nat → Nat) (Wt : Nat → Int) (Wd : Nat → Int) (Rg : Nat → Int) (Ly : Nat → Int) (Wo : Nat → Int) (k : Int) (w : Int) (hsf : ∀ j : Nat, j < 3 → sf j = some (sa j)) (hLy : ∀ j : Nat, j < 3 → 0 ≤ Ly j ∧ Ly j ≤ 9) (hWo : ∀ j : Nat, j < 3 → 0 ≤ Wo j ∧ Wo j ≤ 99) (hb_k : inB k) (hb_w : inB w) : gM l yX5_mean wsX5_mean (gr 3 0 0) X [(h0, .inr (5, [.ref s1, .int (iI 3), .ref w0, .ref t0, .ref k0, .ref r0, .int (iI gf), .int (iI gs), .ref rp, .int (iI rc), .ref sh1, .int (iI tc), .int (iI ft)])), (s1, .inl (X.2.1.2.1, 8, .inr (.inr (.inr (.inr sf))))), ((sa 0), .inr (3, [.int (iI (Wt 0)), .int (iI (Wd 0)), .int (iI (Rg 0)), .int (iI (Ly 0)), .int (iI (Wo 0))])), ((sa 1), .inr (3, [.int (iI (Wt 1)), .int (iI (Wd 1)), .int (iI (Rg 1)), .int (iI (Ly 1)), .int (iI (Wo 1))])), ((sa 2), .inr (3, [.int (iI (Wt 2)), .int (iI (Wd 2)), .int (iI (Rg 2)), .int (iI (Ly 2)), .int (iI (Wo 2))]))] [.ref h0, .int (iI k), .int (iI w)] (gQl X (Y := Unit) (fun _ => True) (fun _ => (if 1 ≤ k ∧ k ≤ 6 ∧ 0 ≤ w ∧ w ≤ 1 ∧ ¬ (lbL Ly Wo 100 3) = 0 then shV (bwV Ly Wo 3 k) (pwI (lbL Ly Wo 100 3) k) w else -9223372036854775808)) (fun _ => [(h0, .inr (5, [.ref s1, .int (iI 3), .ref w0, .ref t0, .ref k0, .ref r0, .int (iI gf), .int (iI gs), .ref rp, .int (iI rc), .ref sh1, .int (iI tc), .int (iI ft)])), (s1, .inl (X.2.1.2.1, 8, .inr (.inr (.inr (.inr sf))))), ((sa 0), .inr (3, [.int (iI (Wt 0)), .int (iI (Wd 0)), .int (iI (Rg 0)), .int (iI (Ly 0)), .int (iI (Wo 0))])), ((sa 1), .inr (3, [.int (iI (Wt 1)), .int (iI (Wd 1)), .int (iI (Rg 1)), .int (iI (Ly 1)), .int (iI (Wo 1))])), ((sa 2), .inr (3, [.int (iI (Wt 2)), .int (iI (Wd 2)), .int (iI (Rg 2)), .int (iI (Ly 2)), .int (iI (Wo 2))]))])) 0 0 := by
  refine g_start2 (lo := [(0, .ref h0), (1, .int (iI k)), (2, .int (iI w))]) (by decide +kernel) rfl rfl (Nat.le_of_ble_eq_true rfl) (fun p e s m args below meth c A C => ?_)
  refine r_iload_n C dX5_mean_0 1 rfl ?_
  refine r_iconst C dX5_mean_1 ?_
  refine r_bipush C dX5_mean_2 (by decide) ?_
  refine g_S_i (ws2 := (fun _ => [(h0, .inr (5, [.ref s1, .int (iI 3), .ref w0, .ref t0, .ref k0, .ref r0, .int (iI gf), .int (iI gs), .ref rp, .int (iI rc), .ref sh1, .int (iI tc), .int (iI ft)])), (s1, .inl (X.2.1.2.1, 8, .inr (.inr (.inr (.inr sf))))), ((sa 0), .inr (3, [.int (iI (Wt 0)), .int (iI (Wd 0)), .int (iI (Rg 0)), .int (iI (Ly 0)), .int (iI (Wo 0))])), ((sa 1), .inr (3, [.int (iI (Wt 1)), .int (iI (Wd 1)), .int (iI (Rg 1)), .int (iI (Ly 1)), .int (iI (Wo 1))])), ((sa 2), .inr (3, [.int (iI (Wt 2)), .int (iI (Wd 2)), .int (iI (Rg 2)), .int (iI (Ly 2)), .int (iI (Wo 2))]))])) (As := [.int (iI k), .int (iI 1), .int (iI 6)]) C (c_X5_within l X k 1 6 (by first | assumption | omega) (by first | assumption | omega) (by first | assumption | omega)) gX5_mean_X5_within rfl rfl rfl hd_S_X5_within_X5_mean (by decide) dX5_mean_4 [] [0, 1, 2, 3, 4] [0, 1, 2, 3, 4] rfl rfl rfl rfl (by decide) rfl rfl rfl (Nat.le_of_ble_eq_true rfl) (by decide) (fun _ => rfl) (fun _ hy_ => ?_)
  clear hy_
  refine r_ite (fun h_1 => ?_) (fun h_1 => ?_)
  · skip
    refine r_if_eq (tgt := 19) C dX5_mean_7 (by decide) (by decide) (fun h_2 => absurd h_2 (by decide)) (fun h_2 => ?_)
    refine r_iload_n C dX5_mean_10 2 rfl ?_
    refine r_iconst C dX5_mean_11 ?_
    refine r_iconst C dX5_mean_12 ?_
    refine g_S_i (ws2 := (fun _ => [(h0, .inr (5, [.ref s1, .int (iI 3), .ref w0, .ref t0, .ref k0, .ref r0, .int (iI gf), .int (iI gs), .ref rp, .int (iI rc), .ref sh1, .int (iI tc), .int (iI ft)])), (s1, .inl (X.2.1.2.1, 8, .inr (.inr (.inr (.inr sf))))), ((sa 0), .inr (3, [.int (iI (Wt 0)), .int (iI (Wd 0)), .int (iI (Rg 0)), .int (iI (Ly 0)), .int (iI (Wo 0))])), ((sa 1), .inr (3, [.int (iI (Wt 1)), .int (iI (Wd 1)), .int (iI (Rg 1)), .int (iI (Ly 1)), .int (iI (Wo 1))])), ((sa 2), .inr (3, [.int (iI (Wt 2)), .int (iI (Wd 2)), .int (iI (Rg 2)), .int (iI (Ly 2)), .int (iI (Wo 2))]))])) (As := [.int (iI w), .int (iI 0), .int (iI 1)]) C (c_X5_within l X w 0 1 (by first | assumption | omega) (by first | assumption | omega) (by first | assumption | omega)) gX5_mean_X5_within rfl rfl rfl hd_S_X5_within_X5_mean (by decide) dX5_mean_13 [] [0, 1, 2, 3, 4] [0, 1, 2, 3, 4] rfl rfl rfl rfl (by decide) rfl rfl rfl (Nat.le_of_ble_eq_true rfl) (by decide) (fun _ => rfl) (fun _ hy_ => ?_)
    clear hy_
    refine r_ite (fun h_3 => ?_) (fun h_3 => ?_)
    · skip
      refine r_if_ne (tgt := 23) C dX5_mean_16 (by decide) (by decide) (fun h_4 => ?_) (fun h_4 => absurd h_4 (by decide))
      refine r_aload_n C dX5_mean_23 0 rfl ?_
      refine r_bipush C dX5_mean_24 (by decide) ?_
      refine g_V_l (ws2 := (fun _ => [(h0, .inr (5, [.ref s1, .int (iI 3), .ref w0, .ref t0, .ref k0, .ref r0, .int (iI gf), .int (iI gs), .ref rp, .int (iI rc), .ref sh1, .int (iI tc), .int (iI ft)])), (s1, .inl (X.2.1.2.1, 8, .inr (.inr (.inr (.inr sf))))), ((sa 0), .inr (3, [.int (iI (Wt 0)), .int (iI (Wd 0)), .int (iI (Rg 0)), .int (iI (Ly 0)), .int (iI (Wo 0))])), ((sa 1), .inr (3, [.int (iI (Wt 1)), .int (iI (Wd 1)), .int (iI (Rg 1)), .int (iI (Ly 1)), .int (iI (Wo 1))])), ((sa 2), .inr (3, [.int (iI (Wt 2)), .int (iI (Wd 2)), .int (iI (Rg 2)), .int (iI (Ly 2)), .int (iI (Wo 2))]))])) (As := [.int (iI 100)]) C (c_X5_lyingBelow_3 l X h0 s1 w0 t0 k0 r0 rp sh1 gf gs rc tc ft sf sa Wt Wd Rg Ly Wo 100 hsf hLy hWo (by first | assumption | omega)) gX5_mean_X5_lyingBelow rfl rfl rfl hd_V_X5_lyingBelow_X5_mean (by decide) dX5_mean_26 [0, 1, 2, 3, 4] [] [0, 1, 2, 3, 4] rfl rfl rfl rfl (by decide) rfl 0 5 rfl rfl rfl rfl (Nat.le_of_ble_eq_true rfl) (by decide) (fun _ => rfl) (fun _ hy_ => ?_)
      have y_5 : 0 ≤ lbL Ly Wo 100 3 ∧ lbL Ly Wo 100 3 ≤ 72 := hy_
      clear hy_
      refine r_lstore_n (lo2 := [(3, .long (lI (lbL Ly Wo 100 3))), (0, .ref h0), (1, .int (iI k)), (2, .int (iI w))]) C dX5_mean_29 rfl (by decide) rfl ?_
      refine r_lload_n C dX5_mean_30 0 rfl ?_
      refine r_lconst (z := 0) C dX5_mean_31 rfl ?_
      refine r_lcmp_ne (tgt := 40) C dX5_mean_32 dX5_mean_33 (by decide) (by omega) (by decide) (fun h_7 => ?_) (fun h_7 => ?_)
      · skip
        have bb := bwV_B (Ly := Ly) (Wo := Wo) (ns := 3) (k := k) (by decide) hLy (by omega) hWo
        have pp := pwI_72 (a := (lbL Ly Wo 100 3)) (k := k) (by omega) (by omega)
        have p1_ : 1 ≤ pwI (lbL Ly Wo 100 3) k := pwI_pos (by omega) _
        refine r_aload_n C dX5_mean_40 1 rfl ?_
        refine r_iload_n C dX5_mean_41 2 rfl ?_
        refine g_V_l (ws2 := (fun _ => [(h0, .inr (5, [.ref s1, .int (iI 3), .ref w0, .ref t0, .ref k0, .ref r0, .int (iI gf), .int (iI gs), .ref rp, .int (iI rc), .ref sh1, .int (iI tc), .int (iI ft)])), (s1, .inl (X.2.1.2.1, 8, .inr (.inr (.inr (.inr sf))))), ((sa 0), .inr (3, [.int (iI (Wt 0)), .int (iI (Wd 0)), .int (iI (Rg 0)), .int (iI (Ly 0)), .int (iI (Wo 0))])), ((sa 1), .inr (3, [.int (iI (Wt 1)), .int (iI (Wd 1)), .int (iI (Rg 1)), .int (iI (Ly 1)), .int (iI (Wo 1))])), ((sa 2), .inr (3, [.int (iI (Wt 2)), .int (iI (Wd 2)), .int (iI (Rg 2)), .int (iI (Ly 2)), .int (iI (Wo 2))]))])) (As := [.int (iI k)]) C (c_X5_bestWorths_3 l X h0 s1 w0 t0 k0 r0 rp sh1 gf gs rc tc ft sf sa Wt Wd Rg Ly Wo k hsf hLy hWo (by first | assumption | omega)) gX5_mean_X5_bestWorths rfl rfl rfl hd_V_X5_bestWorths_X5_mean (by decide) dX5_mean_42 [0, 1, 2, 3, 4] [] [0, 1, 2, 3, 4] rfl rfl rfl rfl (by decide) rfl 0 5 rfl rfl rfl rfl (Nat.le_of_ble_eq_true rfl) (by decide) (fun _ => rfl) (fun _ hy_ => ?_)
        clear hy_
        refine r_lload_n C dX5_mean_45 0 rfl ?_
        refine r_iload_n C dX5_mean_46 2 rfl ?_
        refine g_S_l (ws2 := (fun _ => [(h0, .inr (5, [.ref s1, .int (iI 3), .ref w0, .ref t0, .ref k0, .ref r0, .int (iI gf), .int (iI gs), .ref rp, .int (iI rc), .ref sh1, .int (iI tc), .int (iI ft)])), (s1, .inl (X.2.1.2.1, 8, .inr (.inr (.inr (.inr sf))))), ((sa 0), .inr (3, [.int (iI (Wt 0)), .int (iI (Wd 0)), .int (iI (Rg 0)), .int (iI (Ly 0)), .int (iI (Wo 0))])), ((sa 1), .inr (3, [.int (iI (Wt 1)), .int (iI (Wd 1)), .int (iI (Rg 1)), .int (iI (Ly 1)), .int (iI (Wo 1))])), ((sa 2), .inr (3, [.int (iI (Wt 2)), .int (iI (Wd 2)), .int (iI (Rg 2)), .int (iI (Ly 2)), .int (iI (Wo 2))]))])) (As := [.long (lI (lbL Ly Wo 100 3)), .int (iI k)]) C (c_X5_power l X (lbL Ly Wo 100 3) k (by first | assumption | omega)) gX5_mean_X5_power rfl rfl rfl hd_S_X5_power_X5_mean (by decide) dX5_mean_47 [] [0, 1, 2, 3, 4] [0, 1, 2, 3, 4] rfl rfl rfl rfl (by decide) rfl rfl rfl (Nat.le_of_ble_eq_true rfl) (by decide) (fun _ => rfl) (fun _ hy_ => ?_)
        clear hy_
        refine r_iload_n C dX5_mean_50 3 rfl ?_
        refine g_S_l (ws2 := (fun _ => [(h0, .inr (5, [.ref s1, .int (iI 3), .ref w0, .ref t0, .ref k0, .ref r0, .int (iI gf), .int (iI gs), .ref rp, .int (iI rc), .ref sh1, .int (iI tc), .int (iI ft)])), (s1, .inl (X.2.1.2.1, 8, .inr (.inr (.inr (.inr sf))))), ((sa 0), .inr (3, [.int (iI (Wt 0)), .int (iI (Wd 0)), .int (iI (Rg 0)), .int (iI (Ly 0)), .int (iI (Wo 0))])), ((sa 1), .inr (3, [.int (iI (Wt 1)), .int (iI (Wd 1)), .int (iI (Rg 1)), .int (iI (Ly 1)), .int (iI (Wo 1))])), ((sa 2), .inr (3, [.int (iI (Wt 2)), .int (iI (Wd 2)), .int (iI (Rg 2)), .int (iI (Ly 2)), .int (iI (Wo 2))]))])) (As := [.long (lI (bwV Ly Wo 3 k)), .long (lI (pwI (lbL Ly Wo 100 3) k)), .int (iI w)]) C (c_X5_share l X (bwV Ly Wo 3 k) (pwI (lbL Ly Wo 100 3) k) w (by first | assumption | omega) (by first | assumption | omega) (by first | assumption | omega)) gX5_mean_X5_share rfl rfl rfl hd_S_X5_share_X5_mean (by decide) dX5_mean_51 [] [0, 1, 2, 3, 4] [0, 1, 2, 3, 4] rfl rfl rfl rfl (by decide) rfl rfl rfl (Nat.le_of_ble_eq_true rfl) (by decide) (fun _ => rfl) (fun _ hy_ => ?_)
        clear hy_
        exact g_ret_l C rfl dX5_mean_54 () trivial (by first | (rw [if_pos (by omega)]; done) | (rw [if_neg (by omega)]; done)) [0, 1, 2, 3, 4] rfl (by (repeat' split) <;> first | rfl | omega)
      · skip
        refine r_ldc2 (z := -9223372036854775808) C dX5_mean_36 kw_X5_mean_0 rfl ?_
        exact g_ret_l C rfl dX5_mean_39 () trivial (by first | (rw [if_pos (by omega)]; done) | (rw [if_neg (by omega)]; done)) [0, 1, 2, 3, 4] rfl (by (repeat' split) <;> first | rfl | omega)
    · skip
      refine r_if_ne (tgt := 23) C dX5_mean_16 (by decide) (by decide) (fun h_8 => absurd h_8 (by decide)) (fun h_8 => ?_)
      refine r_ldc2 (z := -9223372036854775808) C dX5_mean_19 kw_X5_mean_0 rfl ?_
      exact g_ret_l C rfl dX5_mean_22 () trivial (by first | (rw [if_pos (by omega)]; done) | (rw [if_neg (by omega)]; done)) [0, 1, 2, 3, 4] rfl (by (repeat' split) <;> first | rfl | omega)
  · skip
    refine r_if_eq (tgt := 19) C dX5_mean_7 (by decide) (by decide) (fun h_9 => ?_) (fun h_9 => absurd h_9 (by decide))
    refine r_ldc2 (z := -9223372036854775808) C dX5_mean_19 kw_X5_mean_0 rfl ?_
    exact g_ret_l C rfl dX5_mean_22 () trivial (by first | (rw [if_pos (by omega)]; done) | (rw [if_neg (by omega)]; done)) [0, 1, 2, 3, 4] rfl (by (repeat' split) <;> first | rfl | omega)

set_option maxHeartbeats 4000000 in
set_option maxRecDepth 100000 in
theorem c_X5_hours_3 (l : Launch) (X : gX) (h0 : Nat) (s1 : Nat) (w0 : Nat) (t0 : Nat) (k0 : Nat) (r0 : Nat) (rp : Nat) (sh1 : Nat) (gf : Int) (gs : Int) (rc : Int) (tc : Int) (ft : Int) (sf : Nat → Option Nat) (sa : Nat → Nat) (Wt : Nat → Int) (Wd : Nat → Int) (Rg : Nat → Int) (Ly : Nat → Int) (Wo : Nat → Int) (cost : Int) (hsf : ∀ j : Nat, j < 3 → sf j = some (sa j)) (hLy : ∀ j : Nat, j < 3 → 0 ≤ Ly j ∧ Ly j ≤ 9) (hWo : ∀ j : Nat, j < 3 → 0 ≤ Wo j ∧ Wo j ≤ 99) (hb_cost : inB cost) : gM l yX5_hours wsX5_hours (gr 3 0 0) X [(h0, .inr (5, [.ref s1, .int (iI 3), .ref w0, .ref t0, .ref k0, .ref r0, .int (iI gf), .int (iI gs), .ref rp, .int (iI rc), .ref sh1, .int (iI tc), .int (iI ft)])), (s1, .inl (X.2.1.2.1, 8, .inr (.inr (.inr (.inr sf))))), ((sa 0), .inr (3, [.int (iI (Wt 0)), .int (iI (Wd 0)), .int (iI (Rg 0)), .int (iI (Ly 0)), .int (iI (Wo 0))])), ((sa 1), .inr (3, [.int (iI (Wt 1)), .int (iI (Wd 1)), .int (iI (Rg 1)), .int (iI (Ly 1)), .int (iI (Wo 1))])), ((sa 2), .inr (3, [.int (iI (Wt 2)), .int (iI (Wd 2)), .int (iI (Rg 2)), .int (iI (Ly 2)), .int (iI (Wo 2))]))] [.ref h0, .int (iI cost)] (gQi X (Y := Unit) (fun _ => True) (fun _ => (if ¬ (0 ≤ cost ∧ cost ≤ 99) then -2 else if (lbL Ly Wo 100 3) = 0 then -3 else (hrV Ly Wo 3 cost).2)) (fun _ => [(h0, .inr (5, [.ref s1, .int (iI 3), .ref w0, .ref t0, .ref k0, .ref r0, .int (iI gf), .int (iI gs), .ref rp, .int (iI rc), .ref sh1, .int (iI tc), .int (iI ft)])), (s1, .inl (X.2.1.2.1, 8, .inr (.inr (.inr (.inr sf))))), ((sa 0), .inr (3, [.int (iI (Wt 0)), .int (iI (Wd 0)), .int (iI (Rg 0)), .int (iI (Ly 0)), .int (iI (Wo 0))])), ((sa 1), .inr (3, [.int (iI (Wt 1)), .int (iI (Wd 1)), .int (iI (Rg 1)), .int (iI (Ly 1)), .int (iI (Wo 1))])), ((sa 2), .inr (3, [.int (iI (Wt 2)), .int (iI (Wd 2)), .int (iI (Rg 2)), .int (iI (Ly 2)), .int (iI (Wo 2))]))])) 0 0 := by
  refine g_start2 (lo := [(0, .ref h0), (1, .int (iI cost))]) (by decide +kernel) rfl rfl (Nat.le_of_ble_eq_true rfl) (fun p e s m args below meth c A C => ?_)
  refine r_iload_n C dX5_hours_0 1 rfl ?_
  refine r_iconst C dX5_hours_1 ?_
  refine r_bipush C dX5_hours_2 (by decide) ?_
  refine g_S_i (ws2 := (fun _ => [(h0, .inr (5, [.ref s1, .int (iI 3), .ref w0, .ref t0, .ref k0, .ref r0, .int (iI gf), .int (iI gs), .ref rp, .int (iI rc), .ref sh1, .int (iI tc), .int (iI ft)])), (s1, .inl (X.2.1.2.1, 8, .inr (.inr (.inr (.inr sf))))), ((sa 0), .inr (3, [.int (iI (Wt 0)), .int (iI (Wd 0)), .int (iI (Rg 0)), .int (iI (Ly 0)), .int (iI (Wo 0))])), ((sa 1), .inr (3, [.int (iI (Wt 1)), .int (iI (Wd 1)), .int (iI (Rg 1)), .int (iI (Ly 1)), .int (iI (Wo 1))])), ((sa 2), .inr (3, [.int (iI (Wt 2)), .int (iI (Wd 2)), .int (iI (Rg 2)), .int (iI (Ly 2)), .int (iI (Wo 2))]))])) (As := [.int (iI cost), .int (iI 0), .int (iI 99)]) C (c_X5_within l X cost 0 99 (by first | assumption | omega) (by first | assumption | omega) (by first | assumption | omega)) gX5_hours_X5_within rfl rfl rfl hd_S_X5_within_X5_hours (by decide) dX5_hours_4 [] [0, 1, 2, 3, 4] [0, 1, 2, 3, 4] rfl rfl rfl rfl (by decide) rfl rfl rfl (Nat.le_of_ble_eq_true rfl) (by decide) (fun _ => rfl) (fun _ hy_ => ?_)
  clear hy_
  refine r_ite (fun h_1 => ?_) (fun h_1 => ?_)
  · skip
    refine r_if_ne (tgt := 13) C dX5_hours_7 (by decide) (by decide) (fun h_2 => ?_) (fun h_2 => absurd h_2 (by decide))
    refine r_aload_n C dX5_hours_13 0 rfl ?_
    refine r_bipush C dX5_hours_14 (by decide) ?_
    refine g_V_l (ws2 := (fun _ => [(h0, .inr (5, [.ref s1, .int (iI 3), .ref w0, .ref t0, .ref k0, .ref r0, .int (iI gf), .int (iI gs), .ref rp, .int (iI rc), .ref sh1, .int (iI tc), .int (iI ft)])), (s1, .inl (X.2.1.2.1, 8, .inr (.inr (.inr (.inr sf))))), ((sa 0), .inr (3, [.int (iI (Wt 0)), .int (iI (Wd 0)), .int (iI (Rg 0)), .int (iI (Ly 0)), .int (iI (Wo 0))])), ((sa 1), .inr (3, [.int (iI (Wt 1)), .int (iI (Wd 1)), .int (iI (Rg 1)), .int (iI (Ly 1)), .int (iI (Wo 1))])), ((sa 2), .inr (3, [.int (iI (Wt 2)), .int (iI (Wd 2)), .int (iI (Rg 2)), .int (iI (Ly 2)), .int (iI (Wo 2))]))])) (As := [.int (iI 100)]) C (c_X5_lyingBelow_3 l X h0 s1 w0 t0 k0 r0 rp sh1 gf gs rc tc ft sf sa Wt Wd Rg Ly Wo 100 hsf hLy hWo (by first | assumption | omega)) gX5_hours_X5_lyingBelow rfl rfl rfl hd_V_X5_lyingBelow_X5_hours (by decide) dX5_hours_16 [0, 1, 2, 3, 4] [] [0, 1, 2, 3, 4] rfl rfl rfl rfl (by decide) rfl 0 5 rfl rfl rfl rfl (Nat.le_of_ble_eq_true rfl) (by decide) (fun _ => rfl) (fun _ hy_ => ?_)
    have y_3 : 0 ≤ lbL Ly Wo 100 3 ∧ lbL Ly Wo 100 3 ≤ 72 := hy_
    clear hy_
    refine r_lstore_n (lo2 := [(2, .long (lI (lbL Ly Wo 100 3))), (0, .ref h0), (1, .int (iI cost))]) C dX5_hours_19 rfl (by decide) rfl ?_
    refine r_lload_n C dX5_hours_20 0 rfl ?_
    refine r_lconst (z := 0) C dX5_hours_21 rfl ?_
    refine r_lcmp_ne (tgt := 29) C dX5_hours_22 dX5_hours_23 (by decide) (by omega) (by decide) (fun h_5 => ?_) (fun h_5 => ?_)
    · skip
      refine r_lload_n C dX5_hours_29 0 rfl ?_
      refine r_bipush C dX5_hours_30 (by decide) ?_
      refine g_S_l (ws2 := (fun _ => [(h0, .inr (5, [.ref s1, .int (iI 3), .ref w0, .ref t0, .ref k0, .ref r0, .int (iI gf), .int (iI gs), .ref rp, .int (iI rc), .ref sh1, .int (iI tc), .int (iI ft)])), (s1, .inl (X.2.1.2.1, 8, .inr (.inr (.inr (.inr sf))))), ((sa 0), .inr (3, [.int (iI (Wt 0)), .int (iI (Wd 0)), .int (iI (Rg 0)), .int (iI (Ly 0)), .int (iI (Wo 0))])), ((sa 1), .inr (3, [.int (iI (Wt 1)), .int (iI (Wd 1)), .int (iI (Rg 1)), .int (iI (Ly 1)), .int (iI (Wo 1))])), ((sa 2), .inr (3, [.int (iI (Wt 2)), .int (iI (Wd 2)), .int (iI (Rg 2)), .int (iI (Ly 2)), .int (iI (Wo 2))]))])) (As := [.long (lI (lbL Ly Wo 100 3)), .int (iI 6)]) C (c_X5_power l X (lbL Ly Wo 100 3) 6 (by first | assumption | omega)) gX5_hours_X5_power rfl rfl rfl hd_S_X5_power_X5_hours (by decide) dX5_hours_32 [] [0, 1, 2, 3, 4] [0, 1, 2, 3, 4] rfl rfl rfl rfl (by decide) rfl rfl rfl (Nat.le_of_ble_eq_true rfl) (by decide) (fun _ => rfl) (fun _ hy_ => ?_)
      clear hy_
      refine r_lstore (lo2 := [(4, .long (lI (pwI (lbL Ly Wo 100 3) 6))), (2, .long (lI (lbL Ly Wo 100 3))), (0, .ref h0), (1, .int (iI cost))]) C dX5_hours_35 (by decide) rfl ?_
      refine r_iconst C dX5_hours_37 ?_
      refine r_istore (lo2 := [(6, .int (iI 1)), (4, .long (lI (pwI (lbL Ly Wo 100 3) 6))), (2, .long (lI (lbL Ly Wo 100 3))), (0, .ref h0), (1, .int (iI cost))]) C dX5_hours_38 (by decide) rfl ?_
      refine r_lconst (z := 0) C dX5_hours_40 rfl ?_
      refine r_lstore (lo2 := [(7, .long (lI 0)), (6, .int (iI 1)), (4, .long (lI (pwI (lbL Ly Wo 100 3) 6))), (2, .long (lI (lbL Ly Wo 100 3))), (0, .ref h0), (1, .int (iI cost))]) C dX5_hours_41 (by decide) rfl ?_
      refine r_iconst C dX5_hours_43 ?_
      refine r_istore (lo2 := [(9, .int (iI 1)), (7, .long (lI 0)), (6, .int (iI 1)), (4, .long (lI (pwI (lbL Ly Wo 100 3) 6))), (2, .long (lI (lbL Ly Wo 100 3))), (0, .ref h0), (1, .int (iI cost))]) C dX5_hours_44 (by decide) rfl ?_
      have L46 : ∀ (fu46 : Nat) (a2 : Int) (a1 : Int) (c1 : Int), (1 ≤ c1 ∧ c1 ≤ 7) → (-100000000000000 ≤ a1 ∧ a1 ≤ 100000000000000) → (hrV Ly Wo 3 cost = gIn (hrF Ly Wo 3 cost) (7 - c1).toNat c1 (a1, a2)) → (7 - c1).toNat < fu46 → gW p l e (gr 3 0 0) s m args below meth c X A 12 (MQ below ((gQi X (Y := Unit) (fun _ => True) (fun _ => (if ¬ (0 ≤ cost ∧ cost ≤ 99) then -2 else if (lbL Ly Wo 100 3) = 0 then -3 else (hrV Ly Wo 3 cost).2)) (fun _ => [(h0, .inr (5, [.ref s1, .int (iI 3), .ref w0, .ref t0, .ref k0, .ref r0, .int (iI gf), .int (iI gs), .ref rp, .int (iI rc), .ref sh1, .int (iI tc), .int (iI ft)])), (s1, .inl (X.2.1.2.1, 8, .inr (.inr (.inr (.inr sf))))), ((sa 0), .inr (3, [.int (iI (Wt 0)), .int (iI (Wd 0)), .int (iI (Rg 0)), .int (iI (Ly 0)), .int (iI (Wo 0))])), ((sa 1), .inr (3, [.int (iI (Wt 1)), .int (iI (Wd 1)), .int (iI (Rg 1)), .int (iI (Ly 1)), .int (iI (Wo 1))])), ((sa 2), .inr (3, [.int (iI (Wt 2)), .int (iI (Wd 2)), .int (iI (Rg 2)), .int (iI (Ly 2)), .int (iI (Wo 2))]))])) A) args s 0 0 A) 0 0 [(h0, .inr (5, [.ref s1, .int (iI 3), .ref w0, .ref t0, .ref k0, .ref r0, .int (iI gf), .int (iI gs), .ref rp, .int (iI rc), .ref sh1, .int (iI tc), .int (iI ft)])), (s1, .inl (X.2.1.2.1, 8, .inr (.inr (.inr (.inr sf))))), ((sa 0), .inr (3, [.int (iI (Wt 0)), .int (iI (Wd 0)), .int (iI (Rg 0)), .int (iI (Ly 0)), .int (iI (Wo 0))])), ((sa 1), .inr (3, [.int (iI (Wt 1)), .int (iI (Wd 1)), .int (iI (Rg 1)), .int (iI (Ly 1)), .int (iI (Wo 1))])), ((sa 2), .inr (3, [.int (iI (Wt 2)), .int (iI (Wd 2)), .int (iI (Rg 2)), .int (iI (Ly 2)), .int (iI (Wo 2))]))] 46 [(4, .long (lI (pwI (lbL Ly Wo 100 3) 6))), (2, .long (lI (lbL Ly Wo 100 3))), (0, .ref h0), (1, .int (iI cost)), (6, .int (iI a2)), (7, .long (lI a1)), (9, .int (iI c1))] [] := by
        intro fu46
        induction fu46 with
        | zero => intro a2 a1 c1 ic ia iL hm46; exact absurd hm46 (Nat.not_lt_zero _)
        | succ fu46 ih46 =>
          intro a2 a1 c1 ic ia iL hm46
          refine r_iload C dX5_hours_46 6 rfl ?_
          refine r_bipush C dX5_hours_48 (by decide) ?_
          refine r_icmp_gt (tgt := 108) C dX5_hours_50 (by decide) (by omega) (by decide) (fun h_6 => ?_) (fun h_6 => ?_)
          · skip
            refine r_iload C dX5_hours_108 4 rfl ?_
            exact g_ret_i C rfl dX5_hours_110 () trivial (by rw [iL, gIn_endW (by omega)]; (repeat' split) <;> first | rfl | omega) [0, 1, 2, 3, 4] rfl (by (repeat' split) <;> first | rfl | omega)
          · skip
            have hB := hr_B (Ly := Ly) (Wo := Wo) (ns := 3) (cost := cost) (n := c1) (by decide) hLy hWo (by omega) (by omega)
            have hm_ := mulB (a := c1) (b := cost) (A := 6) (B := 99) (by omega) (by omega)
            refine r_aload_n C dX5_hours_53 2 rfl ?_
            refine r_iload C dX5_hours_54 6 rfl ?_
            refine g_V_l (ws2 := (fun _ => [(h0, .inr (5, [.ref s1, .int (iI 3), .ref w0, .ref t0, .ref k0, .ref r0, .int (iI gf), .int (iI gs), .ref rp, .int (iI rc), .ref sh1, .int (iI tc), .int (iI ft)])), (s1, .inl (X.2.1.2.1, 8, .inr (.inr (.inr (.inr sf))))), ((sa 0), .inr (3, [.int (iI (Wt 0)), .int (iI (Wd 0)), .int (iI (Rg 0)), .int (iI (Ly 0)), .int (iI (Wo 0))])), ((sa 1), .inr (3, [.int (iI (Wt 1)), .int (iI (Wd 1)), .int (iI (Rg 1)), .int (iI (Ly 1)), .int (iI (Wo 1))])), ((sa 2), .inr (3, [.int (iI (Wt 2)), .int (iI (Wd 2)), .int (iI (Rg 2)), .int (iI (Ly 2)), .int (iI (Wo 2))]))])) (As := [.int (iI c1)]) C (c_X5_bestWorths_3 l X h0 s1 w0 t0 k0 r0 rp sh1 gf gs rc tc ft sf sa Wt Wd Rg Ly Wo c1 hsf hLy hWo (by first | assumption | omega)) gX5_hours_X5_bestWorths rfl rfl rfl hd_V_X5_bestWorths_X5_hours (by decide) dX5_hours_56 [0, 1, 2, 3, 4] [] [0, 1, 2, 3, 4] rfl rfl rfl rfl (by decide) rfl 0 5 rfl rfl rfl rfl (Nat.le_of_ble_eq_true rfl) (by decide) (fun _ => rfl) (fun _ hy_ => ?_)
            clear hy_
            refine r_lload_n C dX5_hours_59 1 rfl ?_
            refine r_bipush C dX5_hours_60 (by decide) ?_
            refine r_iload C dX5_hours_62 6 rfl ?_
            refine r_isub C dX5_hours_64 ?_
            refine g_S_l (ws2 := (fun _ => [(h0, .inr (5, [.ref s1, .int (iI 3), .ref w0, .ref t0, .ref k0, .ref r0, .int (iI gf), .int (iI gs), .ref rp, .int (iI rc), .ref sh1, .int (iI tc), .int (iI ft)])), (s1, .inl (X.2.1.2.1, 8, .inr (.inr (.inr (.inr sf))))), ((sa 0), .inr (3, [.int (iI (Wt 0)), .int (iI (Wd 0)), .int (iI (Rg 0)), .int (iI (Ly 0)), .int (iI (Wo 0))])), ((sa 1), .inr (3, [.int (iI (Wt 1)), .int (iI (Wd 1)), .int (iI (Rg 1)), .int (iI (Ly 1)), .int (iI (Wo 1))])), ((sa 2), .inr (3, [.int (iI (Wt 2)), .int (iI (Wd 2)), .int (iI (Rg 2)), .int (iI (Ly 2)), .int (iI (Wo 2))]))])) (As := [.long (lI (lbL Ly Wo 100 3)), .int (iI (6 - c1))]) C (c_X5_power l X (lbL Ly Wo 100 3) (6 - c1) (by first | assumption | omega)) gX5_hours_X5_power rfl rfl rfl hd_S_X5_power_X5_hours (by decide) dX5_hours_65 [] [0, 1, 2, 3, 4] [0, 1, 2, 3, 4] rfl rfl rfl rfl (by decide) rfl rfl rfl (Nat.le_of_ble_eq_true rfl) (by decide) (fun _ => rfl) (fun _ hy_ => ?_)
            clear hy_
            refine r_lmul C dX5_hours_68 ?_
            refine r_iload C dX5_hours_69 6 rfl ?_
            refine r_iload_n C dX5_hours_71 3 rfl ?_
            refine r_imul C dX5_hours_72 ?_
            refine r_i2l C dX5_hours_73 (by omega) ?_
            refine r_lload C dX5_hours_74 0 rfl ?_
            refine r_lmul C dX5_hours_76 ?_
            refine r_lsub C dX5_hours_77 ?_
            refine r_lstore (lo2 := [(10, .long (lI (((bwV Ly Wo 3 c1) * (pwI (lbL Ly Wo 100 3) (6 - c1))) - ((c1 * cost) * (pwI (lbL Ly Wo 100 3) 6))))), (4, .long (lI (pwI (lbL Ly Wo 100 3) 6))), (2, .long (lI (lbL Ly Wo 100 3))), (0, .ref h0), (1, .int (iI cost)), (6, .int (iI a2)), (7, .long (lI a1)), (9, .int (iI c1))]) C dX5_hours_78 (by decide) rfl ?_
            refine r_iload C dX5_hours_80 7 rfl ?_
            refine r_iconst C dX5_hours_82 ?_
            refine r_icmp_eq (tgt := 94) C dX5_hours_83 (by decide) (by omega) (by decide) (fun h_7 => ?_) (fun h_7 => ?_)
            · skip
              refine r_lload C dX5_hours_94 0 rfl ?_
              refine r_lstore (lo2 := [(7, .long (lI (((bwV Ly Wo 3 c1) * (pwI (lbL Ly Wo 100 3) (6 - c1))) - ((c1 * cost) * (pwI (lbL Ly Wo 100 3) 6))))), (10, .long (lI (((bwV Ly Wo 3 c1) * (pwI (lbL Ly Wo 100 3) (6 - c1))) - ((c1 * cost) * (pwI (lbL Ly Wo 100 3) 6))))), (4, .long (lI (pwI (lbL Ly Wo 100 3) 6))), (2, .long (lI (lbL Ly Wo 100 3))), (0, .ref h0), (1, .int (iI cost)), (6, .int (iI a2)), (9, .int (iI c1))]) C dX5_hours_96 (by decide) rfl ?_
              refine r_iload C dX5_hours_98 7 rfl ?_
              refine r_istore (lo2 := [(6, .int (iI c1)), (7, .long (lI (((bwV Ly Wo 3 c1) * (pwI (lbL Ly Wo 100 3) (6 - c1))) - ((c1 * cost) * (pwI (lbL Ly Wo 100 3) 6))))), (10, .long (lI (((bwV Ly Wo 3 c1) * (pwI (lbL Ly Wo 100 3) (6 - c1))) - ((c1 * cost) * (pwI (lbL Ly Wo 100 3) 6))))), (4, .long (lI (pwI (lbL Ly Wo 100 3) 6))), (2, .long (lI (lbL Ly Wo 100 3))), (0, .ref h0), (1, .int (iI cost)), (9, .int (iI c1))]) C dX5_hours_100 (by decide) rfl ?_
              refine r_iinc (lo2 := [(9, .int (iI (c1 + 1))), (6, .int (iI c1)), (7, .long (lI (((bwV Ly Wo 3 c1) * (pwI (lbL Ly Wo 100 3) (6 - c1))) - ((c1 * cost) * (pwI (lbL Ly Wo 100 3) 6))))), (10, .long (lI (((bwV Ly Wo 3 c1) * (pwI (lbL Ly Wo 100 3) (6 - c1))) - ((c1 * cost) * (pwI (lbL Ly Wo 100 3) 6))))), (4, .long (lI (pwI (lbL Ly Wo 100 3) 6))), (2, .long (lI (lbL Ly Wo 100 3))), (0, .ref h0), (1, .int (iI cost))]) C dX5_hours_102 7 rfl (by decide) rfl ?_
              refine r_goto (tgt := 46) C dX5_hours_105 (by decide) ?_
              refine r_lo [4, 5, 6, 7, 1, 2, 0] (lo2 := [(4, .long (lI (pwI (lbL Ly Wo 100 3) 6))), (2, .long (lI (lbL Ly Wo 100 3))), (0, .ref h0), (1, .int (iI cost)), (6, .int (iI c1)), (7, .long (lI (((bwV Ly Wo 3 c1) * (pwI (lbL Ly Wo 100 3) (6 - c1))) - ((c1 * cost) * (pwI (lbL Ly Wo 100 3) 6))))), (9, .int (iI (c1 + 1)))]) rfl ?_
              exact ih46 c1 (((bwV Ly Wo 3 c1) * (pwI (lbL Ly Wo 100 3) (6 - c1))) - ((c1 * cost) * (pwI (lbL Ly Wo 100 3) 6))) (c1 + 1) (by omega) (by omega) (by rw [iL, gIn_goW (by omega)]; first | (rw [hrF_t (by first | exact Or.inl (by omega) | exact Or.inr (by omega))]; done) | (rw [hrF_f (by intro q; rcases q with q | q <;> first | omega | (dsimp only at q; omega))]; done)) (by omega)
            · skip
              refine r_lload C dX5_hours_86 0 rfl ?_
              refine r_lload C dX5_hours_88 6 rfl ?_
              refine r_lcmp_le (tgt := 102) C dX5_hours_90 dX5_hours_91 (by decide) (by omega) (by omega) (fun h_8 => ?_) (fun h_8 => ?_)
              · skip
                refine r_iinc (lo2 := [(9, .int (iI (c1 + 1))), (10, .long (lI (((bwV Ly Wo 3 c1) * (pwI (lbL Ly Wo 100 3) (6 - c1))) - ((c1 * cost) * (pwI (lbL Ly Wo 100 3) 6))))), (4, .long (lI (pwI (lbL Ly Wo 100 3) 6))), (2, .long (lI (lbL Ly Wo 100 3))), (0, .ref h0), (1, .int (iI cost)), (6, .int (iI a2)), (7, .long (lI a1))]) C dX5_hours_102 7 rfl (by decide) rfl ?_
                refine r_goto (tgt := 46) C dX5_hours_105 (by decide) ?_
                refine r_lo [2, 3, 4, 5, 6, 7, 0] (lo2 := [(4, .long (lI (pwI (lbL Ly Wo 100 3) 6))), (2, .long (lI (lbL Ly Wo 100 3))), (0, .ref h0), (1, .int (iI cost)), (6, .int (iI a2)), (7, .long (lI a1)), (9, .int (iI (c1 + 1)))]) rfl ?_
                exact ih46 a2 a1 (c1 + 1) (by omega) (by omega) (by rw [iL, gIn_goW (by omega)]; first | (rw [hrF_t (by first | exact Or.inl (by omega) | exact Or.inr (by omega))]; done) | (rw [hrF_f (by intro q; rcases q with q | q <;> first | omega | (dsimp only at q; omega))]; done)) (by omega)
              · skip
                refine r_lload C dX5_hours_94 0 rfl ?_
                refine r_lstore (lo2 := [(7, .long (lI (((bwV Ly Wo 3 c1) * (pwI (lbL Ly Wo 100 3) (6 - c1))) - ((c1 * cost) * (pwI (lbL Ly Wo 100 3) 6))))), (10, .long (lI (((bwV Ly Wo 3 c1) * (pwI (lbL Ly Wo 100 3) (6 - c1))) - ((c1 * cost) * (pwI (lbL Ly Wo 100 3) 6))))), (4, .long (lI (pwI (lbL Ly Wo 100 3) 6))), (2, .long (lI (lbL Ly Wo 100 3))), (0, .ref h0), (1, .int (iI cost)), (6, .int (iI a2)), (9, .int (iI c1))]) C dX5_hours_96 (by decide) rfl ?_
                refine r_iload C dX5_hours_98 7 rfl ?_
                refine r_istore (lo2 := [(6, .int (iI c1)), (7, .long (lI (((bwV Ly Wo 3 c1) * (pwI (lbL Ly Wo 100 3) (6 - c1))) - ((c1 * cost) * (pwI (lbL Ly Wo 100 3) 6))))), (10, .long (lI (((bwV Ly Wo 3 c1) * (pwI (lbL Ly Wo 100 3) (6 - c1))) - ((c1 * cost) * (pwI (lbL Ly Wo 100 3) 6))))), (4, .long (lI (pwI (lbL Ly Wo 100 3) 6))), (2, .long (lI (lbL Ly Wo 100 3))), (0, .ref h0), (1, .int (iI cost)), (9, .int (iI c1))]) C dX5_hours_100 (by decide) rfl ?_
                refine r_iinc (lo2 := [(9, .int (iI (c1 + 1))), (6, .int (iI c1)), (7, .long (lI (((bwV Ly Wo 3 c1) * (pwI (lbL Ly Wo 100 3) (6 - c1))) - ((c1 * cost) * (pwI (lbL Ly Wo 100 3) 6))))), (10, .long (lI (((bwV Ly Wo 3 c1) * (pwI (lbL Ly Wo 100 3) (6 - c1))) - ((c1 * cost) * (pwI (lbL Ly Wo 100 3) 6))))), (4, .long (lI (pwI (lbL Ly Wo 100 3) 6))), (2, .long (lI (lbL Ly Wo 100 3))), (0, .ref h0), (1, .int (iI cost))]) C dX5_hours_102 7 rfl (by decide) rfl ?_
                refine r_goto (tgt := 46) C dX5_hours_105 (by decide) ?_
                refine r_lo [4, 5, 6, 7, 1, 2, 0] (lo2 := [(4, .long (lI (pwI (lbL Ly Wo 100 3) 6))), (2, .long (lI (lbL Ly Wo 100 3))), (0, .ref h0), (1, .int (iI cost)), (6, .int (iI c1)), (7, .long (lI (((bwV Ly Wo 3 c1) * (pwI (lbL Ly Wo 100 3) (6 - c1))) - ((c1 * cost) * (pwI (lbL Ly Wo 100 3) 6))))), (9, .int (iI (c1 + 1)))]) rfl ?_
                exact ih46 c1 (((bwV Ly Wo 3 c1) * (pwI (lbL Ly Wo 100 3) (6 - c1))) - ((c1 * cost) * (pwI (lbL Ly Wo 100 3) 6))) (c1 + 1) (by omega) (by omega) (by rw [iL, gIn_goW (by omega)]; first | (rw [hrF_t (by first | exact Or.inl (by omega) | exact Or.inr (by omega))]; done) | (rw [hrF_f (by intro q; rcases q with q | q <;> first | omega | (dsimp only at q; omega))]; done)) (by omega)
      refine r_lo [3, 4, 5, 6, 2, 1, 0] (lo2 := [(4, .long (lI (pwI (lbL Ly Wo 100 3) 6))), (2, .long (lI (lbL Ly Wo 100 3))), (0, .ref h0), (1, .int (iI cost)), (6, .int (iI 1)), (7, .long (lI 0)), (9, .int (iI 1))]) rfl ?_
      exact L46 ((7 - (1 : Int)).toNat + 1) 1 0 1 (by omega) (by omega) rfl (Nat.lt_succ_self _)
    · skip
      refine r_bipush C dX5_hours_26 (by decide) ?_
      exact g_ret_i C rfl dX5_hours_28 () trivial (by (repeat' split) <;> first | rfl | omega) [0, 1, 2, 3, 4] rfl (by (repeat' split) <;> first | rfl | omega)
  · skip
    refine r_if_ne (tgt := 13) C dX5_hours_7 (by decide) (by decide) (fun h_9 => absurd h_9 (by decide)) (fun h_9 => ?_)
    refine r_bipush C dX5_hours_10 (by decide) ?_
    exact g_ret_i C rfl dX5_hours_12 () trivial (by (repeat' split) <;> first | rfl | omega) [0, 1, 2, 3, 4] rfl (by (repeat' split) <;> first | rfl | omega)

set_option maxHeartbeats 4000000 in
set_option maxRecDepth 100000 in
theorem c_X5_lyingBelow_4 (l : Launch) (X : gX) (h0 : Nat) (s1 : Nat) (w0 : Nat) (t0 : Nat) (k0 : Nat) (r0 : Nat) (rp : Nat) (sh1 : Nat) (gf : Int) (gs : Int) (rc : Int) (tc : Int) (ft : Int) (sf : Nat → Option Nat) (sa : Nat → Nat) (Wt : Nat → Int) (Wd : Nat → Int) (Rg : Nat → Int) (Ly : Nat → Int) (Wo : Nat → Int) (w : Int) (hsf : ∀ j : Nat, j < 4 → sf j = some (sa j)) (hLy : ∀ j : Nat, j < 4 → 0 ≤ Ly j ∧ Ly j ≤ 9) (hWo : ∀ j : Nat, j < 4 → 0 ≤ Wo j ∧ Wo j ≤ 99) (hb_w : inB w) : gM l yX5_lyingBelow wsX5_lyingBelow (gr 1 0 0) X [(h0, .inr (5, [.ref s1, .int (iI 4), .ref w0, .ref t0, .ref k0, .ref r0, .int (iI gf), .int (iI gs), .ref rp, .int (iI rc), .ref sh1, .int (iI tc), .int (iI ft)])), (s1, .inl (X.2.1.2.1, 8, .inr (.inr (.inr (.inr sf))))), ((sa 0), .inr (3, [.int (iI (Wt 0)), .int (iI (Wd 0)), .int (iI (Rg 0)), .int (iI (Ly 0)), .int (iI (Wo 0))])), ((sa 1), .inr (3, [.int (iI (Wt 1)), .int (iI (Wd 1)), .int (iI (Rg 1)), .int (iI (Ly 1)), .int (iI (Wo 1))])), ((sa 2), .inr (3, [.int (iI (Wt 2)), .int (iI (Wd 2)), .int (iI (Rg 2)), .int (iI (Ly 2)), .int (iI (Wo 2))])), ((sa 3), .inr (3, [.int (iI (Wt 3)), .int (iI (Wd 3)), .int (iI (Rg 3)), .int (iI (Ly 3)), .int (iI (Wo 3))]))] [.ref h0, .int (iI w)] (gQl X (Y := Unit) (fun _ => (0 ≤ lbL Ly Wo w 4 ∧ lbL Ly Wo w 4 ≤ 72)) (fun _ => (lbL Ly Wo w 4)) (fun _ => [(h0, .inr (5, [.ref s1, .int (iI 4), .ref w0, .ref t0, .ref k0, .ref r0, .int (iI gf), .int (iI gs), .ref rp, .int (iI rc), .ref sh1, .int (iI tc), .int (iI ft)])), (s1, .inl (X.2.1.2.1, 8, .inr (.inr (.inr (.inr sf))))), ((sa 0), .inr (3, [.int (iI (Wt 0)), .int (iI (Wd 0)), .int (iI (Rg 0)), .int (iI (Ly 0)), .int (iI (Wo 0))])), ((sa 1), .inr (3, [.int (iI (Wt 1)), .int (iI (Wd 1)), .int (iI (Rg 1)), .int (iI (Ly 1)), .int (iI (Wo 1))])), ((sa 2), .inr (3, [.int (iI (Wt 2)), .int (iI (Wd 2)), .int (iI (Rg 2)), .int (iI (Ly 2)), .int (iI (Wo 2))])), ((sa 3), .inr (3, [.int (iI (Wt 3)), .int (iI (Wd 3)), .int (iI (Rg 3)), .int (iI (Ly 3)), .int (iI (Wo 3))]))])) 0 0 := by
  refine g_start2 (lo := [(0, .ref h0), (1, .int (iI w))]) (by decide +kernel) rfl rfl (Nat.le_of_ble_eq_true rfl) (fun p e s m args below meth c A C => ?_)
  have hLy0 := hLy 0 (by decide)
  have hWo0 := hWo 0 (by decide)
  have hLy1 := hLy 1 (by decide)
  have hWo1 := hWo 1 (by decide)
  have hLy2 := hLy 2 (by decide)
  have hWo2 := hWo 2 (by decide)
  have hLy3 := hLy 3 (by decide)
  have hWo3 := hWo 3 (by decide)
  refine r_lconst (z := 0) C dX5_lyingBelow_0 rfl ?_
  refine r_lstore_n (lo2 := [(2, .long (lI 0)), (0, .ref h0), (1, .int (iI w))]) C dX5_lyingBelow_1 rfl (by decide) rfl ?_
  refine r_iconst C dX5_lyingBelow_2 ?_
  refine r_istore (lo2 := [(4, .int (iI 0)), (2, .long (lI 0)), (0, .ref h0), (1, .int (iI w))]) C dX5_lyingBelow_3 (by decide) rfl ?_
  have J5_4 : ∀ (mk : Int), (mk = lbL Ly Wo w 4) → gW p l e (gr 1 0 0) s m args below meth c X A 6 (MQ below ((gQl X (Y := Unit) (fun _ => (0 ≤ lbL Ly Wo w 4 ∧ lbL Ly Wo w 4 ≤ 72)) (fun _ => (lbL Ly Wo w 4)) (fun _ => [(h0, .inr (5, [.ref s1, .int (iI 4), .ref w0, .ref t0, .ref k0, .ref r0, .int (iI gf), .int (iI gs), .ref rp, .int (iI rc), .ref sh1, .int (iI tc), .int (iI ft)])), (s1, .inl (X.2.1.2.1, 8, .inr (.inr (.inr (.inr sf))))), ((sa 0), .inr (3, [.int (iI (Wt 0)), .int (iI (Wd 0)), .int (iI (Rg 0)), .int (iI (Ly 0)), .int (iI (Wo 0))])), ((sa 1), .inr (3, [.int (iI (Wt 1)), .int (iI (Wd 1)), .int (iI (Rg 1)), .int (iI (Ly 1)), .int (iI (Wo 1))])), ((sa 2), .inr (3, [.int (iI (Wt 2)), .int (iI (Wd 2)), .int (iI (Rg 2)), .int (iI (Ly 2)), .int (iI (Wo 2))])), ((sa 3), .inr (3, [.int (iI (Wt 3)), .int (iI (Wd 3)), .int (iI (Rg 3)), .int (iI (Ly 3)), .int (iI (Wo 3))]))])) A) args s 0 0 A) 0 0 [(h0, .inr (5, [.ref s1, .int (iI 4), .ref w0, .ref t0, .ref k0, .ref r0, .int (iI gf), .int (iI gs), .ref rp, .int (iI rc), .ref sh1, .int (iI tc), .int (iI ft)])), (s1, .inl (X.2.1.2.1, 8, .inr (.inr (.inr (.inr sf))))), ((sa 0), .inr (3, [.int (iI (Wt 0)), .int (iI (Wd 0)), .int (iI (Rg 0)), .int (iI (Ly 0)), .int (iI (Wo 0))])), ((sa 1), .inr (3, [.int (iI (Wt 1)), .int (iI (Wd 1)), .int (iI (Rg 1)), .int (iI (Ly 1)), .int (iI (Wo 1))])), ((sa 2), .inr (3, [.int (iI (Wt 2)), .int (iI (Wd 2)), .int (iI (Rg 2)), .int (iI (Ly 2)), .int (iI (Wo 2))])), ((sa 3), .inr (3, [.int (iI (Wt 3)), .int (iI (Wd 3)), .int (iI (Rg 3)), .int (iI (Ly 3)), .int (iI (Wo 3))]))] 5 [(0, .ref h0), (1, .int (iI w)), (4, .int (iI 4)), (2, .long (lI mk))] [] := by
    intro mk im
    refine r_iload C dX5_lyingBelow_5 2 rfl ?_
    refine r_aload_n C dX5_lyingBelow_7 0 rfl ?_
    refine gf_5_1 C hi_X5_lyingBelow_5 kw_X5_lyingBelow_0 dX5_lyingBelow_8 0 rfl rfl ?_
    refine r_icmp_ge (tgt := 51) C dX5_lyingBelow_11 (by decide) (by decide) (by decide) (fun h_1 => ?_) (fun h_1 => absurd h_1 (by decide))
    refine r_lload_n C dX5_lyingBelow_51 3 rfl ?_
    exact g_ret_l C rfl dX5_lyingBelow_52 () (by have := lbL_B (Ly := Ly) (Wo := Wo) w 4 hLy; omega) im [0, 1, 2, 3, 4, 5] rfl (by (repeat' split) <;> first | rfl | omega)
  have J5_3 : ∀ (mk : Int), (mk = lbL Ly Wo w 3) → gW p l e (gr 1 0 0) s m args below meth c X A 6 (MQ below ((gQl X (Y := Unit) (fun _ => (0 ≤ lbL Ly Wo w 4 ∧ lbL Ly Wo w 4 ≤ 72)) (fun _ => (lbL Ly Wo w 4)) (fun _ => [(h0, .inr (5, [.ref s1, .int (iI 4), .ref w0, .ref t0, .ref k0, .ref r0, .int (iI gf), .int (iI gs), .ref rp, .int (iI rc), .ref sh1, .int (iI tc), .int (iI ft)])), (s1, .inl (X.2.1.2.1, 8, .inr (.inr (.inr (.inr sf))))), ((sa 0), .inr (3, [.int (iI (Wt 0)), .int (iI (Wd 0)), .int (iI (Rg 0)), .int (iI (Ly 0)), .int (iI (Wo 0))])), ((sa 1), .inr (3, [.int (iI (Wt 1)), .int (iI (Wd 1)), .int (iI (Rg 1)), .int (iI (Ly 1)), .int (iI (Wo 1))])), ((sa 2), .inr (3, [.int (iI (Wt 2)), .int (iI (Wd 2)), .int (iI (Rg 2)), .int (iI (Ly 2)), .int (iI (Wo 2))])), ((sa 3), .inr (3, [.int (iI (Wt 3)), .int (iI (Wd 3)), .int (iI (Rg 3)), .int (iI (Ly 3)), .int (iI (Wo 3))]))])) A) args s 0 0 A) 0 0 [(h0, .inr (5, [.ref s1, .int (iI 4), .ref w0, .ref t0, .ref k0, .ref r0, .int (iI gf), .int (iI gs), .ref rp, .int (iI rc), .ref sh1, .int (iI tc), .int (iI ft)])), (s1, .inl (X.2.1.2.1, 8, .inr (.inr (.inr (.inr sf))))), ((sa 0), .inr (3, [.int (iI (Wt 0)), .int (iI (Wd 0)), .int (iI (Rg 0)), .int (iI (Ly 0)), .int (iI (Wo 0))])), ((sa 1), .inr (3, [.int (iI (Wt 1)), .int (iI (Wd 1)), .int (iI (Rg 1)), .int (iI (Ly 1)), .int (iI (Wo 1))])), ((sa 2), .inr (3, [.int (iI (Wt 2)), .int (iI (Wd 2)), .int (iI (Rg 2)), .int (iI (Ly 2)), .int (iI (Wo 2))])), ((sa 3), .inr (3, [.int (iI (Wt 3)), .int (iI (Wd 3)), .int (iI (Rg 3)), .int (iI (Ly 3)), .int (iI (Wo 3))]))] 5 [(0, .ref h0), (1, .int (iI w)), (4, .int (iI 3)), (2, .long (lI mk))] [] := by
    intro mk im
    refine r_iload C dX5_lyingBelow_5 2 rfl ?_
    refine r_aload_n C dX5_lyingBelow_7 0 rfl ?_
    refine gf_5_1 C hi_X5_lyingBelow_5 kw_X5_lyingBelow_0 dX5_lyingBelow_8 0 rfl rfl ?_
    refine r_icmp_ge (tgt := 51) C dX5_lyingBelow_11 (by decide) (by decide) (by decide) (fun h_2 => absurd h_2 (by decide)) (fun h_2 => ?_)
    refine r_aload_n C dX5_lyingBelow_14 0 rfl ?_
    refine r_iload C dX5_lyingBelow_15 2 rfl ?_
    refine g_V_q (ws2 := (fun _ => [(h0, .inr (5, [.ref s1, .int (iI 4), .ref w0, .ref t0, .ref k0, .ref r0, .int (iI gf), .int (iI gs), .ref rp, .int (iI rc), .ref sh1, .int (iI tc), .int (iI ft)])), (s1, .inl (X.2.1.2.1, 8, .inr (.inr (.inr (.inr sf))))), ((sa 0), .inr (3, [.int (iI (Wt 0)), .int (iI (Wd 0)), .int (iI (Rg 0)), .int (iI (Ly 0)), .int (iI (Wo 0))])), ((sa 1), .inr (3, [.int (iI (Wt 1)), .int (iI (Wd 1)), .int (iI (Rg 1)), .int (iI (Ly 1)), .int (iI (Wo 1))])), ((sa 2), .inr (3, [.int (iI (Wt 2)), .int (iI (Wd 2)), .int (iI (Rg 2)), .int (iI (Ly 2)), .int (iI (Wo 2))])), ((sa 3), .inr (3, [.int (iI (Wt 3)), .int (iI (Wd 3)), .int (iI (Rg 3)), .int (iI (Ly 3)), .int (iI (Wo 3))]))])) (As := [.int (iI 3)]) C (c_X5_stoneAt_in l X h0 s1 w0 t0 k0 r0 rp sh1 4 gf gs rc tc ft sf (sa 3) 3 (by decide) (hsf 3 (by decide))) gX5_lyingBelow_X5_stoneAt rfl rfl rfl hd_V_X5_stoneAt_X5_lyingBelow (by decide) dX5_lyingBelow_17 [0, 1] [2, 3, 4, 5] [4, 5, 0, 1, 2, 3] rfl rfl rfl rfl (by decide) rfl 0 5 rfl rfl rfl rfl (Nat.le_of_ble_eq_true rfl) (by decide) (fun _ => rfl) (fun _ hy_ => ?_)
    clear hy_
    refine r_astore (lo2 := [(5, .ref (sa 3)), (0, .ref h0), (1, .int (iI w)), (4, .int (iI 3)), (2, .long (lI mk))]) C dX5_lyingBelow_20 (by decide) rfl ?_
    refine r_aload C dX5_lyingBelow_22 0 rfl ?_
    refine r_ifnull C dX5_lyingBelow_24 ?_
    refine r_aload C dX5_lyingBelow_27 0 rfl ?_
    refine gf_3_4 C hi_X5_lyingBelow_3 kw_X5_lyingBelow_1 dX5_lyingBelow_29 5 rfl rfl ?_
    refine r_iload_n C dX5_lyingBelow_32 2 rfl ?_
    refine r_icmp_ge (tgt := 45) C dX5_lyingBelow_33 (by decide) (by omega) (by omega) (fun h_3 => ?_) (fun h_3 => ?_)
    · skip
      refine r_iinc (lo2 := [(4, .int (iI 4)), (5, .ref (sa 3)), (0, .ref h0), (1, .int (iI w)), (2, .long (lI mk))]) C dX5_lyingBelow_45 3 rfl (by decide) rfl ?_
      refine r_goto (tgt := 5) C dX5_lyingBelow_48 (by decide) ?_
      refine r_lo [2, 3, 0, 4] (lo2 := [(0, .ref h0), (1, .int (iI w)), (4, .int (iI 4)), (2, .long (lI mk))]) rfl ?_
      exact J5_4 mk (by rw [im]; first | exact (lbL_t 3 (by omega)).symm | exact (lbL_f 3 (by omega)).symm)
    · skip
      refine r_lload_n C dX5_lyingBelow_36 4 rfl ?_
      refine r_aload C dX5_lyingBelow_37 0 rfl ?_
      refine gf_3_3 C hi_X5_lyingBelow_3 kw_X5_lyingBelow_2 dX5_lyingBelow_39 5 rfl rfl ?_
      refine r_i2l C dX5_lyingBelow_42 (by omega) ?_
      refine r_ladd C dX5_lyingBelow_43 ?_
      refine r_lstore_n (lo2 := [(2, .long (lI (mk + (Ly 3)))), (5, .ref (sa 3)), (0, .ref h0), (1, .int (iI w)), (4, .int (iI 3))]) C dX5_lyingBelow_44 rfl (by decide) rfl ?_
      refine r_iinc (lo2 := [(4, .int (iI 4)), (2, .long (lI (mk + (Ly 3)))), (5, .ref (sa 3)), (0, .ref h0), (1, .int (iI w))]) C dX5_lyingBelow_45 4 rfl (by decide) rfl ?_
      refine r_goto (tgt := 5) C dX5_lyingBelow_48 (by decide) ?_
      refine r_lo [3, 4, 0, 1] (lo2 := [(0, .ref h0), (1, .int (iI w)), (4, .int (iI 4)), (2, .long (lI (mk + (Ly 3))))]) rfl ?_
      exact J5_4 (mk + (Ly 3)) (by rw [im]; first | exact (lbL_t 3 (by omega)).symm | exact (lbL_f 3 (by omega)).symm)
  have J5_2 : ∀ (mk : Int), (mk = lbL Ly Wo w 2) → gW p l e (gr 1 0 0) s m args below meth c X A 6 (MQ below ((gQl X (Y := Unit) (fun _ => (0 ≤ lbL Ly Wo w 4 ∧ lbL Ly Wo w 4 ≤ 72)) (fun _ => (lbL Ly Wo w 4)) (fun _ => [(h0, .inr (5, [.ref s1, .int (iI 4), .ref w0, .ref t0, .ref k0, .ref r0, .int (iI gf), .int (iI gs), .ref rp, .int (iI rc), .ref sh1, .int (iI tc), .int (iI ft)])), (s1, .inl (X.2.1.2.1, 8, .inr (.inr (.inr (.inr sf))))), ((sa 0), .inr (3, [.int (iI (Wt 0)), .int (iI (Wd 0)), .int (iI (Rg 0)), .int (iI (Ly 0)), .int (iI (Wo 0))])), ((sa 1), .inr (3, [.int (iI (Wt 1)), .int (iI (Wd 1)), .int (iI (Rg 1)), .int (iI (Ly 1)), .int (iI (Wo 1))])), ((sa 2), .inr (3, [.int (iI (Wt 2)), .int (iI (Wd 2)), .int (iI (Rg 2)), .int (iI (Ly 2)), .int (iI (Wo 2))])), ((sa 3), .inr (3, [.int (iI (Wt 3)), .int (iI (Wd 3)), .int (iI (Rg 3)), .int (iI (Ly 3)), .int (iI (Wo 3))]))])) A) args s 0 0 A) 0 0 [(h0, .inr (5, [.ref s1, .int (iI 4), .ref w0, .ref t0, .ref k0, .ref r0, .int (iI gf), .int (iI gs), .ref rp, .int (iI rc), .ref sh1, .int (iI tc), .int (iI ft)])), (s1, .inl (X.2.1.2.1, 8, .inr (.inr (.inr (.inr sf))))), ((sa 0), .inr (3, [.int (iI (Wt 0)), .int (iI (Wd 0)), .int (iI (Rg 0)), .int (iI (Ly 0)), .int (iI (Wo 0))])), ((sa 1), .inr (3, [.int (iI (Wt 1)), .int (iI (Wd 1)), .int (iI (Rg 1)), .int (iI (Ly 1)), .int (iI (Wo 1))])), ((sa 2), .inr (3, [.int (iI (Wt 2)), .int (iI (Wd 2)), .int (iI (Rg 2)), .int (iI (Ly 2)), .int (iI (Wo 2))])), ((sa 3), .inr (3, [.int (iI (Wt 3)), .int (iI (Wd 3)), .int (iI (Rg 3)), .int (iI (Ly 3)), .int (iI (Wo 3))]))] 5 [(0, .ref h0), (1, .int (iI w)), (4, .int (iI 2)), (2, .long (lI mk))] [] := by
    intro mk im
    refine r_iload C dX5_lyingBelow_5 2 rfl ?_
    refine r_aload_n C dX5_lyingBelow_7 0 rfl ?_
    refine gf_5_1 C hi_X5_lyingBelow_5 kw_X5_lyingBelow_0 dX5_lyingBelow_8 0 rfl rfl ?_
    refine r_icmp_ge (tgt := 51) C dX5_lyingBelow_11 (by decide) (by decide) (by decide) (fun h_4 => absurd h_4 (by decide)) (fun h_4 => ?_)
    refine r_aload_n C dX5_lyingBelow_14 0 rfl ?_
    refine r_iload C dX5_lyingBelow_15 2 rfl ?_
    refine g_V_q (ws2 := (fun _ => [(h0, .inr (5, [.ref s1, .int (iI 4), .ref w0, .ref t0, .ref k0, .ref r0, .int (iI gf), .int (iI gs), .ref rp, .int (iI rc), .ref sh1, .int (iI tc), .int (iI ft)])), (s1, .inl (X.2.1.2.1, 8, .inr (.inr (.inr (.inr sf))))), ((sa 0), .inr (3, [.int (iI (Wt 0)), .int (iI (Wd 0)), .int (iI (Rg 0)), .int (iI (Ly 0)), .int (iI (Wo 0))])), ((sa 1), .inr (3, [.int (iI (Wt 1)), .int (iI (Wd 1)), .int (iI (Rg 1)), .int (iI (Ly 1)), .int (iI (Wo 1))])), ((sa 2), .inr (3, [.int (iI (Wt 2)), .int (iI (Wd 2)), .int (iI (Rg 2)), .int (iI (Ly 2)), .int (iI (Wo 2))])), ((sa 3), .inr (3, [.int (iI (Wt 3)), .int (iI (Wd 3)), .int (iI (Rg 3)), .int (iI (Ly 3)), .int (iI (Wo 3))]))])) (As := [.int (iI 2)]) C (c_X5_stoneAt_in l X h0 s1 w0 t0 k0 r0 rp sh1 4 gf gs rc tc ft sf (sa 2) 2 (by decide) (hsf 2 (by decide))) gX5_lyingBelow_X5_stoneAt rfl rfl rfl hd_V_X5_stoneAt_X5_lyingBelow (by decide) dX5_lyingBelow_17 [0, 1] [2, 3, 4, 5] [4, 5, 0, 1, 2, 3] rfl rfl rfl rfl (by decide) rfl 0 5 rfl rfl rfl rfl (Nat.le_of_ble_eq_true rfl) (by decide) (fun _ => rfl) (fun _ hy_ => ?_)
    clear hy_
    refine r_astore (lo2 := [(5, .ref (sa 2)), (0, .ref h0), (1, .int (iI w)), (4, .int (iI 2)), (2, .long (lI mk))]) C dX5_lyingBelow_20 (by decide) rfl ?_
    refine r_aload C dX5_lyingBelow_22 0 rfl ?_
    refine r_ifnull C dX5_lyingBelow_24 ?_
    refine r_aload C dX5_lyingBelow_27 0 rfl ?_
    refine gf_3_4 C hi_X5_lyingBelow_3 kw_X5_lyingBelow_1 dX5_lyingBelow_29 4 rfl rfl ?_
    refine r_iload_n C dX5_lyingBelow_32 2 rfl ?_
    refine r_icmp_ge (tgt := 45) C dX5_lyingBelow_33 (by decide) (by omega) (by omega) (fun h_5 => ?_) (fun h_5 => ?_)
    · skip
      refine r_iinc (lo2 := [(4, .int (iI 3)), (5, .ref (sa 2)), (0, .ref h0), (1, .int (iI w)), (2, .long (lI mk))]) C dX5_lyingBelow_45 3 rfl (by decide) rfl ?_
      refine r_goto (tgt := 5) C dX5_lyingBelow_48 (by decide) ?_
      refine r_lo [2, 3, 0, 4] (lo2 := [(0, .ref h0), (1, .int (iI w)), (4, .int (iI 3)), (2, .long (lI mk))]) rfl ?_
      exact J5_3 mk (by rw [im]; first | exact (lbL_t 2 (by omega)).symm | exact (lbL_f 2 (by omega)).symm)
    · skip
      refine r_lload_n C dX5_lyingBelow_36 4 rfl ?_
      refine r_aload C dX5_lyingBelow_37 0 rfl ?_
      refine gf_3_3 C hi_X5_lyingBelow_3 kw_X5_lyingBelow_2 dX5_lyingBelow_39 4 rfl rfl ?_
      refine r_i2l C dX5_lyingBelow_42 (by omega) ?_
      refine r_ladd C dX5_lyingBelow_43 ?_
      refine r_lstore_n (lo2 := [(2, .long (lI (mk + (Ly 2)))), (5, .ref (sa 2)), (0, .ref h0), (1, .int (iI w)), (4, .int (iI 2))]) C dX5_lyingBelow_44 rfl (by decide) rfl ?_
      refine r_iinc (lo2 := [(4, .int (iI 3)), (2, .long (lI (mk + (Ly 2)))), (5, .ref (sa 2)), (0, .ref h0), (1, .int (iI w))]) C dX5_lyingBelow_45 4 rfl (by decide) rfl ?_
      refine r_goto (tgt := 5) C dX5_lyingBelow_48 (by decide) ?_
      refine r_lo [3, 4, 0, 1] (lo2 := [(0, .ref h0), (1, .int (iI w)), (4, .int (iI 3)), (2, .long (lI (mk + (Ly 2))))]) rfl ?_
      exact J5_3 (mk + (Ly 2)) (by rw [im]; first | exact (lbL_t 2 (by omega)).symm | exact (lbL_f 2 (by omega)).symm)
  have J5_1 : ∀ (mk : Int), (mk = lbL Ly Wo w 1) → gW p l e (gr 1 0 0) s m args below meth c X A 6 (MQ below ((gQl X (Y := Unit) (fun _ => (0 ≤ lbL Ly Wo w 4 ∧ lbL Ly Wo w 4 ≤ 72)) (fun _ => (lbL Ly Wo w 4)) (fun _ => [(h0, .inr (5, [.ref s1, .int (iI 4), .ref w0, .ref t0, .ref k0, .ref r0, .int (iI gf), .int (iI gs), .ref rp, .int (iI rc), .ref sh1, .int (iI tc), .int (iI ft)])), (s1, .inl (X.2.1.2.1, 8, .inr (.inr (.inr (.inr sf))))), ((sa 0), .inr (3, [.int (iI (Wt 0)), .int (iI (Wd 0)), .int (iI (Rg 0)), .int (iI (Ly 0)), .int (iI (Wo 0))])), ((sa 1), .inr (3, [.int (iI (Wt 1)), .int (iI (Wd 1)), .int (iI (Rg 1)), .int (iI (Ly 1)), .int (iI (Wo 1))])), ((sa 2), .inr (3, [.int (iI (Wt 2)), .int (iI (Wd 2)), .int (iI (Rg 2)), .int (iI (Ly 2)), .int (iI (Wo 2))])), ((sa 3), .inr (3, [.int (iI (Wt 3)), .int (iI (Wd 3)), .int (iI (Rg 3)), .int (iI (Ly 3)), .int (iI (Wo 3))]))])) A) args s 0 0 A) 0 0 [(h0, .inr (5, [.ref s1, .int (iI 4), .ref w0, .ref t0, .ref k0, .ref r0, .int (iI gf), .int (iI gs), .ref rp, .int (iI rc), .ref sh1, .int (iI tc), .int (iI ft)])), (s1, .inl (X.2.1.2.1, 8, .inr (.inr (.inr (.inr sf))))), ((sa 0), .inr (3, [.int (iI (Wt 0)), .int (iI (Wd 0)), .int (iI (Rg 0)), .int (iI (Ly 0)), .int (iI (Wo 0))])), ((sa 1), .inr (3, [.int (iI (Wt 1)), .int (iI (Wd 1)), .int (iI (Rg 1)), .int (iI (Ly 1)), .int (iI (Wo 1))])), ((sa 2), .inr (3, [.int (iI (Wt 2)), .int (iI (Wd 2)), .int (iI (Rg 2)), .int (iI (Ly 2)), .int (iI (Wo 2))])), ((sa 3), .inr (3, [.int (iI (Wt 3)), .int (iI (Wd 3)), .int (iI (Rg 3)), .int (iI (Ly 3)), .int (iI (Wo 3))]))] 5 [(0, .ref h0), (1, .int (iI w)), (4, .int (iI 1)), (2, .long (lI mk))] [] := by
    intro mk im
    refine r_iload C dX5_lyingBelow_5 2 rfl ?_
    refine r_aload_n C dX5_lyingBelow_7 0 rfl ?_
    refine gf_5_1 C hi_X5_lyingBelow_5 kw_X5_lyingBelow_0 dX5_lyingBelow_8 0 rfl rfl ?_
    refine r_icmp_ge (tgt := 51) C dX5_lyingBelow_11 (by decide) (by decide) (by decide) (fun h_6 => absurd h_6 (by decide)) (fun h_6 => ?_)
    refine r_aload_n C dX5_lyingBelow_14 0 rfl ?_
    refine r_iload C dX5_lyingBelow_15 2 rfl ?_
    refine g_V_q (ws2 := (fun _ => [(h0, .inr (5, [.ref s1, .int (iI 4), .ref w0, .ref t0, .ref k0, .ref r0, .int (iI gf), .int (iI gs), .ref rp, .int (iI rc), .ref sh1, .int (iI tc), .int (iI ft)])), (s1, .inl (X.2.1.2.1, 8, .inr (.inr (.inr (.inr sf))))), ((sa 0), .inr (3, [.int (iI (Wt 0)), .int (iI (Wd 0)), .int (iI (Rg 0)), .int (iI (Ly 0)), .int (iI (Wo 0))])), ((sa 1), .inr (3, [.int (iI (Wt 1)), .int (iI (Wd 1)), .int (iI (Rg 1)), .int (iI (Ly 1)), .int (iI (Wo 1))])), ((sa 2), .inr (3, [.int (iI (Wt 2)), .int (iI (Wd 2)), .int (iI (Rg 2)), .int (iI (Ly 2)), .int (iI (Wo 2))])), ((sa 3), .inr (3, [.int (iI (Wt 3)), .int (iI (Wd 3)), .int (iI (Rg 3)), .int (iI (Ly 3)), .int (iI (Wo 3))]))])) (As := [.int (iI 1)]) C (c_X5_stoneAt_in l X h0 s1 w0 t0 k0 r0 rp sh1 4 gf gs rc tc ft sf (sa 1) 1 (by decide) (hsf 1 (by decide))) gX5_lyingBelow_X5_stoneAt rfl rfl rfl hd_V_X5_stoneAt_X5_lyingBelow (by decide) dX5_lyingBelow_17 [0, 1] [2, 3, 4, 5] [4, 5, 0, 1, 2, 3] rfl rfl rfl rfl (by decide) rfl 0 5 rfl rfl rfl rfl (Nat.le_of_ble_eq_true rfl) (by decide) (fun _ => rfl) (fun _ hy_ => ?_)
    clear hy_
    refine r_astore (lo2 := [(5, .ref (sa 1)), (0, .ref h0), (1, .int (iI w)), (4, .int (iI 1)), (2, .long (lI mk))]) C dX5_lyingBelow_20 (by decide) rfl ?_
    refine r_aload C dX5_lyingBelow_22 0 rfl ?_
    refine r_ifnull C dX5_lyingBelow_24 ?_
    refine r_aload C dX5_lyingBelow_27 0 rfl ?_
    refine gf_3_4 C hi_X5_lyingBelow_3 kw_X5_lyingBelow_1 dX5_lyingBelow_29 3 rfl rfl ?_
    refine r_iload_n C dX5_lyingBelow_32 2 rfl ?_
    refine r_icmp_ge (tgt := 45) C dX5_lyingBelow_33 (by decide) (by omega) (by omega) (fun h_7 => ?_) (fun h_7 => ?_)
    · skip
      refine r_iinc (lo2 := [(4, .int (iI 2)), (5, .ref (sa 1)), (0, .ref h0), (1, .int (iI w)), (2, .long (lI mk))]) C dX5_lyingBelow_45 3 rfl (by decide) rfl ?_
      refine r_goto (tgt := 5) C dX5_lyingBelow_48 (by decide) ?_
      refine r_lo [2, 3, 0, 4] (lo2 := [(0, .ref h0), (1, .int (iI w)), (4, .int (iI 2)), (2, .long (lI mk))]) rfl ?_
      exact J5_2 mk (by rw [im]; first | exact (lbL_t 1 (by omega)).symm | exact (lbL_f 1 (by omega)).symm)
    · skip
      refine r_lload_n C dX5_lyingBelow_36 4 rfl ?_
      refine r_aload C dX5_lyingBelow_37 0 rfl ?_
      refine gf_3_3 C hi_X5_lyingBelow_3 kw_X5_lyingBelow_2 dX5_lyingBelow_39 3 rfl rfl ?_
      refine r_i2l C dX5_lyingBelow_42 (by omega) ?_
      refine r_ladd C dX5_lyingBelow_43 ?_
      refine r_lstore_n (lo2 := [(2, .long (lI (mk + (Ly 1)))), (5, .ref (sa 1)), (0, .ref h0), (1, .int (iI w)), (4, .int (iI 1))]) C dX5_lyingBelow_44 rfl (by decide) rfl ?_
      refine r_iinc (lo2 := [(4, .int (iI 2)), (2, .long (lI (mk + (Ly 1)))), (5, .ref (sa 1)), (0, .ref h0), (1, .int (iI w))]) C dX5_lyingBelow_45 4 rfl (by decide) rfl ?_
      refine r_goto (tgt := 5) C dX5_lyingBelow_48 (by decide) ?_
      refine r_lo [3, 4, 0, 1] (lo2 := [(0, .ref h0), (1, .int (iI w)), (4, .int (iI 2)), (2, .long (lI (mk + (Ly 1))))]) rfl ?_
      exact J5_2 (mk + (Ly 1)) (by rw [im]; first | exact (lbL_t 1 (by omega)).symm | exact (lbL_f 1 (by omega)).symm)
  have J5_0 : ∀ (mk : Int), (mk = lbL Ly Wo w 0) → gW p l e (gr 1 0 0) s m args below meth c X A 6 (MQ below ((gQl X (Y := Unit) (fun _ => (0 ≤ lbL Ly Wo w 4 ∧ lbL Ly Wo w 4 ≤ 72)) (fun _ => (lbL Ly Wo w 4)) (fun _ => [(h0, .inr (5, [.ref s1, .int (iI 4), .ref w0, .ref t0, .ref k0, .ref r0, .int (iI gf), .int (iI gs), .ref rp, .int (iI rc), .ref sh1, .int (iI tc), .int (iI ft)])), (s1, .inl (X.2.1.2.1, 8, .inr (.inr (.inr (.inr sf))))), ((sa 0), .inr (3, [.int (iI (Wt 0)), .int (iI (Wd 0)), .int (iI (Rg 0)), .int (iI (Ly 0)), .int (iI (Wo 0))])), ((sa 1), .inr (3, [.int (iI (Wt 1)), .int (iI (Wd 1)), .int (iI (Rg 1)), .int (iI (Ly 1)), .int (iI (Wo 1))])), ((sa 2), .inr (3, [.int (iI (Wt 2)), .int (iI (Wd 2)), .int (iI (Rg 2)), .int (iI (Ly 2)), .int (iI (Wo 2))])), ((sa 3), .inr (3, [.int (iI (Wt 3)), .int (iI (Wd 3)), .int (iI (Rg 3)), .int (iI (Ly 3)), .int (iI (Wo 3))]))])) A) args s 0 0 A) 0 0 [(h0, .inr (5, [.ref s1, .int (iI 4), .ref w0, .ref t0, .ref k0, .ref r0, .int (iI gf), .int (iI gs), .ref rp, .int (iI rc), .ref sh1, .int (iI tc), .int (iI ft)])), (s1, .inl (X.2.1.2.1, 8, .inr (.inr (.inr (.inr sf))))), ((sa 0), .inr (3, [.int (iI (Wt 0)), .int (iI (Wd 0)), .int (iI (Rg 0)), .int (iI (Ly 0)), .int (iI (Wo 0))])), ((sa 1), .inr (3, [.int (iI (Wt 1)), .int (iI (Wd 1)), .int (iI (Rg 1)), .int (iI (Ly 1)), .int (iI (Wo 1))])), ((sa 2), .inr (3, [.int (iI (Wt 2)), .int (iI (Wd 2)), .int (iI (Rg 2)), .int (iI (Ly 2)), .int (iI (Wo 2))])), ((sa 3), .inr (3, [.int (iI (Wt 3)), .int (iI (Wd 3)), .int (iI (Rg 3)), .int (iI (Ly 3)), .int (iI (Wo 3))]))] 5 [(0, .ref h0), (1, .int (iI w)), (4, .int (iI 0)), (2, .long (lI mk))] [] := by
    intro mk im
    refine r_iload C dX5_lyingBelow_5 2 rfl ?_
    refine r_aload_n C dX5_lyingBelow_7 0 rfl ?_
    refine gf_5_1 C hi_X5_lyingBelow_5 kw_X5_lyingBelow_0 dX5_lyingBelow_8 0 rfl rfl ?_
    refine r_icmp_ge (tgt := 51) C dX5_lyingBelow_11 (by decide) (by decide) (by decide) (fun h_8 => absurd h_8 (by decide)) (fun h_8 => ?_)
    refine r_aload_n C dX5_lyingBelow_14 0 rfl ?_
    refine r_iload C dX5_lyingBelow_15 2 rfl ?_
    refine g_V_q (ws2 := (fun _ => [(h0, .inr (5, [.ref s1, .int (iI 4), .ref w0, .ref t0, .ref k0, .ref r0, .int (iI gf), .int (iI gs), .ref rp, .int (iI rc), .ref sh1, .int (iI tc), .int (iI ft)])), (s1, .inl (X.2.1.2.1, 8, .inr (.inr (.inr (.inr sf))))), ((sa 0), .inr (3, [.int (iI (Wt 0)), .int (iI (Wd 0)), .int (iI (Rg 0)), .int (iI (Ly 0)), .int (iI (Wo 0))])), ((sa 1), .inr (3, [.int (iI (Wt 1)), .int (iI (Wd 1)), .int (iI (Rg 1)), .int (iI (Ly 1)), .int (iI (Wo 1))])), ((sa 2), .inr (3, [.int (iI (Wt 2)), .int (iI (Wd 2)), .int (iI (Rg 2)), .int (iI (Ly 2)), .int (iI (Wo 2))])), ((sa 3), .inr (3, [.int (iI (Wt 3)), .int (iI (Wd 3)), .int (iI (Rg 3)), .int (iI (Ly 3)), .int (iI (Wo 3))]))])) (As := [.int (iI 0)]) C (c_X5_stoneAt_in l X h0 s1 w0 t0 k0 r0 rp sh1 4 gf gs rc tc ft sf (sa 0) 0 (by decide) (hsf 0 (by decide))) gX5_lyingBelow_X5_stoneAt rfl rfl rfl hd_V_X5_stoneAt_X5_lyingBelow (by decide) dX5_lyingBelow_17 [0, 1] [2, 3, 4, 5] [4, 5, 0, 1, 2, 3] rfl rfl rfl rfl (by decide) rfl 0 5 rfl rfl rfl rfl (Nat.le_of_ble_eq_true rfl) (by decide) (fun _ => rfl) (fun _ hy_ => ?_)
    clear hy_
    refine r_astore (lo2 := [(5, .ref (sa 0)), (0, .ref h0), (1, .int (iI w)), (4, .int (iI 0)), (2, .long (lI mk))]) C dX5_lyingBelow_20 (by decide) rfl ?_
    refine r_aload C dX5_lyingBelow_22 0 rfl ?_
    refine r_ifnull C dX5_lyingBelow_24 ?_
    refine r_aload C dX5_lyingBelow_27 0 rfl ?_
    refine gf_3_4 C hi_X5_lyingBelow_3 kw_X5_lyingBelow_1 dX5_lyingBelow_29 2 rfl rfl ?_
    refine r_iload_n C dX5_lyingBelow_32 2 rfl ?_
    refine r_icmp_ge (tgt := 45) C dX5_lyingBelow_33 (by decide) (by omega) (by omega) (fun h_9 => ?_) (fun h_9 => ?_)
    · skip
      refine r_iinc (lo2 := [(4, .int (iI 1)), (5, .ref (sa 0)), (0, .ref h0), (1, .int (iI w)), (2, .long (lI mk))]) C dX5_lyingBelow_45 3 rfl (by decide) rfl ?_
      refine r_goto (tgt := 5) C dX5_lyingBelow_48 (by decide) ?_
      refine r_lo [2, 3, 0, 4] (lo2 := [(0, .ref h0), (1, .int (iI w)), (4, .int (iI 1)), (2, .long (lI mk))]) rfl ?_
      exact J5_1 mk (by rw [im]; first | exact (lbL_t 0 (by omega)).symm | exact (lbL_f 0 (by omega)).symm)
    · skip
      refine r_lload_n C dX5_lyingBelow_36 4 rfl ?_
      refine r_aload C dX5_lyingBelow_37 0 rfl ?_
      refine gf_3_3 C hi_X5_lyingBelow_3 kw_X5_lyingBelow_2 dX5_lyingBelow_39 2 rfl rfl ?_
      refine r_i2l C dX5_lyingBelow_42 (by omega) ?_
      refine r_ladd C dX5_lyingBelow_43 ?_
      refine r_lstore_n (lo2 := [(2, .long (lI (mk + (Ly 0)))), (5, .ref (sa 0)), (0, .ref h0), (1, .int (iI w)), (4, .int (iI 0))]) C dX5_lyingBelow_44 rfl (by decide) rfl ?_
      refine r_iinc (lo2 := [(4, .int (iI 1)), (2, .long (lI (mk + (Ly 0)))), (5, .ref (sa 0)), (0, .ref h0), (1, .int (iI w))]) C dX5_lyingBelow_45 4 rfl (by decide) rfl ?_
      refine r_goto (tgt := 5) C dX5_lyingBelow_48 (by decide) ?_
      refine r_lo [3, 4, 0, 1] (lo2 := [(0, .ref h0), (1, .int (iI w)), (4, .int (iI 1)), (2, .long (lI (mk + (Ly 0))))]) rfl ?_
      exact J5_1 (mk + (Ly 0)) (by rw [im]; first | exact (lbL_t 0 (by omega)).symm | exact (lbL_f 0 (by omega)).symm)
  refine r_lo [2, 3, 0, 1] (lo2 := [(0, .ref h0), (1, .int (iI w)), (4, .int (iI 0)), (2, .long (lI 0))]) rfl ?_
  exact J5_0 0 rfl

set_option maxHeartbeats 4000000 in
set_option maxRecDepth 100000 in
theorem c_X5_bestWorths_4 (l : Launch) (X : gX) (h0 : Nat) (s1 : Nat) (w0 : Nat) (t0 : Nat) (k0 : Nat) (r0 : Nat) (rp : Nat) (sh1 : Nat) (gf : Int) (gs : Int) (rc : Int) (tc : Int) (ft : Int) (sf : Nat → Option Nat) (sa : Nat → Nat) (Wt : Nat → Int) (Wd : Nat → Int) (Rg : Nat → Int) (Ly : Nat → Int) (Wo : Nat → Int) (k : Int) (hsf : ∀ j : Nat, j < 4 → sf j = some (sa j)) (hLy : ∀ j : Nat, j < 4 → 0 ≤ Ly j ∧ Ly j ≤ 9) (hWo : ∀ j : Nat, j < 4 → 0 ≤ Wo j ∧ Wo j ≤ 99) (hk : 0 ≤ k ∧ k ≤ 6) : gM l yX5_bestWorths wsX5_bestWorths (gr 2 0 0) X [(h0, .inr (5, [.ref s1, .int (iI 4), .ref w0, .ref t0, .ref k0, .ref r0, .int (iI gf), .int (iI gs), .ref rp, .int (iI rc), .ref sh1, .int (iI tc), .int (iI ft)])), (s1, .inl (X.2.1.2.1, 8, .inr (.inr (.inr (.inr sf))))), ((sa 0), .inr (3, [.int (iI (Wt 0)), .int (iI (Wd 0)), .int (iI (Rg 0)), .int (iI (Ly 0)), .int (iI (Wo 0))])), ((sa 1), .inr (3, [.int (iI (Wt 1)), .int (iI (Wd 1)), .int (iI (Rg 1)), .int (iI (Ly 1)), .int (iI (Wo 1))])), ((sa 2), .inr (3, [.int (iI (Wt 2)), .int (iI (Wd 2)), .int (iI (Rg 2)), .int (iI (Ly 2)), .int (iI (Wo 2))])), ((sa 3), .inr (3, [.int (iI (Wt 3)), .int (iI (Wd 3)), .int (iI (Rg 3)), .int (iI (Ly 3)), .int (iI (Wo 3))]))] [.ref h0, .int (iI k)] (gQl X (Y := Unit) (fun _ => True) (fun _ => (bwV Ly Wo 4 k)) (fun _ => [(h0, .inr (5, [.ref s1, .int (iI 4), .ref w0, .ref t0, .ref k0, .ref r0, .int (iI gf), .int (iI gs), .ref rp, .int (iI rc), .ref sh1, .int (iI tc), .int (iI ft)])), (s1, .inl (X.2.1.2.1, 8, .inr (.inr (.inr (.inr sf))))), ((sa 0), .inr (3, [.int (iI (Wt 0)), .int (iI (Wd 0)), .int (iI (Rg 0)), .int (iI (Ly 0)), .int (iI (Wo 0))])), ((sa 1), .inr (3, [.int (iI (Wt 1)), .int (iI (Wd 1)), .int (iI (Rg 1)), .int (iI (Ly 1)), .int (iI (Wo 1))])), ((sa 2), .inr (3, [.int (iI (Wt 2)), .int (iI (Wd 2)), .int (iI (Rg 2)), .int (iI (Ly 2)), .int (iI (Wo 2))])), ((sa 3), .inr (3, [.int (iI (Wt 3)), .int (iI (Wd 3)), .int (iI (Rg 3)), .int (iI (Ly 3)), .int (iI (Wo 3))]))])) 0 0 := by
  refine g_start2 (lo := [(0, .ref h0), (1, .int (iI k))]) (by decide +kernel) rfl rfl (Nat.le_of_ble_eq_true rfl) (fun p e s m args below meth c A C => ?_)
  refine r_aload_n C dX5_bestWorths_0 0 rfl ?_
  refine r_bipush C dX5_bestWorths_1 (by decide) ?_
  refine g_V_l (ws2 := (fun _ => [(h0, .inr (5, [.ref s1, .int (iI 4), .ref w0, .ref t0, .ref k0, .ref r0, .int (iI gf), .int (iI gs), .ref rp, .int (iI rc), .ref sh1, .int (iI tc), .int (iI ft)])), (s1, .inl (X.2.1.2.1, 8, .inr (.inr (.inr (.inr sf))))), ((sa 0), .inr (3, [.int (iI (Wt 0)), .int (iI (Wd 0)), .int (iI (Rg 0)), .int (iI (Ly 0)), .int (iI (Wo 0))])), ((sa 1), .inr (3, [.int (iI (Wt 1)), .int (iI (Wd 1)), .int (iI (Rg 1)), .int (iI (Ly 1)), .int (iI (Wo 1))])), ((sa 2), .inr (3, [.int (iI (Wt 2)), .int (iI (Wd 2)), .int (iI (Rg 2)), .int (iI (Ly 2)), .int (iI (Wo 2))])), ((sa 3), .inr (3, [.int (iI (Wt 3)), .int (iI (Wd 3)), .int (iI (Rg 3)), .int (iI (Ly 3)), .int (iI (Wo 3))]))])) (As := [.int (iI 100)]) C (c_X5_lyingBelow_4 l X h0 s1 w0 t0 k0 r0 rp sh1 gf gs rc tc ft sf sa Wt Wd Rg Ly Wo 100 hsf hLy hWo (by first | assumption | omega)) gX5_bestWorths_X5_lyingBelow rfl rfl rfl hd_V_X5_lyingBelow_X5_bestWorths (by decide) dX5_bestWorths_3 [0, 1, 2, 3, 4, 5] [] [0, 1, 2, 3, 4, 5] rfl rfl rfl rfl (by decide) rfl 0 5 rfl rfl rfl rfl (Nat.le_of_ble_eq_true rfl) (by decide) (fun _ => rfl) (fun _ hy_ => ?_)
  have y_1 : 0 ≤ lbL Ly Wo 100 4 ∧ lbL Ly Wo 100 4 ≤ 72 := hy_
  clear hy_
  refine r_iload_n C dX5_bestWorths_6 1 rfl ?_
  refine g_S_l (ws2 := (fun _ => [(h0, .inr (5, [.ref s1, .int (iI 4), .ref w0, .ref t0, .ref k0, .ref r0, .int (iI gf), .int (iI gs), .ref rp, .int (iI rc), .ref sh1, .int (iI tc), .int (iI ft)])), (s1, .inl (X.2.1.2.1, 8, .inr (.inr (.inr (.inr sf))))), ((sa 0), .inr (3, [.int (iI (Wt 0)), .int (iI (Wd 0)), .int (iI (Rg 0)), .int (iI (Ly 0)), .int (iI (Wo 0))])), ((sa 1), .inr (3, [.int (iI (Wt 1)), .int (iI (Wd 1)), .int (iI (Rg 1)), .int (iI (Ly 1)), .int (iI (Wo 1))])), ((sa 2), .inr (3, [.int (iI (Wt 2)), .int (iI (Wd 2)), .int (iI (Rg 2)), .int (iI (Ly 2)), .int (iI (Wo 2))])), ((sa 3), .inr (3, [.int (iI (Wt 3)), .int (iI (Wd 3)), .int (iI (Rg 3)), .int (iI (Ly 3)), .int (iI (Wo 3))]))])) (As := [.long (lI (lbL Ly Wo 100 4)), .int (iI k)]) C (c_X5_power l X (lbL Ly Wo 100 4) k (by first | assumption | omega)) gX5_bestWorths_X5_power rfl rfl rfl hd_S_X5_power_X5_bestWorths (by decide) dX5_bestWorths_7 [] [0, 1, 2, 3, 4, 5] [0, 1, 2, 3, 4, 5] rfl rfl rfl rfl (by decide) rfl rfl rfl (Nat.le_of_ble_eq_true rfl) (by decide) (fun _ => rfl) (fun _ hy_ => ?_)
  clear hy_
  refine r_lstore_n (lo2 := [(2, .long (lI (pwI (lbL Ly Wo 100 4) k))), (0, .ref h0), (1, .int (iI k))]) C dX5_bestWorths_10 rfl (by decide) rfl ?_
  refine r_lconst (z := 0) C dX5_bestWorths_11 rfl ?_
  refine r_lstore (lo2 := [(4, .long (lI 0)), (2, .long (lI (pwI (lbL Ly Wo 100 4) k))), (0, .ref h0), (1, .int (iI k))]) C dX5_bestWorths_12 (by decide) rfl ?_
  refine r_iconst C dX5_bestWorths_14 ?_
  refine r_istore (lo2 := [(6, .int (iI 1)), (4, .long (lI 0)), (2, .long (lI (pwI (lbL Ly Wo 100 4) k))), (0, .ref h0), (1, .int (iI k))]) C dX5_bestWorths_15 (by decide) rfl ?_
  have L17 : ∀ (fu17 : Nat) (a1 : Int) (wk : Int), (1 ≤ wk ∧ wk ≤ 100) → (bwV Ly Wo 4 k = bwL (fun w => pwI (lbL Ly Wo w 4) k) (pwI (lbL Ly Wo 100 4) k) (100 - wk).toNat wk a1) → (100 - wk).toNat < fu17 → gW p l e (gr 2 0 0) s m args below meth c X A 7 (MQ below ((gQl X (Y := Unit) (fun _ => True) (fun _ => (bwV Ly Wo 4 k)) (fun _ => [(h0, .inr (5, [.ref s1, .int (iI 4), .ref w0, .ref t0, .ref k0, .ref r0, .int (iI gf), .int (iI gs), .ref rp, .int (iI rc), .ref sh1, .int (iI tc), .int (iI ft)])), (s1, .inl (X.2.1.2.1, 8, .inr (.inr (.inr (.inr sf))))), ((sa 0), .inr (3, [.int (iI (Wt 0)), .int (iI (Wd 0)), .int (iI (Rg 0)), .int (iI (Ly 0)), .int (iI (Wo 0))])), ((sa 1), .inr (3, [.int (iI (Wt 1)), .int (iI (Wd 1)), .int (iI (Rg 1)), .int (iI (Ly 1)), .int (iI (Wo 1))])), ((sa 2), .inr (3, [.int (iI (Wt 2)), .int (iI (Wd 2)), .int (iI (Rg 2)), .int (iI (Ly 2)), .int (iI (Wo 2))])), ((sa 3), .inr (3, [.int (iI (Wt 3)), .int (iI (Wd 3)), .int (iI (Rg 3)), .int (iI (Ly 3)), .int (iI (Wo 3))]))])) A) args s 0 0 A) 0 0 [(h0, .inr (5, [.ref s1, .int (iI 4), .ref w0, .ref t0, .ref k0, .ref r0, .int (iI gf), .int (iI gs), .ref rp, .int (iI rc), .ref sh1, .int (iI tc), .int (iI ft)])), (s1, .inl (X.2.1.2.1, 8, .inr (.inr (.inr (.inr sf))))), ((sa 0), .inr (3, [.int (iI (Wt 0)), .int (iI (Wd 0)), .int (iI (Rg 0)), .int (iI (Ly 0)), .int (iI (Wo 0))])), ((sa 1), .inr (3, [.int (iI (Wt 1)), .int (iI (Wd 1)), .int (iI (Rg 1)), .int (iI (Ly 1)), .int (iI (Wo 1))])), ((sa 2), .inr (3, [.int (iI (Wt 2)), .int (iI (Wd 2)), .int (iI (Rg 2)), .int (iI (Ly 2)), .int (iI (Wo 2))])), ((sa 3), .inr (3, [.int (iI (Wt 3)), .int (iI (Wd 3)), .int (iI (Rg 3)), .int (iI (Ly 3)), .int (iI (Wo 3))]))] 17 [(2, .long (lI (pwI (lbL Ly Wo 100 4) k))), (0, .ref h0), (1, .int (iI k)), (4, .long (lI a1)), (6, .int (iI wk))] [] := by
    intro fu17
    induction fu17 with
    | zero => intro a1 wk iw iB hm17; exact absurd hm17 (Nat.not_lt_zero _)
    | succ fu17 ih17 =>
      intro a1 wk iw iB hm17
      refine r_iload C dX5_bestWorths_17 4 rfl ?_
      refine r_bipush C dX5_bestWorths_19 (by decide) ?_
      refine r_icmp_gt (tgt := 47) C dX5_bestWorths_21 (by decide) (by omega) (by decide) (fun h_3 => ?_) (fun h_3 => ?_)
      · skip
        refine r_lload C dX5_bestWorths_47 3 rfl ?_
        exact g_ret_l C rfl dX5_bestWorths_49 () trivial (by rw [iB, show (100 - wk).toNat = 0 by omega]; rfl) [0, 1, 2, 3, 4, 5] rfl (by (repeat' split) <;> first | rfl | omega)
      · skip
        refine r_lload C dX5_bestWorths_24 3 rfl ?_
        refine r_lload_n C dX5_bestWorths_26 0 rfl ?_
        refine r_aload_n C dX5_bestWorths_27 1 rfl ?_
        refine r_iload C dX5_bestWorths_28 4 rfl ?_
        refine g_V_l (ws2 := (fun _ => [(h0, .inr (5, [.ref s1, .int (iI 4), .ref w0, .ref t0, .ref k0, .ref r0, .int (iI gf), .int (iI gs), .ref rp, .int (iI rc), .ref sh1, .int (iI tc), .int (iI ft)])), (s1, .inl (X.2.1.2.1, 8, .inr (.inr (.inr (.inr sf))))), ((sa 0), .inr (3, [.int (iI (Wt 0)), .int (iI (Wd 0)), .int (iI (Rg 0)), .int (iI (Ly 0)), .int (iI (Wo 0))])), ((sa 1), .inr (3, [.int (iI (Wt 1)), .int (iI (Wd 1)), .int (iI (Rg 1)), .int (iI (Ly 1)), .int (iI (Wo 1))])), ((sa 2), .inr (3, [.int (iI (Wt 2)), .int (iI (Wd 2)), .int (iI (Rg 2)), .int (iI (Ly 2)), .int (iI (Wo 2))])), ((sa 3), .inr (3, [.int (iI (Wt 3)), .int (iI (Wd 3)), .int (iI (Rg 3)), .int (iI (Ly 3)), .int (iI (Wo 3))]))])) (As := [.int (iI wk)]) C (c_X5_lyingBelow_4 l X h0 s1 w0 t0 k0 r0 rp sh1 gf gs rc tc ft sf sa Wt Wd Rg Ly Wo wk hsf hLy hWo (by first | assumption | omega)) gX5_bestWorths_X5_lyingBelow rfl rfl rfl hd_V_X5_lyingBelow_X5_bestWorths (by decide) dX5_bestWorths_30 [0, 1, 2, 3, 4, 5] [] [0, 1, 2, 3, 4, 5] rfl rfl rfl rfl (by decide) rfl 0 5 rfl rfl rfl rfl (Nat.le_of_ble_eq_true rfl) (by decide) (fun _ => rfl) (fun _ hy_ => ?_)
        have y_4 : 0 ≤ lbL Ly Wo wk 4 ∧ lbL Ly Wo wk 4 ≤ 72 := hy_
        clear hy_
        refine r_iload_n C dX5_bestWorths_33 2 rfl ?_
        refine g_S_l (ws2 := (fun _ => [(h0, .inr (5, [.ref s1, .int (iI 4), .ref w0, .ref t0, .ref k0, .ref r0, .int (iI gf), .int (iI gs), .ref rp, .int (iI rc), .ref sh1, .int (iI tc), .int (iI ft)])), (s1, .inl (X.2.1.2.1, 8, .inr (.inr (.inr (.inr sf))))), ((sa 0), .inr (3, [.int (iI (Wt 0)), .int (iI (Wd 0)), .int (iI (Rg 0)), .int (iI (Ly 0)), .int (iI (Wo 0))])), ((sa 1), .inr (3, [.int (iI (Wt 1)), .int (iI (Wd 1)), .int (iI (Rg 1)), .int (iI (Ly 1)), .int (iI (Wo 1))])), ((sa 2), .inr (3, [.int (iI (Wt 2)), .int (iI (Wd 2)), .int (iI (Rg 2)), .int (iI (Ly 2)), .int (iI (Wo 2))])), ((sa 3), .inr (3, [.int (iI (Wt 3)), .int (iI (Wd 3)), .int (iI (Rg 3)), .int (iI (Ly 3)), .int (iI (Wo 3))]))])) (As := [.long (lI (lbL Ly Wo wk 4)), .int (iI k)]) C (c_X5_power l X (lbL Ly Wo wk 4) k (by first | assumption | omega)) gX5_bestWorths_X5_power rfl rfl rfl hd_S_X5_power_X5_bestWorths (by decide) dX5_bestWorths_34 [] [0, 1, 2, 3, 4, 5] [0, 1, 2, 3, 4, 5] rfl rfl rfl rfl (by decide) rfl rfl rfl (Nat.le_of_ble_eq_true rfl) (by decide) (fun _ => rfl) (fun _ hy_ => ?_)
        clear hy_
        refine r_lsub C dX5_bestWorths_37 ?_
        refine r_ladd C dX5_bestWorths_38 ?_
        refine r_lstore (lo2 := [(4, .long (lI (a1 + ((pwI (lbL Ly Wo 100 4) k) - (pwI (lbL Ly Wo wk 4) k))))), (2, .long (lI (pwI (lbL Ly Wo 100 4) k))), (0, .ref h0), (1, .int (iI k)), (6, .int (iI wk))]) C dX5_bestWorths_39 (by decide) rfl ?_
        refine r_iinc (lo2 := [(6, .int (iI (wk + 1))), (4, .long (lI (a1 + ((pwI (lbL Ly Wo 100 4) k) - (pwI (lbL Ly Wo wk 4) k))))), (2, .long (lI (pwI (lbL Ly Wo 100 4) k))), (0, .ref h0), (1, .int (iI k))]) C dX5_bestWorths_41 4 rfl (by decide) rfl ?_
        refine r_goto (tgt := 17) C dX5_bestWorths_44 (by decide) ?_
        refine r_lo [2, 3, 4, 1, 0] (lo2 := [(2, .long (lI (pwI (lbL Ly Wo 100 4) k))), (0, .ref h0), (1, .int (iI k)), (4, .long (lI (a1 + ((pwI (lbL Ly Wo 100 4) k) - (pwI (lbL Ly Wo wk 4) k))))), (6, .int (iI (wk + 1)))]) rfl ?_
        exact ih17 (a1 + ((pwI (lbL Ly Wo 100 4) k) - (pwI (lbL Ly Wo wk 4) k))) (wk + 1) (by omega) (by rw [iB, bwL_go (by omega)]) (by omega)
  refine r_lo [2, 3, 4, 1, 0] (lo2 := [(2, .long (lI (pwI (lbL Ly Wo 100 4) k))), (0, .ref h0), (1, .int (iI k)), (4, .long (lI 0)), (6, .int (iI 1))]) rfl ?_
  exact L17 ((100 - (1 : Int)).toNat + 1) 0 1 (by omega) rfl (Nat.lt_succ_self _)

set_option maxHeartbeats 4000000 in
set_option maxRecDepth 100000 in
theorem c_X5_mean_4 (l : Launch) (X : gX) (h0 : Nat) (s1 : Nat) (w0 : Nat) (t0 : Nat) (k0 : Nat) (r0 : Nat) (rp : Nat) (sh1 : Nat) (gf : Int) (gs : Int) (rc : Int) (tc : Int) (ft : Int) (sf : Nat → Option Nat) (sa : Nat → Nat) (Wt : Nat → Int) (Wd : Nat → Int) (Rg : Nat → Int) (Ly : Nat → Int) (Wo : Nat → Int) (k : Int) (w : Int) (hsf : ∀ j : Nat, j < 4 → sf j = some (sa j)) (hLy : ∀ j : Nat, j < 4 → 0 ≤ Ly j ∧ Ly j ≤ 9) (hWo : ∀ j : Nat, j < 4 → 0 ≤ Wo j ∧ Wo j ≤ 99) (hb_k : inB k) (hb_w : inB w) : gM l yX5_mean wsX5_mean (gr 3 0 0) X [(h0, .inr (5, [.ref s1, .int (iI 4), .ref w0, .ref t0, .ref k0, .ref r0, .int (iI gf), .int (iI gs), .ref rp, .int (iI rc), .ref sh1, .int (iI tc), .int (iI ft)])), (s1, .inl (X.2.1.2.1, 8, .inr (.inr (.inr (.inr sf))))), ((sa 0), .inr (3, [.int (iI (Wt 0)), .int (iI (Wd 0)), .int (iI (Rg 0)), .int (iI (Ly 0)), .int (iI (Wo 0))])), ((sa 1), .inr (3, [.int (iI (Wt 1)), .int (iI (Wd 1)), .int (iI (Rg 1)), .int (iI (Ly 1)), .int (iI (Wo 1))])), ((sa 2), .inr (3, [.int (iI (Wt 2)), .int (iI (Wd 2)), .int (iI (Rg 2)), .int (iI (Ly 2)), .int (iI (Wo 2))])), ((sa 3), .inr (3, [.int (iI (Wt 3)), .int (iI (Wd 3)), .int (iI (Rg 3)), .int (iI (Ly 3)), .int (iI (Wo 3))]))] [.ref h0, .int (iI k), .int (iI w)] (gQl X (Y := Unit) (fun _ => True) (fun _ => (if 1 ≤ k ∧ k ≤ 6 ∧ 0 ≤ w ∧ w ≤ 1 ∧ ¬ (lbL Ly Wo 100 4) = 0 then shV (bwV Ly Wo 4 k) (pwI (lbL Ly Wo 100 4) k) w else -9223372036854775808)) (fun _ => [(h0, .inr (5, [.ref s1, .int (iI 4), .ref w0, .ref t0, .ref k0, .ref r0, .int (iI gf), .int (iI gs), .ref rp, .int (iI rc), .ref sh1, .int (iI tc), .int (iI ft)])), (s1, .inl (X.2.1.2.1, 8, .inr (.inr (.inr (.inr sf))))), ((sa 0), .inr (3, [.int (iI (Wt 0)), .int (iI (Wd 0)), .int (iI (Rg 0)), .int (iI (Ly 0)), .int (iI (Wo 0))])), ((sa 1), .inr (3, [.int (iI (Wt 1)), .int (iI (Wd 1)), .int (iI (Rg 1)), .int (iI (Ly 1)), .int (iI (Wo 1))])), ((sa 2), .inr (3, [.int (iI (Wt 2)), .int (iI (Wd 2)), .int (iI (Rg 2)), .int (iI (Ly 2)), .int (iI (Wo 2))])), ((sa 3), .inr (3, [.int (iI (Wt 3)), .int (iI (Wd 3)), .int (iI (Rg 3)), .int (iI (Ly 3)), .int (iI (Wo 3))]))])) 0 0 := by
  refine g_start2 (lo := [(0, .ref h0), (1, .int (iI k)), (2, .int (iI w))]) (by decide +kernel) rfl rfl (Nat.le_of_ble_eq_true rfl) (fun p e s m args below meth c A C => ?_)
  refine r_iload_n C dX5_mean_0 1 rfl ?_
  refine r_iconst C dX5_mean_1 ?_
  refine r_bipush C dX5_mean_2 (by decide) ?_
  refine g_S_i (ws2 := (fun _ => [(h0, .inr (5, [.ref s1, .int (iI 4), .ref w0, .ref t0, .ref k0, .ref r0, .int (iI gf), .int (iI gs), .ref rp, .int (iI rc), .ref sh1, .int (iI tc), .int (iI ft)])), (s1, .inl (X.2.1.2.1, 8, .inr (.inr (.inr (.inr sf))))), ((sa 0), .inr (3, [.int (iI (Wt 0)), .int (iI (Wd 0)), .int (iI (Rg 0)), .int (iI (Ly 0)), .int (iI (Wo 0))])), ((sa 1), .inr (3, [.int (iI (Wt 1)), .int (iI (Wd 1)), .int (iI (Rg 1)), .int (iI (Ly 1)), .int (iI (Wo 1))])), ((sa 2), .inr (3, [.int (iI (Wt 2)), .int (iI (Wd 2)), .int (iI (Rg 2)), .int (iI (Ly 2)), .int (iI (Wo 2))])), ((sa 3), .inr (3, [.int (iI (Wt 3)), .int (iI (Wd 3)), .int (iI (Rg 3)), .int (iI (Ly 3)), .int (iI (Wo 3))]))])) (As := [.int (iI k), .int (iI 1), .int (iI 6)]) C (c_X5_within l X k 1 6 (by first | assumption | omega) (by first | assumption | omega) (by first | assumption | omega)) gX5_mean_X5_within rfl rfl rfl hd_S_X5_within_X5_mean (by decide) dX5_mean_4 [] [0, 1, 2, 3, 4, 5] [0, 1, 2, 3, 4, 5] rfl rfl rfl rfl (by decide) rfl rfl rfl (Nat.le_of_ble_eq_true rfl) (by decide) (fun _ => rfl) (fun _ hy_ => ?_)
  clear hy_
  refine r_ite (fun h_1 => ?_) (fun h_1 => ?_)
  · skip
    refine r_if_eq (tgt := 19) C dX5_mean_7 (by decide) (by decide) (fun h_2 => absurd h_2 (by decide)) (fun h_2 => ?_)
    refine r_iload_n C dX5_mean_10 2 rfl ?_
    refine r_iconst C dX5_mean_11 ?_
    refine r_iconst C dX5_mean_12 ?_
    refine g_S_i (ws2 := (fun _ => [(h0, .inr (5, [.ref s1, .int (iI 4), .ref w0, .ref t0, .ref k0, .ref r0, .int (iI gf), .int (iI gs), .ref rp, .int (iI rc), .ref sh1, .int (iI tc), .int (iI ft)])), (s1, .inl (X.2.1.2.1, 8, .inr (.inr (.inr (.inr sf))))), ((sa 0), .inr (3, [.int (iI (Wt 0)), .int (iI (Wd 0)), .int (iI (Rg 0)), .int (iI (Ly 0)), .int (iI (Wo 0))])), ((sa 1), .inr (3, [.int (iI (Wt 1)), .int (iI (Wd 1)), .int (iI (Rg 1)), .int (iI (Ly 1)), .int (iI (Wo 1))])), ((sa 2), .inr (3, [.int (iI (Wt 2)), .int (iI (Wd 2)), .int (iI (Rg 2)), .int (iI (Ly 2)), .int (iI (Wo 2))])), ((sa 3), .inr (3, [.int (iI (Wt 3)), .int (iI (Wd 3)), .int (iI (Rg 3)), .int (iI (Ly 3)), .int (iI (Wo 3))]))])) (As := [.int (iI w), .int (iI 0), .int (iI 1)]) C (c_X5_within l X w 0 1 (by first | assumption | omega) (by first | assumption | omega) (by first | assumption | omega)) gX5_mean_X5_within rfl rfl rfl hd_S_X5_within_X5_mean (by decide) dX5_mean_13 [] [0, 1, 2, 3, 4, 5] [0, 1, 2, 3, 4, 5] rfl rfl rfl rfl (by decide) rfl rfl rfl (Nat.le_of_ble_eq_true rfl) (by decide) (fun _ => rfl) (fun _ hy_ => ?_)
    clear hy_
    refine r_ite (fun h_3 => ?_) (fun h_3 => ?_)
    · skip
      refine r_if_ne (tgt := 23) C dX5_mean_16 (by decide) (by decide) (fun h_4 => ?_) (fun h_4 => absurd h_4 (by decide))
      refine r_aload_n C dX5_mean_23 0 rfl ?_
      refine r_bipush C dX5_mean_24 (by decide) ?_
      refine g_V_l (ws2 := (fun _ => [(h0, .inr (5, [.ref s1, .int (iI 4), .ref w0, .ref t0, .ref k0, .ref r0, .int (iI gf), .int (iI gs), .ref rp, .int (iI rc), .ref sh1, .int (iI tc), .int (iI ft)])), (s1, .inl (X.2.1.2.1, 8, .inr (.inr (.inr (.inr sf))))), ((sa 0), .inr (3, [.int (iI (Wt 0)), .int (iI (Wd 0)), .int (iI (Rg 0)), .int (iI (Ly 0)), .int (iI (Wo 0))])), ((sa 1), .inr (3, [.int (iI (Wt 1)), .int (iI (Wd 1)), .int (iI (Rg 1)), .int (iI (Ly 1)), .int (iI (Wo 1))])), ((sa 2), .inr (3, [.int (iI (Wt 2)), .int (iI (Wd 2)), .int (iI (Rg 2)), .int (iI (Ly 2)), .int (iI (Wo 2))])), ((sa 3), .inr (3, [.int (iI (Wt 3)), .int (iI (Wd 3)), .int (iI (Rg 3)), .int (iI (Ly 3)), .int (iI (Wo 3))]))])) (As := [.int (iI 100)]) C (c_X5_lyingBelow_4 l X h0 s1 w0 t0 k0 r0 rp sh1 gf gs rc tc ft sf sa Wt Wd Rg Ly Wo 100 hsf hLy hWo (by first | assumption | omega)) gX5_mean_X5_lyingBelow rfl rfl rfl hd_V_X5_lyingBelow_X5_mean (by decide) dX5_mean_26 [0, 1, 2, 3, 4, 5] [] [0, 1, 2, 3, 4, 5] rfl rfl rfl rfl (by decide) rfl 0 5 rfl rfl rfl rfl (Nat.le_of_ble_eq_true rfl) (by decide) (fun _ => rfl) (fun _ hy_ => ?_)
      have y_5 : 0 ≤ lbL Ly Wo 100 4 ∧ lbL Ly Wo 100 4 ≤ 72 := hy_
      clear hy_
      refine r_lstore_n (lo2 := [(3, .long (lI (lbL Ly Wo 100 4))), (0, .ref h0), (1, .int (iI k)), (2, .int (iI w))]) C dX5_mean_29 rfl (by decide) rfl ?_
      refine r_lload_n C dX5_mean_30 0 rfl ?_
      refine r_lconst (z := 0) C dX5_mean_31 rfl ?_
      refine r_lcmp_ne (tgt := 40) C dX5_mean_32 dX5_mean_33 (by decide) (by omega) (by decide) (fun h_7 => ?_) (fun h_7 => ?_)
      · skip
        have bb := bwV_B (Ly := Ly) (Wo := Wo) (ns := 4) (k := k) (by decide) hLy (by omega) hWo
        have pp := pwI_72 (a := (lbL Ly Wo 100 4)) (k := k) (by omega) (by omega)
        have p1_ : 1 ≤ pwI (lbL Ly Wo 100 4) k := pwI_pos (by omega) _
        refine r_aload_n C dX5_mean_40 1 rfl ?_
        refine r_iload_n C dX5_mean_41 2 rfl ?_
        refine g_V_l (ws2 := (fun _ => [(h0, .inr (5, [.ref s1, .int (iI 4), .ref w0, .ref t0, .ref k0, .ref r0, .int (iI gf), .int (iI gs), .ref rp, .int (iI rc), .ref sh1, .int (iI tc), .int (iI ft)])), (s1, .inl (X.2.1.2.1, 8, .inr (.inr (.inr (.inr sf))))), ((sa 0), .inr (3, [.int (iI (Wt 0)), .int (iI (Wd 0)), .int (iI (Rg 0)), .int (iI (Ly 0)), .int (iI (Wo 0))])), ((sa 1), .inr (3, [.int (iI (Wt 1)), .int (iI (Wd 1)), .int (iI (Rg 1)), .int (iI (Ly 1)), .int (iI (Wo 1))])), ((sa 2), .inr (3, [.int (iI (Wt 2)), .int (iI (Wd 2)), .int (iI (Rg 2)), .int (iI (Ly 2)), .int (iI (Wo 2))])), ((sa 3), .inr (3, [.int (iI (Wt 3)), .int (iI (Wd 3)), .int (iI (Rg 3)), .int (iI (Ly 3)), .int (iI (Wo 3))]))])) (As := [.int (iI k)]) C (c_X5_bestWorths_4 l X h0 s1 w0 t0 k0 r0 rp sh1 gf gs rc tc ft sf sa Wt Wd Rg Ly Wo k hsf hLy hWo (by first | assumption | omega)) gX5_mean_X5_bestWorths rfl rfl rfl hd_V_X5_bestWorths_X5_mean (by decide) dX5_mean_42 [0, 1, 2, 3, 4, 5] [] [0, 1, 2, 3, 4, 5] rfl rfl rfl rfl (by decide) rfl 0 5 rfl rfl rfl rfl (Nat.le_of_ble_eq_true rfl) (by decide) (fun _ => rfl) (fun _ hy_ => ?_)
        clear hy_
        refine r_lload_n C dX5_mean_45 0 rfl ?_
        refine r_iload_n C dX5_mean_46 2 rfl ?_
        refine g_S_l (ws2 := (fun _ => [(h0, .inr (5, [.ref s1, .int (iI 4), .ref w0, .ref t0, .ref k0, .ref r0, .int (iI gf), .int (iI gs), .ref rp, .int (iI rc), .ref sh1, .int (iI tc), .int (iI ft)])), (s1, .inl (X.2.1.2.1, 8, .inr (.inr (.inr (.inr sf))))), ((sa 0), .inr (3, [.int (iI (Wt 0)), .int (iI (Wd 0)), .int (iI (Rg 0)), .int (iI (Ly 0)), .int (iI (Wo 0))])), ((sa 1), .inr (3, [.int (iI (Wt 1)), .int (iI (Wd 1)), .int (iI (Rg 1)), .int (iI (Ly 1)), .int (iI (Wo 1))])), ((sa 2), .inr (3, [.int (iI (Wt 2)), .int (iI (Wd 2)), .int (iI (Rg 2)), .int (iI (Ly 2)), .int (iI (Wo 2))])), ((sa 3), .inr (3, [.int (iI (Wt 3)), .int (iI (Wd 3)), .int (iI (Rg 3)), .int (iI (Ly 3)), .int (iI (Wo 3))]))])) (As := [.long (lI (lbL Ly Wo 100 4)), .int (iI k)]) C (c_X5_power l X (lbL Ly Wo 100 4) k (by first | assumption | omega)) gX5_mean_X5_power rfl rfl rfl hd_S_X5_power_X5_mean (by decide) dX5_mean_47 [] [0, 1, 2, 3, 4, 5] [0, 1, 2, 3, 4, 5] rfl rfl rfl rfl (by decide) rfl rfl rfl (Nat.le_of_ble_eq_true rfl) (by decide) (fun _ => rfl) (fun _ hy_ => ?_)
        clear hy_
        refine r_iload_n C dX5_mean_50 3 rfl ?_
        refine g_S_l (ws2 := (fun _ => [(h0, .inr (5, [.ref s1, .int (iI 4), .ref w0, .ref t0, .ref k0, .ref r0, .int (iI gf), .int (iI gs), .ref rp, .int (iI rc), .ref sh1, .int (iI tc), .int (iI ft)])), (s1, .inl (X.2.1.2.1, 8, .inr (.inr (.inr (.inr sf))))), ((sa 0), .inr (3, [.int (iI (Wt 0)), .int (iI (Wd 0)), .int (iI (Rg 0)), .int (iI (Ly 0)), .int (iI (Wo 0))])), ((sa 1), .inr (3, [.int (iI (Wt 1)), .int (iI (Wd 1)), .int (iI (Rg 1)), .int (iI (Ly 1)), .int (iI (Wo 1))])), ((sa 2), .inr (3, [.int (iI (Wt 2)), .int (iI (Wd 2)), .int (iI (Rg 2)), .int (iI (Ly 2)), .int (iI (Wo 2))])), ((sa 3), .inr (3, [.int (iI (Wt 3)), .int (iI (Wd 3)), .int (iI (Rg 3)), .int (iI (Ly 3)), .int (iI (Wo 3))]))])) (As := [.long (lI (bwV Ly Wo 4 k)), .long (lI (pwI (lbL Ly Wo 100 4) k)), .int (iI w)]) C (c_X5_share l X (bwV Ly Wo 4 k) (pwI (lbL Ly Wo 100 4) k) w (by first | assumption | omega) (by first | assumption | omega) (by first | assumption | omega)) gX5_mean_X5_share rfl rfl rfl hd_S_X5_share_X5_mean (by decide) dX5_mean_51 [] [0, 1, 2, 3, 4, 5] [0, 1, 2, 3, 4, 5] rfl rfl rfl rfl (by decide) rfl rfl rfl (Nat.le_of_ble_eq_true rfl) (by decide) (fun _ => rfl) (fun _ hy_ => ?_)
        clear hy_
        exact g_ret_l C rfl dX5_mean_54 () trivial (by first | (rw [if_pos (by omega)]; done) | (rw [if_neg (by omega)]; done)) [0, 1, 2, 3, 4, 5] rfl (by (repeat' split) <;> first | rfl | omega)
      · skip
        refine r_ldc2 (z := -9223372036854775808) C dX5_mean_36 kw_X5_mean_0 rfl ?_
        exact g_ret_l C rfl dX5_mean_39 () trivial (by first | (rw [if_pos (by omega)]; done) | (rw [if_neg (by omega)]; done)) [0, 1, 2, 3, 4, 5] rfl (by (repeat' split) <;> first | rfl | omega)
    · skip
      refine r_if_ne (tgt := 23) C dX5_mean_16 (by decide) (by decide) (fun h_8 => absurd h_8 (by decide)) (fun h_8 => ?_)
      refine r_ldc2 (z := -9223372036854775808) C dX5_mean_19 kw_X5_mean_0 rfl ?_
      exact g_ret_l C rfl dX5_mean_22 () trivial (by first | (rw [if_pos (by omega)]; done) | (rw [if_neg (by omega)]; done)) [0, 1, 2, 3, 4, 5] rfl (by (repeat' split) <;> first | rfl | omega)
  · skip
    refine r_if_eq (tgt := 19) C dX5_mean_7 (by decide) (by decide) (fun h_9 => ?_) (fun h_9 => absurd h_9 (by decide))
    refine r_ldc2 (z := -9223372036854775808) C dX5_mean_19 kw_X5_mean_0 rfl ?_
    exact g_ret_l C rfl dX5_mean_22 () trivial (by first | (rw [if_pos (by omega)]; done) | (rw [if_neg (by omega)]; done)) [0, 1, 2, 3, 4, 5] rfl (by (repeat' split) <;> first | rfl | omega)

set_option maxHeartbeats 4000000 in
set_option maxRecDepth 100000 in
theorem c_X5_hours_4 (l : Launch) (X : gX) (h0 : Nat) (s1 : Nat) (w0 : Nat) (t0 : Nat) (k0 : Nat) (r0 : Nat) (rp : Nat) (sh1 : Nat) (gf : Int) (gs : Int) (rc : Int) (tc : Int) (ft : Int) (sf : Nat → Option Nat) (sa : Nat → Nat) (Wt : Nat → Int) (Wd : Nat → Int) (Rg : Nat → Int) (Ly : Nat → Int) (Wo : Nat → Int) (cost : Int) (hsf : ∀ j : Nat, j < 4 → sf j = some (sa j)) (hLy : ∀ j : Nat, j < 4 → 0 ≤ Ly j ∧ Ly j ≤ 9) (hWo : ∀ j : Nat, j < 4 → 0 ≤ Wo j ∧ Wo j ≤ 99) (hb_cost : inB cost) : gM l yX5_hours wsX5_hours (gr 3 0 0) X [(h0, .inr (5, [.ref s1, .int (iI 4), .ref w0, .ref t0, .ref k0, .ref r0, .int (iI gf), .int (iI gs), .ref rp, .int (iI rc), .ref sh1, .int (iI tc), .int (iI ft)])), (s1, .inl (X.2.1.2.1, 8, .inr (.inr (.inr (.inr sf))))), ((sa 0), .inr (3, [.int (iI (Wt 0)), .int (iI (Wd 0)), .int (iI (Rg 0)), .int (iI (Ly 0)), .int (iI (Wo 0))])), ((sa 1), .inr (3, [.int (iI (Wt 1)), .int (iI (Wd 1)), .int (iI (Rg 1)), .int (iI (Ly 1)), .int (iI (Wo 1))])), ((sa 2), .inr (3, [.int (iI (Wt 2)), .int (iI (Wd 2)), .int (iI (Rg 2)), .int (iI (Ly 2)), .int (iI (Wo 2))])), ((sa 3), .inr (3, [.int (iI (Wt 3)), .int (iI (Wd 3)), .int (iI (Rg 3)), .int (iI (Ly 3)), .int (iI (Wo 3))]))] [.ref h0, .int (iI cost)] (gQi X (Y := Unit) (fun _ => True) (fun _ => (if ¬ (0 ≤ cost ∧ cost ≤ 99) then -2 else if (lbL Ly Wo 100 4) = 0 then -3 else (hrV Ly Wo 4 cost).2)) (fun _ => [(h0, .inr (5, [.ref s1, .int (iI 4), .ref w0, .ref t0, .ref k0, .ref r0, .int (iI gf), .int (iI gs), .ref rp, .int (iI rc), .ref sh1, .int (iI tc), .int (iI ft)])), (s1, .inl (X.2.1.2.1, 8, .inr (.inr (.inr (.inr sf))))), ((sa 0), .inr (3, [.int (iI (Wt 0)), .int (iI (Wd 0)), .int (iI (Rg 0)), .int (iI (Ly 0)), .int (iI (Wo 0))])), ((sa 1), .inr (3, [.int (iI (Wt 1)), .int (iI (Wd 1)), .int (iI (Rg 1)), .int (iI (Ly 1)), .int (iI (Wo 1))])), ((sa 2), .inr (3, [.int (iI (Wt 2)), .int (iI (Wd 2)), .int (iI (Rg 2)), .int (iI (Ly 2)), .int (iI (Wo 2))])), ((sa 3), .inr (3, [.int (iI (Wt 3)), .int (iI (Wd 3)), .int (iI (Rg 3)), .int (iI (Ly 3)), .int (iI (Wo 3))]))])) 0 0 := by
  refine g_start2 (lo := [(0, .ref h0), (1, .int (iI cost))]) (by decide +kernel) rfl rfl (Nat.le_of_ble_eq_true rfl) (fun p e s m args below meth c A C => ?_)
  refine r_iload_n C dX5_hours_0 1 rfl ?_
  refine r_iconst C dX5_hours_1 ?_
  refine r_bipush C dX5_hours_2 (by decide) ?_
  refine g_S_i (ws2 := (fun _ => [(h0, .inr (5, [.ref s1, .int (iI 4), .ref w0, .ref t0, .ref k0, .ref r0, .int (iI gf), .int (iI gs), .ref rp, .int (iI rc), .ref sh1, .int (iI tc), .int (iI ft)])), (s1, .inl (X.2.1.2.1, 8, .inr (.inr (.inr (.inr sf))))), ((sa 0), .inr (3, [.int (iI (Wt 0)), .int (iI (Wd 0)), .int (iI (Rg 0)), .int (iI (Ly 0)), .int (iI (Wo 0))])), ((sa 1), .inr (3, [.int (iI (Wt 1)), .int (iI (Wd 1)), .int (iI (Rg 1)), .int (iI (Ly 1)), .int (iI (Wo 1))])), ((sa 2), .inr (3, [.int (iI (Wt 2)), .int (iI (Wd 2)), .int (iI (Rg 2)), .int (iI (Ly 2)), .int (iI (Wo 2))])), ((sa 3), .inr (3, [.int (iI (Wt 3)), .int (iI (Wd 3)), .int (iI (Rg 3)), .int (iI (Ly 3)), .int (iI (Wo 3))]))])) (As := [.int (iI cost), .int (iI 0), .int (iI 99)]) C (c_X5_within l X cost 0 99 (by first | assumption | omega) (by first | assumption | omega) (by first | assumption | omega)) gX5_hours_X5_within rfl rfl rfl hd_S_X5_within_X5_hours (by decide) dX5_hours_4 [] [0, 1, 2, 3, 4, 5] [0, 1, 2, 3, 4, 5] rfl rfl rfl rfl (by decide) rfl rfl rfl (Nat.le_of_ble_eq_true rfl) (by decide) (fun _ => rfl) (fun _ hy_ => ?_)
  clear hy_
  refine r_ite (fun h_1 => ?_) (fun h_1 => ?_)
  · skip
    refine r_if_ne (tgt := 13) C dX5_hours_7 (by decide) (by decide) (fun h_2 => ?_) (fun h_2 => absurd h_2 (by decide))
    refine r_aload_n C dX5_hours_13 0 rfl ?_
    refine r_bipush C dX5_hours_14 (by decide) ?_
    refine g_V_l (ws2 := (fun _ => [(h0, .inr (5, [.ref s1, .int (iI 4), .ref w0, .ref t0, .ref k0, .ref r0, .int (iI gf), .int (iI gs), .ref rp, .int (iI rc), .ref sh1, .int (iI tc), .int (iI ft)])), (s1, .inl (X.2.1.2.1, 8, .inr (.inr (.inr (.inr sf))))), ((sa 0), .inr (3, [.int (iI (Wt 0)), .int (iI (Wd 0)), .int (iI (Rg 0)), .int (iI (Ly 0)), .int (iI (Wo 0))])), ((sa 1), .inr (3, [.int (iI (Wt 1)), .int (iI (Wd 1)), .int (iI (Rg 1)), .int (iI (Ly 1)), .int (iI (Wo 1))])), ((sa 2), .inr (3, [.int (iI (Wt 2)), .int (iI (Wd 2)), .int (iI (Rg 2)), .int (iI (Ly 2)), .int (iI (Wo 2))])), ((sa 3), .inr (3, [.int (iI (Wt 3)), .int (iI (Wd 3)), .int (iI (Rg 3)), .int (iI (Ly 3)), .int (iI (Wo 3))]))])) (As := [.int (iI 100)]) C (c_X5_lyingBelow_4 l X h0 s1 w0 t0 k0 r0 rp sh1 gf gs rc tc ft sf sa Wt Wd Rg Ly Wo 100 hsf hLy hWo (by first | assumption | omega)) gX5_hours_X5_lyingBelow rfl rfl rfl hd_V_X5_lyingBelow_X5_hours (by decide) dX5_hours_16 [0, 1, 2, 3, 4, 5] [] [0, 1, 2, 3, 4, 5] rfl rfl rfl rfl (by decide) rfl 0 5 rfl rfl rfl rfl (Nat.le_of_ble_eq_true rfl) (by decide) (fun _ => rfl) (fun _ hy_ => ?_)
    have y_3 : 0 ≤ lbL Ly Wo 100 4 ∧ lbL Ly Wo 100 4 ≤ 72 := hy_
    clear hy_
    refine r_lstore_n (lo2 := [(2, .long (lI (lbL Ly Wo 100 4))), (0, .ref h0), (1, .int (iI cost))]) C dX5_hours_19 rfl (by decide) rfl ?_
    refine r_lload_n C dX5_hours_20 0 rfl ?_
    refine r_lconst (z := 0) C dX5_hours_21 rfl ?_
    refine r_lcmp_ne (tgt := 29) C dX5_hours_22 dX5_hours_23 (by decide) (by omega) (by decide) (fun h_5 => ?_) (fun h_5 => ?_)
    · skip
      refine r_lload_n C dX5_hours_29 0 rfl ?_
      refine r_bipush C dX5_hours_30 (by decide) ?_
      refine g_S_l (ws2 := (fun _ => [(h0, .inr (5, [.ref s1, .int (iI 4), .ref w0, .ref t0, .ref k0, .ref r0, .int (iI gf), .int (iI gs), .ref rp, .int (iI rc), .ref sh1, .int (iI tc), .int (iI ft)])), (s1, .inl (X.2.1.2.1, 8, .inr (.inr (.inr (.inr sf))))), ((sa 0), .inr (3, [.int (iI (Wt 0)), .int (iI (Wd 0)), .int (iI (Rg 0)), .int (iI (Ly 0)), .int (iI (Wo 0))])), ((sa 1), .inr (3, [.int (iI (Wt 1)), .int (iI (Wd 1)), .int (iI (Rg 1)), .int (iI (Ly 1)), .int (iI (Wo 1))])), ((sa 2), .inr (3, [.int (iI (Wt 2)), .int (iI (Wd 2)), .int (iI (Rg 2)), .int (iI (Ly 2)), .int (iI (Wo 2))])), ((sa 3), .inr (3, [.int (iI (Wt 3)), .int (iI (Wd 3)), .int (iI (Rg 3)), .int (iI (Ly 3)), .int (iI (Wo 3))]))])) (As := [.long (lI (lbL Ly Wo 100 4)), .int (iI 6)]) C (c_X5_power l X (lbL Ly Wo 100 4) 6 (by first | assumption | omega)) gX5_hours_X5_power rfl rfl rfl hd_S_X5_power_X5_hours (by decide) dX5_hours_32 [] [0, 1, 2, 3, 4, 5] [0, 1, 2, 3, 4, 5] rfl rfl rfl rfl (by decide) rfl rfl rfl (Nat.le_of_ble_eq_true rfl) (by decide) (fun _ => rfl) (fun _ hy_ => ?_)
      clear hy_
      refine r_lstore (lo2 := [(4, .long (lI (pwI (lbL Ly Wo 100 4) 6))), (2, .long (lI (lbL Ly Wo 100 4))), (0, .ref h0), (1, .int (iI cost))]) C dX5_hours_35 (by decide) rfl ?_
      refine r_iconst C dX5_hours_37 ?_
      refine r_istore (lo2 := [(6, .int (iI 1)), (4, .long (lI (pwI (lbL Ly Wo 100 4) 6))), (2, .long (lI (lbL Ly Wo 100 4))), (0, .ref h0), (1, .int (iI cost))]) C dX5_hours_38 (by decide) rfl ?_
      refine r_lconst (z := 0) C dX5_hours_40 rfl ?_
      refine r_lstore (lo2 := [(7, .long (lI 0)), (6, .int (iI 1)), (4, .long (lI (pwI (lbL Ly Wo 100 4) 6))), (2, .long (lI (lbL Ly Wo 100 4))), (0, .ref h0), (1, .int (iI cost))]) C dX5_hours_41 (by decide) rfl ?_
      refine r_iconst C dX5_hours_43 ?_
      refine r_istore (lo2 := [(9, .int (iI 1)), (7, .long (lI 0)), (6, .int (iI 1)), (4, .long (lI (pwI (lbL Ly Wo 100 4) 6))), (2, .long (lI (lbL Ly Wo 100 4))), (0, .ref h0), (1, .int (iI cost))]) C dX5_hours_44 (by decide) rfl ?_
      have L46 : ∀ (fu46 : Nat) (a2 : Int) (a1 : Int) (c1 : Int), (1 ≤ c1 ∧ c1 ≤ 7) → (-100000000000000 ≤ a1 ∧ a1 ≤ 100000000000000) → (hrV Ly Wo 4 cost = gIn (hrF Ly Wo 4 cost) (7 - c1).toNat c1 (a1, a2)) → (7 - c1).toNat < fu46 → gW p l e (gr 3 0 0) s m args below meth c X A 12 (MQ below ((gQi X (Y := Unit) (fun _ => True) (fun _ => (if ¬ (0 ≤ cost ∧ cost ≤ 99) then -2 else if (lbL Ly Wo 100 4) = 0 then -3 else (hrV Ly Wo 4 cost).2)) (fun _ => [(h0, .inr (5, [.ref s1, .int (iI 4), .ref w0, .ref t0, .ref k0, .ref r0, .int (iI gf), .int (iI gs), .ref rp, .int (iI rc), .ref sh1, .int (iI tc), .int (iI ft)])), (s1, .inl (X.2.1.2.1, 8, .inr (.inr (.inr (.inr sf))))), ((sa 0), .inr (3, [.int (iI (Wt 0)), .int (iI (Wd 0)), .int (iI (Rg 0)), .int (iI (Ly 0)), .int (iI (Wo 0))])), ((sa 1), .inr (3, [.int (iI (Wt 1)), .int (iI (Wd 1)), .int (iI (Rg 1)), .int (iI (Ly 1)), .int (iI (Wo 1))])), ((sa 2), .inr (3, [.int (iI (Wt 2)), .int (iI (Wd 2)), .int (iI (Rg 2)), .int (iI (Ly 2)), .int (iI (Wo 2))])), ((sa 3), .inr (3, [.int (iI (Wt 3)), .int (iI (Wd 3)), .int (iI (Rg 3)), .int (iI (Ly 3)), .int (iI (Wo 3))]))])) A) args s 0 0 A) 0 0 [(h0, .inr (5, [.ref s1, .int (iI 4), .ref w0, .ref t0, .ref k0, .ref r0, .int (iI gf), .int (iI gs), .ref rp, .int (iI rc), .ref sh1, .int (iI tc), .int (iI ft)])), (s1, .inl (X.2.1.2.1, 8, .inr (.inr (.inr (.inr sf))))), ((sa 0), .inr (3, [.int (iI (Wt 0)), .int (iI (Wd 0)), .int (iI (Rg 0)), .int (iI (Ly 0)), .int (iI (Wo 0))])), ((sa 1), .inr (3, [.int (iI (Wt 1)), .int (iI (Wd 1)), .int (iI (Rg 1)), .int (iI (Ly 1)), .int (iI (Wo 1))])), ((sa 2), .inr (3, [.int (iI (Wt 2)), .int (iI (Wd 2)), .int (iI (Rg 2)), .int (iI (Ly 2)), .int (iI (Wo 2))])), ((sa 3), .inr (3, [.int (iI (Wt 3)), .int (iI (Wd 3)), .int (iI (Rg 3)), .int (iI (Ly 3)), .int (iI (Wo 3))]))] 46 [(4, .long (lI (pwI (lbL Ly Wo 100 4) 6))), (2, .long (lI (lbL Ly Wo 100 4))), (0, .ref h0), (1, .int (iI cost)), (6, .int (iI a2)), (7, .long (lI a1)), (9, .int (iI c1))] [] := by
        intro fu46
        induction fu46 with
        | zero => intro a2 a1 c1 ic ia iL hm46; exact absurd hm46 (Nat.not_lt_zero _)
        | succ fu46 ih46 =>
          intro a2 a1 c1 ic ia iL hm46
          refine r_iload C dX5_hours_46 6 rfl ?_
          refine r_bipush C dX5_hours_48 (by decide) ?_
          refine r_icmp_gt (tgt := 108) C dX5_hours_50 (by decide) (by omega) (by decide) (fun h_6 => ?_) (fun h_6 => ?_)
          · skip
            refine r_iload C dX5_hours_108 4 rfl ?_
            exact g_ret_i C rfl dX5_hours_110 () trivial (by rw [iL, gIn_endW (by omega)]; (repeat' split) <;> first | rfl | omega) [0, 1, 2, 3, 4, 5] rfl (by (repeat' split) <;> first | rfl | omega)
          · skip
            have hB := hr_B (Ly := Ly) (Wo := Wo) (ns := 4) (cost := cost) (n := c1) (by decide) hLy hWo (by omega) (by omega)
            have hm_ := mulB (a := c1) (b := cost) (A := 6) (B := 99) (by omega) (by omega)
            refine r_aload_n C dX5_hours_53 2 rfl ?_
            refine r_iload C dX5_hours_54 6 rfl ?_
            refine g_V_l (ws2 := (fun _ => [(h0, .inr (5, [.ref s1, .int (iI 4), .ref w0, .ref t0, .ref k0, .ref r0, .int (iI gf), .int (iI gs), .ref rp, .int (iI rc), .ref sh1, .int (iI tc), .int (iI ft)])), (s1, .inl (X.2.1.2.1, 8, .inr (.inr (.inr (.inr sf))))), ((sa 0), .inr (3, [.int (iI (Wt 0)), .int (iI (Wd 0)), .int (iI (Rg 0)), .int (iI (Ly 0)), .int (iI (Wo 0))])), ((sa 1), .inr (3, [.int (iI (Wt 1)), .int (iI (Wd 1)), .int (iI (Rg 1)), .int (iI (Ly 1)), .int (iI (Wo 1))])), ((sa 2), .inr (3, [.int (iI (Wt 2)), .int (iI (Wd 2)), .int (iI (Rg 2)), .int (iI (Ly 2)), .int (iI (Wo 2))])), ((sa 3), .inr (3, [.int (iI (Wt 3)), .int (iI (Wd 3)), .int (iI (Rg 3)), .int (iI (Ly 3)), .int (iI (Wo 3))]))])) (As := [.int (iI c1)]) C (c_X5_bestWorths_4 l X h0 s1 w0 t0 k0 r0 rp sh1 gf gs rc tc ft sf sa Wt Wd Rg Ly Wo c1 hsf hLy hWo (by first | assumption | omega)) gX5_hours_X5_bestWorths rfl rfl rfl hd_V_X5_bestWorths_X5_hours (by decide) dX5_hours_56 [0, 1, 2, 3, 4, 5] [] [0, 1, 2, 3, 4, 5] rfl rfl rfl rfl (by decide) rfl 0 5 rfl rfl rfl rfl (Nat.le_of_ble_eq_true rfl) (by decide) (fun _ => rfl) (fun _ hy_ => ?_)
            clear hy_
            refine r_lload_n C dX5_hours_59 1 rfl ?_
            refine r_bipush C dX5_hours_60 (by decide) ?_
            refine r_iload C dX5_hours_62 6 rfl ?_
            refine r_isub C dX5_hours_64 ?_
            refine g_S_l (ws2 := (fun _ => [(h0, .inr (5, [.ref s1, .int (iI 4), .ref w0, .ref t0, .ref k0, .ref r0, .int (iI gf), .int (iI gs), .ref rp, .int (iI rc), .ref sh1, .int (iI tc), .int (iI ft)])), (s1, .inl (X.2.1.2.1, 8, .inr (.inr (.inr (.inr sf))))), ((sa 0), .inr (3, [.int (iI (Wt 0)), .int (iI (Wd 0)), .int (iI (Rg 0)), .int (iI (Ly 0)), .int (iI (Wo 0))])), ((sa 1), .inr (3, [.int (iI (Wt 1)), .int (iI (Wd 1)), .int (iI (Rg 1)), .int (iI (Ly 1)), .int (iI (Wo 1))])), ((sa 2), .inr (3, [.int (iI (Wt 2)), .int (iI (Wd 2)), .int (iI (Rg 2)), .int (iI (Ly 2)), .int (iI (Wo 2))])), ((sa 3), .inr (3, [.int (iI (Wt 3)), .int (iI (Wd 3)), .int (iI (Rg 3)), .int (iI (Ly 3)), .int (iI (Wo 3))]))])) (As := [.long (lI (lbL Ly Wo 100 4)), .int (iI (6 - c1))]) C (c_X5_power l X (lbL Ly Wo 100 4) (6 - c1) (by first | assumption | omega)) gX5_hours_X5_power rfl rfl rfl hd_S_X5_power_X5_hours (by decide) dX5_hours_65 [] [0, 1, 2, 3, 4, 5] [0, 1, 2, 3, 4, 5] rfl rfl rfl rfl (by decide) rfl rfl rfl (Nat.le_of_ble_eq_true rfl) (by decide) (fun _ => rfl) (fun _ hy_ => ?_)
            clear hy_
            refine r_lmul C dX5_hours_68 ?_
            refine r_iload C dX5_hours_69 6 rfl ?_
            refine r_iload_n C dX5_hours_71 3 rfl ?_
            refine r_imul C dX5_hours_72 ?_
            refine r_i2l C dX5_hours_73 (by omega) ?_
            refine r_lload C dX5_hours_74 0 rfl ?_
            refine r_lmul C dX5_hours_76 ?_
            refine r_lsub C dX5_hours_77 ?_
            refine r_lstore (lo2 := [(10, .long (lI (((bwV Ly Wo 4 c1) * (pwI (lbL Ly Wo 100 4) (6 - c1))) - ((c1 * cost) * (pwI (lbL Ly Wo 100 4) 6))))), (4, .long (lI (pwI (lbL Ly Wo 100 4) 6))), (2, .long (lI (lbL Ly Wo 100 4))), (0, .ref h0), (1, .int (iI cost)), (6, .int (iI a2)), (7, .long (lI a1)), (9, .int (iI c1))]) C dX5_hours_78 (by decide) rfl ?_
            refine r_iload C dX5_hours_80 7 rfl ?_
            refine r_iconst C dX5_hours_82 ?_
            refine r_icmp_eq (tgt := 94) C dX5_hours_83 (by decide) (by omega) (by decide) (fun h_7 => ?_) (fun h_7 => ?_)
            · skip
              refine r_lload C dX5_hours_94 0 rfl ?_
              refine r_lstore (lo2 := [(7, .long (lI (((bwV Ly Wo 4 c1) * (pwI (lbL Ly Wo 100 4) (6 - c1))) - ((c1 * cost) * (pwI (lbL Ly Wo 100 4) 6))))), (10, .long (lI (((bwV Ly Wo 4 c1) * (pwI (lbL Ly Wo 100 4) (6 - c1))) - ((c1 * cost) * (pwI (lbL Ly Wo 100 4) 6))))), (4, .long (lI (pwI (lbL Ly Wo 100 4) 6))), (2, .long (lI (lbL Ly Wo 100 4))), (0, .ref h0), (1, .int (iI cost)), (6, .int (iI a2)), (9, .int (iI c1))]) C dX5_hours_96 (by decide) rfl ?_
              refine r_iload C dX5_hours_98 7 rfl ?_
              refine r_istore (lo2 := [(6, .int (iI c1)), (7, .long (lI (((bwV Ly Wo 4 c1) * (pwI (lbL Ly Wo 100 4) (6 - c1))) - ((c1 * cost) * (pwI (lbL Ly Wo 100 4) 6))))), (10, .long (lI (((bwV Ly Wo 4 c1) * (pwI (lbL Ly Wo 100 4) (6 - c1))) - ((c1 * cost) * (pwI (lbL Ly Wo 100 4) 6))))), (4, .long (lI (pwI (lbL Ly Wo 100 4) 6))), (2, .long (lI (lbL Ly Wo 100 4))), (0, .ref h0), (1, .int (iI cost)), (9, .int (iI c1))]) C dX5_hours_100 (by decide) rfl ?_
              refine r_iinc (lo2 := [(9, .int (iI (c1 + 1))), (6, .int (iI c1)), (7, .long (lI (((bwV Ly Wo 4 c1) * (pwI (lbL Ly Wo 100 4) (6 - c1))) - ((c1 * cost) * (pwI (lbL Ly Wo 100 4) 6))))), (10, .long (lI (((bwV Ly Wo 4 c1) * (pwI (lbL Ly Wo 100 4) (6 - c1))) - ((c1 * cost) * (pwI (lbL Ly Wo 100 4) 6))))), (4, .long (lI (pwI (lbL Ly Wo 100 4) 6))), (2, .long (lI (lbL Ly Wo 100 4))), (0, .ref h0), (1, .int (iI cost))]) C dX5_hours_102 7 rfl (by decide) rfl ?_
              refine r_goto (tgt := 46) C dX5_hours_105 (by decide) ?_
              refine r_lo [4, 5, 6, 7, 1, 2, 0] (lo2 := [(4, .long (lI (pwI (lbL Ly Wo 100 4) 6))), (2, .long (lI (lbL Ly Wo 100 4))), (0, .ref h0), (1, .int (iI cost)), (6, .int (iI c1)), (7, .long (lI (((bwV Ly Wo 4 c1) * (pwI (lbL Ly Wo 100 4) (6 - c1))) - ((c1 * cost) * (pwI (lbL Ly Wo 100 4) 6))))), (9, .int (iI (c1 + 1)))]) rfl ?_
              exact ih46 c1 (((bwV Ly Wo 4 c1) * (pwI (lbL Ly Wo 100 4) (6 - c1))) - ((c1 * cost) * (pwI (lbL Ly Wo 100 4) 6))) (c1 + 1) (by omega) (by omega) (by rw [iL, gIn_goW (by omega)]; first | (rw [hrF_t (by first | exact Or.inl (by omega) | exact Or.inr (by omega))]; done) | (rw [hrF_f (by intro q; rcases q with q | q <;> first | omega | (dsimp only at q; omega))]; done)) (by omega)
            · skip
              refine r_lload C dX5_hours_86 0 rfl ?_
              refine r_lload C dX5_hours_88 6 rfl ?_
              refine r_lcmp_le (tgt := 102) C dX5_hours_90 dX5_hours_91 (by decide) (by omega) (by omega) (fun h_8 => ?_) (fun h_8 => ?_)
              · skip
                refine r_iinc (lo2 := [(9, .int (iI (c1 + 1))), (10, .long (lI (((bwV Ly Wo 4 c1) * (pwI (lbL Ly Wo 100 4) (6 - c1))) - ((c1 * cost) * (pwI (lbL Ly Wo 100 4) 6))))), (4, .long (lI (pwI (lbL Ly Wo 100 4) 6))), (2, .long (lI (lbL Ly Wo 100 4))), (0, .ref h0), (1, .int (iI cost)), (6, .int (iI a2)), (7, .long (lI a1))]) C dX5_hours_102 7 rfl (by decide) rfl ?_
                refine r_goto (tgt := 46) C dX5_hours_105 (by decide) ?_
                refine r_lo [2, 3, 4, 5, 6, 7, 0] (lo2 := [(4, .long (lI (pwI (lbL Ly Wo 100 4) 6))), (2, .long (lI (lbL Ly Wo 100 4))), (0, .ref h0), (1, .int (iI cost)), (6, .int (iI a2)), (7, .long (lI a1)), (9, .int (iI (c1 + 1)))]) rfl ?_
                exact ih46 a2 a1 (c1 + 1) (by omega) (by omega) (by rw [iL, gIn_goW (by omega)]; first | (rw [hrF_t (by first | exact Or.inl (by omega) | exact Or.inr (by omega))]; done) | (rw [hrF_f (by intro q; rcases q with q | q <;> first | omega | (dsimp only at q; omega))]; done)) (by omega)
              · skip
                refine r_lload C dX5_hours_94 0 rfl ?_
                refine r_lstore (lo2 := [(7, .long (lI (((bwV Ly Wo 4 c1) * (pwI (lbL Ly Wo 100 4) (6 - c1))) - ((c1 * cost) * (pwI (lbL Ly Wo 100 4) 6))))), (10, .long (lI (((bwV Ly Wo 4 c1) * (pwI (lbL Ly Wo 100 4) (6 - c1))) - ((c1 * cost) * (pwI (lbL Ly Wo 100 4) 6))))), (4, .long (lI (pwI (lbL Ly Wo 100 4) 6))), (2, .long (lI (lbL Ly Wo 100 4))), (0, .ref h0), (1, .int (iI cost)), (6, .int (iI a2)), (9, .int (iI c1))]) C dX5_hours_96 (by decide) rfl ?_
                refine r_iload C dX5_hours_98 7 rfl ?_
                refine r_istore (lo2 := [(6, .int (iI c1)), (7, .long (lI (((bwV Ly Wo 4 c1) * (pwI (lbL Ly Wo 100 4) (6 - c1))) - ((c1 * cost) * (pwI (lbL Ly Wo 100 4) 6))))), (10, .long (lI (((bwV Ly Wo 4 c1) * (pwI (lbL Ly Wo 100 4) (6 - c1))) - ((c1 * cost) * (pwI (lbL Ly Wo 100 4) 6))))), (4, .long (lI (pwI (lbL Ly Wo 100 4) 6))), (2, .long (lI (lbL Ly Wo 100 4))), (0, .ref h0), (1, .int (iI cost)), (9, .int (iI c1))]) C dX5_hours_100 (by decide) rfl ?_
                refine r_iinc (lo2 := [(9, .int (iI (c1 + 1))), (6, .int (iI c1)), (7, .long (lI (((bwV Ly Wo 4 c1) * (pwI (lbL Ly Wo 100 4) (6 - c1))) - ((c1 * cost) * (pwI (lbL Ly Wo 100 4) 6))))), (10, .long (lI (((bwV Ly Wo 4 c1) * (pwI (lbL Ly Wo 100 4) (6 - c1))) - ((c1 * cost) * (pwI (lbL Ly Wo 100 4) 6))))), (4, .long (lI (pwI (lbL Ly Wo 100 4) 6))), (2, .long (lI (lbL Ly Wo 100 4))), (0, .ref h0), (1, .int (iI cost))]) C dX5_hours_102 7 rfl (by decide) rfl ?_
                refine r_goto (tgt := 46) C dX5_hours_105 (by decide) ?_
                refine r_lo [4, 5, 6, 7, 1, 2, 0] (lo2 := [(4, .long (lI (pwI (lbL Ly Wo 100 4) 6))), (2, .long (lI (lbL Ly Wo 100 4))), (0, .ref h0), (1, .int (iI cost)), (6, .int (iI c1)), (7, .long (lI (((bwV Ly Wo 4 c1) * (pwI (lbL Ly Wo 100 4) (6 - c1))) - ((c1 * cost) * (pwI (lbL Ly Wo 100 4) 6))))), (9, .int (iI (c1 + 1)))]) rfl ?_
                exact ih46 c1 (((bwV Ly Wo 4 c1) * (pwI (lbL Ly Wo 100 4) (6 - c1))) - ((c1 * cost) * (pwI (lbL Ly Wo 100 4) 6))) (c1 + 1) (by omega) (by omega) (by rw [iL, gIn_goW (by omega)]; first | (rw [hrF_t (by first | exact Or.inl (by omega) | exact Or.inr (by omega))]; done) | (rw [hrF_f (by intro q; rcases q with q | q <;> first | omega | (dsimp only at q; omega))]; done)) (by omega)
      refine r_lo [3, 4, 5, 6, 2, 1, 0] (lo2 := [(4, .long (lI (pwI (lbL Ly Wo 100 4) 6))), (2, .long (lI (lbL Ly Wo 100 4))), (0, .ref h0), (1, .int (iI cost)), (6, .int (iI 1)), (7, .long (lI 0)), (9, .int (iI 1))]) rfl ?_
      exact L46 ((7 - (1 : Int)).toNat + 1) 1 0 1 (by omega) (by omega) rfl (Nat.lt_succ_self _)
    · skip
      refine r_bipush C dX5_hours_26 (by decide) ?_
      exact g_ret_i C rfl dX5_hours_28 () trivial (by (repeat' split) <;> first | rfl | omega) [0, 1, 2, 3, 4, 5] rfl (by (repeat' split) <;> first | rfl | omega)
  · skip
    refine r_if_ne (tgt := 13) C dX5_hours_7 (by decide) (by decide) (fun h_9 => absurd h_9 (by decide)) (fun h_9 => ?_)
    refine r_bipush C dX5_hours_10 (by decide) ?_
    exact g_ret_i C rfl dX5_hours_12 () trivial (by (repeat' split) <;> first | rfl | omega) [0, 1, 2, 3, 4, 5] rfl (by (repeat' split) <;> first | rfl | omega)

set_option maxHeartbeats 4000000 in
set_option maxRecDepth 100000 in
theorem c_X5_lyingBelow_5 (l : Launch) (X : gX) (h0 : Nat) (s1 : Nat) (w0 : Nat) (t0 : Nat) (k0 : Nat) (r0 : Nat) (rp : Nat) (sh1 : Nat) (gf : Int) (gs : Int) (rc : Int) (tc : Int) (ft : Int) (sf : Nat → Option Nat) (sa : Nat → Nat) (Wt : Nat → Int) (Wd : Nat → Int) (Rg : Nat → Int) (Ly : Nat → Int) (Wo : Nat → Int) (w : Int) (hsf : ∀ j : Nat, j < 5 → sf j = some (sa j)) (hLy : ∀ j : Nat, j < 5 → 0 ≤ Ly j ∧ Ly j ≤ 9) (hWo : ∀ j : Nat, j < 5 → 0 ≤ Wo j ∧ Wo j ≤ 99) (hb_w : inB w) : gM l yX5_lyingBelow wsX5_lyingBelow (gr 1 0 0) X [(h0, .inr (5, [.ref s1, .int (iI 5), .ref w0, .ref t0, .ref k0, .ref r0, .int (iI gf), .int (iI gs), .ref rp, .int (iI rc), .ref sh1, .int (iI tc), .int (iI ft)])), (s1, .inl (X.2.1.2.1, 8, .inr (.inr (.inr (.inr sf))))), ((sa 0), .inr (3, [.int (iI (Wt 0)), .int (iI (Wd 0)), .int (iI (Rg 0)), .int (iI (Ly 0)), .int (iI (Wo 0))])), ((sa 1), .inr (3, [.int (iI (Wt 1)), .int (iI (Wd 1)), .int (iI (Rg 1)), .int (iI (Ly 1)), .int (iI (Wo 1))])), ((sa 2), .inr (3, [.int (iI (Wt 2)), .int (iI (Wd 2)), .int (iI (Rg 2)), .int (iI (Ly 2)), .int (iI (Wo 2))])), ((sa 3), .inr (3, [.int (iI (Wt 3)), .int (iI (Wd 3)), .int (iI (Rg 3)), .int (iI (Ly 3)), .int (iI (Wo 3))])), ((sa 4), .inr (3, [.int (iI (Wt 4)), .int (iI (Wd 4)), .int (iI (Rg 4)), .int (iI (Ly 4)), .int (iI (Wo 4))]))] [.ref h0, .int (iI w)] (gQl X (Y := Unit) (fun _ => (0 ≤ lbL Ly Wo w 5 ∧ lbL Ly Wo w 5 ≤ 72)) (fun _ => (lbL Ly Wo w 5)) (fun _ => [(h0, .inr (5, [.ref s1, .int (iI 5), .ref w0, .ref t0, .ref k0, .ref r0, .int (iI gf), .int (iI gs), .ref rp, .int (iI rc), .ref sh1, .int (iI tc), .int (iI ft)])), (s1, .inl (X.2.1.2.1, 8, .inr (.inr (.inr (.inr sf))))), ((sa 0), .inr (3, [.int (iI (Wt 0)), .int (iI (Wd 0)), .int (iI (Rg 0)), .int (iI (Ly 0)), .int (iI (Wo 0))])), ((sa 1), .inr (3, [.int (iI (Wt 1)), .int (iI (Wd 1)), .int (iI (Rg 1)), .int (iI (Ly 1)), .int (iI (Wo 1))])), ((sa 2), .inr (3, [.int (iI (Wt 2)), .int (iI (Wd 2)), .int (iI (Rg 2)), .int (iI (Ly 2)), .int (iI (Wo 2))])), ((sa 3), .inr (3, [.int (iI (Wt 3)), .int (iI (Wd 3)), .int (iI (Rg 3)), .int (iI (Ly 3)), .int (iI (Wo 3))])), ((sa 4), .inr (3, [.int (iI (Wt 4)), .int (iI (Wd 4)), .int (iI (Rg 4)), .int (iI (Ly 4)), .int (iI (Wo 4))]))])) 0 0 := by
  refine g_start2 (lo := [(0, .ref h0), (1, .int (iI w))]) (by decide +kernel) rfl rfl (Nat.le_of_ble_eq_true rfl) (fun p e s m args below meth c A C => ?_)
  have hLy0 := hLy 0 (by decide)
  have hWo0 := hWo 0 (by decide)
  have hLy1 := hLy 1 (by decide)
  have hWo1 := hWo 1 (by decide)
  have hLy2 := hLy 2 (by decide)
  have hWo2 := hWo 2 (by decide)
  have hLy3 := hLy 3 (by decide)
  have hWo3 := hWo 3 (by decide)
  have hLy4 := hLy 4 (by decide)
  have hWo4 := hWo 4 (by decide)
  refine r_lconst (z := 0) C dX5_lyingBelow_0 rfl ?_
  refine r_lstore_n (lo2 := [(2, .long (lI 0)), (0, .ref h0), (1, .int (iI w))]) C dX5_lyingBelow_1 rfl (by decide) rfl ?_
  refine r_iconst C dX5_lyingBelow_2 ?_
  refine r_istore (lo2 := [(4, .int (iI 0)), (2, .long (lI 0)), (0, .ref h0), (1, .int (iI w))]) C dX5_lyingBelow_3 (by decide) rfl ?_
  have J5_5 : ∀ (mk : Int), (mk = lbL Ly Wo w 5) → gW p l e (gr 1 0 0) s m args below meth c X A 6 (MQ below ((gQl X (Y := Unit) (fun _ => (0 ≤ lbL Ly Wo w 5 ∧ lbL Ly Wo w 5 ≤ 72)) (fun _ => (lbL Ly Wo w 5)) (fun _ => [(h0, .inr (5, [.ref s1, .int (iI 5), .ref w0, .ref t0, .ref k0, .ref r0, .int (iI gf), .int (iI gs), .ref rp, .int (iI rc), .ref sh1, .int (iI tc), .int (iI ft)])), (s1, .inl (X.2.1.2.1, 8, .inr (.inr (.inr (.inr sf))))), ((sa 0), .inr (3, [.int (iI (Wt 0)), .int (iI (Wd 0)), .int (iI (Rg 0)), .int (iI (Ly 0)), .int (iI (Wo 0))])), ((sa 1), .inr (3, [.int (iI (Wt 1)), .int (iI (Wd 1)), .int (iI (Rg 1)), .int (iI (Ly 1)), .int (iI (Wo 1))])), ((sa 2), .inr (3, [.int (iI (Wt 2)), .int (iI (Wd 2)), .int (iI (Rg 2)), .int (iI (Ly 2)), .int (iI (Wo 2))])), ((sa 3), .inr (3, [.int (iI (Wt 3)), .int (iI (Wd 3)), .int (iI (Rg 3)), .int (iI (Ly 3)), .int (iI (Wo 3))])), ((sa 4), .inr (3, [.int (iI (Wt 4)), .int (iI (Wd 4)), .int (iI (Rg 4)), .int (iI (Ly 4)), .int (iI (Wo 4))]))])) A) args s 0 0 A) 0 0 [(h0, .inr (5, [.ref s1, .int (iI 5), .ref w0, .ref t0, .ref k0, .ref r0, .int (iI gf), .int (iI gs), .ref rp, .int (iI rc), .ref sh1, .int (iI tc), .int (iI ft)])), (s1, .inl (X.2.1.2.1, 8, .inr (.inr (.inr (.inr sf))))), ((sa 0), .inr (3, [.int (iI (Wt 0)), .int (iI (Wd 0)), .int (iI (Rg 0)), .int (iI (Ly 0)), .int (iI (Wo 0))])), ((sa 1), .inr (3, [.int (iI (Wt 1)), .int (iI (Wd 1)), .int (iI (Rg 1)), .int (iI (Ly 1)), .int (iI (Wo 1))])), ((sa 2), .inr (3, [.int (iI (Wt 2)), .int (iI (Wd 2)), .int (iI (Rg 2)), .int (iI (Ly 2)), .int (iI (Wo 2))])), ((sa 3), .inr (3, [.int (iI (Wt 3)), .int (iI (Wd 3)), .int (iI (Rg 3)), .int (iI (Ly 3)), .int (iI (Wo 3))])), ((sa 4), .inr (3, [.int (iI (Wt 4)), .int (iI (Wd 4)), .int (iI (Rg 4)), .int (iI (Ly 4)), .int (iI (Wo 4))]))] 5 [(0, .ref h0), (1, .int (iI w)), (4, .int (iI 5)), (2, .long (lI mk))] [] := by
    intro mk im
    refine r_iload C dX5_lyingBelow_5 2 rfl ?_
    refine r_aload_n C dX5_lyingBelow_7 0 rfl ?_
    refine gf_5_1 C hi_X5_lyingBelow_5 kw_X5_lyingBelow_0 dX5_lyingBelow_8 0 rfl rfl ?_
    refine r_icmp_ge (tgt := 51) C dX5_lyingBelow_11 (by decide) (by decide) (by decide) (fun h_1 => ?_) (fun h_1 => absurd h_1 (by decide))
    refine r_lload_n C dX5_lyingBelow_51 3 rfl ?_
    exact g_ret_l C rfl dX5_lyingBelow_52 () (by have := lbL_B (Ly := Ly) (Wo := Wo) w 5 hLy; omega) im [0, 1, 2, 3, 4, 5, 6] rfl (by (repeat' split) <;> first | rfl | omega)
  have J5_4 : ∀ (mk : Int), (mk = lbL Ly Wo w 4) → gW p l e (gr 1 0 0) s m args below meth c X A 6 (MQ below ((gQl X (Y := Unit) (fun _ => (0 ≤ lbL Ly Wo w 5 ∧ lbL Ly Wo w 5 ≤ 72)) (fun _ => (lbL Ly Wo w 5)) (fun _ => [(h0, .inr (5, [.ref s1, .int (iI 5), .ref w0, .ref t0, .ref k0, .ref r0, .int (iI gf), .int (iI gs), .ref rp, .int (iI rc), .ref sh1, .int (iI tc), .int (iI ft)])), (s1, .inl (X.2.1.2.1, 8, .inr (.inr (.inr (.inr sf))))), ((sa 0), .inr (3, [.int (iI (Wt 0)), .int (iI (Wd 0)), .int (iI (Rg 0)), .int (iI (Ly 0)), .int (iI (Wo 0))])), ((sa 1), .inr (3, [.int (iI (Wt 1)), .int (iI (Wd 1)), .int (iI (Rg 1)), .int (iI (Ly 1)), .int (iI (Wo 1))])), ((sa 2), .inr (3, [.int (iI (Wt 2)), .int (iI (Wd 2)), .int (iI (Rg 2)), .int (iI (Ly 2)), .int (iI (Wo 2))])), ((sa 3), .inr (3, [.int (iI (Wt 3)), .int (iI (Wd 3)), .int (iI (Rg 3)), .int (iI (Ly 3)), .int (iI (Wo 3))])), ((sa 4), .inr (3, [.int (iI (Wt 4)), .int (iI (Wd 4)), .int (iI (Rg 4)), .int (iI (Ly 4)), .int (iI (Wo 4))]))])) A) args s 0 0 A) 0 0 [(h0, .inr (5, [.ref s1, .int (iI 5), .ref w0, .ref t0, .ref k0, .ref r0, .int (iI gf), .int (iI gs), .ref rp, .int (iI rc), .ref sh1, .int (iI tc), .int (iI ft)])), (s1, .inl (X.2.1.2.1, 8, .inr (.inr (.inr (.inr sf))))), ((sa 0), .inr (3, [.int (iI (Wt 0)), .int (iI (Wd 0)), .int (iI (Rg 0)), .int (iI (Ly 0)), .int (iI (Wo 0))])), ((sa 1), .inr (3, [.int (iI (Wt 1)), .int (iI (Wd 1)), .int (iI (Rg 1)), .int (iI (Ly 1)), .int (iI (Wo 1))])), ((sa 2), .inr (3, [.int (iI (Wt 2)), .int (iI (Wd 2)), .int (iI (Rg 2)), .int (iI (Ly 2)), .int (iI (Wo 2))])), ((sa 3), .inr (3, [.int (iI (Wt 3)), .int (iI (Wd 3)), .int (iI (Rg 3)), .int (iI (Ly 3)), .int (iI (Wo 3))])), ((sa 4), .inr (3, [.int (iI (Wt 4)), .int (iI (Wd 4)), .int (iI (Rg 4)), .int (iI (Ly 4)), .int (iI (Wo 4))]))] 5 [(0, .ref h0), (1, .int (iI w)), (4, .int (iI 4)), (2, .long (lI mk))] [] := by
    intro mk im
    refine r_iload C dX5_lyingBelow_5 2 rfl ?_
    refine r_aload_n C dX5_lyingBelow_7 0 rfl ?_
    refine gf_5_1 C hi_X5_lyingBelow_5 kw_X5_lyingBelow_0 dX5_lyingBelow_8 0 rfl rfl ?_
    refine r_icmp_ge (tgt := 51) C dX5_lyingBelow_11 (by decide) (by decide) (by decide) (fun h_2 => absurd h_2 (by decide)) (fun h_2 => ?_)
    refine r_aload_n C dX5_lyingBelow_14 0 rfl ?_
    refine r_iload C dX5_lyingBelow_15 2 rfl ?_
    refine g_V_q (ws2 := (fun _ => [(h0, .inr (5, [.ref s1, .int (iI 5), .ref w0, .ref t0, .ref k0, .ref r0, .int (iI gf), .int (iI gs), .ref rp, .int (iI rc), .ref sh1, .int (iI tc), .int (iI ft)])), (s1, .inl (X.2.1.2.1, 8, .inr (.inr (.inr (.inr sf))))), ((sa 0), .inr (3, [.int (iI (Wt 0)), .int (iI (Wd 0)), .int (iI (Rg 0)), .int (iI (Ly 0)), .int (iI (Wo 0))])), ((sa 1), .inr (3, [.int (iI (Wt 1)), .int (iI (Wd 1)), .int (iI (Rg 1)), .int (iI (Ly 1)), .int (iI (Wo 1))])), ((sa 2), .inr (3, [.int (iI (Wt 2)), .int (iI (Wd 2)), .int (iI (Rg 2)), .int (iI (Ly 2)), .int (iI (Wo 2))])), ((sa 3), .inr (3, [.int (iI (Wt 3)), .int (iI (Wd 3)), .int (iI (Rg 3)), .int (iI (Ly 3)), .int (iI (Wo 3))])), ((sa 4), .inr (3, [.int (iI (Wt 4)), .int (iI (Wd 4)), .int (iI (Rg 4)), .int (iI (Ly 4)), .int (iI (Wo 4))]))])) (As := [.int (iI 4)]) C (c_X5_stoneAt_in l X h0 s1 w0 t0 k0 r0 rp sh1 5 gf gs rc tc ft sf (sa 4) 4 (by decide) (hsf 4 (by decide))) gX5_lyingBelow_X5_stoneAt rfl rfl rfl hd_V_X5_stoneAt_X5_lyingBelow (by decide) dX5_lyingBelow_17 [0, 1] [2, 3, 4, 5, 6] [5, 6, 0, 1, 2, 3, 4] rfl rfl rfl rfl (by decide) rfl 0 5 rfl rfl rfl rfl (Nat.le_of_ble_eq_true rfl) (by decide) (fun _ => rfl) (fun _ hy_ => ?_)
    clear hy_
    refine r_astore (lo2 := [(5, .ref (sa 4)), (0, .ref h0), (1, .int (iI w)), (4, .int (iI 4)), (2, .long (lI mk))]) C dX5_lyingBelow_20 (by decide) rfl ?_
    refine r_aload C dX5_lyingBelow_22 0 rfl ?_
    refine r_ifnull C dX5_lyingBelow_24 ?_
    refine r_aload C dX5_lyingBelow_27 0 rfl ?_
    refine gf_3_4 C hi_X5_lyingBelow_3 kw_X5_lyingBelow_1 dX5_lyingBelow_29 6 rfl rfl ?_
    refine r_iload_n C dX5_lyingBelow_32 2 rfl ?_
    refine r_icmp_ge (tgt := 45) C dX5_lyingBelow_33 (by decide) (by omega) (by omega) (fun h_3 => ?_) (fun h_3 => ?_)
    · skip
      refine r_iinc (lo2 := [(4, .int (iI 5)), (5, .ref (sa 4)), (0, .ref h0), (1, .int (iI w)), (2, .long (lI mk))]) C dX5_lyingBelow_45 3 rfl (by decide) rfl ?_
      refine r_goto (tgt := 5) C dX5_lyingBelow_48 (by decide) ?_
      refine r_lo [2, 3, 0, 4] (lo2 := [(0, .ref h0), (1, .int (iI w)), (4, .int (iI 5)), (2, .long (lI mk))]) rfl ?_
      exact J5_5 mk (by rw [im]; first | exact (lbL_t 4 (by omega)).symm | exact (lbL_f 4 (by omega)).symm)
    · skip
      refine r_lload_n C dX5_lyingBelow_36 4 rfl ?_
      refine r_aload C dX5_lyingBelow_37 0 rfl ?_
      refine gf_3_3 C hi_X5_lyingBelow_3 kw_X5_lyingBelow_2 dX5_lyingBelow_39 6 rfl rfl ?_
      refine r_i2l C dX5_lyingBelow_42 (by omega) ?_
      refine r_ladd C dX5_lyingBelow_43 ?_
      refine r_lstore_n (lo2 := [(2, .long (lI (mk + (Ly 4)))), (5, .ref (sa 4)), (0, .ref h0), (1, .int (iI w)), (4, .int (iI 4))]) C dX5_lyingBelow_44 rfl (by decide) rfl ?_
      refine r_iinc (lo2 := [(4, .int (iI 5)), (2, .long (lI (mk + (Ly 4)))), (5, .ref (sa 4)), (0, .ref h0), (1, .int (iI w))]) C dX5_lyingBelow_45 4 rfl (by decide) rfl ?_
      refine r_goto (tgt := 5) C dX5_lyingBelow_48 (by decide) ?_
      refine r_lo [3, 4, 0, 1] (lo2 := [(0, .ref h0), (1, .int (iI w)), (4, .int (iI 5)), (2, .long (lI (mk + (Ly 4))))]) rfl ?_
      exact J5_5 (mk + (Ly 4)) (by rw [im]; first | exact (lbL_t 4 (by omega)).symm | exact (lbL_f 4 (by omega)).symm)
  have J5_3 : ∀ (mk : Int), (mk = lbL Ly Wo w 3) → gW p l e (gr 1 0 0) s m args below meth c X A 6 (MQ below ((gQl X (Y := Unit) (fun _ => (0 ≤ lbL Ly Wo w 5 ∧ lbL Ly Wo w 5 ≤ 72)) (fun _ => (lbL Ly Wo w 5)) (fun _ => [(h0, .inr (5, [.ref s1, .int (iI 5), .ref w0, .ref t0, .ref k0, .ref r0, .int (iI gf), .int (iI gs), .ref rp, .int (iI rc), .ref sh1, .int (iI tc), .int (iI ft)])), (s1, .inl (X.2.1.2.1, 8, .inr (.inr (.inr (.inr sf))))), ((sa 0), .inr (3, [.int (iI (Wt 0)), .int (iI (Wd 0)), .int (iI (Rg 0)), .int (iI (Ly 0)), .int (iI (Wo 0))])), ((sa 1), .inr (3, [.int (iI (Wt 1)), .int (iI (Wd 1)), .int (iI (Rg 1)), .int (iI (Ly 1)), .int (iI (Wo 1))])), ((sa 2), .inr (3, [.int (iI (Wt 2)), .int (iI (Wd 2)), .int (iI (Rg 2)), .int (iI (Ly 2)), .int (iI (Wo 2))])), ((sa 3), .inr (3, [.int (iI (Wt 3)), .int (iI (Wd 3)), .int (iI (Rg 3)), .int (iI (Ly 3)), .int (iI (Wo 3))])), ((sa 4), .inr (3, [.int (iI (Wt 4)), .int (iI (Wd 4)), .int (iI (Rg 4)), .int (iI (Ly 4)), .int (iI (Wo 4))]))])) A) args s 0 0 A) 0 0 [(h0, .inr (5, [.ref s1, .int (iI 5), .ref w0, .ref t0, .ref k0, .ref r0, .int (iI gf), .int (iI gs), .ref rp, .int (iI rc), .ref sh1, .int (iI tc), .int (iI ft)])), (s1, .inl (X.2.1.2.1, 8, .inr (.inr (.inr (.inr sf))))), ((sa 0), .inr (3, [.int (iI (Wt 0)), .int (iI (Wd 0)), .int (iI (Rg 0)), .int (iI (Ly 0)), .int (iI (Wo 0))])), ((sa 1), .inr (3, [.int (iI (Wt 1)), .int (iI (Wd 1)), .int (iI (Rg 1)), .int (iI (Ly 1)), .int (iI (Wo 1))])), ((sa 2), .inr (3, [.int (iI (Wt 2)), .int (iI (Wd 2)), .int (iI (Rg 2)), .int (iI (Ly 2)), .int (iI (Wo 2))])), ((sa 3), .inr (3, [.int (iI (Wt 3)), .int (iI (Wd 3)), .int (iI (Rg 3)), .int (iI (Ly 3)), .int (iI (Wo 3))])), ((sa 4), .inr (3, [.int (iI (Wt 4)), .int (iI (Wd 4)), .int (iI (Rg 4)), .int (iI (Ly 4)), .int (iI (Wo 4))]))] 5 [(0, .ref h0), (1, .int (iI w)), (4, .int (iI 3)), (2, .long (lI mk))] [] := by
    intro mk im
    refine r_iload C dX5_lyingBelow_5 2 rfl ?_
    refine r_aload_n C dX5_lyingBelow_7 0 rfl ?_
    refine gf_5_1 C hi_X5_lyingBelow_5 kw_X5_lyingBelow_0 dX5_lyingBelow_8 0 rfl rfl ?_
    refine r_icmp_ge (tgt := 51) C dX5_lyingBelow_11 (by decide) (by decide) (by decide) (fun h_4 => absurd h_4 (by decide)) (fun h_4 => ?_)
    refine r_aload_n C dX5_lyingBelow_14 0 rfl ?_
    refine r_iload C dX5_lyingBelow_15 2 rfl ?_
    refine g_V_q (ws2 := (fun _ => [(h0, .inr (5, [.ref s1, .int (iI 5), .ref w0, .ref t0, .ref k0, .ref r0, .int (iI gf), .int (iI gs), .ref rp, .int (iI rc), .ref sh1, .int (iI tc), .int (iI ft)])), (s1, .inl (X.2.1.2.1, 8, .inr (.inr (.inr (.inr sf))))), ((sa 0), .inr (3, [.int (iI (Wt 0)), .int (iI (Wd 0)), .int (iI (Rg 0)), .int (iI (Ly 0)), .int (iI (Wo 0))])), ((sa 1), .inr (3, [.int (iI (Wt 1)), .int (iI (Wd 1)), .int (iI (Rg 1)), .int (iI (Ly 1)), .int (iI (Wo 1))])), ((sa 2), .inr (3, [.int (iI (Wt 2)), .int (iI (Wd 2)), .int (iI (Rg 2)), .int (iI (Ly 2)), .int (iI (Wo 2))])), ((sa 3), .inr (3, [.int (iI (Wt 3)), .int (iI (Wd 3)), .int (iI (Rg 3)), .int (iI (Ly 3)), .int (iI (Wo 3))])), ((sa 4), .inr (3, [.int (iI (Wt 4)), .int (iI (Wd 4)), .int (iI (Rg 4)), .int (iI (Ly 4)), .int (iI (Wo 4))]))])) (As := [.int (iI 3)]) C (c_X5_stoneAt_in l X h0 s1 w0 t0 k0 r0 rp sh1 5 gf gs rc tc ft sf (sa 3) 3 (by decide) (hsf 3 (by decide))) gX5_lyingBelow_X5_stoneAt rfl rfl rfl hd_V_X5_stoneAt_X5_lyingBelow (by decide) dX5_lyingBelow_17 [0, 1] [2, 3, 4, 5, 6] [5, 6, 0, 1, 2, 3, 4] rfl rfl rfl rfl (by decide) rfl 0 5 rfl rfl rfl rfl (Nat.le_of_ble_eq_true rfl) (by decide) (fun _ => rfl) (fun _ hy_ => ?_)
    clear hy_
    refine r_astore (lo2 := [(5, .ref (sa 3)), (0, .ref h0), (1, .int (iI w)), (4, .int (iI 3)), (2, .long (lI mk))]) C dX5_lyingBelow_20 (by decide) rfl ?_
    refine r_aload C dX5_lyingBelow_22 0 rfl ?_
    refine r_ifnull C dX5_lyingBelow_24 ?_
    refine r_aload C dX5_lyingBelow_27 0 rfl ?_
    refine gf_3_4 C hi_X5_lyingBelow_3 kw_X5_lyingBelow_1 dX5_lyingBelow_29 5 rfl rfl ?_
    refine r_iload_n C dX5_lyingBelow_32 2 rfl ?_
    refine r_icmp_ge (tgt := 45) C dX5_lyingBelow_33 (by decide) (by omega) (by omega) (fun h_5 => ?_) (fun h_5 => ?_)
    · skip
      refine r_iinc (lo2 := [(4, .int (iI 4)), (5, .ref (sa 3)), (0, .ref h0), (1, .int (iI w)), (2, .long (lI mk))]) C dX5_lyingBelow_45 3 rfl (by decide) rfl ?_
      refine r_goto (tgt := 5) C dX5_lyingBelow_48 (by decide) ?_
      refine r_lo [2, 3, 0, 4] (lo2 := [(0, .ref h0), (1, .int (iI w)), (4, .int (iI 4)), (2, .long (lI mk))]) rfl ?_
      exact J5_4 mk (by rw [im]; first | exact (lbL_t 3 (by omega)).symm | exact (lbL_f 3 (by omega)).symm)
    · skip
      refine r_lload_n C dX5_lyingBelow_36 4 rfl ?_
      refine r_aload C dX5_lyingBelow_37 0 rfl ?_
      refine gf_3_3 C hi_X5_lyingBelow_3 kw_X5_lyingBelow_2 dX5_lyingBelow_39 5 rfl rfl ?_
      refine r_i2l C dX5_lyingBelow_42 (by omega) ?_
      refine r_ladd C dX5_lyingBelow_43 ?_
      refine r_lstore_n (lo2 := [(2, .long (lI (mk + (Ly 3)))), (5, .ref (sa 3)), (0, .ref h0), (1, .int (iI w)), (4, .int (iI 3))]) C dX5_lyingBelow_44 rfl (by decide) rfl ?_
      refine r_iinc (lo2 := [(4, .int (iI 4)), (2, .long (lI (mk + (Ly 3)))), (5, .ref (sa 3)), (0, .ref h0), (1, .int (iI w))]) C dX5_lyingBelow_45 4 rfl (by decide) rfl ?_
      refine r_goto (tgt := 5) C dX5_lyingBelow_48 (by decide) ?_
      refine r_lo [3, 4, 0, 1] (lo2 := [(0, .ref h0), (1, .int (iI w)), (4, .int (iI 4)), (2, .long (lI (mk + (Ly 3))))]) rfl ?_
      exact J5_4 (mk + (Ly 3)) (by rw [im]; first | exact (lbL_t 3 (by omega)).symm | exact (lbL_f 3 (by omega)).symm)
  have J5_2 : ∀ (mk : Int), (mk = lbL Ly Wo w 2) → gW p l e (gr 1 0 0) s m args below meth c X A 6 (MQ below ((gQl X (Y := Unit) (fun _ => (0 ≤ lbL Ly Wo w 5 ∧ lbL Ly Wo w 5 ≤ 72)) (fun _ => (lbL Ly Wo w 5)) (fun _ => [(h0, .inr (5, [.ref s1, .int (iI 5), .ref w0, .ref t0, .ref k0, .ref r0, .int (iI gf), .int (iI gs), .ref rp, .int (iI rc), .ref sh1, .int (iI tc), .int (iI ft)])), (s1, .inl (X.2.1.2.1, 8, .inr (.inr (.inr (.inr sf))))), ((sa 0), .inr (3, [.int (iI (Wt 0)), .int (iI (Wd 0)), .int (iI (Rg 0)), .int (iI (Ly 0)), .int (iI (Wo 0))])), ((sa 1), .inr (3, [.int (iI (Wt 1)), .int (iI (Wd 1)), .int (iI (Rg 1)), .int (iI (Ly 1)), .int (iI (Wo 1))])), ((sa 2), .inr (3, [.int (iI (Wt 2)), .int (iI (Wd 2)), .int (iI (Rg 2)), .int (iI (Ly 2)), .int (iI (Wo 2))])), ((sa 3), .inr (3, [.int (iI (Wt 3)), .int (iI (Wd 3)), .int (iI (Rg 3)), .int (iI (Ly 3)), .int (iI (Wo 3))])), ((sa 4), .inr (3, [.int (iI (Wt 4)), .int (iI (Wd 4)), .int (iI (Rg 4)), .int (iI (Ly 4)), .int (iI (Wo 4))]))])) A) args s 0 0 A) 0 0 [(h0, .inr (5, [.ref s1, .int (iI 5), .ref w0, .ref t0, .ref k0, .ref r0, .int (iI gf), .int (iI gs), .ref rp, .int (iI rc), .ref sh1, .int (iI tc), .int (iI ft)])), (s1, .inl (X.2.1.2.1, 8, .inr (.inr (.inr (.inr sf))))), ((sa 0), .inr (3, [.int (iI (Wt 0)), .int (iI (Wd 0)), .int (iI (Rg 0)), .int (iI (Ly 0)), .int (iI (Wo 0))])), ((sa 1), .inr (3, [.int (iI (Wt 1)), .int (iI (Wd 1)), .int (iI (Rg 1)), .int (iI (Ly 1)), .int (iI (Wo 1))])), ((sa 2), .inr (3, [.int (iI (Wt 2)), .int (iI (Wd 2)), .int (iI (Rg 2)), .int (iI (Ly 2)), .int (iI (Wo 2))])), ((sa 3), .inr (3, [.int (iI (Wt 3)), .int (iI (Wd 3)), .int (iI (Rg 3)), .int (iI (Ly 3)), .int (iI (Wo 3))])), ((sa 4), .inr (3, [.int (iI (Wt 4)), .int (iI (Wd 4)), .int (iI (Rg 4)), .int (iI (Ly 4)), .int (iI (Wo 4))]))] 5 [(0, .ref h0), (1, .int (iI w)), (4, .int (iI 2)), (2, .long (lI mk))] [] := by
    intro mk im
    refine r_iload C dX5_lyingBelow_5 2 rfl ?_
    refine r_aload_n C dX5_lyingBelow_7 0 rfl ?_
    refine gf_5_1 C hi_X5_lyingBelow_5 kw_X5_lyingBelow_0 dX5_lyingBelow_8 0 rfl rfl ?_
    refine r_icmp_ge (tgt := 51) C dX5_lyingBelow_11 (by decide) (by decide) (by decide) (fun h_6 => absurd h_6 (by decide)) (fun h_6 => ?_)
    refine r_aload_n C dX5_lyingBelow_14 0 rfl ?_
    refine r_iload C dX5_lyingBelow_15 2 rfl ?_
    refine g_V_q (ws2 := (fun _ => [(h0, .inr (5, [.ref s1, .int (iI 5), .ref w0, .ref t0, .ref k0, .ref r0, .int (iI gf), .int (iI gs), .ref rp, .int (iI rc), .ref sh1, .int (iI tc), .int (iI ft)])), (s1, .inl (X.2.1.2.1, 8, .inr (.inr (.inr (.inr sf))))), ((sa 0), .inr (3, [.int (iI (Wt 0)), .int (iI (Wd 0)), .int (iI (Rg 0)), .int (iI (Ly 0)), .int (iI (Wo 0))])), ((sa 1), .inr (3, [.int (iI (Wt 1)), .int (iI (Wd 1)), .int (iI (Rg 1)), .int (iI (Ly 1)), .int (iI (Wo 1))])), ((sa 2), .inr (3, [.int (iI (Wt 2)), .int (iI (Wd 2)), .int (iI (Rg 2)), .int (iI (Ly 2)), .int (iI (Wo 2))])), ((sa 3), .inr (3, [.int (iI (Wt 3)), .int (iI (Wd 3)), .int (iI (Rg 3)), .int (iI (Ly 3)), .int (iI (Wo 3))])), ((sa 4), .inr (3, [.int (iI (Wt 4)), .int (iI (Wd 4)), .int (iI (Rg 4)), .int (iI (Ly 4)), .int (iI (Wo 4))]))])) (As := [.int (iI 2)]) C (c_X5_stoneAt_in l X h0 s1 w0 t0 k0 r0 rp sh1 5 gf gs rc tc ft sf (sa 2) 2 (by decide) (hsf 2 (by decide))) gX5_lyingBelow_X5_stoneAt rfl rfl rfl hd_V_X5_stoneAt_X5_lyingBelow (by decide) dX5_lyingBelow_17 [0, 1] [2, 3, 4, 5, 6] [5, 6, 0, 1, 2, 3, 4] rfl rfl rfl rfl (by decide) rfl 0 5 rfl rfl rfl rfl (Nat.le_of_ble_eq_true rfl) (by decide) (fun _ => rfl) (fun _ hy_ => ?_)
    clear hy_
    refine r_astore (lo2 := [(5, .ref (sa 2)), (0, .ref h0), (1, .int (iI w)), (4, .int (iI 2)), (2, .long (lI mk))]) C dX5_lyingBelow_20 (by decide) rfl ?_
    refine r_aload C dX5_lyingBelow_22 0 rfl ?_
    refine r_ifnull C dX5_lyingBelow_24 ?_
    refine r_aload C dX5_lyingBelow_27 0 rfl ?_
    refine gf_3_4 C hi_X5_lyingBelow_3 kw_X5_lyingBelow_1 dX5_lyingBelow_29 4 rfl rfl ?_
    refine r_iload_n C dX5_lyingBelow_32 2 rfl ?_
    refine r_icmp_ge (tgt := 45) C dX5_lyingBelow_33 (by decide) (by omega) (by omega) (fun h_7 => ?_) (fun h_7 => ?_)
    · skip
      refine r_iinc (lo2 := [(4, .int (iI 3)), (5, .ref (sa 2)), (0, .ref h0), (1, .int (iI w)), (2, .long (lI mk))]) C dX5_lyingBelow_45 3 rfl (by decide) rfl ?_
      refine r_goto (tgt := 5) C dX5_lyingBelow_48 (by decide) ?_
      refine r_lo [2, 3, 0, 4] (lo2 := [(0, .ref h0), (1, .int (iI w)), (4, .int (iI 3)), (2, .long (lI mk))]) rfl ?_
      exact J5_3 mk (by rw [im]; first | exact (lbL_t 2 (by omega)).symm | exact (lbL_f 2 (by omega)).symm)
    · skip
      refine r_lload_n C dX5_lyingBelow_36 4 rfl ?_
      refine r_aload C dX5_lyingBelow_37 0 rfl ?_
      refine gf_3_3 C hi_X5_lyingBelow_3 kw_X5_lyingBelow_2 dX5_lyingBelow_39 4 rfl rfl ?_
      refine r_i2l C dX5_lyingBelow_42 (by omega) ?_
      refine r_ladd C dX5_lyingBelow_43 ?_
      refine r_lstore_n (lo2 := [(2, .long (lI (mk + (Ly 2)))), (5, .ref (sa 2)), (0, .ref h0), (1, .int (iI w)), (4, .int (iI 2))]) C dX5_lyingBelow_44 rfl (by decide) rfl ?_
      refine r_iinc (lo2 := [(4, .int (iI 3)), (2, .long (lI (mk + (Ly 2)))), (5, .ref (sa 2)), (0, .ref h0), (1, .int (iI w))]) C dX5_lyingBelow_45 4 rfl (by decide) rfl ?_
      refine r_goto (tgt := 5) C dX5_lyingBelow_48 (by decide) ?_
      refine r_lo [3, 4, 0, 1] (lo2 := [(0, .ref h0), (1, .int (iI w)), (4, .int (iI 3)), (2, .long (lI (mk + (Ly 2))))]) rfl ?_
      exact J5_3 (mk + (Ly 2)) (by rw [im]; first | exact (lbL_t 2 (by omega)).symm | exact (lbL_f 2 (by omega)).symm)
  have J5_1 : ∀ (mk : Int), (mk = lbL Ly Wo w 1) → gW p l e (gr 1 0 0) s m args below meth c X A 6 (MQ below ((gQl X (Y := Unit) (fun _ => (0 ≤ lbL Ly Wo w 5 ∧ lbL Ly Wo w 5 ≤ 72)) (fun _ => (lbL Ly Wo w 5)) (fun _ => [(h0, .inr (5, [.ref s1, .int (iI 5), .ref w0, .ref t0, .ref k0, .ref r0, .int (iI gf), .int (iI gs), .ref rp, .int (iI rc), .ref sh1, .int (iI tc), .int (iI ft)])), (s1, .inl (X.2.1.2.1, 8, .inr (.inr (.inr (.inr sf))))), ((sa 0), .inr (3, [.int (iI (Wt 0)), .int (iI (Wd 0)), .int (iI (Rg 0)), .int (iI (Ly 0)), .int (iI (Wo 0))])), ((sa 1), .inr (3, [.int (iI (Wt 1)), .int (iI (Wd 1)), .int (iI (Rg 1)), .int (iI (Ly 1)), .int (iI (Wo 1))])), ((sa 2), .inr (3, [.int (iI (Wt 2)), .int (iI (Wd 2)), .int (iI (Rg 2)), .int (iI (Ly 2)), .int (iI (Wo 2))])), ((sa 3), .inr (3, [.int (iI (Wt 3)), .int (iI (Wd 3)), .int (iI (Rg 3)), .int (iI (Ly 3)), .int (iI (Wo 3))])), ((sa 4), .inr (3, [.int (iI (Wt 4)), .int (iI (Wd 4)), .int (iI (Rg 4)), .int (iI (Ly 4)), .int (iI (Wo 4))]))])) A) args s 0 0 A) 0 0 [(h0, .inr (5, [.ref s1, .int (iI 5), .ref w0, .ref t0, .ref k0, .ref r0, .int (iI gf), .int (iI gs), .ref rp, .int (iI rc), .ref sh1, .int (iI tc), .int (iI ft)])), (s1, .inl (X.2.1.2.1, 8, .inr (.inr (.inr (.inr sf))))), ((sa 0), .inr (3, [.int (iI (Wt 0)), .int (iI (Wd 0)), .int (iI (Rg 0)), .int (iI (Ly 0)), .int (iI (Wo 0))])), ((sa 1), .inr (3, [.int (iI (Wt 1)), .int (iI (Wd 1)), .int (iI (Rg 1)), .int (iI (Ly 1)), .int (iI (Wo 1))])), ((sa 2), .inr (3, [.int (iI (Wt 2)), .int (iI (Wd 2)), .int (iI (Rg 2)), .int (iI (Ly 2)), .int (iI (Wo 2))])), ((sa 3), .inr (3, [.int (iI (Wt 3)), .int (iI (Wd 3)), .int (iI (Rg 3)), .int (iI (Ly 3)), .int (iI (Wo 3))])), ((sa 4), .inr (3, [.int (iI (Wt 4)), .int (iI (Wd 4)), .int (iI (Rg 4)), .int (iI (Ly 4)), .int (iI (Wo 4))]))] 5 [(0, .ref h0), (1, .int (iI w)), (4, .int (iI 1)), (2, .long (lI mk))] [] := by
    intro mk im
    refine r_iload C dX5_lyingBelow_5 2 rfl ?_
    refine r_aload_n C dX5_lyingBelow_7 0 rfl ?_
    refine gf_5_1 C hi_X5_lyingBelow_5 kw_X5_lyingBelow_0 dX5_lyingBelow_8 0 rfl rfl ?_
    refine r_icmp_ge (tgt := 51) C dX5_lyingBelow_11 (by decide) (by decide) (by decide) (fun h_8 => absurd h_8 (by decide)) (fun h_8 => ?_)
    refine r_aload_n C dX5_lyingBelow_14 0 rfl ?_
    refine r_iload C dX5_lyingBelow_15 2 rfl ?_
    refine g_V_q (ws2 := (fun _ => [(h0, .inr (5, [.ref s1, .int (iI 5), .ref w0, .ref t0, .ref k0, .ref r0, .int (iI gf), .int (iI gs), .ref rp, .int (iI rc), .ref sh1, .int (iI tc), .int (iI ft)])), (s1, .inl (X.2.1.2.1, 8, .inr (.inr (.inr (.inr sf))))), ((sa 0), .inr (3, [.int (iI (Wt 0)), .int (iI (Wd 0)), .int (iI (Rg 0)), .int (iI (Ly 0)), .int (iI (Wo 0))])), ((sa 1), .inr (3, [.int (iI (Wt 1)), .int (iI (Wd 1)), .int (iI (Rg 1)), .int (iI (Ly 1)), .int (iI (Wo 1))])), ((sa 2), .inr (3, [.int (iI (Wt 2)), .int (iI (Wd 2)), .int (iI (Rg 2)), .int (iI (Ly 2)), .int (iI (Wo 2))])), ((sa 3), .inr (3, [.int (iI (Wt 3)), .int (iI (Wd 3)), .int (iI (Rg 3)), .int (iI (Ly 3)), .int (iI (Wo 3))])), ((sa 4), .inr (3, [.int (iI (Wt 4)), .int (iI (Wd 4)), .int (iI (Rg 4)), .int (iI (Ly 4)), .int (iI (Wo 4))]))])) (As := [.int (iI 1)]) C (c_X5_stoneAt_in l X h0 s1 w0 t0 k0 r0 rp sh1 5 gf gs rc tc ft sf (sa 1) 1 (by decide) (hsf 1 (by decide))) gX5_lyingBelow_X5_stoneAt rfl rfl rfl hd_V_X5_stoneAt_X5_lyingBelow (by decide) dX5_lyingBelow_17 [0, 1] [2, 3, 4, 5, 6] [5, 6, 0, 1, 2, 3, 4] rfl rfl rfl rfl (by decide) rfl 0 5 rfl rfl rfl rfl (Nat.le_of_ble_eq_true rfl) (by decide) (fun _ => rfl) (fun _ hy_ => ?_)
    clear hy_
    refine r_astore (lo2 := [(5, .ref (sa 1)), (0, .ref h0), (1, .int (iI w)), (4, .int (iI 1)), (2, .long (lI mk))]) C dX5_lyingBelow_20 (by decide) rfl ?_
    refine r_aload C dX5_lyingBelow_22 0 rfl ?_
    refine r_ifnull C dX5_lyingBelow_24 ?_
    refine r_aload C dX5_lyingBelow_27 0 rfl ?_
    refine gf_3_4 C hi_X5_lyingBelow_3 kw_X5_lyingBelow_1 dX5_lyingBelow_29 3 rfl rfl ?_
    refine r_iload_n C dX5_lyingBelow_32 2 rfl ?_
    refine r_icmp_ge (tgt := 45) C dX5_lyingBelow_33 (by decide) (by omega) (by omega) (fun h_9 => ?_) (fun h_9 => ?_)
    · skip
      refine r_iinc (lo2 := [(4, .int (iI 2)), (5, .ref (sa 1)), (0, .ref h0), (1, .int (iI w)), (2, .long (lI mk))]) C dX5_lyingBelow_45 3 rfl (by decide) rfl ?_
      refine r_goto (tgt := 5) C dX5_lyingBelow_48 (by decide) ?_
      refine r_lo [2, 3, 0, 4] (lo2 := [(0, .ref h0), (1, .int (iI w)), (4, .int (iI 2)), (2, .long (lI mk))]) rfl ?_
      exact J5_2 mk (by rw [im]; first | exact (lbL_t 1 (by omega)).symm | exact (lbL_f 1 (by omega)).symm)
    · skip
      refine r_lload_n C dX5_lyingBelow_36 4 rfl ?_
      refine r_aload C dX5_lyingBelow_37 0 rfl ?_
      refine gf_3_3 C hi_X5_lyingBelow_3 kw_X5_lyingBelow_2 dX5_lyingBelow_39 3 rfl rfl ?_
      refine r_i2l C dX5_lyingBelow_42 (by omega) ?_
      refine r_ladd C dX5_lyingBelow_43 ?_
      refine r_lstore_n (lo2 := [(2, .long (lI (mk + (Ly 1)))), (5, .ref (sa 1)), (0, .ref h0), (1, .int (iI w)), (4, .int (iI 1))]) C dX5_lyingBelow_44 rfl (by decide) rfl ?_
      refine r_iinc (lo2 := [(4, .int (iI 2)), (2, .long (lI (mk + (Ly 1)))), (5, .ref (sa 1)), (0, .ref h0), (1, .int (iI w))]) C dX5_lyingBelow_45 4 rfl (by decide) rfl ?_
      refine r_goto (tgt := 5) C dX5_lyingBelow_48 (by decide) ?_
      refine r_lo [3, 4, 0, 1] (lo2 := [(0, .ref h0), (1, .int (iI w)), (4, .int (iI 2)), (2, .long (lI (mk + (Ly 1))))]) rfl ?_
      exact J5_2 (mk + (Ly 1)) (by rw [im]; first | exact (lbL_t 1 (by omega)).symm | exact (lbL_f 1 (by omega)).symm)
  have J5_0 : ∀ (mk : Int), (mk = lbL Ly Wo w 0) → gW p l e (gr 1 0 0) s m args below meth c X A 6 (MQ below ((gQl X (Y := Unit) (fun _ => (0 ≤ lbL Ly Wo w 5 ∧ lbL Ly Wo w 5 ≤ 72)) (fun _ => (lbL Ly Wo w 5)) (fun _ => [(h0, .inr (5, [.ref s1, .int (iI 5), .ref w0, .ref t0, .ref k0, .ref r0, .int (iI gf), .int (iI gs), .ref rp, .int (iI rc), .ref sh1, .int (iI tc), .int (iI ft)])), (s1, .inl (X.2.1.2.1, 8, .inr (.inr (.inr (.inr sf))))), ((sa 0), .inr (3, [.int (iI (Wt 0)), .int (iI (Wd 0)), .int (iI (Rg 0)), .int (iI (Ly 0)), .int (iI (Wo 0))])), ((sa 1), .inr (3, [.int (iI (Wt 1)), .int (iI (Wd 1)), .int (iI (Rg 1)), .int (iI (Ly 1)), .int (iI (Wo 1))])), ((sa 2), .inr (3, [.int (iI (Wt 2)), .int (iI (Wd 2)), .int (iI (Rg 2)), .int (iI (Ly 2)), .int (iI (Wo 2))])), ((sa 3), .inr (3, [.int (iI (Wt 3)), .int (iI (Wd 3)), .int (iI (Rg 3)), .int (iI (Ly 3)), .int (iI (Wo 3))])), ((sa 4), .inr (3, [.int (iI (Wt 4)), .int (iI (Wd 4)), .int (iI (Rg 4)), .int (iI (Ly 4)), .int (iI (Wo 4))]))])) A) args s 0 0 A) 0 0 [(h0, .inr (5, [.ref s1, .int (iI 5), .ref w0, .ref t0, .ref k0, .ref r0, .int (iI gf), .int (iI gs), .ref rp, .int (iI rc), .ref sh1, .int (iI tc), .int (iI ft)])), (s1, .inl (X.2.1.2.1, 8, .inr (.inr (.inr (.inr sf))))), ((sa 0), .inr (3, [.int (iI (Wt 0)), .int (iI (Wd 0)), .int (iI (Rg 0)), .int (iI (Ly 0)), .int (iI (Wo 0))])), ((sa 1), .inr (3, [.int (iI (Wt 1)), .int (iI (Wd 1)), .int (iI (Rg 1)), .int (iI (Ly 1)), .int (iI (Wo 1))])), ((sa 2), .inr (3, [.int (iI (Wt 2)), .int (iI (Wd 2)), .int (iI (Rg 2)), .int (iI (Ly 2)), .int (iI (Wo 2))])), ((sa 3), .inr (3, [.int (iI (Wt 3)), .int (iI (Wd 3)), .int (iI (Rg 3)), .int (iI (Ly 3)), .int (iI (Wo 3))])), ((sa 4), .inr (3, [.int (iI (Wt 4)), .int (iI (Wd 4)), .int (iI (Rg 4)), .int (iI (Ly 4)), .int (iI (Wo 4))]))] 5 [(0, .ref h0), (1, .int (iI w)), (4, .int (iI 0)), (2, .long (lI mk))] [] := by
    intro mk im
    refine r_iload C dX5_lyingBelow_5 2 rfl ?_
    refine r_aload_n C dX5_lyingBelow_7 0 rfl ?_
    refine gf_5_1 C hi_X5_lyingBelow_5 kw_X5_lyingBelow_0 dX5_lyingBelow_8 0 rfl rfl ?_
    refine r_icmp_ge (tgt := 51) C dX5_lyingBelow_11 (by decide) (by decide) (by decide) (fun h_10 => absurd h_10 (by decide)) (fun h_10 => ?_)
    refine r_aload_n C dX5_lyingBelow_14 0 rfl ?_
    refine r_iload C dX5_lyingBelow_15 2 rfl ?_
    refine g_V_q (ws2 := (fun _ => [(h0, .inr (5, [.ref s1, .int (iI 5), .ref w0, .ref t0, .ref k0, .ref r0, .int (iI gf), .int (iI gs), .ref rp, .int (iI rc), .ref sh1, .int (iI tc), .int (iI ft)])), (s1, .inl (X.2.1.2.1, 8, .inr (.inr (.inr (.inr sf))))), ((sa 0), .inr (3, [.int (iI (Wt 0)), .int (iI (Wd 0)), .int (iI (Rg 0)), .int (iI (Ly 0)), .int (iI (Wo 0))])), ((sa 1), .inr (3, [.int (iI (Wt 1)), .int (iI (Wd 1)), .int (iI (Rg 1)), .int (iI (Ly 1)), .int (iI (Wo 1))])), ((sa 2), .inr (3, [.int (iI (Wt 2)), .int (iI (Wd 2)), .int (iI (Rg 2)), .int (iI (Ly 2)), .int (iI (Wo 2))])), ((sa 3), .inr (3, [.int (iI (Wt 3)), .int (iI (Wd 3)), .int (iI (Rg 3)), .int (iI (Ly 3)), .int (iI (Wo 3))])), ((sa 4), .inr (3, [.int (iI (Wt 4)), .int (iI (Wd 4)), .int (iI (Rg 4)), .int (iI (Ly 4)), .int (iI (Wo 4))]))])) (As := [.int (iI 0)]) C (c_X5_stoneAt_in l X h0 s1 w0 t0 k0 r0 rp sh1 5 gf gs rc tc ft sf (sa 0) 0 (by decide) (hsf 0 (by decide))) gX5_lyingBelow_X5_stoneAt rfl rfl rfl hd_V_X5_stoneAt_X5_lyingBelow (by decide) dX5_lyingBelow_17 [0, 1] [2, 3, 4, 5, 6] [5, 6, 0, 1, 2, 3, 4] rfl rfl rfl rfl (by decide) rfl 0 5 rfl rfl rfl rfl (Nat.le_of_ble_eq_true rfl) (by decide) (fun _ => rfl) (fun _ hy_ => ?_)
    clear hy_
    refine r_astore (lo2 := [(5, .ref (sa 0)), (0, .ref h0), (1, .int (iI w)), (4, .int (iI 0)), (2, .long (lI mk))]) C dX5_lyingBelow_20 (by decide) rfl ?_
    refine r_aload C dX5_lyingBelow_22 0 rfl ?_
    refine r_ifnull C dX5_lyingBelow_24 ?_
    refine r_aload C dX5_lyingBelow_27 0 rfl ?_
    refine gf_3_4 C hi_X5_lyingBelow_3 kw_X5_lyingBelow_1 dX5_lyingBelow_29 2 rfl rfl ?_
    refine r_iload_n C dX5_lyingBelow_32 2 rfl ?_
    refine r_icmp_ge (tgt := 45) C dX5_lyingBelow_33 (by decide) (by omega) (by omega) (fun h_11 => ?_) (fun h_11 => ?_)
    · skip
      refine r_iinc (lo2 := [(4, .int (iI 1)), (5, .ref (sa 0)), (0, .ref h0), (1, .int (iI w)), (2, .long (lI mk))]) C dX5_lyingBelow_45 3 rfl (by decide) rfl ?_
      refine r_goto (tgt := 5) C dX5_lyingBelow_48 (by decide) ?_
      refine r_lo [2, 3, 0, 4] (lo2 := [(0, .ref h0), (1, .int (iI w)), (4, .int (iI 1)), (2, .long (lI mk))]) rfl ?_
      exact J5_1 mk (by rw [im]; first | exact (lbL_t 0 (by omega)).symm | exact (lbL_f 0 (by omega)).symm)
    · skip
      refine r_lload_n C dX5_lyingBelow_36 4 rfl ?_
      refine r_aload C dX5_lyingBelow_37 0 rfl ?_
      refine gf_3_3 C hi_X5_lyingBelow_3 kw_X5_lyingBelow_2 dX5_lyingBelow_39 2 rfl rfl ?_
      refine r_i2l C dX5_lyingBelow_42 (by omega) ?_
      refine r_ladd C dX5_lyingBelow_43 ?_
      refine r_lstore_n (lo2 := [(2, .long (lI (mk + (Ly 0)))), (5, .ref (sa 0)), (0, .ref h0), (1, .int (iI w)), (4, .int (iI 0))]) C dX5_lyingBelow_44 rfl (by decide) rfl ?_
      refine r_iinc (lo2 := [(4, .int (iI 1)), (2, .long (lI (mk + (Ly 0)))), (5, .ref (sa 0)), (0, .ref h0), (1, .int (iI w))]) C dX5_lyingBelow_45 4 rfl (by decide) rfl ?_
      refine r_goto (tgt := 5) C dX5_lyingBelow_48 (by decide) ?_
      refine r_lo [3, 4, 0, 1] (lo2 := [(0, .ref h0), (1, .int (iI w)), (4, .int (iI 1)), (2, .long (lI (mk + (Ly 0))))]) rfl ?_
      exact J5_1 (mk + (Ly 0)) (by rw [im]; first | exact (lbL_t 0 (by omega)).symm | exact (lbL_f 0 (by omega)).symm)
  refine r_lo [2, 3, 0, 1] (lo2 := [(0, .ref h0), (1, .int (iI w)), (4, .int (iI 0)), (2, .long (lI 0))]) rfl ?_
  exact J5_0 0 rfl

set_option maxHeartbeats 4000000 in
set_option maxRecDepth 100000 in
theorem c_X5_bestWorths_5 (l : Launch) (X : gX) (h0 : Nat) (s1 : Nat) (w0 : Nat) (t0 : Nat) (k0 : Nat) (r0 : Nat) (rp : Nat) (sh1 : Nat) (gf : Int) (gs : Int) (rc : Int) (tc : Int) (ft : Int) (sf : Nat → Option Nat) (sa : Nat → Nat) (Wt : Nat → Int) (Wd : Nat → Int) (Rg : Nat → Int) (Ly : Nat → Int) (Wo : Nat → Int) (k : Int) (hsf : ∀ j : Nat, j < 5 → sf j = some (sa j)) (hLy : ∀ j : Nat, j < 5 → 0 ≤ Ly j ∧ Ly j ≤ 9) (hWo : ∀ j : Nat, j < 5 → 0 ≤ Wo j ∧ Wo j ≤ 99) (hk : 0 ≤ k ∧ k ≤ 6) : gM l yX5_bestWorths wsX5_bestWorths (gr 2 0 0) X [(h0, .inr (5, [.ref s1, .int (iI 5), .ref w0, .ref t0, .ref k0, .ref r0, .int (iI gf), .int (iI gs), .ref rp, .int (iI rc), .ref sh1, .int (iI tc), .int (iI ft)])), (s1, .inl (X.2.1.2.1, 8, .inr (.inr (.inr (.inr sf))))), ((sa 0), .inr (3, [.int (iI (Wt 0)), .int (iI (Wd 0)), .int (iI (Rg 0)), .int (iI (Ly 0)), .int (iI (Wo 0))])), ((sa 1), .inr (3, [.int (iI (Wt 1)), .int (iI (Wd 1)), .int (iI (Rg 1)), .int (iI (Ly 1)), .int (iI (Wo 1))])), ((sa 2), .inr (3, [.int (iI (Wt 2)), .int (iI (Wd 2)), .int (iI (Rg 2)), .int (iI (Ly 2)), .int (iI (Wo 2))])), ((sa 3), .inr (3, [.int (iI (Wt 3)), .int (iI (Wd 3)), .int (iI (Rg 3)), .int (iI (Ly 3)), .int (iI (Wo 3))])), ((sa 4), .inr (3, [.int (iI (Wt 4)), .int (iI (Wd 4)), .int (iI (Rg 4)), .int (iI (Ly 4)), .int (iI (Wo 4))]))] [.ref h0, .int (iI k)] (gQl X (Y := Unit) (fun _ => True) (fun _ => (bwV Ly Wo 5 k)) (fun _ => [(h0, .inr (5, [.ref s1, .int (iI 5), .ref w0, .ref t0, .ref k0, .ref r0, .int (iI gf), .int (iI gs), .ref rp, .int (iI rc), .ref sh1, .int (iI tc), .int (iI ft)])), (s1, .inl (X.2.1.2.1, 8, .inr (.inr (.inr (.inr sf))))), ((sa 0), .inr (3, [.int (iI (Wt 0)), .int (iI (Wd 0)), .int (iI (Rg 0)), .int (iI (Ly 0)), .int (iI (Wo 0))])), ((sa 1), .inr (3, [.int (iI (Wt 1)), .int (iI (Wd 1)), .int (iI (Rg 1)), .int (iI (Ly 1)), .int (iI (Wo 1))])), ((sa 2), .inr (3, [.int (iI (Wt 2)), .int (iI (Wd 2)), .int (iI (Rg 2)), .int (iI (Ly 2)), .int (iI (Wo 2))])), ((sa 3), .inr (3, [.int (iI (Wt 3)), .int (iI (Wd 3)), .int (iI (Rg 3)), .int (iI (Ly 3)), .int (iI (Wo 3))])), ((sa 4), .inr (3, [.int (iI (Wt 4)), .int (iI (Wd 4)), .int (iI (Rg 4)), .int (iI (Ly 4)), .int (iI (Wo 4))]))])) 0 0 := by
  refine g_start2 (lo := [(0, .ref h0), (1, .int (iI k))]) (by decide +kernel) rfl rfl (Nat.le_of_ble_eq_true rfl) (fun p e s m args below meth c A C => ?_)
  refine r_aload_n C dX5_bestWorths_0 0 rfl ?_
  refine r_bipush C dX5_bestWorths_1 (by decide) ?_
  refine g_V_l (ws2 := (fun _ => [(h0, .inr (5, [.ref s1, .int (iI 5), .ref w0, .ref t0, .ref k0, .ref r0, .int (iI gf), .int (iI gs), .ref rp, .int (iI rc), .ref sh1, .int (iI tc), .int (iI ft)])), (s1, .inl (X.2.1.2.1, 8, .inr (.inr (.inr (.inr sf))))), ((sa 0), .inr (3, [.int (iI (Wt 0)), .int (iI (Wd 0)), .int (iI (Rg 0)), .int (iI (Ly 0)), .int (iI (Wo 0))])), ((sa 1), .inr (3, [.int (iI (Wt 1)), .int (iI (Wd 1)), .int (iI (Rg 1)), .int (iI (Ly 1)), .int (iI (Wo 1))])), ((sa 2), .inr (3, [.int (iI (Wt 2)), .int (iI (Wd 2)), .int (iI (Rg 2)), .int (iI (Ly 2)), .int (iI (Wo 2))])), ((sa 3), .inr (3, [.int (iI (Wt 3)), .int (iI (Wd 3)), .int (iI (Rg 3)), .int (iI (Ly 3)), .int (iI (Wo 3))])), ((sa 4), .inr (3, [.int (iI (Wt 4)), .int (iI (Wd 4)), .int (iI (Rg 4)), .int (iI (Ly 4)), .int (iI (Wo 4))]))])) (As := [.int (iI 100)]) C (c_X5_lyingBelow_5 l X h0 s1 w0 t0 k0 r0 rp sh1 gf gs rc tc ft sf sa Wt Wd Rg Ly Wo 100 hsf hLy hWo (by first | assumption | omega)) gX5_bestWorths_X5_lyingBelow rfl rfl rfl hd_V_X5_lyingBelow_X5_bestWorths (by decide) dX5_bestWorths_3 [0, 1, 2, 3, 4, 5, 6] [] [0, 1, 2, 3, 4, 5, 6] rfl rfl rfl rfl (by decide) rfl 0 5 rfl rfl rfl rfl (Nat.le_of_ble_eq_true rfl) (by decide) (fun _ => rfl) (fun _ hy_ => ?_)
  have y_1 : 0 ≤ lbL Ly Wo 100 5 ∧ lbL Ly Wo 100 5 ≤ 72 := hy_
  clear hy_
  refine r_iload_n C dX5_bestWorths_6 1 rfl ?_
  refine g_S_l (ws2 := (fun _ => [(h0, .inr (5, [.ref s1, .int (iI 5), .ref w0, .ref t0, .ref k0, .ref r0, .int (iI gf), .int (iI gs), .ref rp, .int (iI rc), .ref sh1, .int (iI tc), .int (iI ft)])), (s1, .inl (X.2.1.2.1, 8, .inr (.inr (.inr (.inr sf))))), ((sa 0), .inr (3, [.int (iI (Wt 0)), .int (iI (Wd 0)), .int (iI (Rg 0)), .int (iI (Ly 0)), .int (iI (Wo 0))])), ((sa 1), .inr (3, [.int (iI (Wt 1)), .int (iI (Wd 1)), .int (iI (Rg 1)), .int (iI (Ly 1)), .int (iI (Wo 1))])), ((sa 2), .inr (3, [.int (iI (Wt 2)), .int (iI (Wd 2)), .int (iI (Rg 2)), .int (iI (Ly 2)), .int (iI (Wo 2))])), ((sa 3), .inr (3, [.int (iI (Wt 3)), .int (iI (Wd 3)), .int (iI (Rg 3)), .int (iI (Ly 3)), .int (iI (Wo 3))])), ((sa 4), .inr (3, [.int (iI (Wt 4)), .int (iI (Wd 4)), .int (iI (Rg 4)), .int (iI (Ly 4)), .int (iI (Wo 4))]))])) (As := [.long (lI (lbL Ly Wo 100 5)), .int (iI k)]) C (c_X5_power l X (lbL Ly Wo 100 5) k (by first | assumption | omega)) gX5_bestWorths_X5_power rfl rfl rfl hd_S_X5_power_X5_bestWorths (by decide) dX5_bestWorths_7 [] [0, 1, 2, 3, 4, 5, 6] [0, 1, 2, 3, 4, 5, 6] rfl rfl rfl rfl (by decide) rfl rfl rfl (Nat.le_of_ble_eq_true rfl) (by decide) (fun _ => rfl) (fun _ hy_ => ?_)
  clear hy_
  refine r_lstore_n (lo2 := [(2, .long (lI (pwI (lbL Ly Wo 100 5) k))), (0, .ref h0), (1, .int (iI k))]) C dX5_bestWorths_10 rfl (by decide) rfl ?_
  refine r_lconst (z := 0) C dX5_bestWorths_11 rfl ?_
  refine r_lstore (lo2 := [(4, .long (lI 0)), (2, .long (lI (pwI (lbL Ly Wo 100 5) k))), (0, .ref h0), (1, .int (iI k))]) C dX5_bestWorths_12 (by decide) rfl ?_
  refine r_iconst C dX5_bestWorths_14 ?_
  refine r_istore (lo2 := [(6, .int (iI 1)), (4, .long (lI 0)), (2, .long (lI (pwI (lbL Ly Wo 100 5) k))), (0, .ref h0), (1, .int (iI k))]) C dX5_bestWorths_15 (by decide) rfl ?_
  have L17 : ∀ (fu17 : Nat) (a1 : Int) (wk : Int), (1 ≤ wk ∧ wk ≤ 100) → (bwV Ly Wo 5 k = bwL (fun w => pwI (lbL Ly Wo w 5) k) (pwI (lbL Ly Wo 100 5) k) (100 - wk).toNat wk a1) → (100 - wk).toNat < fu17 → gW p l e (gr 2 0 0) s m args below meth c X A 7 (MQ below ((gQl X (Y := Unit) (fun _ => True) (fun _ => (bwV Ly Wo 5 k)) (fun _ => [(h0, .inr (5, [.ref s1, .int (iI 5), .ref w0, .ref t0, .ref k0, .ref r0, .int (iI gf), .int (iI gs), .ref rp, .int (iI rc), .ref sh1, .int (iI tc), .int (iI ft)])), (s1, .inl (X.2.1.2.1, 8, .inr (.inr (.inr (.inr sf))))), ((sa 0), .inr (3, [.int (iI (Wt 0)), .int (iI (Wd 0)), .int (iI (Rg 0)), .int (iI (Ly 0)), .int (iI (Wo 0))])), ((sa 1), .inr (3, [.int (iI (Wt 1)), .int (iI (Wd 1)), .int (iI (Rg 1)), .int (iI (Ly 1)), .int (iI (Wo 1))])), ((sa 2), .inr (3, [.int (iI (Wt 2)), .int (iI (Wd 2)), .int (iI (Rg 2)), .int (iI (Ly 2)), .int (iI (Wo 2))])), ((sa 3), .inr (3, [.int (iI (Wt 3)), .int (iI (Wd 3)), .int (iI (Rg 3)), .int (iI (Ly 3)), .int (iI (Wo 3))])), ((sa 4), .inr (3, [.int (iI (Wt 4)), .int (iI (Wd 4)), .int (iI (Rg 4)), .int (iI (Ly 4)), .int (iI (Wo 4))]))])) A) args s 0 0 A) 0 0 [(h0, .inr (5, [.ref s1, .int (iI 5), .ref w0, .ref t0, .ref k0, .ref r0, .int (iI gf), .int (iI gs), .ref rp, .int (iI rc), .ref sh1, .int (iI tc), .int (iI ft)])), (s1, .inl (X.2.1.2.1, 8, .inr (.inr (.inr (.inr sf))))), ((sa 0), .inr (3, [.int (iI (Wt 0)), .int (iI (Wd 0)), .int (iI (Rg 0)), .int (iI (Ly 0)), .int (iI (Wo 0))])), ((sa 1), .inr (3, [.int (iI (Wt 1)), .int (iI (Wd 1)), .int (iI (Rg 1)), .int (iI (Ly 1)), .int (iI (Wo 1))])), ((sa 2), .inr (3, [.int (iI (Wt 2)), .int (iI (Wd 2)), .int (iI (Rg 2)), .int (iI (Ly 2)), .int (iI (Wo 2))])), ((sa 3), .inr (3, [.int (iI (Wt 3)), .int (iI (Wd 3)), .int (iI (Rg 3)), .int (iI (Ly 3)), .int (iI (Wo 3))])), ((sa 4), .inr (3, [.int (iI (Wt 4)), .int (iI (Wd 4)), .int (iI (Rg 4)), .int (iI (Ly 4)), .int (iI (Wo 4))]))] 17 [(2, .long (lI (pwI (lbL Ly Wo 100 5) k))), (0, .ref h0), (1, .int (iI k)), (4, .long (lI a1)), (6, .int (iI wk))] [] := by
    intro fu17
    induction fu17 with
    | zero => intro a1 wk iw iB hm17; exact absurd hm17 (Nat.not_lt_zero _)
    | succ fu17 ih17 =>
      intro a1 wk iw iB hm17
      refine r_iload C dX5_bestWorths_17 4 rfl ?_
      refine r_bipush C dX5_bestWorths_19 (by decide) ?_
      refine r_icmp_gt (tgt := 47) C dX5_bestWorths_21 (by decide) (by omega) (by decide) (fun h_3 => ?_) (fun h_3 => ?_)
      · skip
        refine r_lload C dX5_bestWorths_47 3 rfl ?_
        exact g_ret_l C rfl dX5_bestWorths_49 () trivial (by rw [iB, show (100 - wk).toNat = 0 by omega]; rfl) [0, 1, 2, 3, 4, 5, 6] rfl (by (repeat' split) <;> first | rfl | omega)
      · skip
        refine r_lload C dX5_bestWorths_24 3 rfl ?_
        refine r_lload_n C dX5_bestWorths_26 0 rfl ?_
        refine r_aload_n C dX5_bestWorths_27 1 rfl ?_
        refine r_iload C dX5_bestWorths_28 4 rfl ?_
        refine g_V_l (ws2 := (fun _ => [(h0, .inr (5, [.ref s1, .int (iI 5), .ref w0, .ref t0, .ref k0, .ref r0, .int (iI gf), .int (iI gs), .ref rp, .int (iI rc), .ref sh1, .int (iI tc), .int (iI ft)])), (s1, .inl (X.2.1.2.1, 8, .inr (.inr (.inr (.inr sf))))), ((sa 0), .inr (3, [.int (iI (Wt 0)), .int (iI (Wd 0)), .int (iI (Rg 0)), .int (iI (Ly 0)), .int (iI (Wo 0))])), ((sa 1), .inr (3, [.int (iI (Wt 1)), .int (iI (Wd 1)), .int (iI (Rg 1)), .int (iI (Ly 1)), .int (iI (Wo 1))])), ((sa 2), .inr (3, [.int (iI (Wt 2)), .int (iI (Wd 2)), .int (iI (Rg 2)), .int (iI (Ly 2)), .int (iI (Wo 2))])), ((sa 3), .inr (3, [.int (iI (Wt 3)), .int (iI (Wd 3)), .int (iI (Rg 3)), .int (iI (Ly 3)), .int (iI (Wo 3))])), ((sa 4), .inr (3, [.int (iI (Wt 4)), .int (iI (Wd 4)), .int (iI (Rg 4)), .int (iI (Ly 4)), .int (iI (Wo 4))]))])) (As := [.int (iI wk)]) C (c_X5_lyingBelow_5 l X h0 s1 w0 t0 k0 r0 rp sh1 gf gs rc tc ft sf sa Wt Wd Rg Ly Wo wk hsf hLy hWo (by first | assumption | omega)) gX5_bestWorths_X5_lyingBelow rfl rfl rfl hd_V_X5_lyingBelow_X5_bestWorths (by decide) dX5_bestWorths_30 [0, 1, 2, 3, 4, 5, 6] [] [0, 1, 2, 3, 4, 5, 6] rfl rfl rfl rfl (by decide) rfl 0 5 rfl rfl rfl rfl (Nat.le_of_ble_eq_true rfl) (by decide) (fun _ => rfl) (fun _ hy_ => ?_)
        have y_4 : 0 ≤ lbL Ly Wo wk 5 ∧ lbL Ly Wo wk 5 ≤ 72 := hy_
        clear hy_
        refine r_iload_n C dX5_bestWorths_33 2 rfl ?_
        refine g_S_l (ws2 := (fun _ => [(h0, .inr (5, [.ref s1, .int (iI 5), .ref w0, .ref t0, .ref k0, .ref r0, .int (iI gf), .int (iI gs), .ref rp, .int (iI rc), .ref sh1, .int (iI tc), .int (iI ft)])), (s1, .inl (X.2.1.2.1, 8, .inr (.inr (.inr (.inr sf))))), ((sa 0), .inr (3, [.int (iI (Wt 0)), .int (iI (Wd 0)), .int (iI (Rg 0)), .int (iI (Ly 0)), .int (iI (Wo 0))])), ((sa 1), .inr (3, [.int (iI (Wt 1)), .int (iI (Wd 1)), .int (iI (Rg 1)), .int (iI (Ly 1)), .int (iI (Wo 1))])), ((sa 2), .inr (3, [.int (iI (Wt 2)), .int (iI (Wd 2)), .int (iI (Rg 2)), .int (iI (Ly 2)), .int (iI (Wo 2))])), ((sa 3), .inr (3, [.int (iI (Wt 3)), .int (iI (Wd 3)), .int (iI (Rg 3)), .int (iI (Ly 3)), .int (iI (Wo 3))])), ((sa 4), .inr (3, [.int (iI (Wt 4)), .int (iI (Wd 4)), .int (iI (Rg 4)), .int (iI (Ly 4)), .int (iI (Wo 4))]))])) (As := [.long (lI (lbL Ly Wo wk 5)), .int (iI k)]) C (c_X5_power l X (lbL Ly Wo wk 5) k (by first | assumption | omega)) gX5_bestWorths_X5_power rfl rfl rfl hd_S_X5_power_X5_bestWorths (by decide) dX5_bestWorths_34 [] [0, 1, 2, 3, 4, 5, 6] [0, 1, 2, 3, 4, 5, 6] rfl rfl rfl rfl (by decide) rfl rfl rfl (Nat.le_of_ble_eq_true rfl) (by decide) (fun _ => rfl) (fun _ hy_ => ?_)
        clear hy_
        refine r_lsub C dX5_bestWorths_37 ?_
        refine r_ladd C dX5_bestWorths_38 ?_
        refine r_lstore (lo2 := [(4, .long (lI (a1 + ((pwI (lbL Ly Wo 100 5) k) - (pwI (lbL Ly Wo wk 5) k))))), (2, .long (lI (pwI (lbL Ly Wo 100 5) k))), (0, .ref h0), (1, .int (iI k)), (6, .int (iI wk))]) C dX5_bestWorths_39 (by decide) rfl ?_
        refine r_iinc (lo2 := [(6, .int (iI (wk + 1))), (4, .long (lI (a1 + ((pwI (lbL Ly Wo 100 5) k) - (pwI (lbL Ly Wo wk 5) k))))), (2, .long (lI (pwI (lbL Ly Wo 100 5) k))), (0, .ref h0), (1, .int (iI k))]) C dX5_bestWorths_41 4 rfl (by decide) rfl ?_
        refine r_goto (tgt := 17) C dX5_bestWorths_44 (by decide) ?_
        refine r_lo [2, 3, 4, 1, 0] (lo2 := [(2, .long (lI (pwI (lbL Ly Wo 100 5) k))), (0, .ref h0), (1, .int (iI k)), (4, .long (lI (a1 + ((pwI (lbL Ly Wo 100 5) k) - (pwI (lbL Ly Wo wk 5) k))))), (6, .int (iI (wk + 1)))]) rfl ?_
        exact ih17 (a1 + ((pwI (lbL Ly Wo 100 5) k) - (pwI (lbL Ly Wo wk 5) k))) (wk + 1) (by omega) (by rw [iB, bwL_go (by omega)]) (by omega)
  refine r_lo [2, 3, 4, 1, 0] (lo2 := [(2, .long (lI (pwI (lbL Ly Wo 100 5) k))), (0, .ref h0), (1, .int (iI k)), (4, .long (lI 0)), (6, .int (iI 1))]) rfl ?_
  exact L17 ((100 - (1 : Int)).toNat + 1) 0 1 (by omega) rfl (Nat.lt_succ_self _)

set_option maxHeartbeats 4000000 in
set_option maxRecDepth 100000 in
theorem c_X5_mean_5 (l : Launch) (X : gX) (h0 : Nat) (s1 : Nat) (w0 : Nat) (t0 : Nat) (k0 : Nat) (r0 : Nat) (rp : Nat) (sh1 : Nat) (gf : Int) (gs : Int) (rc : Int) (tc : Int) (ft : Int) (sf : Nat → Option Nat) (sa : Nat → Nat) (Wt : Nat → Int) (Wd : Nat → Int) (Rg : Nat → Int) (Ly : Nat → Int) (Wo : Nat → Int) (k : Int) (w : Int) (hsf : ∀ j : Nat, j < 5 → sf j = some (sa j)) (hLy : ∀ j : Nat, j < 5 → 0 ≤ Ly j ∧ Ly j ≤ 9) (hWo : ∀ j : Nat, j < 5 → 0 ≤ Wo j ∧ Wo j ≤ 99) (hb_k : inB k) (hb_w : inB w) : gM l yX5_mean wsX5_mean (gr 3 0 0) X [(h0, .inr (5, [.ref s1, .int (iI 5), .ref w0, .ref t0, .ref k0, .ref r0, .int (iI gf), .int (iI gs), .ref rp, .int (iI rc), .ref sh1, .int (iI tc), .int (iI ft)])), (s1, .inl (X.2.1.2.1, 8, .inr (.inr (.inr (.inr sf))))), ((sa 0), .inr (3, [.int (iI (Wt 0)), .int (iI (Wd 0)), .int (iI (Rg 0)), .int (iI (Ly 0)), .int (iI (Wo 0))])), ((sa 1), .inr (3, [.int (iI (Wt 1)), .int (iI (Wd 1)), .int (iI (Rg 1)), .int (iI (Ly 1)), .int (iI (Wo 1))])), ((sa 2), .inr (3, [.int (iI (Wt 2)), .int (iI (Wd 2)), .int (iI (Rg 2)), .int (iI (Ly 2)), .int (iI (Wo 2))])), ((sa 3), .inr (3, [.int (iI (Wt 3)), .int (iI (Wd 3)), .int (iI (Rg 3)), .int (iI (Ly 3)), .int (iI (Wo 3))])), ((sa 4), .inr (3, [.int (iI (Wt 4)), .int (iI (Wd 4)), .int (iI (Rg 4)), .int (iI (Ly 4)), .int (iI (Wo 4))]))] [.ref h0, .int (iI k), .int (iI w)] (gQl X (Y := Unit) (fun _ => True) (fun _ => (if 1 ≤ k ∧ k ≤ 6 ∧ 0 ≤ w ∧ w ≤ 1 ∧ ¬ (lbL Ly Wo 100 5) = 0 then shV (bwV Ly Wo 5 k) (pwI (lbL Ly Wo 100 5) k) w else -9223372036854775808)) (fun _ => [(h0, .inr (5, [.ref s1, .int (iI 5), .ref w0, .ref t0, .ref k0, .ref r0, .int (iI gf), .int (iI gs), .ref rp, .int (iI rc), .ref sh1, .int (iI tc), .int (iI ft)])), (s1, .inl (X.2.1.2.1, 8, .inr (.inr (.inr (.inr sf))))), ((sa 0), .inr (3, [.int (iI (Wt 0)), .int (iI (Wd 0)), .int (iI (Rg 0)), .int (iI (Ly 0)), .int (iI (Wo 0))])), ((sa 1), .inr (3, [.int (iI (Wt 1)), .int (iI (Wd 1)), .int (iI (Rg 1)), .int (iI (Ly 1)), .int (iI (Wo 1))])), ((sa 2), .inr (3, [.int (iI (Wt 2)), .int (iI (Wd 2)), .int (iI (Rg 2)), .int (iI (Ly 2)), .int (iI (Wo 2))])), ((sa 3), .inr (3, [.int (iI (Wt 3)), .int (iI (Wd 3)), .int (iI (Rg 3)), .int (iI (Ly 3)), .int (iI (Wo 3))])), ((sa 4), .inr (3, [.int (iI (Wt 4)), .int (iI (Wd 4)), .int (iI (Rg 4)), .int (iI (Ly 4)), .int (iI (Wo 4))]))])) 0 0 := by
  refine g_start2 (lo := [(0, .ref h0), (1, .int (iI k)), (2, .int (iI w))]) (by decide +kernel) rfl rfl (Nat.le_of_ble_eq_true rfl) (fun p e s m args below meth c A C => ?_)
  refine r_iload_n C dX5_mean_0 1 rfl ?_
  refine r_iconst C dX5_mean_1 ?_
  refine r_bipush C dX5_mean_2 (by decide) ?_
  refine g_S_i (ws2 := (fun _ => [(h0, .inr (5, [.ref s1, .int (iI 5), .ref w0, .ref t0, .ref k0, .ref r0, .int (iI gf), .int (iI gs), .ref rp, .int (iI rc), .ref sh1, .int (iI tc), .int (iI ft)])), (s1, .inl (X.2.1.2.1, 8, .inr (.inr (.inr (.inr sf))))), ((sa 0), .inr (3, [.int (iI (Wt 0)), .int (iI (Wd 0)), .int (iI (Rg 0)), .int (iI (Ly 0)), .int (iI (Wo 0))])), ((sa 1), .inr (3, [.int (iI (Wt 1)), .int (iI (Wd 1)), .int (iI (Rg 1)), .int (iI (Ly 1)), .int (iI (Wo 1))])), ((sa 2), .inr (3, [.int (iI (Wt 2)), .int (iI (Wd 2)), .int (iI (Rg 2)), .int (iI (Ly 2)), .int (iI (Wo 2))])), ((sa 3), .inr (3, [.int (iI (Wt 3)), .int (iI (Wd 3)), .int (iI (Rg 3)), .int (iI (Ly 3)), .int (iI (Wo 3))])), ((sa 4), .inr (3, [.int (iI (Wt 4)), .int (iI (Wd 4)), .int (iI (Rg 4)), .int (iI (Ly 4)), .int (iI (Wo 4))]))])) (As := [.int (iI k), .int (iI 1), .int (iI 6)]) C (c_X5_within l X k 1 6 (by first | assumption | omega) (by first | assumption | omega) (by first | assumption | omega)) gX5_mean_X5_within rfl rfl rfl hd_S_X5_within_X5_mean (by decide) dX5_mean_4 [] [0, 1, 2, 3, 4, 5, 6] [0, 1, 2, 3, 4, 5, 6] rfl rfl rfl rfl (by decide) rfl rfl rfl (Nat.le_of_ble_eq_true rfl) (by decide) (fun _ => rfl) (fun _ hy_ => ?_)
  clear hy_
  refine r_ite (fun h_1 => ?_) (fun h_1 => ?_)
  · skip
    refine r_if_eq (tgt := 19) C dX5_mean_7 (by decide) (by decide) (fun h_2 => absurd h_2 (by decide)) (fun h_2 => ?_)
    refine r_iload_n C dX5_mean_10 2 rfl ?_
    refine r_iconst C dX5_mean_11 ?_
    refine r_iconst C dX5_mean_12 ?_
    refine g_S_i (ws2 := (fun _ => [(h0, .inr (5, [.ref s1, .int (iI 5), .ref w0, .ref t0, .ref k0, .ref r0, .int (iI gf), .int (iI gs), .ref rp, .int (iI rc), .ref sh1, .int (iI tc), .int (iI ft)])), (s1, .inl (X.2.1.2.1, 8, .inr (.inr (.inr (.inr sf))))), ((sa 0), .inr (3, [.int (iI (Wt 0)), .int (iI (Wd 0)), .int (iI (Rg 0)), .int (iI (Ly 0)), .int (iI (Wo 0))])), ((sa 1), .inr (3, [.int (iI (Wt 1)), .int (iI (Wd 1)), .int (iI (Rg 1)), .int (iI (Ly 1)), .int (iI (Wo 1))])), ((sa 2), .inr (3, [.int (iI (Wt 2)), .int (iI (Wd 2)), .int (iI (Rg 2)), .int (iI (Ly 2)), .int (iI (Wo 2))])), ((sa 3), .inr (3, [.int (iI (Wt 3)), .int (iI (Wd 3)), .int (iI (Rg 3)), .int (iI (Ly 3)), .int (iI (Wo 3))])), ((sa 4), .inr (3, [.int (iI (Wt 4)), .int (iI (Wd 4)), .int (iI (Rg 4)), .int (iI (Ly 4)), .int (iI (Wo 4))]))])) (As := [.int (iI w), .int (iI 0), .int (iI 1)]) C (c_X5_within l X w 0 1 (by first | assumption | omega) (by first | assumption | omega) (by first | assumption | omega)) gX5_mean_X5_within rfl rfl rfl hd_S_X5_within_X5_mean (by decide) dX5_mean_13 [] [0, 1, 2, 3, 4, 5, 6] [0, 1, 2, 3, 4, 5, 6] rfl rfl rfl rfl (by decide) rfl rfl rfl (Nat.le_of_ble_eq_true rfl) (by decide) (fun _ => rfl) (fun _ hy_ => ?_)
    clear hy_
    refine r_ite (fun h_3 => ?_) (fun h_3 => ?_)
    · skip
      refine r_if_ne (tgt := 23) C dX5_mean_16 (by decide) (by decide) (fun h_4 => ?_) (fun h_4 => absurd h_4 (by decide))
      refine r_aload_n C dX5_mean_23 0 rfl ?_
      refine r_bipush C dX5_mean_24 (by decide) ?_
      refine g_V_l (ws2 := (fun _ => [(h0, .inr (5, [.ref s1, .int (iI 5), .ref w0, .ref t0, .ref k0, .ref r0, .int (iI gf), .int (iI gs), .ref rp, .int (iI rc), .ref sh1, .int (iI tc), .int (iI ft)])), (s1, .inl (X.2.1.2.1, 8, .inr (.inr (.inr (.inr sf))))), ((sa 0), .inr (3, [.int (iI (Wt 0)), .int (iI (Wd 0)), .int (iI (Rg 0)), .int (iI (Ly 0)), .int (iI (Wo 0))])), ((sa 1), .inr (3, [.int (iI (Wt 1)), .int (iI (Wd 1)), .int (iI (Rg 1)), .int (iI (Ly 1)), .int (iI (Wo 1))])), ((sa 2), .inr (3, [.int (iI (Wt 2)), .int (iI (Wd 2)), .int (iI (Rg 2)), .int (iI (Ly 2)), .int (iI (Wo 2))])), ((sa 3), .inr (3, [.int (iI (Wt 3)), .int (iI (Wd 3)), .int (iI (Rg 3)), .int (iI (Ly 3)), .int (iI (Wo 3))])), ((sa 4), .inr (3, [.int (iI (Wt 4)), .int (iI (Wd 4)), .int (iI (Rg 4)), .int (iI (Ly 4)), .int (iI (Wo 4))]))])) (As := [.int (iI 100)]) C (c_X5_lyingBelow_5 l X h0 s1 w0 t0 k0 r0 rp sh1 gf gs rc tc ft sf sa Wt Wd Rg Ly Wo 100 hsf hLy hWo (by first | assumption | omega)) gX5_mean_X5_lyingBelow rfl rfl rfl hd_V_X5_lyingBelow_X5_mean (by decide) dX5_mean_26 [0, 1, 2, 3, 4, 5, 6] [] [0, 1, 2, 3, 4, 5, 6] rfl rfl rfl rfl (by decide) rfl 0 5 rfl rfl rfl rfl (Nat.le_of_ble_eq_true rfl) (by decide) (fun _ => rfl) (fun _ hy_ => ?_)
      have y_5 : 0 ≤ lbL Ly Wo 100 5 ∧ lbL Ly Wo 100 5 ≤ 72 := hy_
      clear hy_
      refine r_lstore_n (lo2 := [(3, .long (lI (lbL Ly Wo 100 5))), (0, .ref h0), (1, .int (iI k)), (2, .int (iI w))]) C dX5_mean_29 rfl (by decide) rfl ?_
      refine r_lload_n C dX5_mean_30 0 rfl ?_
      refine r_lconst (z := 0) C dX5_mean_31 rfl ?_
      refine r_lcmp_ne (tgt := 40) C dX5_mean_32 dX5_mean_33 (by decide) (by omega) (by decide) (fun h_7 => ?_) (fun h_7 => ?_)
      · skip
        have bb := bwV_B (Ly := Ly) (Wo := Wo) (ns := 5) (k := k) (by decide) hLy (by omega) hWo
        have pp := pwI_72 (a := (lbL Ly Wo 100 5)) (k := k) (by omega) (by omega)
        have p1_ : 1 ≤ pwI (lbL Ly Wo 100 5) k := pwI_pos (by omega) _
        refine r_aload_n C dX5_mean_40 1 rfl ?_
        refine r_iload_n C dX5_mean_41 2 rfl ?_
        refine g_V_l (ws2 := (fun _ => [(h0, .inr (5, [.ref s1, .int (iI 5), .ref w0, .ref t0, .ref k0, .ref r0, .int (iI gf), .int (iI gs), .ref rp, .int (iI rc), .ref sh1, .int (iI tc), .int (iI ft)])), (s1, .inl (X.2.1.2.1, 8, .inr (.inr (.inr (.inr sf))))), ((sa 0), .inr (3, [.int (iI (Wt 0)), .int (iI (Wd 0)), .int (iI (Rg 0)), .int (iI (Ly 0)), .int (iI (Wo 0))])), ((sa 1), .inr (3, [.int (iI (Wt 1)), .int (iI (Wd 1)), .int (iI (Rg 1)), .int (iI (Ly 1)), .int (iI (Wo 1))])), ((sa 2), .inr (3, [.int (iI (Wt 2)), .int (iI (Wd 2)), .int (iI (Rg 2)), .int (iI (Ly 2)), .int (iI (Wo 2))])), ((sa 3), .inr (3, [.int (iI (Wt 3)), .int (iI (Wd 3)), .int (iI (Rg 3)), .int (iI (Ly 3)), .int (iI (Wo 3))])), ((sa 4), .inr (3, [.int (iI (Wt 4)), .int (iI (Wd 4)), .int (iI (Rg 4)), .int (iI (Ly 4)), .int (iI (Wo 4))]))])) (As := [.int (iI k)]) C (c_X5_bestWorths_5 l X h0 s1 w0 t0 k0 r0 rp sh1 gf gs rc tc ft sf sa Wt Wd Rg Ly Wo k hsf hLy hWo (by first | assumption | omega)) gX5_mean_X5_bestWorths rfl rfl rfl hd_V_X5_bestWorths_X5_mean (by decide) dX5_mean_42 [0, 1, 2, 3, 4, 5, 6] [] [0, 1, 2, 3, 4, 5, 6] rfl rfl rfl rfl (by decide) rfl 0 5 rfl rfl rfl rfl (Nat.le_of_ble_eq_true rfl) (by decide) (fun _ => rfl) (fun _ hy_ => ?_)
        clear hy_
        refine r_lload_n C dX5_mean_45 0 rfl ?_
        refine r_iload_n C dX5_mean_46 2 rfl ?_
        refine g_S_l (ws2 := (fun _ => [(h0, .inr (5, [.ref s1, .int (iI 5), .ref w0, .ref t0, .ref k0, .ref r0, .int (iI gf), .int (iI gs), .ref rp, .int (iI rc), .ref sh1, .int (iI tc), .int (iI ft)])), (s1, .inl (X.2.1.2.1, 8, .inr (.inr (.inr (.inr sf))))), ((sa 0), .inr (3, [.int (iI (Wt 0)), .int (iI (Wd 0)), .int (iI (Rg 0)), .int (iI (Ly 0)), .int (iI (Wo 0))])), ((sa 1), .inr (3, [.int (iI (Wt 1)), .int (iI (Wd 1)), .int (iI (Rg 1)), .int (iI (Ly 1)), .int (iI (Wo 1))])), ((sa 2), .inr (3, [.int (iI (Wt 2)), .int (iI (Wd 2)), .int (iI (Rg 2)), .int (iI (Ly 2)), .int (iI (Wo 2))])), ((sa 3), .inr (3, [.int (iI (Wt 3)), .int (iI (Wd 3)), .int (iI (Rg 3)), .int (iI (Ly 3)), .int (iI (Wo 3))])), ((sa 4), .inr (3, [.int (iI (Wt 4)), .int (iI (Wd 4)), .int (iI (Rg 4)), .int (iI (Ly 4)), .int (iI (Wo 4))]))])) (As := [.long (lI (lbL Ly Wo 100 5)), .int (iI k)]) C (c_X5_power l X (lbL Ly Wo 100 5) k (by first | assumption | omega)) gX5_mean_X5_power rfl rfl rfl hd_S_X5_power_X5_mean (by decide) dX5_mean_47 [] [0, 1, 2, 3, 4, 5, 6] [0, 1, 2, 3, 4, 5, 6] rfl rfl rfl rfl (by decide) rfl rfl rfl (Nat.le_of_ble_eq_true rfl) (by decide) (fun _ => rfl) (fun _ hy_ => ?_)
        clear hy_
        refine r_iload_n C dX5_mean_50 3 rfl ?_
        refine g_S_l (ws2 := (fun _ => [(h0, .inr (5, [.ref s1, .int (iI 5), .ref w0, .ref t0, .ref k0, .ref r0, .int (iI gf), .int (iI gs), .ref rp, .int (iI rc), .ref sh1, .int (iI tc), .int (iI ft)])), (s1, .inl (X.2.1.2.1, 8, .inr (.inr (.inr (.inr sf))))), ((sa 0), .inr (3, [.int (iI (Wt 0)), .int (iI (Wd 0)), .int (iI (Rg 0)), .int (iI (Ly 0)), .int (iI (Wo 0))])), ((sa 1), .inr (3, [.int (iI (Wt 1)), .int (iI (Wd 1)), .int (iI (Rg 1)), .int (iI (Ly 1)), .int (iI (Wo 1))])), ((sa 2), .inr (3, [.int (iI (Wt 2)), .int (iI (Wd 2)), .int (iI (Rg 2)), .int (iI (Ly 2)), .int (iI (Wo 2))])), ((sa 3), .inr (3, [.int (iI (Wt 3)), .int (iI (Wd 3)), .int (iI (Rg 3)), .int (iI (Ly 3)), .int (iI (Wo 3))])), ((sa 4), .inr (3, [.int (iI (Wt 4)), .int (iI (Wd 4)), .int (iI (Rg 4)), .int (iI (Ly 4)), .int (iI (Wo 4))]))])) (As := [.long (lI (bwV Ly Wo 5 k)), .long (lI (pwI (lbL Ly Wo 100 5) k)), .int (iI w)]) C (c_X5_share l X (bwV Ly Wo 5 k) (pwI (lbL Ly Wo 100 5) k) w (by first | assumption | omega) (by first | assumption | omega) (by first | assumption | omega)) gX5_mean_X5_share rfl rfl rfl hd_S_X5_share_X5_mean (by decide) dX5_mean_51 [] [0, 1, 2, 3, 4, 5, 6] [0, 1, 2, 3, 4, 5, 6] rfl rfl rfl rfl (by decide) rfl rfl rfl (Nat.le_of_ble_eq_true rfl) (by decide) (fun _ => rfl) (fun _ hy_ => ?_)
        clear hy_
        exact g_ret_l C rfl dX5_mean_54 () trivial (by first | (rw [if_pos (by omega)]; done) | (rw [if_neg (by omega)]; done)) [0, 1, 2, 3, 4, 5, 6] rfl (by (repeat' split) <;> first | rfl | omega)
      · skip
        refine r_ldc2 (z := -9223372036854775808) C dX5_mean_36 kw_X5_mean_0 rfl ?_
        exact g_ret_l C rfl dX5_mean_39 () trivial (by first | (rw [if_pos (by omega)]; done) | (rw [if_neg (by omega)]; done)) [0, 1, 2, 3, 4, 5, 6] rfl (by (repeat' split) <;> first | rfl | omega)
    · skip
      refine r_if_ne (tgt := 23) C dX5_mean_16 (by decide) (by decide) (fun h_8 => absurd h_8 (by decide)) (fun h_8 => ?_)
      refine r_ldc2 (z := -9223372036854775808) C dX5_mean_19 kw_X5_mean_0 rfl ?_
      exact g_ret_l C rfl dX5_mean_22 () trivial (by first | (rw [if_pos (by omega)]; done) | (rw [if_neg (by omega)]; done)) [0, 1, 2, 3, 4, 5, 6] rfl (by (repeat' split) <;> first | rfl | omega)
  · skip
    refine r_if_eq (tgt := 19) C dX5_mean_7 (by decide) (by decide) (fun h_9 => ?_) (fun h_9 => absurd h_9 (by decide))
    refine r_ldc2 (z := -9223372036854775808) C dX5_mean_19 kw_X5_mean_0 rfl ?_
    exact g_ret_l C rfl dX5_mean_22 () trivial (by first | (rw [if_pos (by omega)]; done) | (rw [if_neg (by omega)]; done)) [0, 1, 2, 3, 4, 5, 6] rfl (by (repeat' split) <;> first | rfl | omega)

set_option maxHeartbeats 4000000 in
set_option maxRecDepth 100000 in
theorem c_X5_hours_5 (l : Launch) (X : gX) (h0 : Nat) (s1 : Nat) (w0 : Nat) (t0 : Nat) (k0 : Nat) (r0 : Nat) (rp : Nat) (sh1 : Nat) (gf : Int) (gs : Int) (rc : Int) (tc : Int) (ft : Int) (sf : Nat → Option Nat) (sa : Nat → Nat) (Wt : Nat → Int) (Wd : Nat → Int) (Rg : Nat → Int) (Ly : Nat → Int) (Wo : Nat → Int) (cost : Int) (hsf : ∀ j : Nat, j < 5 → sf j = some (sa j)) (hLy : ∀ j : Nat, j < 5 → 0 ≤ Ly j ∧ Ly j ≤ 9) (hWo : ∀ j : Nat, j < 5 → 0 ≤ Wo j ∧ Wo j ≤ 99) (hb_cost : inB cost) : gM l yX5_hours wsX5_hours (gr 3 0 0) X [(h0, .inr (5, [.ref s1, .int (iI 5), .ref w0, .ref t0, .ref k0, .ref r0, .int (iI gf), .int (iI gs), .ref rp, .int (iI rc), .ref sh1, .int (iI tc), .int (iI ft)])), (s1, .inl (X.2.1.2.1, 8, .inr (.inr (.inr (.inr sf))))), ((sa 0), .inr (3, [.int (iI (Wt 0)), .int (iI (Wd 0)), .int (iI (Rg 0)), .int (iI (Ly 0)), .int (iI (Wo 0))])), ((sa 1), .inr (3, [.int (iI (Wt 1)), .int (iI (Wd 1)), .int (iI (Rg 1)), .int (iI (Ly 1)), .int (iI (Wo 1))])), ((sa 2), .inr (3, [.int (iI (Wt 2)), .int (iI (Wd 2)), .int (iI (Rg 2)), .int (iI (Ly 2)), .int (iI (Wo 2))])), ((sa 3), .inr (3, [.int (iI (Wt 3)), .int (iI (Wd 3)), .int (iI (Rg 3)), .int (iI (Ly 3)), .int (iI (Wo 3))])), ((sa 4), .inr (3, [.int (iI (Wt 4)), .int (iI (Wd 4)), .int (iI (Rg 4)), .int (iI (Ly 4)), .int (iI (Wo 4))]))] [.ref h0, .int (iI cost)] (gQi X (Y := Unit) (fun _ => True) (fun _ => (if ¬ (0 ≤ cost ∧ cost ≤ 99) then -2 else if (lbL Ly Wo 100 5) = 0 then -3 else (hrV Ly Wo 5 cost).2)) (fun _ => [(h0, .inr (5, [.ref s1, .int (iI 5), .ref w0, .ref t0, .ref k0, .ref r0, .int (iI gf), .int (iI gs), .ref rp, .int (iI rc), .ref sh1, .int (iI tc), .int (iI ft)])), (s1, .inl (X.2.1.2.1, 8, .inr (.inr (.inr (.inr sf))))), ((sa 0), .inr (3, [.int (iI (Wt 0)), .int (iI (Wd 0)), .int (iI (Rg 0)), .int (iI (Ly 0)), .int (iI (Wo 0))])), ((sa 1), .inr (3, [.int (iI (Wt 1)), .int (iI (Wd 1)), .int (iI (Rg 1)), .int (iI (Ly 1)), .int (iI (Wo 1))])), ((sa 2), .inr (3, [.int (iI (Wt 2)), .int (iI (Wd 2)), .int (iI (Rg 2)), .int (iI (Ly 2)), .int (iI (Wo 2))])), ((sa 3), .inr (3, [.int (iI (Wt 3)), .int (iI (Wd 3)), .int (iI (Rg 3)), .int (iI (Ly 3)), .int (iI (Wo 3))])), ((sa 4), .inr (3, [.int (iI (Wt 4)), .int (iI (Wd 4)), .int (iI (Rg 4)), .int (iI (Ly 4)), .int (iI (Wo 4))]))])) 0 0 := by
  refine g_start2 (lo := [(0, .ref h0), (1, .int (iI cost))]) (by decide +kernel) rfl rfl (Nat.le_of_ble_eq_true rfl) (fun p e s m args below meth c A C => ?_)
  refine r_iload_n C dX5_hours_0 1 rfl ?_
  refine r_iconst C dX5_hours_1 ?_
  refine r_bipush C dX5_hours_2 (by decide) ?_
  refine g_S_i (ws2 := (fun _ => [(h0, .inr (5, [.ref s1, .int (iI 5), .ref w0, .ref t0, .ref k0, .ref r0, .int (iI gf), .int (iI gs), .ref rp, .int (iI rc), .ref sh1, .int (iI tc), .int (iI ft)])), (s1, .inl (X.2.1.2.1, 8, .inr (.inr (.inr (.inr sf))))), ((sa 0), .inr (3, [.int (iI (Wt 0)), .int (iI (Wd 0)), .int (iI (Rg 0)), .int (iI (Ly 0)), .int (iI (Wo 0))])), ((sa 1), .inr (3, [.int (iI (Wt 1)), .int (iI (Wd 1)), .int (iI (Rg 1)), .int (iI (Ly 1)), .int (iI (Wo 1))])), ((sa 2), .inr (3, [.int (iI (Wt 2)), .int (iI (Wd 2)), .int (iI (Rg 2)), .int (iI (Ly 2)), .int (iI (Wo 2))])), ((sa 3), .inr (3, [.int (iI (Wt 3)), .int (iI (Wd 3)), .int (iI (Rg 3)), .int (iI (Ly 3)), .int (iI (Wo 3))])), ((sa 4), .inr (3, [.int (iI (Wt 4)), .int (iI (Wd 4)), .int (iI (Rg 4)), .int (iI (Ly 4)), .int (iI (Wo 4))]))])) (As := [.int (iI cost), .int (iI 0), .int (iI 99)]) C (c_X5_within l X cost 0 99 (by first | assumption | omega) (by first | assumption | omega) (by first | assumption | omega)) gX5_hours_X5_within rfl rfl rfl hd_S_X5_within_X5_hours (by decide) dX5_hours_4 [] [0, 1, 2, 3, 4, 5, 6] [0, 1, 2, 3, 4, 5, 6] rfl rfl rfl rfl (by decide) rfl rfl rfl (Nat.le_of_ble_eq_true rfl) (by decide) (fun _ => rfl) (fun _ hy_ => ?_)
  clear hy_
  refine r_ite (fun h_1 => ?_) (fun h_1 => ?_)
  · skip
    refine r_if_ne (tgt := 13) C dX5_hours_7 (by decide) (by decide) (fun h_2 => ?_) (fun h_2 => absurd h_2 (by decide))
    refine r_aload_n C dX5_hours_13 0 rfl ?_
    refine r_bipush C dX5_hours_14 (by decide) ?_
    refine g_V_l (ws2 := (fun _ => [(h0, .inr (5, [.ref s1, .int (iI 5), .ref w0, .ref t0, .ref k0, .ref r0, .int (iI gf), .int (iI gs), .ref rp, .int (iI rc), .ref sh1, .int (iI tc), .int (iI ft)])), (s1, .inl (X.2.1.2.1, 8, .inr (.inr (.inr (.inr sf))))), ((sa 0), .inr (3, [.int (iI (Wt 0)), .int (iI (Wd 0)), .int (iI (Rg 0)), .int (iI (Ly 0)), .int (iI (Wo 0))])), ((sa 1), .inr (3, [.int (iI (Wt 1)), .int (iI (Wd 1)), .int (iI (Rg 1)), .int (iI (Ly 1)), .int (iI (Wo 1))])), ((sa 2), .inr (3, [.int (iI (Wt 2)), .int (iI (Wd 2)), .int (iI (Rg 2)), .int (iI (Ly 2)), .int (iI (Wo 2))])), ((sa 3), .inr (3, [.int (iI (Wt 3)), .int (iI (Wd 3)), .int (iI (Rg 3)), .int (iI (Ly 3)), .int (iI (Wo 3))])), ((sa 4), .inr (3, [.int (iI (Wt 4)), .int (iI (Wd 4)), .int (iI (Rg 4)), .int (iI (Ly 4)), .int (iI (Wo 4))]))])) (As := [.int (iI 100)]) C (c_X5_lyingBelow_5 l X h0 s1 w0 t0 k0 r0 rp sh1 gf gs rc tc ft sf sa Wt Wd Rg Ly Wo 100 hsf hLy hWo (by first | assumption | omega)) gX5_hours_X5_lyingBelow rfl rfl rfl hd_V_X5_lyingBelow_X5_hours (by decide) dX5_hours_16 [0, 1, 2, 3, 4, 5, 6] [] [0, 1, 2, 3, 4, 5, 6] rfl rfl rfl rfl (by decide) rfl 0 5 rfl rfl rfl rfl (Nat.le_of_ble_eq_true rfl) (by decide) (fun _ => rfl) (fun _ hy_ => ?_)
    have y_3 : 0 ≤ lbL Ly Wo 100 5 ∧ lbL Ly Wo 100 5 ≤ 72 := hy_
    clear hy_
    refine r_lstore_n (lo2 := [(2, .long (lI (lbL Ly Wo 100 5))), (0, .ref h0), (1, .int (iI cost))]) C dX5_hours_19 rfl (by decide) rfl ?_
    refine r_lload_n C dX5_hours_20 0 rfl ?_
    refine r_lconst (z := 0) C dX5_hours_21 rfl ?_
    refine r_lcmp_ne (tgt := 29) C dX5_hours_22 dX5_hours_23 (by decide) (by omega) (by decide) (fun h_5 => ?_) (fun h_5 => ?_)
    · skip
      refine r_lload_n C dX5_hours_29 0 rfl ?_
      refine r_bipush C dX5_hours_30 (by decide) ?_
      refine g_S_l (ws2 := (fun _ => [(h0, .inr (5, [.ref s1, .int (iI 5), .ref w0, .ref t0, .ref k0, .ref r0, .int (iI gf), .int (iI gs), .ref rp, .int (iI rc), .ref sh1, .int (iI tc), .int (iI ft)])), (s1, .inl (X.2.1.2.1, 8, .inr (.inr (.inr (.inr sf))))), ((sa 0), .inr (3, [.int (iI (Wt 0)), .int (iI (Wd 0)), .int (iI (Rg 0)), .int (iI (Ly 0)), .int (iI (Wo 0))])), ((sa 1), .inr (3, [.int (iI (Wt 1)), .int (iI (Wd 1)), .int (iI (Rg 1)), .int (iI (Ly 1)), .int (iI (Wo 1))])), ((sa 2), .inr (3, [.int (iI (Wt 2)), .int (iI (Wd 2)), .int (iI (Rg 2)), .int (iI (Ly 2)), .int (iI (Wo 2))])), ((sa 3), .inr (3, [.int (iI (Wt 3)), .int (iI (Wd 3)), .int (iI (Rg 3)), .int (iI (Ly 3)), .int (iI (Wo 3))])), ((sa 4), .inr (3, [.int (iI (Wt 4)), .int (iI (Wd 4)), .int (iI (Rg 4)), .int (iI (Ly 4)), .int (iI (Wo 4))]))])) (As := [.long (lI (lbL Ly Wo 100 5)), .int (iI 6)]) C (c_X5_power l X (lbL Ly Wo 100 5) 6 (by first | assumption | omega)) gX5_hours_X5_power rfl rfl rfl hd_S_X5_power_X5_hours (by decide) dX5_hours_32 [] [0, 1, 2, 3, 4, 5, 6] [0, 1, 2, 3, 4, 5, 6] rfl rfl rfl rfl (by decide) rfl rfl rfl (Nat.le_of_ble_eq_true rfl) (by decide) (fun _ => rfl) (fun _ hy_ => ?_)
      clear hy_
      refine r_lstore (lo2 := [(4, .long (lI (pwI (lbL Ly Wo 100 5) 6))), (2, .long (lI (lbL Ly Wo 100 5))), (0, .ref h0), (1, .int (iI cost))]) C dX5_hours_35 (by decide) rfl ?_
      refine r_iconst C dX5_hours_37 ?_
      refine r_istore (lo2 := [(6, .int (iI 1)), (4, .long (lI (pwI (lbL Ly Wo 100 5) 6))), (2, .long (lI (lbL Ly Wo 100 5))), (0, .ref h0), (1, .int (iI cost))]) C dX5_hours_38 (by decide) rfl ?_
      refine r_lconst (z := 0) C dX5_hours_40 rfl ?_
      refine r_lstore (lo2 := [(7, .long (lI 0)), (6, .int (iI 1)), (4, .long (lI (pwI (lbL Ly Wo 100 5) 6))), (2, .long (lI (lbL Ly Wo 100 5))), (0, .ref h0), (1, .int (iI cost))]) C dX5_hours_41 (by decide) rfl ?_
      refine r_iconst C dX5_hours_43 ?_
      refine r_istore (lo2 := [(9, .int (iI 1)), (7, .long (lI 0)), (6, .int (iI 1)), (4, .long (lI (pwI (lbL Ly Wo 100 5) 6))), (2, .long (lI (lbL Ly Wo 100 5))), (0, .ref h0), (1, .int (iI cost))]) C dX5_hours_44 (by decide) rfl ?_
      have L46 : ∀ (fu46 : Nat) (a2 : Int) (a1 : Int) (c1 : Int), (1 ≤ c1 ∧ c1 ≤ 7) → (-100000000000000 ≤ a1 ∧ a1 ≤ 100000000000000) → (hrV Ly Wo 5 cost = gIn (hrF Ly Wo 5 cost) (7 - c1).toNat c1 (a1, a2)) → (7 - c1).toNat < fu46 → gW p l e (gr 3 0 0) s m args below meth c X A 12 (MQ below ((gQi X (Y := Unit) (fun _ => True) (fun _ => (if ¬ (0 ≤ cost ∧ cost ≤ 99) then -2 else if (lbL Ly Wo 100 5) = 0 then -3 else (hrV Ly Wo 5 cost).2)) (fun _ => [(h0, .inr (5, [.ref s1, .int (iI 5), .ref w0, .ref t0, .ref k0, .ref r0, .int (iI gf), .int (iI gs), .ref rp, .int (iI rc), .ref sh1, .int (iI tc), .int (iI ft)])), (s1, .inl (X.2.1.2.1, 8, .inr (.inr (.inr (.inr sf))))), ((sa 0), .inr (3, [.int (iI (Wt 0)), .int (iI (Wd 0)), .int (iI (Rg 0)), .int (iI (Ly 0)), .int (iI (Wo 0))])), ((sa 1), .inr (3, [.int (iI (Wt 1)), .int (iI (Wd 1)), .int (iI (Rg 1)), .int (iI (Ly 1)), .int (iI (Wo 1))])), ((sa 2), .inr (3, [.int (iI (Wt 2)), .int (iI (Wd 2)), .int (iI (Rg 2)), .int (iI (Ly 2)), .int (iI (Wo 2))])), ((sa 3), .inr (3, [.int (iI (Wt 3)), .int (iI (Wd 3)), .int (iI (Rg 3)), .int (iI (Ly 3)), .int (iI (Wo 3))])), ((sa 4), .inr (3, [.int (iI (Wt 4)), .int (iI (Wd 4)), .int (iI (Rg 4)), .int (iI (Ly 4)), .int (iI (Wo 4))]))])) A) args s 0 0 A) 0 0 [(h0, .inr (5, [.ref s1, .int (iI 5), .ref w0, .ref t0, .ref k0, .ref r0, .int (iI gf), .int (iI gs), .ref rp, .int (iI rc), .ref sh1, .int (iI tc), .int (iI ft)])), (s1, .inl (X.2.1.2.1, 8, .inr (.inr (.inr (.inr sf))))), ((sa 0), .inr (3, [.int (iI (Wt 0)), .int (iI (Wd 0)), .int (iI (Rg 0)), .int (iI (Ly 0)), .int (iI (Wo 0))])), ((sa 1), .inr (3, [.int (iI (Wt 1)), .int (iI (Wd 1)), .int (iI (Rg 1)), .int (iI (Ly 1)), .int (iI (Wo 1))])), ((sa 2), .inr (3, [.int (iI (Wt 2)), .int (iI (Wd 2)), .int (iI (Rg 2)), .int (iI (Ly 2)), .int (iI (Wo 2))])), ((sa 3), .inr (3, [.int (iI (Wt 3)), .int (iI (Wd 3)), .int (iI (Rg 3)), .int (iI (Ly 3)), .int (iI (Wo 3))])), ((sa 4), .inr (3, [.int (iI (Wt 4)), .int (iI (Wd 4)), .int (iI (Rg 4)), .int (iI (Ly 4)), .int (iI (Wo 4))]))] 46 [(4, .long (lI (pwI (lbL Ly Wo 100 5) 6))), (2, .long (lI (lbL Ly Wo 100 5))), (0, .ref h0), (1, .int (iI cost)), (6, .int (iI a2)), (7, .long (lI a1)), (9, .int (iI c1))] [] := by
        intro fu46
        induction fu46 with
        | zero => intro a2 a1 c1 ic ia iL hm46; exact absurd hm46 (Nat.not_lt_zero _)
        | succ fu46 ih46 =>
          intro a2 a1 c1 ic ia iL hm46
          refine r_iload C dX5_hours_46 6 rfl ?_
          refine r_bipush C dX5_hours_48 (by decide) ?_
          refine r_icmp_gt (tgt := 108) C dX5_hours_50 (by decide) (by omega) (by decide) (fun h_6 => ?_) (fun h_6 => ?_)
          · skip
            refine r_iload C dX5_hours_108 4 rfl ?_
            exact g_ret_i C rfl dX5_hours_110 () trivial (by rw [iL, gIn_endW (by omega)]; (repeat' split) <;> first | rfl | omega) [0, 1, 2, 3, 4, 5, 6] rfl (by (repeat' split) <;> first | rfl | omega)
          · skip
            have hB := hr_B (Ly := Ly) (Wo := Wo) (ns := 5) (cost := cost) (n := c1) (by decide) hLy hWo (by omega) (by omega)
            have hm_ := mulB (a := c1) (b := cost) (A := 6) (B := 99) (by omega) (by omega)
            refine r_aload_n C dX5_hours_53 2 rfl ?_
            refine r_iload C dX5_hours_54 6 rfl ?_
            refine g_V_l (ws2 := (fun _ => [(h0, .inr (5, [.ref s1, .int (iI 5), .ref w0, .ref t0, .ref k0, .ref r0, .int (iI gf), .int (iI gs), .ref rp, .int (iI rc), .ref sh1, .int (iI tc), .int (iI ft)])), (s1, .inl (X.2.1.2.1, 8, .inr (.inr (.inr (.inr sf))))), ((sa 0), .inr (3, [.int (iI (Wt 0)), .int (iI (Wd 0)), .int (iI (Rg 0)), .int (iI (Ly 0)), .int (iI (Wo 0))])), ((sa 1), .inr (3, [.int (iI (Wt 1)), .int (iI (Wd 1)), .int (iI (Rg 1)), .int (iI (Ly 1)), .int (iI (Wo 1))])), ((sa 2), .inr (3, [.int (iI (Wt 2)), .int (iI (Wd 2)), .int (iI (Rg 2)), .int (iI (Ly 2)), .int (iI (Wo 2))])), ((sa 3), .inr (3, [.int (iI (Wt 3)), .int (iI (Wd 3)), .int (iI (Rg 3)), .int (iI (Ly 3)), .int (iI (Wo 3))])), ((sa 4), .inr (3, [.int (iI (Wt 4)), .int (iI (Wd 4)), .int (iI (Rg 4)), .int (iI (Ly 4)), .int (iI (Wo 4))]))])) (As := [.int (iI c1)]) C (c_X5_bestWorths_5 l X h0 s1 w0 t0 k0 r0 rp sh1 gf gs rc tc ft sf sa Wt Wd Rg Ly Wo c1 hsf hLy hWo (by first | assumption | omega)) gX5_hours_X5_bestWorths rfl rfl rfl hd_V_X5_bestWorths_X5_hours (by decide) dX5_hours_56 [0, 1, 2, 3, 4, 5, 6] [] [0, 1, 2, 3, 4, 5, 6] rfl rfl rfl rfl (by decide) rfl 0 5 rfl rfl rfl rfl (Nat.le_of_ble_eq_true rfl) (by decide) (fun _ => rfl) (fun _ hy_ => ?_)
            clear hy_
            refine r_lload_n C dX5_hours_59 1 rfl ?_
            refine r_bipush C dX5_hours_60 (by decide) ?_
            refine r_iload C dX5_hours_62 6 rfl ?_
            refine r_isub C dX5_hours_64 ?_
            refine g_S_l (ws2 := (fun _ => [(h0, .inr (5, [.ref s1, .int (iI 5), .ref w0, .ref t0, .ref k0, .ref r0, .int (iI gf), .int (iI gs), .ref rp, .int (iI rc), .ref sh1, .int (iI tc), .int (iI ft)])), (s1, .inl (X.2.1.2.1, 8, .inr (.inr (.inr (.inr sf))))), ((sa 0), .inr (3, [.int (iI (Wt 0)), .int (iI (Wd 0)), .int (iI (Rg 0)), .int (iI (Ly 0)), .int (iI (Wo 0))])), ((sa 1), .inr (3, [.int (iI (Wt 1)), .int (iI (Wd 1)), .int (iI (Rg 1)), .int (iI (Ly 1)), .int (iI (Wo 1))])), ((sa 2), .inr (3, [.int (iI (Wt 2)), .int (iI (Wd 2)), .int (iI (Rg 2)), .int (iI (Ly 2)), .int (iI (Wo 2))])), ((sa 3), .inr (3, [.int (iI (Wt 3)), .int (iI (Wd 3)), .int (iI (Rg 3)), .int (iI (Ly 3)), .int (iI (Wo 3))])), ((sa 4), .inr (3, [.int (iI (Wt 4)), .int (iI (Wd 4)), .int (iI (Rg 4)), .int (iI (Ly 4)), .int (iI (Wo 4))]))])) (As := [.long (lI (lbL Ly Wo 100 5)), .int (iI (6 - c1))]) C (c_X5_power l X (lbL Ly Wo 100 5) (6 - c1) (by first | assumption | omega)) gX5_hours_X5_power rfl rfl rfl hd_S_X5_power_X5_hours (by decide) dX5_hours_65 [] [0, 1, 2, 3, 4, 5, 6] [0, 1, 2, 3, 4, 5, 6] rfl rfl rfl rfl (by decide) rfl rfl rfl (Nat.le_of_ble_eq_true rfl) (by decide) (fun _ => rfl) (fun _ hy_ => ?_)
            clear hy_
            refine r_lmul C dX5_hours_68 ?_
            refine r_iload C dX5_hours_69 6 rfl ?_
            refine r_iload_n C dX5_hours_71 3 rfl ?_
            refine r_imul C dX5_hours_72 ?_
            refine r_i2l C dX5_hours_73 (by omega) ?_
            refine r_lload C dX5_hours_74 0 rfl ?_
            refine r_lmul C dX5_hours_76 ?_
            refine r_lsub C dX5_hours_77 ?_
            refine r_lstore (lo2 := [(10, .long (lI (((bwV Ly Wo 5 c1) * (pwI (lbL Ly Wo 100 5) (6 - c1))) - ((c1 * cost) * (pwI (lbL Ly Wo 100 5) 6))))), (4, .long (lI (pwI (lbL Ly Wo 100 5) 6))), (2, .long (lI (lbL Ly Wo 100 5))), (0, .ref h0), (1, .int (iI cost)), (6, .int (iI a2)), (7, .long (lI a1)), (9, .int (iI c1))]) C dX5_hours_78 (by decide) rfl ?_
            refine r_iload C dX5_hours_80 7 rfl ?_
            refine r_iconst C dX5_hours_82 ?_
            refine r_icmp_eq (tgt := 94) C dX5_hours_83 (by decide) (by omega) (by decide) (fun h_7 => ?_) (fun h_7 => ?_)
            · skip
              refine r_lload C dX5_hours_94 0 rfl ?_
              refine r_lstore (lo2 := [(7, .long (lI (((bwV Ly Wo 5 c1) * (pwI (lbL Ly Wo 100 5) (6 - c1))) - ((c1 * cost) * (pwI (lbL Ly Wo 100 5) 6))))), (10, .long (lI (((bwV Ly Wo 5 c1) * (pwI (lbL Ly Wo 100 5) (6 - c1))) - ((c1 * cost) * (pwI (lbL Ly Wo 100 5) 6))))), (4, .long (lI (pwI (lbL Ly Wo 100 5) 6))), (2, .long (lI (lbL Ly Wo 100 5))), (0, .ref h0), (1, .int (iI cost)), (6, .int (iI a2)), (9, .int (iI c1))]) C dX5_hours_96 (by decide) rfl ?_
              refine r_iload C dX5_hours_98 7 rfl ?_
              refine r_istore (lo2 := [(6, .int (iI c1)), (7, .long (lI (((bwV Ly Wo 5 c1) * (pwI (lbL Ly Wo 100 5) (6 - c1))) - ((c1 * cost) * (pwI (lbL Ly Wo 100 5) 6))))), (10, .long (lI (((bwV Ly Wo 5 c1) * (pwI (lbL Ly Wo 100 5) (6 - c1))) - ((c1 * cost) * (pwI (lbL Ly Wo 100 5) 6))))), (4, .long (lI (pwI (lbL Ly Wo 100 5) 6))), (2, .long (lI (lbL Ly Wo 100 5))), (0, .ref h0), (1, .int (iI cost)), (9, .int (iI c1))]) C dX5_hours_100 (by decide) rfl ?_
              refine r_iinc (lo2 := [(9, .int (iI (c1 + 1))), (6, .int (iI c1)), (7, .long (lI (((bwV Ly Wo 5 c1) * (pwI (lbL Ly Wo 100 5) (6 - c1))) - ((c1 * cost) * (pwI (lbL Ly Wo 100 5) 6))))), (10, .long (lI (((bwV Ly Wo 5 c1) * (pwI (lbL Ly Wo 100 5) (6 - c1))) - ((c1 * cost) * (pwI (lbL Ly Wo 100 5) 6))))), (4, .long (lI (pwI (lbL Ly Wo 100 5) 6))), (2, .long (lI (lbL Ly Wo 100 5))), (0, .ref h0), (1, .int (iI cost))]) C dX5_hours_102 7 rfl (by decide) rfl ?_
              refine r_goto (tgt := 46) C dX5_hours_105 (by decide) ?_
              refine r_lo [4, 5, 6, 7, 1, 2, 0] (lo2 := [(4, .long (lI (pwI (lbL Ly Wo 100 5) 6))), (2, .long (lI (lbL Ly Wo 100 5))), (0, .ref h0), (1, .int (iI cost)), (6, .int (iI c1)), (7, .long (lI (((bwV Ly Wo 5 c1) * (pwI (lbL Ly Wo 100 5) (6 - c1))) - ((c1 * cost) * (pwI (lbL Ly Wo 100 5) 6))))), (9, .int (iI (c1 + 1)))]) rfl ?_
              exact ih46 c1 (((bwV Ly Wo 5 c1) * (pwI (lbL Ly Wo 100 5) (6 - c1))) - ((c1 * cost) * (pwI (lbL Ly Wo 100 5) 6))) (c1 + 1) (by omega) (by omega) (by rw [iL, gIn_goW (by omega)]; first | (rw [hrF_t (by first | exact Or.inl (by omega) | exact Or.inr (by omega))]; done) | (rw [hrF_f (by intro q; rcases q with q | q <;> first | omega | (dsimp only at q; omega))]; done)) (by omega)
            · skip
              refine r_lload C dX5_hours_86 0 rfl ?_
              refine r_lload C dX5_hours_88 6 rfl ?_
              refine r_lcmp_le (tgt := 102) C dX5_hours_90 dX5_hours_91 (by decide) (by omega) (by omega) (fun h_8 => ?_) (fun h_8 => ?_)
              · skip
                refine r_iinc (lo2 := [(9, .int (iI (c1 + 1))), (10, .long (lI (((bwV Ly Wo 5 c1) * (pwI (lbL Ly Wo 100 5) (6 - c1))) - ((c1 * cost) * (pwI (lbL Ly Wo 100 5) 6))))), (4, .long (lI (pwI (lbL Ly Wo 100 5) 6))), (2, .long (lI (lbL Ly Wo 100 5))), (0, .ref h0), (1, .int (iI cost)), (6, .int (iI a2)), (7, .long (lI a1))]) C dX5_hours_102 7 rfl (by decide) rfl ?_
                refine r_goto (tgt := 46) C dX5_hours_105 (by decide) ?_
                refine r_lo [2, 3, 4, 5, 6, 7, 0] (lo2 := [(4, .long (lI (pwI (lbL Ly Wo 100 5) 6))), (2, .long (lI (lbL Ly Wo 100 5))), (0, .ref h0), (1, .int (iI cost)), (6, .int (iI a2)), (7, .long (lI a1)), (9, .int (iI (c1 + 1)))]) rfl ?_
                exact ih46 a2 a1 (c1 + 1) (by omega) (by omega) (by rw [iL, gIn_goW (by omega)]; first | (rw [hrF_t (by first | exact Or.inl (by omega) | exact Or.inr (by omega))]; done) | (rw [hrF_f (by intro q; rcases q with q | q <;> first | omega | (dsimp only at q; omega))]; done)) (by omega)
              · skip
                refine r_lload C dX5_hours_94 0 rfl ?_
                refine r_lstore (lo2 := [(7, .long (lI (((bwV Ly Wo 5 c1) * (pwI (lbL Ly Wo 100 5) (6 - c1))) - ((c1 * cost) * (pwI (lbL Ly Wo 100 5) 6))))), (10, .long (lI (((bwV Ly Wo 5 c1) * (pwI (lbL Ly Wo 100 5) (6 - c1))) - ((c1 * cost) * (pwI (lbL Ly Wo 100 5) 6))))), (4, .long (lI (pwI (lbL Ly Wo 100 5) 6))), (2, .long (lI (lbL Ly Wo 100 5))), (0, .ref h0), (1, .int (iI cost)), (6, .int (iI a2)), (9, .int (iI c1))]) C dX5_hours_96 (by decide) rfl ?_
                refine r_iload C dX5_hours_98 7 rfl ?_
                refine r_istore (lo2 := [(6, .int (iI c1)), (7, .long (lI (((bwV Ly Wo 5 c1) * (pwI (lbL Ly Wo 100 5) (6 - c1))) - ((c1 * cost) * (pwI (lbL Ly Wo 100 5) 6))))), (10, .long (lI (((bwV Ly Wo 5 c1) * (pwI (lbL Ly Wo 100 5) (6 - c1))) - ((c1 * cost) * (pwI (lbL Ly Wo 100 5) 6))))), (4, .long (lI (pwI (lbL Ly Wo 100 5) 6))), (2, .long (lI (lbL Ly Wo 100 5))), (0, .ref h0), (1, .int (iI cost)), (9, .int (iI c1))]) C dX5_hours_100 (by decide) rfl ?_
                refine r_iinc (lo2 := [(9, .int (iI (c1 + 1))), (6, .int (iI c1)), (7, .long (lI (((bwV Ly Wo 5 c1) * (pwI (lbL Ly Wo 100 5) (6 - c1))) - ((c1 * cost) * (pwI (lbL Ly Wo 100 5) 6))))), (10, .long (lI (((bwV Ly Wo 5 c1) * (pwI (lbL Ly Wo 100 5) (6 - c1))) - ((c1 * cost) * (pwI (lbL Ly Wo 100 5) 6))))), (4, .long (lI (pwI (lbL Ly Wo 100 5) 6))), (2, .long (lI (lbL Ly Wo 100 5))), (0, .ref h0), (1, .int (iI cost))]) C dX5_hours_102 7 rfl (by decide) rfl ?_
                refine r_goto (tgt := 46) C dX5_hours_105 (by decide) ?_
                refine r_lo [4, 5, 6, 7, 1, 2, 0] (lo2 := [(4, .long (lI (pwI (lbL Ly Wo 100 5) 6))), (2, .long (lI (lbL Ly Wo 100 5))), (0, .ref h0), (1, .int (iI cost)), (6, .int (iI c1)), (7, .long (lI (((bwV Ly Wo 5 c1) * (pwI (lbL Ly Wo 100 5) (6 - c1))) - ((c1 * cost) * (pwI (lbL Ly Wo 100 5) 6))))), (9, .int (iI (c1 + 1)))]) rfl ?_
                exact ih46 c1 (((bwV Ly Wo 5 c1) * (pwI (lbL Ly Wo 100 5) (6 - c1))) - ((c1 * cost) * (pwI (lbL Ly Wo 100 5) 6))) (c1 + 1) (by omega) (by omega) (by rw [iL, gIn_goW (by omega)]; first | (rw [hrF_t (by first | exact Or.inl (by omega) | exact Or.inr (by omega))]; done) | (rw [hrF_f (by intro q; rcases q with q | q <;> first | omega | (dsimp only at q; omega))]; done)) (by omega)
      refine r_lo [3, 4, 5, 6, 2, 1, 0] (lo2 := [(4, .long (lI (pwI (lbL Ly Wo 100 5) 6))), (2, .long (lI (lbL Ly Wo 100 5))), (0, .ref h0), (1, .int (iI cost)), (6, .int (iI 1)), (7, .long (lI 0)), (9, .int (iI 1))]) rfl ?_
      exact L46 ((7 - (1 : Int)).toNat + 1) 1 0 1 (by omega) (by omega) rfl (Nat.lt_succ_self _)
    · skip
      refine r_bipush C dX5_hours_26 (by decide) ?_
      exact g_ret_i C rfl dX5_hours_28 () trivial (by (repeat' split) <;> first | rfl | omega) [0, 1, 2, 3, 4, 5, 6] rfl (by (repeat' split) <;> first | rfl | omega)
  · skip
    refine r_if_ne (tgt := 13) C dX5_hours_7 (by decide) (by decide) (fun h_9 => absurd h_9 (by decide)) (fun h_9 => ?_)
    refine r_bipush C dX5_hours_10 (by decide) ?_
    exact g_ret_i C rfl dX5_hours_12 () trivial (by (repeat' split) <;> first | rfl | omega) [0, 1, 2, 3, 4, 5, 6] rfl (by (repeat' split) <;> first | rfl | omega)

set_option maxHeartbeats 4000000 in
set_option maxRecDepth 100000 in
theorem c_X5_lyingBelow_6 (l : Launch) (X : gX) (h0 : Nat) (s1 : Nat) (w0 : Nat) (t0 : Nat) (k0 : Nat) (r0 : Nat) (rp : Nat) (sh1 : Nat) (gf : Int) (gs : Int) (rc : Int) (tc : Int) (ft : Int) (sf : Nat → Option Nat) (sa : Nat → Nat) (Wt : Nat → Int) (Wd : Nat → Int) (Rg : Nat → Int) (Ly : Nat → Int) (Wo : Nat → Int) (w : Int) (hsf : ∀ j : Nat, j < 6 → sf j = some (sa j)) (hLy : ∀ j : Nat, j < 6 → 0 ≤ Ly j ∧ Ly j ≤ 9) (hWo : ∀ j : Nat, j < 6 → 0 ≤ Wo j ∧ Wo j ≤ 99) (hb_w : inB w) : gM l yX5_lyingBelow wsX5_lyingBelow (gr 1 0 0) X [(h0, .inr (5, [.ref s1, .int (iI 6), .ref w0, .ref t0, .ref k0, .ref r0, .int (iI gf), .int (iI gs), .ref rp, .int (iI rc), .ref sh1, .int (iI tc), .int (iI ft)])), (s1, .inl (X.2.1.2.1, 8, .inr (.inr (.inr (.inr sf))))), ((sa 0), .inr (3, [.int (iI (Wt 0)), .int (iI (Wd 0)), .int (iI (Rg 0)), .int (iI (Ly 0)), .int (iI (Wo 0))])), ((sa 1), .inr (3, [.int (iI (Wt 1)), .int (iI (Wd 1)), .int (iI (Rg 1)), .int (iI (Ly 1)), .int (iI (Wo 1))])), ((sa 2), .inr (3, [.int (iI (Wt 2)), .int (iI (Wd 2)), .int (iI (Rg 2)), .int (iI (Ly 2)), .int (iI (Wo 2))])), ((sa 3), .inr (3, [.int (iI (Wt 3)), .int (iI (Wd 3)), .int (iI (Rg 3)), .int (iI (Ly 3)), .int (iI (Wo 3))])), ((sa 4), .inr (3, [.int (iI (Wt 4)), .int (iI (Wd 4)), .int (iI (Rg 4)), .int (iI (Ly 4)), .int (iI (Wo 4))])), ((sa 5), .inr (3, [.int (iI (Wt 5)), .int (iI (Wd 5)), .int (iI (Rg 5)), .int (iI (Ly 5)), .int (iI (Wo 5))]))] [.ref h0, .int (iI w)] (gQl X (Y := Unit) (fun _ => (0 ≤ lbL Ly Wo w 6 ∧ lbL Ly Wo w 6 ≤ 72)) (fun _ => (lbL Ly Wo w 6)) (fun _ => [(h0, .inr (5, [.ref s1, .int (iI 6), .ref w0, .ref t0, .ref k0, .ref r0, .int (iI gf), .int (iI gs), .ref rp, .int (iI rc), .ref sh1, .int (iI tc), .int (iI ft)])), (s1, .inl (X.2.1.2.1, 8, .inr (.inr (.inr (.inr sf))))), ((sa 0), .inr (3, [.int (iI (Wt 0)), .int (iI (Wd 0)), .int (iI (Rg 0)), .int (iI (Ly 0)), .int (iI (Wo 0))])), ((sa 1), .inr (3, [.int (iI (Wt 1)), .int (iI (Wd 1)), .int (iI (Rg 1)), .int (iI (Ly 1)), .int (iI (Wo 1))])), ((sa 2), .inr (3, [.int (iI (Wt 2)), .int (iI (Wd 2)), .int (iI (Rg 2)), .int (iI (Ly 2)), .int (iI (Wo 2))])), ((sa 3), .inr (3, [.int (iI (Wt 3)), .int (iI (Wd 3)), .int (iI (Rg 3)), .int (iI (Ly 3)), .int (iI (Wo 3))])), ((sa 4), .inr (3, [.int (iI (Wt 4)), .int (iI (Wd 4)), .int (iI (Rg 4)), .int (iI (Ly 4)), .int (iI (Wo 4))])), ((sa 5), .inr (3, [.int (iI (Wt 5)), .int (iI (Wd 5)), .int (iI (Rg 5)), .int (iI (Ly 5)), .int (iI (Wo 5))]))])) 0 0 := by
  refine g_start2 (lo := [(0, .ref h0), (1, .int (iI w))]) (by decide +kernel) rfl rfl (Nat.le_of_ble_eq_true rfl) (fun p e s m args below meth c A C => ?_)
  have hLy0 := hLy 0 (by decide)
  have hWo0 := hWo 0 (by decide)
  have hLy1 := hLy 1 (by decide)
  have hWo1 := hWo 1 (by decide)
  have hLy2 := hLy 2 (by decide)
  have hWo2 := hWo 2 (by decide)
  have hLy3 := hLy 3 (by decide)
  have hWo3 := hWo 3 (by decide)
  have hLy4 := hLy 4 (by decide)
  have hWo4 := hWo 4 (by decide)
  have hLy5 := hLy 5 (by decide)
  have hWo5 := hWo 5 (by decide)
  refine r_lconst (z := 0) C dX5_lyingBelow_0 rfl ?_
  refine r_lstore_n (lo2 := [(2, .long (lI 0)), (0, .ref h0), (1, .int (iI w))]) C dX5_lyingBelow_1 rfl (by decide) rfl ?_
  refine r_iconst C dX5_lyingBelow_2 ?_
  refine r_istore (lo2 := [(4, .int (iI 0)), (2, .long (lI 0)), (0, .ref h0), (1, .int (iI w))]) C dX5_lyingBelow_3 (by decide) rfl ?_
  have J5_6 : ∀ (mk : Int), (mk = lbL Ly Wo w 6) → gW p l e (gr 1 0 0) s m args below meth c X A 6 (MQ below ((gQl X (Y := Unit) (fun _ => (0 ≤ lbL Ly Wo w 6 ∧ lbL Ly Wo w 6 ≤ 72)) (fun _ => (lbL Ly Wo w 6)) (fun _ => [(h0, .inr (5, [.ref s1, .int (iI 6), .ref w0, .ref t0, .ref k0, .ref r0, .int (iI gf), .int (iI gs), .ref rp, .int (iI rc), .ref sh1, .int (iI tc), .int (iI ft)])), (s1, .inl (X.2.1.2.1, 8, .inr (.inr (.inr (.inr sf))))), ((sa 0), .inr (3, [.int (iI (Wt 0)), .int (iI (Wd 0)), .int (iI (Rg 0)), .int (iI (Ly 0)), .int (iI (Wo 0))])), ((sa 1), .inr (3, [.int (iI (Wt 1)), .int (iI (Wd 1)), .int (iI (Rg 1)), .int (iI (Ly 1)), .int (iI (Wo 1))])), ((sa 2), .inr (3, [.int (iI (Wt 2)), .int (iI (Wd 2)), .int (iI (Rg 2)), .int (iI (Ly 2)), .int (iI (Wo 2))])), ((sa 3), .inr (3, [.int (iI (Wt 3)), .int (iI (Wd 3)), .int (iI (Rg 3)), .int (iI (Ly 3)), .int (iI (Wo 3))])), ((sa 4), .inr (3, [.int (iI (Wt 4)), .int (iI (Wd 4)), .int (iI (Rg 4)), .int (iI (Ly 4)), .int (iI (Wo 4))])), ((sa 5), .inr (3, [.int (iI (Wt 5)), .int (iI (Wd 5)), .int (iI (Rg 5)), .int (iI (Ly 5)), .int (iI (Wo 5))]))])) A) args s 0 0 A) 0 0 [(h0, .inr (5, [.ref s1, .int (iI 6), .ref w0, .ref t0, .ref k0, .ref r0, .int (iI gf), .int (iI gs), .ref rp, .int (iI rc), .ref sh1, .int (iI tc), .int (iI ft)])), (s1, .inl (X.2.1.2.1, 8, .inr (.inr (.inr (.inr sf))))), ((sa 0), .inr (3, [.int (iI (Wt 0)), .int (iI (Wd 0)), .int (iI (Rg 0)), .int (iI (Ly 0)), .int (iI (Wo 0))])), ((sa 1), .inr (3, [.int (iI (Wt 1)), .int (iI (Wd 1)), .int (iI (Rg 1)), .int (iI (Ly 1)), .int (iI (Wo 1))])), ((sa 2), .inr (3, [.int (iI (Wt 2)), .int (iI (Wd 2)), .int (iI (Rg 2)), .int (iI (Ly 2)), .int (iI (Wo 2))])), ((sa 3), .inr (3, [.int (iI (Wt 3)), .int (iI (Wd 3)), .int (iI (Rg 3)), .int (iI (Ly 3)), .int (iI (Wo 3))])), ((sa 4), .inr (3, [.int (iI (Wt 4)), .int (iI (Wd 4)), .int (iI (Rg 4)), .int (iI (Ly 4)), .int (iI (Wo 4))])), ((sa 5), .inr (3, [.int (iI (Wt 5)), .int (iI (Wd 5)), .int (iI (Rg 5)), .int (iI (Ly 5)), .int (iI (Wo 5))]))] 5 [(0, .ref h0), (1, .int (iI w)), (4, .int (iI 6)), (2, .long (lI mk))] [] := by
    intro mk im
    refine r_iload C dX5_lyingBelow_5 2 rfl ?_
    refine r_aload_n C dX5_lyingBelow_7 0 rfl ?_
    refine gf_5_1 C hi_X5_lyingBelow_5 kw_X5_lyingBelow_0 dX5_lyingBelow_8 0 rfl rfl ?_
    refine r_icmp_ge (tgt := 51) C dX5_lyingBelow_11 (by decide) (by decide) (by decide) (fun h_1 => ?_) (fun h_1 => absurd h_1 (by decide))
    refine r_lload_n C dX5_lyingBelow_51 3 rfl ?_
    exact g_ret_l C rfl dX5_lyingBelow_52 () (by have := lbL_B (Ly := Ly) (Wo := Wo) w 6 hLy; omega) im [0, 1, 2, 3, 4, 5, 6, 7] rfl (by (repeat' split) <;> first | rfl | omega)
  have J5_5 : ∀ (mk : Int), (mk = lbL Ly Wo w 5) → gW p l e (gr 1 0 0) s m args below meth c X A 6 (MQ below ((gQl X (Y := Unit) (fun _ => (0 ≤ lbL Ly Wo w 6 ∧ lbL Ly Wo w 6 ≤ 72)) (fun _ => (lbL Ly Wo w 6)) (fun _ => [(h0, .inr (5, [.ref s1, .int (iI 6), .ref w0, .ref t0, .ref k0, .ref r0, .int (iI gf), .int (iI gs), .ref rp, .int (iI rc), .ref sh1, .int (iI tc), .int (iI ft)])), (s1, .inl (X.2.1.2.1, 8, .inr (.inr (.inr (.inr sf))))), ((sa 0), .inr (3, [.int (iI (Wt 0)), .int (iI (Wd 0)), .int (iI (Rg 0)), .int (iI (Ly 0)), .int (iI (Wo 0))])), ((sa 1), .inr (3, [.int (iI (Wt 1)), .int (iI (Wd 1)), .int (iI (Rg 1)), .int (iI (Ly 1)), .int (iI (Wo 1))])), ((sa 2), .inr (3, [.int (iI (Wt 2)), .int (iI (Wd 2)), .int (iI (Rg 2)), .int (iI (Ly 2)), .int (iI (Wo 2))])), ((sa 3), .inr (3, [.int (iI (Wt 3)), .int (iI (Wd 3)), .int (iI (Rg 3)), .int (iI (Ly 3)), .int (iI (Wo 3))])), ((sa 4), .inr (3, [.int (iI (Wt 4)), .int (iI (Wd 4)), .int (iI (Rg 4)), .int (iI (Ly 4)), .int (iI (Wo 4))])), ((sa 5), .inr (3, [.int (iI (Wt 5)), .int (iI (Wd 5)), .int (iI (Rg 5)), .int (iI (Ly 5)), .int (iI (Wo 5))]))])) A) args s 0 0 A) 0 0 [(h0, .inr (5, [.ref s1, .int (iI 6), .ref w0, .ref t0, .ref k0, .ref r0, .int (iI gf), .int (iI gs), .ref rp, .int (iI rc), .ref sh1, .int (iI tc), .int (iI ft)])), (s1, .inl (X.2.1.2.1, 8, .inr (.inr (.inr (.inr sf))))), ((sa 0), .inr (3, [.int (iI (Wt 0)), .int (iI (Wd 0)), .int (iI (Rg 0)), .int (iI (Ly 0)), .int (iI (Wo 0))])), ((sa 1), .inr (3, [.int (iI (Wt 1)), .int (iI (Wd 1)), .int (iI (Rg 1)), .int (iI (Ly 1)), .int (iI (Wo 1))])), ((sa 2), .inr (3, [.int (iI (Wt 2)), .int (iI (Wd 2)), .int (iI (Rg 2)), .int (iI (Ly 2)), .int (iI (Wo 2))])), ((sa 3), .inr (3, [.int (iI (Wt 3)), .int (iI (Wd 3)), .int (iI (Rg 3)), .int (iI (Ly 3)), .int (iI (Wo 3))])), ((sa 4), .inr (3, [.int (iI (Wt 4)), .int (iI (Wd 4)), .int (iI (Rg 4)), .int (iI (Ly 4)), .int (iI (Wo 4))])), ((sa 5), .inr (3, [.int (iI (Wt 5)), .int (iI (Wd 5)), .int (iI (Rg 5)), .int (iI (Ly 5)), .int (iI (Wo 5))]))] 5 [(0, .ref h0), (1, .int (iI w)), (4, .int (iI 5)), (2, .long (lI mk))] [] := by
    intro mk im
    refine r_iload C dX5_lyingBelow_5 2 rfl ?_
    refine r_aload_n C dX5_lyingBelow_7 0 rfl ?_
    refine gf_5_1 C hi_X5_lyingBelow_5 kw_X5_lyingBelow_0 dX5_lyingBelow_8 0 rfl rfl ?_
    refine r_icmp_ge (tgt := 51) C dX5_lyingBelow_11 (by decide) (by decide) (by decide) (fun h_2 => absurd h_2 (by decide)) (fun h_2 => ?_)
    refine r_aload_n C dX5_lyingBelow_14 0 rfl ?_
    refine r_iload C dX5_lyingBelow_15 2 rfl ?_
    refine g_V_q (ws2 := (fun _ => [(h0, .inr (5, [.ref s1, .int (iI 6), .ref w0, .ref t0, .ref k0, .ref r0, .int (iI gf), .int (iI gs), .ref rp, .int (iI rc), .ref sh1, .int (iI tc), .int (iI ft)])), (s1, .inl (X.2.1.2.1, 8, .inr (.inr (.inr (.inr sf))))), ((sa 0), .inr (3, [.int (iI (Wt 0)), .int (iI (Wd 0)), .int (iI (Rg 0)), .int (iI (Ly 0)), .int (iI (Wo 0))])), ((sa 1), .inr (3, [.int (iI (Wt 1)), .int (iI (Wd 1)), .int (iI (Rg 1)), .int (iI (Ly 1)), .int (iI (Wo 1))])), ((sa 2), .inr (3, [.int (iI (Wt 2)), .int (iI (Wd 2)), .int (iI (Rg 2)), .int (iI (Ly 2)), .int (iI (Wo 2))])), ((sa 3), .inr (3, [.int (iI (Wt 3)), .int (iI (Wd 3)), .int (iI (Rg 3)), .int (iI (Ly 3)), .int (iI (Wo 3))])), ((sa 4), .inr (3, [.int (iI (Wt 4)), .int (iI (Wd 4)), .int (iI (Rg 4)), .int (iI (Ly 4)), .int (iI (Wo 4))])), ((sa 5), .inr (3, [.int (iI (Wt 5)), .int (iI (Wd 5)), .int (iI (Rg 5)), .int (iI (Ly 5)), .int (iI (Wo 5))]))])) (As := [.int (iI 5)]) C (c_X5_stoneAt_in l X h0 s1 w0 t0 k0 r0 rp sh1 6 gf gs rc tc ft sf (sa 5) 5 (by decide) (hsf 5 (by decide))) gX5_lyingBelow_X5_stoneAt rfl rfl rfl hd_V_X5_stoneAt_X5_lyingBelow (by decide) dX5_lyingBelow_17 [0, 1] [2, 3, 4, 5, 6, 7] [6, 7, 0, 1, 2, 3, 4, 5] rfl rfl rfl rfl (by decide) rfl 0 5 rfl rfl rfl rfl (Nat.le_of_ble_eq_true rfl) (by decide) (fun _ => rfl) (fun _ hy_ => ?_)
    clear hy_
    refine r_astore (lo2 := [(5, .ref (sa 5)), (0, .ref h0), (1, .int (iI w)), (4, .int (iI 5)), (2, .long (lI mk))]) C dX5_lyingBelow_20 (by decide) rfl ?_
    refine r_aload C dX5_lyingBelow_22 0 rfl ?_
    refine r_ifnull C dX5_lyingBelow_24 ?_
    refine r_aload C dX5_lyingBelow_27 0 rfl ?_
    refine gf_3_4 C hi_X5_lyingBelow_3 kw_X5_lyingBelow_1 dX5_lyingBelow_29 7 rfl rfl ?_
    refine r_iload_n C dX5_lyingBelow_32 2 rfl ?_
    refine r_icmp_ge (tgt := 45) C dX5_lyingBelow_33 (by decide) (by omega) (by omega) (fun h_3 => ?_) (fun h_3 => ?_)
    · skip
      refine r_iinc (lo2 := [(4, .int (iI 6)), (5, .ref (sa 5)), (0, .ref h0), (1, .int (iI w)), (2, .long (lI mk))]) C dX5_lyingBelow_45 3 rfl (by decide) rfl ?_
      refine r_goto (tgt := 5) C dX5_lyingBelow_48 (by decide) ?_
      refine r_lo [2, 3, 0, 4] (lo2 := [(0, .ref h0), (1, .int (iI w)), (4, .int (iI 6)), (2, .long (lI mk))]) rfl ?_
      exact J5_6 mk (by rw [im]; first | exact (lbL_t 5 (by omega)).symm | exact (lbL_f 5 (by omega)).symm)
    · skip
      refine r_lload_n C dX5_lyingBelow_36 4 rfl ?_
      refine r_aload C dX5_lyingBelow_37 0 rfl ?_
      refine gf_3_3 C hi_X5_lyingBelow_3 kw_X5_lyingBelow_2 dX5_lyingBelow_39 7 rfl rfl ?_
      refine r_i2l C dX5_lyingBelow_42 (by omega) ?_
      refine r_ladd C dX5_lyingBelow_43 ?_
      refine r_lstore_n (lo2 := [(2, .long (lI (mk + (Ly 5)))), (5, .ref (sa 5)), (0, .ref h0), (1, .int (iI w)), (4, .int (iI 5))]) C dX5_lyingBelow_44 rfl (by decide) rfl ?_
      refine r_iinc (lo2 := [(4, .int (iI 6)), (2, .long (lI (mk + (Ly 5)))), (5, .ref (sa 5)), (0, .ref h0), (1, .int (iI w))]) C dX5_lyingBelow_45 4 rfl (by decide) rfl ?_
      refine r_goto (tgt := 5) C dX5_lyingBelow_48 (by decide) ?_
      refine r_lo [3, 4, 0, 1] (lo2 := [(0, .ref h0), (1, .int (iI w)), (4, .int (iI 6)), (2, .long (lI (mk + (Ly 5))))]) rfl ?_
      exact J5_6 (mk + (Ly 5)) (by rw [im]; first | exact (lbL_t 5 (by omega)).symm | exact (lbL_f 5 (by omega)).symm)
  have J5_4 : ∀ (mk : Int), (mk = lbL Ly Wo w 4) → gW p l e (gr 1 0 0) s m args below meth c X A 6 (MQ below ((gQl X (Y := Unit) (fun _ => (0 ≤ lbL Ly Wo w 6 ∧ lbL Ly Wo w 6 ≤ 72)) (fun _ => (lbL Ly Wo w 6)) (fun _ => [(h0, .inr (5, [.ref s1, .int (iI 6), .ref w0, .ref t0, .ref k0, .ref r0, .int (iI gf), .int (iI gs), .ref rp, .int (iI rc), .ref sh1, .int (iI tc), .int (iI ft)])), (s1, .inl (X.2.1.2.1, 8, .inr (.inr (.inr (.inr sf))))), ((sa 0), .inr (3, [.int (iI (Wt 0)), .int (iI (Wd 0)), .int (iI (Rg 0)), .int (iI (Ly 0)), .int (iI (Wo 0))])), ((sa 1), .inr (3, [.int (iI (Wt 1)), .int (iI (Wd 1)), .int (iI (Rg 1)), .int (iI (Ly 1)), .int (iI (Wo 1))])), ((sa 2), .inr (3, [.int (iI (Wt 2)), .int (iI (Wd 2)), .int (iI (Rg 2)), .int (iI (Ly 2)), .int (iI (Wo 2))])), ((sa 3), .inr (3, [.int (iI (Wt 3)), .int (iI (Wd 3)), .int (iI (Rg 3)), .int (iI (Ly 3)), .int (iI (Wo 3))])), ((sa 4), .inr (3, [.int (iI (Wt 4)), .int (iI (Wd 4)), .int (iI (Rg 4)), .int (iI (Ly 4)), .int (iI (Wo 4))])), ((sa 5), .inr (3, [.int (iI (Wt 5)), .int (iI (Wd 5)), .int (iI (Rg 5)), .int (iI (Ly 5)), .int (iI (Wo 5))]))])) A) args s 0 0 A) 0 0 [(h0, .inr (5, [.ref s1, .int (iI 6), .ref w0, .ref t0, .ref k0, .ref r0, .int (iI gf), .int (iI gs), .ref rp, .int (iI rc), .ref sh1, .int (iI tc), .int (iI ft)])), (s1, .inl (X.2.1.2.1, 8, .inr (.inr (.inr (.inr sf))))), ((sa 0), .inr (3, [.int (iI (Wt 0)), .int (iI (Wd 0)), .int (iI (Rg 0)), .int (iI (Ly 0)), .int (iI (Wo 0))])), ((sa 1), .inr (3, [.int (iI (Wt 1)), .int (iI (Wd 1)), .int (iI (Rg 1)), .int (iI (Ly 1)), .int (iI (Wo 1))])), ((sa 2), .inr (3, [.int (iI (Wt 2)), .int (iI (Wd 2)), .int (iI (Rg 2)), .int (iI (Ly 2)), .int (iI (Wo 2))])), ((sa 3), .inr (3, [.int (iI (Wt 3)), .int (iI (Wd 3)), .int (iI (Rg 3)), .int (iI (Ly 3)), .int (iI (Wo 3))])), ((sa 4), .inr (3, [.int (iI (Wt 4)), .int (iI (Wd 4)), .int (iI (Rg 4)), .int (iI (Ly 4)), .int (iI (Wo 4))])), ((sa 5), .inr (3, [.int (iI (Wt 5)), .int (iI (Wd 5)), .int (iI (Rg 5)), .int (iI (Ly 5)), .int (iI (Wo 5))]))] 5 [(0, .ref h0), (1, .int (iI w)), (4, .int (iI 4)), (2, .long (lI mk))] [] := by
    intro mk im
    refine r_iload C dX5_lyingBelow_5 2 rfl ?_
    refine r_aload_n C dX5_lyingBelow_7 0 rfl ?_
    refine gf_5_1 C hi_X5_lyingBelow_5 kw_X5_lyingBelow_0 dX5_lyingBelow_8 0 rfl rfl ?_
    refine r_icmp_ge (tgt := 51) C dX5_lyingBelow_11 (by decide) (by decide) (by decide) (fun h_4 => absurd h_4 (by decide)) (fun h_4 => ?_)
    refine r_aload_n C dX5_lyingBelow_14 0 rfl ?_
    refine r_iload C dX5_lyingBelow_15 2 rfl ?_
    refine g_V_q (ws2 := (fun _ => [(h0, .inr (5, [.ref s1, .int (iI 6), .ref w0, .ref t0, .ref k0, .ref r0, .int (iI gf), .int (iI gs), .ref rp, .int (iI rc), .ref sh1, .int (iI tc), .int (iI ft)])), (s1, .inl (X.2.1.2.1, 8, .inr (.inr (.inr (.inr sf))))), ((sa 0), .inr (3, [.int (iI (Wt 0)), .int (iI (Wd 0)), .int (iI (Rg 0)), .int (iI (Ly 0)), .int (iI (Wo 0))])), ((sa 1), .inr (3, [.int (iI (Wt 1)), .int (iI (Wd 1)), .int (iI (Rg 1)), .int (iI (Ly 1)), .int (iI (Wo 1))])), ((sa 2), .inr (3, [.int (iI (Wt 2)), .int (iI (Wd 2)), .int (iI (Rg 2)), .int (iI (Ly 2)), .int (iI (Wo 2))])), ((sa 3), .inr (3, [.int (iI (Wt 3)), .int (iI (Wd 3)), .int (iI (Rg 3)), .int (iI (Ly 3)), .int (iI (Wo 3))])), ((sa 4), .inr (3, [.int (iI (Wt 4)), .int (iI (Wd 4)), .int (iI (Rg 4)), .int (iI (Ly 4)), .int (iI (Wo 4))])), ((sa 5), .inr (3, [.int (iI (Wt 5)), .int (iI (Wd 5)), .int (iI (Rg 5)), .int (iI (Ly 5)), .int (iI (Wo 5))]))])) (As := [.int (iI 4)]) C (c_X5_stoneAt_in l X h0 s1 w0 t0 k0 r0 rp sh1 6 gf gs rc tc ft sf (sa 4) 4 (by decide) (hsf 4 (by decide))) gX5_lyingBelow_X5_stoneAt rfl rfl rfl hd_V_X5_stoneAt_X5_lyingBelow (by decide) dX5_lyingBelow_17 [0, 1] [2, 3, 4, 5, 6, 7] [6, 7, 0, 1, 2, 3, 4, 5] rfl rfl rfl rfl (by decide) rfl 0 5 rfl rfl rfl rfl (Nat.le_of_ble_eq_true rfl) (by decide) (fun _ => rfl) (fun _ hy_ => ?_)
    clear hy_
    refine r_astore (lo2 := [(5, .ref (sa 4)), (0, .ref h0), (1, .int (iI w)), (4, .int (iI 4)), (2, .long (lI mk))]) C dX5_lyingBelow_20 (by decide) rfl ?_
    refine r_aload C dX5_lyingBelow_22 0 rfl ?_
    refine r_ifnull C dX5_lyingBelow_24 ?_
    refine r_aload C dX5_lyingBelow_27 0 rfl ?_
    refine gf_3_4 C hi_X5_lyingBelow_3 kw_X5_lyingBelow_1 dX5_lyingBelow_29 6 rfl rfl ?_
    refine r_iload_n C dX5_lyingBelow_32 2 rfl ?_
    refine r_icmp_ge (tgt := 45) C dX5_lyingBelow_33 (by decide) (by omega) (by omega) (fun h_5 => ?_) (fun h_5 => ?_)
    · skip
      refine r_iinc (lo2 := [(4, .int (iI 5)), (5, .ref (sa 4)), (0, .ref h0), (1, .int (iI w)), (2, .long (lI mk))]) C dX5_lyingBelow_45 3 rfl (by decide) rfl ?_
      refine r_goto (tgt := 5) C dX5_lyingBelow_48 (by decide) ?_
      refine r_lo [2, 3, 0, 4] (lo2 := [(0, .ref h0), (1, .int (iI w)), (4, .int (iI 5)), (2, .long (lI mk))]) rfl ?_
      exact J5_5 mk (by rw [im]; first | exact (lbL_t 4 (by omega)).symm | exact (lbL_f 4 (by omega)).symm)
    · skip
      refine r_lload_n C dX5_lyingBelow_36 4 rfl ?_
      refine r_aload C dX5_lyingBelow_37 0 rfl ?_
      refine gf_3_3 C hi_X5_lyingBelow_3 kw_X5_lyingBelow_2 dX5_lyingBelow_39 6 rfl rfl ?_
      refine r_i2l C dX5_lyingBelow_42 (by omega) ?_
      refine r_ladd C dX5_lyingBelow_43 ?_
      refine r_lstore_n (lo2 := [(2, .long (lI (mk + (Ly 4)))), (5, .ref (sa 4)), (0, .ref h0), (1, .int (iI w)), (4, .int (iI 4))]) C dX5_lyingBelow_44 rfl (by decide) rfl ?_
      refine r_iinc (lo2 := [(4, .int (iI 5)), (2, .long (lI (mk + (Ly 4)))), (5, .ref (sa 4)), (0, .ref h0), (1, .int (iI w))]) C dX5_lyingBelow_45 4 rfl (by decide) rfl ?_
      refine r_goto (tgt := 5) C dX5_lyingBelow_48 (by decide) ?_
      refine r_lo [3, 4, 0, 1] (lo2 := [(0, .ref h0), (1, .int (iI w)), (4, .int (iI 5)), (2, .long (lI (mk + (Ly 4))))]) rfl ?_
      exact J5_5 (mk + (Ly 4)) (by rw [im]; first | exact (lbL_t 4 (by omega)).symm | exact (lbL_f 4 (by omega)).symm)
  have J5_3 : ∀ (mk : Int), (mk = lbL Ly Wo w 3) → gW p l e (gr 1 0 0) s m args below meth c X A 6 (MQ below ((gQl X (Y := Unit) (fun _ => (0 ≤ lbL Ly Wo w 6 ∧ lbL Ly Wo w 6 ≤ 72)) (fun _ => (lbL Ly Wo w 6)) (fun _ => [(h0, .inr (5, [.ref s1, .int (iI 6), .ref w0, .ref t0, .ref k0, .ref r0, .int (iI gf), .int (iI gs), .ref rp, .int (iI rc), .ref sh1, .int (iI tc), .int (iI ft)])), (s1, .inl (X.2.1.2.1, 8, .inr (.inr (.inr (.inr sf))))), ((sa 0), .inr (3, [.int (iI (Wt 0)), .int (iI (Wd 0)), .int (iI (Rg 0)), .int (iI (Ly 0)), .int (iI (Wo 0))])), ((sa 1), .inr (3, [.int (iI (Wt 1)), .int (iI (Wd 1)), .int (iI (Rg 1)), .int (iI (Ly 1)), .int (iI (Wo 1))])), ((sa 2), .inr (3, [.int (iI (Wt 2)), .int (iI (Wd 2)), .int (iI (Rg 2)), .int (iI (Ly 2)), .int (iI (Wo 2))])), ((sa 3), .inr (3, [.int (iI (Wt 3)), .int (iI (Wd 3)), .int (iI (Rg 3)), .int (iI (Ly 3)), .int (iI (Wo 3))])), ((sa 4), .inr (3, [.int (iI (Wt 4)), .int (iI (Wd 4)), .int (iI (Rg 4)), .int (iI (Ly 4)), .int (iI (Wo 4))])), ((sa 5), .inr (3, [.int (iI (Wt 5)), .int (iI (Wd 5)), .int (iI (Rg 5)), .int (iI (Ly 5)), .int (iI (Wo 5))]))])) A) args s 0 0 A) 0 0 [(h0, .inr (5, [.ref s1, .int (iI 6), .ref w0, .ref t0, .ref k0, .ref r0, .int (iI gf), .int (iI gs), .ref rp, .int (iI rc), .ref sh1, .int (iI tc), .int (iI ft)])), (s1, .inl (X.2.1.2.1, 8, .inr (.inr (.inr (.inr sf))))), ((sa 0), .inr (3, [.int (iI (Wt 0)), .int (iI (Wd 0)), .int (iI (Rg 0)), .int (iI (Ly 0)), .int (iI (Wo 0))])), ((sa 1), .inr (3, [.int (iI (Wt 1)), .int (iI (Wd 1)), .int (iI (Rg 1)), .int (iI (Ly 1)), .int (iI (Wo 1))])), ((sa 2), .inr (3, [.int (iI (Wt 2)), .int (iI (Wd 2)), .int (iI (Rg 2)), .int (iI (Ly 2)), .int (iI (Wo 2))])), ((sa 3), .inr (3, [.int (iI (Wt 3)), .int (iI (Wd 3)), .int (iI (Rg 3)), .int (iI (Ly 3)), .int (iI (Wo 3))])), ((sa 4), .inr (3, [.int (iI (Wt 4)), .int (iI (Wd 4)), .int (iI (Rg 4)), .int (iI (Ly 4)), .int (iI (Wo 4))])), ((sa 5), .inr (3, [.int (iI (Wt 5)), .int (iI (Wd 5)), .int (iI (Rg 5)), .int (iI (Ly 5)), .int (iI (Wo 5))]))] 5 [(0, .ref h0), (1, .int (iI w)), (4, .int (iI 3)), (2, .long (lI mk))] [] := by
    intro mk im
    refine r_iload C dX5_lyingBelow_5 2 rfl ?_
    refine r_aload_n C dX5_lyingBelow_7 0 rfl ?_
    refine gf_5_1 C hi_X5_lyingBelow_5 kw_X5_lyingBelow_0 dX5_lyingBelow_8 0 rfl rfl ?_
    refine r_icmp_ge (tgt := 51) C dX5_lyingBelow_11 (by decide) (by decide) (by decide) (fun h_6 => absurd h_6 (by decide)) (fun h_6 => ?_)
    refine r_aload_n C dX5_lyingBelow_14 0 rfl ?_
    refine r_iload C dX5_lyingBelow_15 2 rfl ?_
    refine g_V_q (ws2 := (fun _ => [(h0, .inr (5, [.ref s1, .int (iI 6), .ref w0, .ref t0, .ref k0, .ref r0, .int (iI gf), .int (iI gs), .ref rp, .int (iI rc), .ref sh1, .int (iI tc), .int (iI ft)])), (s1, .inl (X.2.1.2.1, 8, .inr (.inr (.inr (.inr sf))))), ((sa 0), .inr (3, [.int (iI (Wt 0)), .int (iI (Wd 0)), .int (iI (Rg 0)), .int (iI (Ly 0)), .int (iI (Wo 0))])), ((sa 1), .inr (3, [.int (iI (Wt 1)), .int (iI (Wd 1)), .int (iI (Rg 1)), .int (iI (Ly 1)), .int (iI (Wo 1))])), ((sa 2), .inr (3, [.int (iI (Wt 2)), .int (iI (Wd 2)), .int (iI (Rg 2)), .int (iI (Ly 2)), .int (iI (Wo 2))])), ((sa 3), .inr (3, [.int (iI (Wt 3)), .int (iI (Wd 3)), .int (iI (Rg 3)), .int (iI (Ly 3)), .int (iI (Wo 3))])), ((sa 4), .inr (3, [.int (iI (Wt 4)), .int (iI (Wd 4)), .int (iI (Rg 4)), .int (iI (Ly 4)), .int (iI (Wo 4))])), ((sa 5), .inr (3, [.int (iI (Wt 5)), .int (iI (Wd 5)), .int (iI (Rg 5)), .int (iI (Ly 5)), .int (iI (Wo 5))]))])) (As := [.int (iI 3)]) C (c_X5_stoneAt_in l X h0 s1 w0 t0 k0 r0 rp sh1 6 gf gs rc tc ft sf (sa 3) 3 (by decide) (hsf 3 (by decide))) gX5_lyingBelow_X5_stoneAt rfl rfl rfl hd_V_X5_stoneAt_X5_lyingBelow (by decide) dX5_lyingBelow_17 [0, 1] [2, 3, 4, 5, 6, 7] [6, 7, 0, 1, 2, 3, 4, 5] rfl rfl rfl rfl (by decide) rfl 0 5 rfl rfl rfl rfl (Nat.le_of_ble_eq_true rfl) (by decide) (fun _ => rfl) (fun _ hy_ => ?_)
    clear hy_
    refine r_astore (lo2 := [(5, .ref (sa 3)), (0, .ref h0), (1, .int (iI w)), (4, .int (iI 3)), (2, .long (lI mk))]) C dX5_lyingBelow_20 (by decide) rfl ?_
    refine r_aload C dX5_lyingBelow_22 0 rfl ?_
    refine r_ifnull C dX5_lyingBelow_24 ?_
    refine r_aload C dX5_lyingBelow_27 0 rfl ?_
    refine gf_3_4 C hi_X5_lyingBelow_3 kw_X5_lyingBelow_1 dX5_lyingBelow_29 5 rfl rfl ?_
    refine r_iload_n C dX5_lyingBelow_32 2 rfl ?_
    refine r_icmp_ge (tgt := 45) C dX5_lyingBelow_33 (by decide) (by omega) (by omega) (fun h_7 => ?_) (fun h_7 => ?_)
    · skip
      refine r_iinc (lo2 := [(4, .int (iI 4)), (5, .ref (sa 3)), (0, .ref h0), (1, .int (iI w)), (2, .long (lI mk))]) C dX5_lyingBelow_45 3 rfl (by decide) rfl ?_
      refine r_goto (tgt := 5) C dX5_lyingBelow_48 (by decide) ?_
      refine r_lo [2, 3, 0, 4] (lo2 := [(0, .ref h0), (1, .int (iI w)), (4, .int (iI 4)), (2, .long (lI mk))]) rfl ?_
      exact J5_4 mk (by rw [im]; first | exact (lbL_t 3 (by omega)).symm | exact (lbL_f 3 (by omega)).symm)
    · skip
      refine r_lload_n C dX5_lyingBelow_36 4 rfl ?_
      refine r_aload C dX5_lyingBelow_37 0 rfl ?_
      refine gf_3_3 C hi_X5_lyingBelow_3 kw_X5_lyingBelow_2 dX5_lyingBelow_39 5 rfl rfl ?_
      refine r_i2l C dX5_lyingBelow_42 (by omega) ?_
      refine r_ladd C dX5_lyingBelow_43 ?_
      refine r_lstore_n (lo2 := [(2, .long (lI (mk + (Ly 3)))), (5, .ref (sa 3)), (0, .ref h0), (1, .int (iI w)), (4, .int (iI 3))]) C dX5_lyingBelow_44 rfl (by decide) rfl ?_
      refine r_iinc (lo2 := [(4, .int (iI 4)), (2, .long (lI (mk + (Ly 3)))), (5, .ref (sa 3)), (0, .ref h0), (1, .int (iI w))]) C dX5_lyingBelow_45 4 rfl (by decide) rfl ?_
      refine r_goto (tgt := 5) C dX5_lyingBelow_48 (by decide) ?_
      refine r_lo [3, 4, 0, 1] (lo2 := [(0, .ref h0), (1, .int (iI w)), (4, .int (iI 4)), (2, .long (lI (mk + (Ly 3))))]) rfl ?_
      exact J5_4 (mk + (Ly 3)) (by rw [im]; first | exact (lbL_t 3 (by omega)).symm | exact (lbL_f 3 (by omega)).symm)
  have J5_2 : ∀ (mk : Int), (mk = lbL Ly Wo w 2) → gW p l e (gr 1 0 0) s m args below meth c X A 6 (MQ below ((gQl X (Y := Unit) (fun _ => (0 ≤ lbL Ly Wo w 6 ∧ lbL Ly Wo w 6 ≤ 72)) (fun _ => (lbL Ly Wo w 6)) (fun _ => [(h0, .inr (5, [.ref s1, .int (iI 6), .ref w0, .ref t0, .ref k0, .ref r0, .int (iI gf), .int (iI gs), .ref rp, .int (iI rc), .ref sh1, .int (iI tc), .int (iI ft)])), (s1, .inl (X.2.1.2.1, 8, .inr (.inr (.inr (.inr sf))))), ((sa 0), .inr (3, [.int (iI (Wt 0)), .int (iI (Wd 0)), .int (iI (Rg 0)), .int (iI (Ly 0)), .int (iI (Wo 0))])), ((sa 1), .inr (3, [.int (iI (Wt 1)), .int (iI (Wd 1)), .int (iI (Rg 1)), .int (iI (Ly 1)), .int (iI (Wo 1))])), ((sa 2), .inr (3, [.int (iI (Wt 2)), .int (iI (Wd 2)), .int (iI (Rg 2)), .int (iI (Ly 2)), .int (iI (Wo 2))])), ((sa 3), .inr (3, [.int (iI (Wt 3)), .int (iI (Wd 3)), .int (iI (Rg 3)), .int (iI (Ly 3)), .int (iI (Wo 3))])), ((sa 4), .inr (3, [.int (iI (Wt 4)), .int (iI (Wd 4)), .int (iI (Rg 4)), .int (iI (Ly 4)), .int (iI (Wo 4))])), ((sa 5), .inr (3, [.int (iI (Wt 5)), .int (iI (Wd 5)), .int (iI (Rg 5)), .int (iI (Ly 5)), .int (iI (Wo 5))]))])) A) args s 0 0 A) 0 0 [(h0, .inr (5, [.ref s1, .int (iI 6), .ref w0, .ref t0, .ref k0, .ref r0, .int (iI gf), .int (iI gs), .ref rp, .int (iI rc), .ref sh1, .int (iI tc), .int (iI ft)])), (s1, .inl (X.2.1.2.1, 8, .inr (.inr (.inr (.inr sf))))), ((sa 0), .inr (3, [.int (iI (Wt 0)), .int (iI (Wd 0)), .int (iI (Rg 0)), .int (iI (Ly 0)), .int (iI (Wo 0))])), ((sa 1), .inr (3, [.int (iI (Wt 1)), .int (iI (Wd 1)), .int (iI (Rg 1)), .int (iI (Ly 1)), .int (iI (Wo 1))])), ((sa 2), .inr (3, [.int (iI (Wt 2)), .int (iI (Wd 2)), .int (iI (Rg 2)), .int (iI (Ly 2)), .int (iI (Wo 2))])), ((sa 3), .inr (3, [.int (iI (Wt 3)), .int (iI (Wd 3)), .int (iI (Rg 3)), .int (iI (Ly 3)), .int (iI (Wo 3))])), ((sa 4), .inr (3, [.int (iI (Wt 4)), .int (iI (Wd 4)), .int (iI (Rg 4)), .int (iI (Ly 4)), .int (iI (Wo 4))])), ((sa 5), .inr (3, [.int (iI (Wt 5)), .int (iI (Wd 5)), .int (iI (Rg 5)), .int (iI (Ly 5)), .int (iI (Wo 5))]))] 5 [(0, .ref h0), (1, .int (iI w)), (4, .int (iI 2)), (2, .long (lI mk))] [] := by
    intro mk im
    refine r_iload C dX5_lyingBelow_5 2 rfl ?_
    refine r_aload_n C dX5_lyingBelow_7 0 rfl ?_
    refine gf_5_1 C hi_X5_lyingBelow_5 kw_X5_lyingBelow_0 dX5_lyingBelow_8 0 rfl rfl ?_
    refine r_icmp_ge (tgt := 51) C dX5_lyingBelow_11 (by decide) (by decide) (by decide) (fun h_8 => absurd h_8 (by decide)) (fun h_8 => ?_)
    refine r_aload_n C dX5_lyingBelow_14 0 rfl ?_
    refine r_iload C dX5_lyingBelow_15 2 rfl ?_
    refine g_V_q (ws2 := (fun _ => [(h0, .inr (5, [.ref s1, .int (iI 6), .ref w0, .ref t0, .ref k0, .ref r0, .int (iI gf), .int (iI gs), .ref rp, .int (iI rc), .ref sh1, .int (iI tc), .int (iI ft)])), (s1, .inl (X.2.1.2.1, 8, .inr (.inr (.inr (.inr sf))))), ((sa 0), .inr (3, [.int (iI (Wt 0)), .int (iI (Wd 0)), .int (iI (Rg 0)), .int (iI (Ly 0)), .int (iI (Wo 0))])), ((sa 1), .inr (3, [.int (iI (Wt 1)), .int (iI (Wd 1)), .int (iI (Rg 1)), .int (iI (Ly 1)), .int (iI (Wo 1))])), ((sa 2), .inr (3, [.int (iI (Wt 2)), .int (iI (Wd 2)), .int (iI (Rg 2)), .int (iI (Ly 2)), .int (iI (Wo 2))])), ((sa 3), .inr (3, [.int (iI (Wt 3)), .int (iI (Wd 3)), .int (iI (Rg 3)), .int (iI (Ly 3)), .int (iI (Wo 3))])), ((sa 4), .inr (3, [.int (iI (Wt 4)), .int (iI (Wd 4)), .int (iI (Rg 4)), .int (iI (Ly 4)), .int (iI (Wo 4))])), ((sa 5), .inr (3, [.int (iI (Wt 5)), .int (iI (Wd 5)), .int (iI (Rg 5)), .int (iI (Ly 5)), .int (iI (Wo 5))]))])) (As := [.int (iI 2)]) C (c_X5_stoneAt_in l X h0 s1 w0 t0 k0 r0 rp sh1 6 gf gs rc tc ft sf (sa 2) 2 (by decide) (hsf 2 (by decide))) gX5_lyingBelow_X5_stoneAt rfl rfl rfl hd_V_X5_stoneAt_X5_lyingBelow (by decide) dX5_lyingBelow_17 [0, 1] [2, 3, 4, 5, 6, 7] [6, 7, 0, 1, 2, 3, 4, 5] rfl rfl rfl rfl (by decide) rfl 0 5 rfl rfl rfl rfl (Nat.le_of_ble_eq_true rfl) (by decide) (fun _ => rfl) (fun _ hy_ => ?_)
    clear hy_
    refine r_astore (lo2 := [(5, .ref (sa 2)), (0, .ref h0), (1, .int (iI w)), (4, .int (iI 2)), (2, .long (lI mk))]) C dX5_lyingBelow_20 (by decide) rfl ?_
    refine r_aload C dX5_lyingBelow_22 0 rfl ?_
    refine r_ifnull C dX5_lyingBelow_24 ?_
    refine r_aload C dX5_lyingBelow_27 0 rfl ?_
    refine gf_3_4 C hi_X5_lyingBelow_3 kw_X5_lyingBelow_1 dX5_lyingBelow_29 4 rfl rfl ?_
    refine r_iload_n C dX5_lyingBelow_32 2 rfl ?_
    refine r_icmp_ge (tgt := 45) C dX5_lyingBelow_33 (by decide) (by omega) (by omega) (fun h_9 => ?_) (fun h_9 => ?_)
    · skip
      refine r_iinc (lo2 := [(4, .int (iI 3)), (5, .ref (sa 2)), (0, .ref h0), (1, .int (iI w)), (2, .long (lI mk))]) C dX5_lyingBelow_45 3 rfl (by decide) rfl ?_
      refine r_goto (tgt := 5) C dX5_lyingBelow_48 (by decide) ?_
      refine r_lo [2, 3, 0, 4] (lo2 := [(0, .ref h0), (1, .int (iI w)), (4, .int (iI 3)), (2, .long (lI mk))]) rfl ?_
      exact J5_3 mk (by rw [im]; first | exact (lbL_t 2 (by omega)).symm | exact (lbL_f 2 (by omega)).symm)
    · skip
      refine r_lload_n C dX5_lyingBelow_36 4 rfl ?_
      refine r_aload C dX5_lyingBelow_37 0 rfl ?_
      refine gf_3_3 C hi_X5_lyingBelow_3 kw_X5_lyingBelow_2 dX5_lyingBelow_39 4 rfl rfl ?_
      refine r_i2l C dX5_lyingBelow_42 (by omega) ?_
      refine r_ladd C dX5_lyingBelow_43 ?_
      refine r_lstore_n (lo2 := [(2, .long (lI (mk + (Ly 2)))), (5, .ref (sa 2)), (0, .ref h0), (1, .int (iI w)), (4, .int (iI 2))]) C dX5_lyingBelow_44 rfl (by decide) rfl ?_
      refine r_iinc (lo2 := [(4, .int (iI 3)), (2, .long (lI (mk + (Ly 2)))), (5, .ref (sa 2)), (0, .ref h0), (1, .int (iI w))]) C dX5_lyingBelow_45 4 rfl (by decide) rfl ?_
      refine r_goto (tgt := 5) C dX5_lyingBelow_48 (by decide) ?_
      refine r_lo [3, 4, 0, 1] (lo2 := [(0, .ref h0), (1, .int (iI w)), (4, .int (iI 3)), (2, .long (lI (mk + (Ly 2))))]) rfl ?_
      exact J5_3 (mk + (Ly 2)) (by rw [im]; first | exact (lbL_t 2 (by omega)).symm | exact (lbL_f 2 (by omega)).symm)
  have J5_1 : ∀ (mk : Int), (mk = lbL Ly Wo w 1) → gW p l e (gr 1 0 0) s m args below meth c X A 6 (MQ below ((gQl X (Y := Unit) (fun _ => (0 ≤ lbL Ly Wo w 6 ∧ lbL Ly Wo w 6 ≤ 72)) (fun _ => (lbL Ly Wo w 6)) (fun _ => [(h0, .inr (5, [.ref s1, .int (iI 6), .ref w0, .ref t0, .ref k0, .ref r0, .int (iI gf), .int (iI gs), .ref rp, .int (iI rc), .ref sh1, .int (iI tc), .int (iI ft)])), (s1, .inl (X.2.1.2.1, 8, .inr (.inr (.inr (.inr sf))))), ((sa 0), .inr (3, [.int (iI (Wt 0)), .int (iI (Wd 0)), .int (iI (Rg 0)), .int (iI (Ly 0)), .int (iI (Wo 0))])), ((sa 1), .inr (3, [.int (iI (Wt 1)), .int (iI (Wd 1)), .int (iI (Rg 1)), .int (iI (Ly 1)), .int (iI (Wo 1))])), ((sa 2), .inr (3, [.int (iI (Wt 2)), .int (iI (Wd 2)), .int (iI (Rg 2)), .int (iI (Ly 2)), .int (iI (Wo 2))])), ((sa 3), .inr (3, [.int (iI (Wt 3)), .int (iI (Wd 3)), .int (iI (Rg 3)), .int (iI (Ly 3)), .int (iI (Wo 3))])), ((sa 4), .inr (3, [.int (iI (Wt 4)), .int (iI (Wd 4)), .int (iI (Rg 4)), .int (iI (Ly 4)), .int (iI (Wo 4))])), ((sa 5), .inr (3, [.int (iI (Wt 5)), .int (iI (Wd 5)), .int (iI (Rg 5)), .int (iI (Ly 5)), .int (iI (Wo 5))]))])) A) args s 0 0 A) 0 0 [(h0, .inr (5, [.ref s1, .int (iI 6), .ref w0, .ref t0, .ref k0, .ref r0, .int (iI gf), .int (iI gs), .ref rp, .int (iI rc), .ref sh1, .int (iI tc), .int (iI ft)])), (s1, .inl (X.2.1.2.1, 8, .inr (.inr (.inr (.inr sf))))), ((sa 0), .inr (3, [.int (iI (Wt 0)), .int (iI (Wd 0)), .int (iI (Rg 0)), .int (iI (Ly 0)), .int (iI (Wo 0))])), ((sa 1), .inr (3, [.int (iI (Wt 1)), .int (iI (Wd 1)), .int (iI (Rg 1)), .int (iI (Ly 1)), .int (iI (Wo 1))])), ((sa 2), .inr (3, [.int (iI (Wt 2)), .int (iI (Wd 2)), .int (iI (Rg 2)), .int (iI (Ly 2)), .int (iI (Wo 2))])), ((sa 3), .inr (3, [.int (iI (Wt 3)), .int (iI (Wd 3)), .int (iI (Rg 3)), .int (iI (Ly 3)), .int (iI (Wo 3))])), ((sa 4), .inr (3, [.int (iI (Wt 4)), .int (iI (Wd 4)), .int (iI (Rg 4)), .int (iI (Ly 4)), .int (iI (Wo 4))])), ((sa 5), .inr (3, [.int (iI (Wt 5)), .int (iI (Wd 5)), .int (iI (Rg 5)), .int (iI (Ly 5)), .int (iI (Wo 5))]))] 5 [(0, .ref h0), (1, .int (iI w)), (4, .int (iI 1)), (2, .long (lI mk))] [] := by
    intro mk im
    refine r_iload C dX5_lyingBelow_5 2 rfl ?_
    refine r_aload_n C dX5_lyingBelow_7 0 rfl ?_
    refine gf_5_1 C hi_X5_lyingBelow_5 kw_X5_lyingBelow_0 dX5_lyingBelow_8 0 rfl rfl ?_
    refine r_icmp_ge (tgt := 51) C dX5_lyingBelow_11 (by decide) (by decide) (by decide) (fun h_10 => absurd h_10 (by decide)) (fun h_10 => ?_)
    refine r_aload_n C dX5_lyingBelow_14 0 rfl ?_
    refine r_iload C dX5_lyingBelow_15 2 rfl ?_
    refine g_V_q (ws2 := (fun _ => [(h0, .inr (5, [.ref s1, .int (iI 6), .ref w0, .ref t0, .ref k0, .ref r0, .int (iI gf), .int (iI gs), .ref rp, .int (iI rc), .ref sh1, .int (iI tc), .int (iI ft)])), (s1, .inl (X.2.1.2.1, 8, .inr (.inr (.inr (.inr sf))))), ((sa 0), .inr (3, [.int (iI (Wt 0)), .int (iI (Wd 0)), .int (iI (Rg 0)), .int (iI (Ly 0)), .int (iI (Wo 0))])), ((sa 1), .inr (3, [.int (iI (Wt 1)), .int (iI (Wd 1)), .int (iI (Rg 1)), .int (iI (Ly 1)), .int (iI (Wo 1))])), ((sa 2), .inr (3, [.int (iI (Wt 2)), .int (iI (Wd 2)), .int (iI (Rg 2)), .int (iI (Ly 2)), .int (iI (Wo 2))])), ((sa 3), .inr (3, [.int (iI (Wt 3)), .int (iI (Wd 3)), .int (iI (Rg 3)), .int (iI (Ly 3)), .int (iI (Wo 3))])), ((sa 4), .inr (3, [.int (iI (Wt 4)), .int (iI (Wd 4)), .int (iI (Rg 4)), .int (iI (Ly 4)), .int (iI (Wo 4))])), ((sa 5), .inr (3, [.int (iI (Wt 5)), .int (iI (Wd 5)), .int (iI (Rg 5)), .int (iI (Ly 5)), .int (iI (Wo 5))]))])) (As := [.int (iI 1)]) C (c_X5_stoneAt_in l X h0 s1 w0 t0 k0 r0 rp sh1 6 gf gs rc tc ft sf (sa 1) 1 (by decide) (hsf 1 (by decide))) gX5_lyingBelow_X5_stoneAt rfl rfl rfl hd_V_X5_stoneAt_X5_lyingBelow (by decide) dX5_lyingBelow_17 [0, 1] [2, 3, 4, 5, 6, 7] [6, 7, 0, 1, 2, 3, 4, 5] rfl rfl rfl rfl (by decide) rfl 0 5 rfl rfl rfl rfl (Nat.le_of_ble_eq_true rfl) (by decide) (fun _ => rfl) (fun _ hy_ => ?_)
    clear hy_
    refine r_astore (lo2 := [(5, .ref (sa 1)), (0, .ref h0), (1, .int (iI w)), (4, .int (iI 1)), (2, .long (lI mk))]) C dX5_lyingBelow_20 (by decide) rfl ?_
    refine r_aload C dX5_lyingBelow_22 0 rfl ?_
    refine r_ifnull C dX5_lyingBelow_24 ?_
    refine r_aload C dX5_lyingBelow_27 0 rfl ?_
    refine gf_3_4 C hi_X5_lyingBelow_3 kw_X5_lyingBelow_1 dX5_lyingBelow_29 3 rfl rfl ?_
    refine r_iload_n C dX5_lyingBelow_32 2 rfl ?_
    refine r_icmp_ge (tgt := 45) C dX5_lyingBelow_33 (by decide) (by omega) (by omega) (fun h_11 => ?_) (fun h_11 => ?_)
    · skip
      refine r_iinc (lo2 := [(4, .int (iI 2)), (5, .ref (sa 1)), (0, .ref h0), (1, .int (iI w)), (2, .long (lI mk))]) C dX5_lyingBelow_45 3 rfl (by decide) rfl ?_
      refine r_goto (tgt := 5) C dX5_lyingBelow_48 (by decide) ?_
      refine r_lo [2, 3, 0, 4] (lo2 := [(0, .ref h0), (1, .int (iI w)), (4, .int (iI 2)), (2, .long (lI mk))]) rfl ?_
      exact J5_2 mk (by rw [im]; first | exact (lbL_t 1 (by omega)).symm | exact (lbL_f 1 (by omega)).symm)
    · skip
      refine r_lload_n C dX5_lyingBelow_36 4 rfl ?_
      refine r_aload C dX5_lyingBelow_37 0 rfl ?_
      refine gf_3_3 C hi_X5_lyingBelow_3 kw_X5_lyingBelow_2 dX5_lyingBelow_39 3 rfl rfl ?_
      refine r_i2l C dX5_lyingBelow_42 (by omega) ?_
      refine r_ladd C dX5_lyingBelow_43 ?_
      refine r_lstore_n (lo2 := [(2, .long (lI (mk + (Ly 1)))), (5, .ref (sa 1)), (0, .ref h0), (1, .int (iI w)), (4, .int (iI 1))]) C dX5_lyingBelow_44 rfl (by decide) rfl ?_
      refine r_iinc (lo2 := [(4, .int (iI 2)), (2, .long (lI (mk + (Ly 1)))), (5, .ref (sa 1)), (0, .ref h0), (1, .int (iI w))]) C dX5_lyingBelow_45 4 rfl (by decide) rfl ?_
      refine r_goto (tgt := 5) C dX5_lyingBelow_48 (by decide) ?_
      refine r_lo [3, 4, 0, 1] (lo2 := [(0, .ref h0), (1, .int (iI w)), (4, .int (iI 2)), (2, .long (lI (mk + (Ly 1))))]) rfl ?_
      exact J5_2 (mk + (Ly 1)) (by rw [im]; first | exact (lbL_t 1 (by omega)).symm | exact (lbL_f 1 (by omega)).symm)
  have J5_0 : ∀ (mk : Int), (mk = lbL Ly Wo w 0) → gW p l e (gr 1 0 0) s m args below meth c X A 6 (MQ below ((gQl X (Y := Unit) (fun _ => (0 ≤ lbL Ly Wo w 6 ∧ lbL Ly Wo w 6 ≤ 72)) (fun _ => (lbL Ly Wo w 6)) (fun _ => [(h0, .inr (5, [.ref s1, .int (iI 6), .ref w0, .ref t0, .ref k0, .ref r0, .int (iI gf), .int (iI gs), .ref rp, .int (iI rc), .ref sh1, .int (iI tc), .int (iI ft)])), (s1, .inl (X.2.1.2.1, 8, .inr (.inr (.inr (.inr sf))))), ((sa 0), .inr (3, [.int (iI (Wt 0)), .int (iI (Wd 0)), .int (iI (Rg 0)), .int (iI (Ly 0)), .int (iI (Wo 0))])), ((sa 1), .inr (3, [.int (iI (Wt 1)), .int (iI (Wd 1)), .int (iI (Rg 1)), .int (iI (Ly 1)), .int (iI (Wo 1))])), ((sa 2), .inr (3, [.int (iI (Wt 2)), .int (iI (Wd 2)), .int (iI (Rg 2)), .int (iI (Ly 2)), .int (iI (Wo 2))])), ((sa 3), .inr (3, [.int (iI (Wt 3)), .int (iI (Wd 3)), .int (iI (Rg 3)), .int (iI (Ly 3)), .int (iI (Wo 3))])), ((sa 4), .inr (3, [.int (iI (Wt 4)), .int (iI (Wd 4)), .int (iI (Rg 4)), .int (iI (Ly 4)), .int (iI (Wo 4))])), ((sa 5), .inr (3, [.int (iI (Wt 5)), .int (iI (Wd 5)), .int (iI (Rg 5)), .int (iI (Ly 5)), .int (iI (Wo 5))]))])) A) args s 0 0 A) 0 0 [(h0, .inr (5, [.ref s1, .int (iI 6), .ref w0, .ref t0, .ref k0, .ref r0, .int (iI gf), .int (iI gs), .ref rp, .int (iI rc), .ref sh1, .int (iI tc), .int (iI ft)])), (s1, .inl (X.2.1.2.1, 8, .inr (.inr (.inr (.inr sf))))), ((sa 0), .inr (3, [.int (iI (Wt 0)), .int (iI (Wd 0)), .int (iI (Rg 0)), .int (iI (Ly 0)), .int (iI (Wo 0))])), ((sa 1), .inr (3, [.int (iI (Wt 1)), .int (iI (Wd 1)), .int (iI (Rg 1)), .int (iI (Ly 1)), .int (iI (Wo 1))])), ((sa 2), .inr (3, [.int (iI (Wt 2)), .int (iI (Wd 2)), .int (iI (Rg 2)), .int (iI (Ly 2)), .int (iI (Wo 2))])), ((sa 3), .inr (3, [.int (iI (Wt 3)), .int (iI (Wd 3)), .int (iI (Rg 3)), .int (iI (Ly 3)), .int (iI (Wo 3))])), ((sa 4), .inr (3, [.int (iI (Wt 4)), .int (iI (Wd 4)), .int (iI (Rg 4)), .int (iI (Ly 4)), .int (iI (Wo 4))])), ((sa 5), .inr (3, [.int (iI (Wt 5)), .int (iI (Wd 5)), .int (iI (Rg 5)), .int (iI (Ly 5)), .int (iI (Wo 5))]))] 5 [(0, .ref h0), (1, .int (iI w)), (4, .int (iI 0)), (2, .long (lI mk))] [] := by
    intro mk im
    refine r_iload C dX5_lyingBelow_5 2 rfl ?_
    refine r_aload_n C dX5_lyingBelow_7 0 rfl ?_
    refine gf_5_1 C hi_X5_lyingBelow_5 kw_X5_lyingBelow_0 dX5_lyingBelow_8 0 rfl rfl ?_
    refine r_icmp_ge (tgt := 51) C dX5_lyingBelow_11 (by decide) (by decide) (by decide) (fun h_12 => absurd h_12 (by decide)) (fun h_12 => ?_)
    refine r_aload_n C dX5_lyingBelow_14 0 rfl ?_
    refine r_iload C dX5_lyingBelow_15 2 rfl ?_
    refine g_V_q (ws2 := (fun _ => [(h0, .inr (5, [.ref s1, .int (iI 6), .ref w0, .ref t0, .ref k0, .ref r0, .int (iI gf), .int (iI gs), .ref rp, .int (iI rc), .ref sh1, .int (iI tc), .int (iI ft)])), (s1, .inl (X.2.1.2.1, 8, .inr (.inr (.inr (.inr sf))))), ((sa 0), .inr (3, [.int (iI (Wt 0)), .int (iI (Wd 0)), .int (iI (Rg 0)), .int (iI (Ly 0)), .int (iI (Wo 0))])), ((sa 1), .inr (3, [.int (iI (Wt 1)), .int (iI (Wd 1)), .int (iI (Rg 1)), .int (iI (Ly 1)), .int (iI (Wo 1))])), ((sa 2), .inr (3, [.int (iI (Wt 2)), .int (iI (Wd 2)), .int (iI (Rg 2)), .int (iI (Ly 2)), .int (iI (Wo 2))])), ((sa 3), .inr (3, [.int (iI (Wt 3)), .int (iI (Wd 3)), .int (iI (Rg 3)), .int (iI (Ly 3)), .int (iI (Wo 3))])), ((sa 4), .inr (3, [.int (iI (Wt 4)), .int (iI (Wd 4)), .int (iI (Rg 4)), .int (iI (Ly 4)), .int (iI (Wo 4))])), ((sa 5), .inr (3, [.int (iI (Wt 5)), .int (iI (Wd 5)), .int (iI (Rg 5)), .int (iI (Ly 5)), .int (iI (Wo 5))]))])) (As := [.int (iI 0)]) C (c_X5_stoneAt_in l X h0 s1 w0 t0 k0 r0 rp sh1 6 gf gs rc tc ft sf (sa 0) 0 (by decide) (hsf 0 (by decide))) gX5_lyingBelow_X5_stoneAt rfl rfl rfl hd_V_X5_stoneAt_X5_lyingBelow (by decide) dX5_lyingBelow_17 [0, 1] [2, 3, 4, 5, 6, 7] [6, 7, 0, 1, 2, 3, 4, 5] rfl rfl rfl rfl (by decide) rfl 0 5 rfl rfl rfl rfl (Nat.le_of_ble_eq_true rfl) (by decide) (fun _ => rfl) (fun _ hy_ => ?_)
    clear hy_
    refine r_astore (lo2 := [(5, .ref (sa 0)), (0, .ref h0), (1, .int (iI w)), (4, .int (iI 0)), (2, .long (lI mk))]) C dX5_lyingBelow_20 (by decide) rfl ?_
    refine r_aload C dX5_lyingBelow_22 0 rfl ?_
    refine r_ifnull C dX5_lyingBelow_24 ?_
    refine r_aload C dX5_lyingBelow_27 0 rfl ?_
    refine gf_3_4 C hi_X5_lyingBelow_3 kw_X5_lyingBelow_1 dX5_lyingBelow_29 2 rfl rfl ?_
    refine r_iload_n C dX5_lyingBelow_32 2 rfl ?_
    refine r_icmp_ge (tgt := 45) C dX5_lyingBelow_33 (by decide) (by omega) (by omega) (fun h_13 => ?_) (fun h_13 => ?_)
    · skip
      refine r_iinc (lo2 := [(4, .int (iI 1)), (5, .ref (sa 0)), (0, .ref h0), (1, .int (iI w)), (2, .long (lI mk))]) C dX5_lyingBelow_45 3 rfl (by decide) rfl ?_
      refine r_goto (tgt := 5) C dX5_lyingBelow_48 (by decide) ?_
      refine r_lo [2, 3, 0, 4] (lo2 := [(0, .ref h0), (1, .int (iI w)), (4, .int (iI 1)), (2, .long (lI mk))]) rfl ?_
      exact J5_1 mk (by rw [im]; first | exact (lbL_t 0 (by omega)).symm | exact (lbL_f 0 (by omega)).symm)
    · skip
      refine r_lload_n C dX5_lyingBelow_36 4 rfl ?_
      refine r_aload C dX5_lyingBelow_37 0 rfl ?_
      refine gf_3_3 C hi_X5_lyingBelow_3 kw_X5_lyingBelow_2 dX5_lyingBelow_39 2 rfl rfl ?_
      refine r_i2l C dX5_lyingBelow_42 (by omega) ?_
      refine r_ladd C dX5_lyingBelow_43 ?_
      refine r_lstore_n (lo2 := [(2, .long (lI (mk + (Ly 0)))), (5, .ref (sa 0)), (0, .ref h0), (1, .int (iI w)), (4, .int (iI 0))]) C dX5_lyingBelow_44 rfl (by decide) rfl ?_
      refine r_iinc (lo2 := [(4, .int (iI 1)), (2, .long (lI (mk + (Ly 0)))), (5, .ref (sa 0)), (0, .ref h0), (1, .int (iI w))]) C dX5_lyingBelow_45 4 rfl (by decide) rfl ?_
      refine r_goto (tgt := 5) C dX5_lyingBelow_48 (by decide) ?_
      refine r_lo [3, 4, 0, 1] (lo2 := [(0, .ref h0), (1, .int (iI w)), (4, .int (iI 1)), (2, .long (lI (mk + (Ly 0))))]) rfl ?_
      exact J5_1 (mk + (Ly 0)) (by rw [im]; first | exact (lbL_t 0 (by omega)).symm | exact (lbL_f 0 (by omega)).symm)
  refine r_lo [2, 3, 0, 1] (lo2 := [(0, .ref h0), (1, .int (iI w)), (4, .int (iI 0)), (2, .long (lI 0))]) rfl ?_
  exact J5_0 0 rfl

set_option maxHeartbeats 4000000 in
set_option maxRecDepth 100000 in
theorem c_X5_bestWorths_6 (l : Launch) (X : gX) (h0 : Nat) (s1 : Nat) (w0 : Nat) (t0 : Nat) (k0 : Nat) (r0 : Nat) (rp : Nat) (sh1 : Nat) (gf : Int) (gs : Int) (rc : Int) (tc : Int) (ft : Int) (sf : Nat → Option Nat) (sa : Nat → Nat) (Wt : Nat → Int) (Wd : Nat → Int) (Rg : Nat → Int) (Ly : Nat → Int) (Wo : Nat → Int) (k : Int) (hsf : ∀ j : Nat, j < 6 → sf j = some (sa j)) (hLy : ∀ j : Nat, j < 6 → 0 ≤ Ly j ∧ Ly j ≤ 9) (hWo : ∀ j : Nat, j < 6 → 0 ≤ Wo j ∧ Wo j ≤ 99) (hk : 0 ≤ k ∧ k ≤ 6) : gM l yX5_bestWorths wsX5_bestWorths (gr 2 0 0) X [(h0, .inr (5, [.ref s1, .int (iI 6), .ref w0, .ref t0, .ref k0, .ref r0, .int (iI gf), .int (iI gs), .ref rp, .int (iI rc), .ref sh1, .int (iI tc), .int (iI ft)])), (s1, .inl (X.2.1.2.1, 8, .inr (.inr (.inr (.inr sf))))), ((sa 0), .inr (3, [.int (iI (Wt 0)), .int (iI (Wd 0)), .int (iI (Rg 0)), .int (iI (Ly 0)), .int (iI (Wo 0))])), ((sa 1), .inr (3, [.int (iI (Wt 1)), .int (iI (Wd 1)), .int (iI (Rg 1)), .int (iI (Ly 1)), .int (iI (Wo 1))])), ((sa 2), .inr (3, [.int (iI (Wt 2)), .int (iI (Wd 2)), .int (iI (Rg 2)), .int (iI (Ly 2)), .int (iI (Wo 2))])), ((sa 3), .inr (3, [.int (iI (Wt 3)), .int (iI (Wd 3)), .int (iI (Rg 3)), .int (iI (Ly 3)), .int (iI (Wo 3))])), ((sa 4), .inr (3, [.int (iI (Wt 4)), .int (iI (Wd 4)), .int (iI (Rg 4)), .int (iI (Ly 4)), .int (iI (Wo 4))])), ((sa 5), .inr (3, [.int (iI (Wt 5)), .int (iI (Wd 5)), .int (iI (Rg 5)), .int (iI (Ly 5)), .int (iI (Wo 5))]))] [.ref h0, .int (iI k)] (gQl X (Y := Unit) (fun _ => True) (fun _ => (bwV Ly Wo 6 k)) (fun _ => [(h0, .inr (5, [.ref s1, .int (iI 6), .ref w0, .ref t0, .ref k0, .ref r0, .int (iI gf), .int (iI gs), .ref rp, .int (iI rc), .ref sh1, .int (iI tc), .int (iI ft)])), (s1, .inl (X.2.1.2.1, 8, .inr (.inr (.inr (.inr sf))))), ((sa 0), .inr (3, [.int (iI (Wt 0)), .int (iI (Wd 0)), .int (iI (Rg 0)), .int (iI (Ly 0)), .int (iI (Wo 0))])), ((sa 1), .inr (3, [.int (iI (Wt 1)), .int (iI (Wd 1)), .int (iI (Rg 1)), .int (iI (Ly 1)), .int (iI (Wo 1))])), ((sa 2), .inr (3, [.int (iI (Wt 2)), .int (iI (Wd 2)), .int (iI (Rg 2)), .int (iI (Ly 2)), .int (iI (Wo 2))])), ((sa 3), .inr (3, [.int (iI (Wt 3)), .int (iI (Wd 3)), .int (iI (Rg 3)), .int (iI (Ly 3)), .int (iI (Wo 3))])), ((sa 4), .inr (3, [.int (iI (Wt 4)), .int (iI (Wd 4)), .int (iI (Rg 4)), .int (iI (Ly 4)), .int (iI (Wo 4))])), ((sa 5), .inr (3, [.int (iI (Wt 5)), .int (iI (Wd 5)), .int (iI (Rg 5)), .int (iI (Ly 5)), .int (iI (Wo 5))]))])) 0 0 := by
  refine g_start2 (lo := [(0, .ref h0), (1, .int (iI k))]) (by decide +kernel) rfl rfl (Nat.le_of_ble_eq_true rfl) (fun p e s m args below meth c A C => ?_)
  refine r_aload_n C dX5_bestWorths_0 0 rfl ?_
  refine r_bipush C dX5_bestWorths_1 (by decide) ?_
  refine g_V_l (ws2 := (fun _ => [(h0, .inr (5, [.ref s1, .int (iI 6), .ref w0, .ref t0, .ref k0, .ref r0, .int (iI gf), .int (iI gs), .ref rp, .int (iI rc), .ref sh1, .int (iI tc), .int (iI ft)])), (s1, .inl (X.2.1.2.1, 8, .inr (.inr (.inr (.inr sf))))), ((sa 0), .inr (3, [.int (iI (Wt 0)), .int (iI (Wd 0)), .int (iI (Rg 0)), .int (iI (Ly 0)), .int (iI (Wo 0))])), ((sa 1), .inr (3, [.int (iI (Wt 1)), .int (iI (Wd 1)), .int (iI (Rg 1)), .int (iI (Ly 1)), .int (iI (Wo 1))])), ((sa 2), .inr (3, [.int (iI (Wt 2)), .int (iI (Wd 2)), .int (iI (Rg 2)), .int (iI (Ly 2)), .int (iI (Wo 2))])), ((sa 3), .inr (3, [.int (iI (Wt 3)), .int (iI (Wd 3)), .int (iI (Rg 3)), .int (iI (Ly 3)), .int (iI (Wo 3))])), ((sa 4), .inr (3, [.int (iI (Wt 4)), .int (iI (Wd 4)), .int (iI (Rg 4)), .int (iI (Ly 4)), .int (iI (Wo 4))])), ((sa 5), .inr (3, [.int (iI (Wt 5)), .int (iI (Wd 5)), .int (iI (Rg 5)), .int (iI (Ly 5)), .int (iI (Wo 5))]))])) (As := [.int (iI 100)]) C (c_X5_lyingBelow_6 l X h0 s1 w0 t0 k0 r0 rp sh1 gf gs rc tc ft sf sa Wt Wd Rg Ly Wo 100 hsf hLy hWo (by first | assumption | omega)) gX5_bestWorths_X5_lyingBelow rfl rfl rfl hd_V_X5_lyingBelow_X5_bestWorths (by decide) dX5_bestWorths_3 [0, 1, 2, 3, 4, 5, 6, 7] [] [0, 1, 2, 3, 4, 5, 6, 7] rfl rfl rfl rfl (by decide) rfl 0 5 rfl rfl rfl rfl (Nat.le_of_ble_eq_true rfl) (by decide) (fun _ => rfl) (fun _ hy_ => ?_)
  have y_1 : 0 ≤ lbL Ly Wo 100 6 ∧ lbL Ly Wo 100 6 ≤ 72 := hy_
  clear hy_
  refine r_iload_n C dX5_bestWorths_6 1 rfl ?_
  refine g_S_l (ws2 := (fun _ => [(h0, .inr (5, [.ref s1, .int (iI 6), .ref w0, .ref t0, .ref k0, .ref r0, .int (iI gf), .int (iI gs), .ref rp, .int (iI rc), .ref sh1, .int (iI tc), .int (iI ft)])), (s1, .inl (X.2.1.2.1, 8, .inr (.inr (.inr (.inr sf))))), ((sa 0), .inr (3, [.int (iI (Wt 0)), .int (iI (Wd 0)), .int (iI (Rg 0)), .int (iI (Ly 0)), .int (iI (Wo 0))])), ((sa 1), .inr (3, [.int (iI (Wt 1)), .int (iI (Wd 1)), .int (iI (Rg 1)), .int (iI (Ly 1)), .int (iI (Wo 1))])), ((sa 2), .inr (3, [.int (iI (Wt 2)), .int (iI (Wd 2)), .int (iI (Rg 2)), .int (iI (Ly 2)), .int (iI (Wo 2))])), ((sa 3), .inr (3, [.int (iI (Wt 3)), .int (iI (Wd 3)), .int (iI (Rg 3)), .int (iI (Ly 3)), .int (iI (Wo 3))])), ((sa 4), .inr (3, [.int (iI (Wt 4)), .int (iI (Wd 4)), .int (iI (Rg 4)), .int (iI (Ly 4)), .int (iI (Wo 4))])), ((sa 5), .inr (3, [.int (iI (Wt 5)), .int (iI (Wd 5)), .int (iI (Rg 5)), .int (iI (Ly 5)), .int (iI (Wo 5))]))])) (As := [.long (lI (lbL Ly Wo 100 6)), .int (iI k)]) C (c_X5_power l X (lbL Ly Wo 100 6) k (by first | assumption | omega)) gX5_bestWorths_X5_power rfl rfl rfl hd_S_X5_power_X5_bestWorths (by decide) dX5_bestWorths_7 [] [0, 1, 2, 3, 4, 5, 6, 7] [0, 1, 2, 3, 4, 5, 6, 7] rfl rfl rfl rfl (by decide) rfl rfl rfl (Nat.le_of_ble_eq_true rfl) (by decide) (fun _ => rfl) (fun _ hy_ => ?_)
  clear hy_
  refine r_lstore_n (lo2 := [(2, .long (lI (pwI (lbL Ly Wo 100 6) k))), (0, .ref h0), (1, .int (iI k))]) C dX5_bestWorths_10 rfl (by decide) rfl ?_
  refine r_lconst (z := 0) C dX5_bestWorths_11 rfl ?_
  refine r_lstore (lo2 := [(4, .long (lI 0)), (2, .long (lI (pwI (lbL Ly Wo 100 6) k))), (0, .ref h0), (1, .int (iI k))]) C dX5_bestWorths_12 (by decide) rfl ?_
  refine r_iconst C dX5_bestWorths_14 ?_
  refine r_istore (lo2 := [(6, .int (iI 1)), (4, .long (lI 0)), (2, .long (lI (pwI (lbL Ly Wo 100 6) k))), (0, .ref h0), (1, .int (iI k))]) C dX5_bestWorths_15 (by decide) rfl ?_
  have L17 : ∀ (fu17 : Nat) (a1 : Int) (wk : Int), (1 ≤ wk ∧ wk ≤ 100) → (bwV Ly Wo 6 k = bwL (fun w => pwI (lbL Ly Wo w 6) k) (pwI (lbL Ly Wo 100 6) k) (100 - wk).toNat wk a1) → (100 - wk).toNat < fu17 → gW p l e (gr 2 0 0) s m args below meth c X A 7 (MQ below ((gQl X (Y := Unit) (fun _ => True) (fun _ => (bwV Ly Wo 6 k)) (fun _ => [(h0, .inr (5, [.ref s1, .int (iI 6), .ref w0, .ref t0, .ref k0, .ref r0, .int (iI gf), .int (iI gs), .ref rp, .int (iI rc), .ref sh1, .int (iI tc), .int (iI ft)])), (s1, .inl (X.2.1.2.1, 8, .inr (.inr (.inr (.inr sf))))), ((sa 0), .inr (3, [.int (iI (Wt 0)), .int (iI (Wd 0)), .int (iI (Rg 0)), .int (iI (Ly 0)), .int (iI (Wo 0))])), ((sa 1), .inr (3, [.int (iI (Wt 1)), .int (iI (Wd 1)), .int (iI (Rg 1)), .int (iI (Ly 1)), .int (iI (Wo 1))])), ((sa 2), .inr (3, [.int (iI (Wt 2)), .int (iI (Wd 2)), .int (iI (Rg 2)), .int (iI (Ly 2)), .int (iI (Wo 2))])), ((sa 3), .inr (3, [.int (iI (Wt 3)), .int (iI (Wd 3)), .int (iI (Rg 3)), .int (iI (Ly 3)), .int (iI (Wo 3))])), ((sa 4), .inr (3, [.int (iI (Wt 4)), .int (iI (Wd 4)), .int (iI (Rg 4)), .int (iI (Ly 4)), .int (iI (Wo 4))])), ((sa 5), .inr (3, [.int (iI (Wt 5)), .int (iI (Wd 5)), .int (iI (Rg 5)), .int (iI (Ly 5)), .int (iI (Wo 5))]))])) A) args s 0 0 A) 0 0 [(h0, .inr (5, [.ref s1, .int (iI 6), .ref w0, .ref t0, .ref k0, .ref r0, .int (iI gf), .int (iI gs), .ref rp, .int (iI rc), .ref sh1, .int (iI tc), .int (iI ft)])), (s1, .inl (X.2.1.2.1, 8, .inr (.inr (.inr (.inr sf))))), ((sa 0), .inr (3, [.int (iI (Wt 0)), .int (iI (Wd 0)), .int (iI (Rg 0)), .int (iI (Ly 0)), .int (iI (Wo 0))])), ((sa 1), .inr (3, [.int (iI (Wt 1)), .int (iI (Wd 1)), .int (iI (Rg 1)), .int (iI (Ly 1)), .int (iI (Wo 1))])), ((sa 2), .inr (3, [.int (iI (Wt 2)), .int (iI (Wd 2)), .int (iI (Rg 2)), .int (iI (Ly 2)), .int (iI (Wo 2))])), ((sa 3), .inr (3, [.int (iI (Wt 3)), .int (iI (Wd 3)), .int (iI (Rg 3)), .int (iI (Ly 3)), .int (iI (Wo 3))])), ((sa 4), .inr (3, [.int (iI (Wt 4)), .int (iI (Wd 4)), .int (iI (Rg 4)), .int (iI (Ly 4)), .int (iI (Wo 4))])), ((sa 5), .inr (3, [.int (iI (Wt 5)), .int (iI (Wd 5)), .int (iI (Rg 5)), .int (iI (Ly 5)), .int (iI (Wo 5))]))] 17 [(2, .long (lI (pwI (lbL Ly Wo 100 6) k))), (0, .ref h0), (1, .int (iI k)), (4, .long (lI a1)), (6, .int (iI wk))] [] := by
    intro fu17
    induction fu17 with
    | zero => intro a1 wk iw iB hm17; exact absurd hm17 (Nat.not_lt_zero _)
    | succ fu17 ih17 =>
      intro a1 wk iw iB hm17
      refine r_iload C dX5_bestWorths_17 4 rfl ?_
      refine r_bipush C dX5_bestWorths_19 (by decide) ?_
      refine r_icmp_gt (tgt := 47) C dX5_bestWorths_21 (by decide) (by omega) (by decide) (fun h_3 => ?_) (fun h_3 => ?_)
      · skip
        refine r_lload C dX5_bestWorths_47 3 rfl ?_
        exact g_ret_l C rfl dX5_bestWorths_49 () trivial (by rw [iB, show (100 - wk).toNat = 0 by omega]; rfl) [0, 1, 2, 3, 4, 5, 6, 7] rfl (by (repeat' split) <;> first | rfl | omega)
      · skip
        refine r_lload C dX5_bestWorths_24 3 rfl ?_
        refine r_lload_n C dX5_bestWorths_26 0 rfl ?_
        refine r_aload_n C dX5_bestWorths_27 1 rfl ?_
        refine r_iload C dX5_bestWorths_28 4 rfl ?_
        refine g_V_l (ws2 := (fun _ => [(h0, .inr (5, [.ref s1, .int (iI 6), .ref w0, .ref t0, .ref k0, .ref r0, .int (iI gf), .int (iI gs), .ref rp, .int (iI rc), .ref sh1, .int (iI tc), .int (iI ft)])), (s1, .inl (X.2.1.2.1, 8, .inr (.inr (.inr (.inr sf))))), ((sa 0), .inr (3, [.int (iI (Wt 0)), .int (iI (Wd 0)), .int (iI (Rg 0)), .int (iI (Ly 0)), .int (iI (Wo 0))])), ((sa 1), .inr (3, [.int (iI (Wt 1)), .int (iI (Wd 1)), .int (iI (Rg 1)), .int (iI (Ly 1)), .int (iI (Wo 1))])), ((sa 2), .inr (3, [.int (iI (Wt 2)), .int (iI (Wd 2)), .int (iI (Rg 2)), .int (iI (Ly 2)), .int (iI (Wo 2))])), ((sa 3), .inr (3, [.int (iI (Wt 3)), .int (iI (Wd 3)), .int (iI (Rg 3)), .int (iI (Ly 3)), .int (iI (Wo 3))])), ((sa 4), .inr (3, [.int (iI (Wt 4)), .int (iI (Wd 4)), .int (iI (Rg 4)), .int (iI (Ly 4)), .int (iI (Wo 4))])), ((sa 5), .inr (3, [.int (iI (Wt 5)), .int (iI (Wd 5)), .int (iI (Rg 5)), .int (iI (Ly 5)), .int (iI (Wo 5))]))])) (As := [.int (iI wk)]) C (c_X5_lyingBelow_6 l X h0 s1 w0 t0 k0 r0 rp sh1 gf gs rc tc ft sf sa Wt Wd Rg Ly Wo wk hsf hLy hWo (by first | assumption | omega)) gX5_bestWorths_X5_lyingBelow rfl rfl rfl hd_V_X5_lyingBelow_X5_bestWorths (by decide) dX5_bestWorths_30 [0, 1, 2, 3, 4, 5, 6, 7] [] [0, 1, 2, 3, 4, 5, 6, 7] rfl rfl rfl rfl (by decide) rfl 0 5 rfl rfl rfl rfl (Nat.le_of_ble_eq_true rfl) (by decide) (fun _ => rfl) (fun _ hy_ => ?_)
        have y_4 : 0 ≤ lbL Ly Wo wk 6 ∧ lbL Ly Wo wk 6 ≤ 72 := hy_
        clear hy_
        refine r_iload_n C dX5_bestWorths_33 2 rfl ?_
        refine g_S_l (ws2 := (fun _ => [(h0, .inr (5, [.ref s1, .int (iI 6), .ref w0, .ref t0, .ref k0, .ref r0, .int (iI gf), .int (iI gs), .ref rp, .int (iI rc), .ref sh1, .int (iI tc), .int (iI ft)])), (s1, .inl (X.2.1.2.1, 8, .inr (.inr (.inr (.inr sf))))), ((sa 0), .inr (3, [.int (iI (Wt 0)), .int (iI (Wd 0)), .int (iI (Rg 0)), .int (iI (Ly 0)), .int (iI (Wo 0))])), ((sa 1), .inr (3, [.int (iI (Wt 1)), .int (iI (Wd 1)), .int (iI (Rg 1)), .int (iI (Ly 1)), .int (iI (Wo 1))])), ((sa 2), .inr (3, [.int (iI (Wt 2)), .int (iI (Wd 2)), .int (iI (Rg 2)), .int (iI (Ly 2)), .int (iI (Wo 2))])), ((sa 3), .inr (3, [.int (iI (Wt 3)), .int (iI (Wd 3)), .int (iI (Rg 3)), .int (iI (Ly 3)), .int (iI (Wo 3))])), ((sa 4), .inr (3, [.int (iI (Wt 4)), .int (iI (Wd 4)), .int (iI (Rg 4)), .int (iI (Ly 4)), .int (iI (Wo 4))])), ((sa 5), .inr (3, [.int (iI (Wt 5)), .int (iI (Wd 5)), .int (iI (Rg 5)), .int (iI (Ly 5)), .int (iI (Wo 5))]))])) (As := [.long (lI (lbL Ly Wo wk 6)), .int (iI k)]) C (c_X5_power l X (lbL Ly Wo wk 6) k (by first | assumption | omega)) gX5_bestWorths_X5_power rfl rfl rfl hd_S_X5_power_X5_bestWorths (by decide) dX5_bestWorths_34 [] [0, 1, 2, 3, 4, 5, 6, 7] [0, 1, 2, 3, 4, 5, 6, 7] rfl rfl rfl rfl (by decide) rfl rfl rfl (Nat.le_of_ble_eq_true rfl) (by decide) (fun _ => rfl) (fun _ hy_ => ?_)
        clear hy_
        refine r_lsub C dX5_bestWorths_37 ?_
        refine r_ladd C dX5_bestWorths_38 ?_
        refine r_lstore (lo2 := [(4, .long (lI (a1 + ((pwI (lbL Ly Wo 100 6) k) - (pwI (lbL Ly Wo wk 6) k))))), (2, .long (lI (pwI (lbL Ly Wo 100 6) k))), (0, .ref h0), (1, .int (iI k)), (6, .int (iI wk))]) C dX5_bestWorths_39 (by decide) rfl ?_
        refine r_iinc (lo2 := [(6, .int (iI (wk + 1))), (4, .long (lI (a1 + ((pwI (lbL Ly Wo 100 6) k) - (pwI (lbL Ly Wo wk 6) k))))), (2, .long (lI (pwI (lbL Ly Wo 100 6) k))), (0, .ref h0), (1, .int (iI k))]) C dX5_bestWorths_41 4 rfl (by decide) rfl ?_
        refine r_goto (tgt := 17) C dX5_bestWorths_44 (by decide) ?_
        refine r_lo [2, 3, 4, 1, 0] (lo2 := [(2, .long (lI (pwI (lbL Ly Wo 100 6) k))), (0, .ref h0), (1, .int (iI k)), (4, .long (lI (a1 + ((pwI (lbL Ly Wo 100 6) k) - (pwI (lbL Ly Wo wk 6) k))))), (6, .int (iI (wk + 1)))]) rfl ?_
        exact ih17 (a1 + ((pwI (lbL Ly Wo 100 6) k) - (pwI (lbL Ly Wo wk 6) k))) (wk + 1) (by omega) (by rw [iB, bwL_go (by omega)]) (by omega)
  refine r_lo [2, 3, 4, 1, 0] (lo2 := [(2, .long (lI (pwI (lbL Ly Wo 100 6) k))), (0, .ref h0), (1, .int (iI k)), (4, .long (lI 0)), (6, .int (iI 1))]) rfl ?_
  exact L17 ((100 - (1 : Int)).toNat + 1) 0 1 (by omega) rfl (Nat.lt_succ_self _)

set_option maxHeartbeats 4000000 in
set_option maxRecDepth 100000 in
theorem c_X5_mean_6 (l : Launch) (X : gX) (h0 : Nat) (s1 : Nat) (w0 : Nat) (t0 : Nat) (k0 : Nat) (r0 : Nat) (rp : Nat) (sh1 : Nat) (gf : Int) (gs : Int) (rc : Int) (tc : Int) (ft : Int) (sf : Nat → Option Nat) (sa : Nat → Nat) (Wt : Nat → Int) (Wd : Nat → Int) (Rg : Nat → Int) (Ly : Nat → Int) (Wo : Nat → Int) (k : Int) (w : Int) (hsf : ∀ j : Nat, j < 6 → sf j = some (sa j)) (hLy : ∀ j : Nat, j < 6 → 0 ≤ Ly j ∧ Ly j ≤ 9) (hWo : ∀ j : Nat, j < 6 → 0 ≤ Wo j ∧ Wo j ≤ 99) (hb_k : inB k) (hb_w : inB w) : gM l yX5_mean wsX5_mean (gr 3 0 0) X [(h0, .inr (5, [.ref s1, .int (iI 6), .ref w0, .ref t0, .ref k0, .ref r0, .int (iI gf), .int (iI gs), .ref rp, .int (iI rc), .ref sh1, .int (iI tc), .int (iI ft)])), (s1, .inl (X.2.1.2.1, 8, .inr (.inr (.inr (.inr sf))))), ((sa 0), .inr (3, [.int (iI (Wt 0)), .int (iI (Wd 0)), .int (iI (Rg 0)), .int (iI (Ly 0)), .int (iI (Wo 0))])), ((sa 1), .inr (3, [.int (iI (Wt 1)), .int (iI (Wd 1)), .int (iI (Rg 1)), .int (iI (Ly 1)), .int (iI (Wo 1))])), ((sa 2), .inr (3, [.int (iI (Wt 2)), .int (iI (Wd 2)), .int (iI (Rg 2)), .int (iI (Ly 2)), .int (iI (Wo 2))])), ((sa 3), .inr (3, [.int (iI (Wt 3)), .int (iI (Wd 3)), .int (iI (Rg 3)), .int (iI (Ly 3)), .int (iI (Wo 3))])), ((sa 4), .inr (3, [.int (iI (Wt 4)), .int (iI (Wd 4)), .int (iI (Rg 4)), .int (iI (Ly 4)), .int (iI (Wo 4))])), ((sa 5), .inr (3, [.int (iI (Wt 5)), .int (iI (Wd 5)), .int (iI (Rg 5)), .int (iI (Ly 5)), .int (iI (Wo 5))]))] [.ref h0, .int (iI k), .int (iI w)] (gQl X (Y := Unit) (fun _ => True) (fun _ => (if 1 ≤ k ∧ k ≤ 6 ∧ 0 ≤ w ∧ w ≤ 1 ∧ ¬ (lbL Ly Wo 100 6) = 0 then shV (bwV Ly Wo 6 k) (pwI (lbL Ly Wo 100 6) k) w else -9223372036854775808)) (fun _ => [(h0, .inr (5, [.ref s1, .int (iI 6), .ref w0, .ref t0, .ref k0, .ref r0, .int (iI gf), .int (iI gs), .ref rp, .int (iI rc), .ref sh1, .int (iI tc), .int (iI ft)])), (s1, .inl (X.2.1.2.1, 8, .inr (.inr (.inr (.inr sf))))), ((sa 0), .inr (3, [.int (iI (Wt 0)), .int (iI (Wd 0)), .int (iI (Rg 0)), .int (iI (Ly 0)), .int (iI (Wo 0))])), ((sa 1), .inr (3, [.int (iI (Wt 1)), .int (iI (Wd 1)), .int (iI (Rg 1)), .int (iI (Ly 1)), .int (iI (Wo 1))])), ((sa 2), .inr (3, [.int (iI (Wt 2)), .int (iI (Wd 2)), .int (iI (Rg 2)), .int (iI (Ly 2)), .int (iI (Wo 2))])), ((sa 3), .inr (3, [.int (iI (Wt 3)), .int (iI (Wd 3)), .int (iI (Rg 3)), .int (iI (Ly 3)), .int (iI (Wo 3))])), ((sa 4), .inr (3, [.int (iI (Wt 4)), .int (iI (Wd 4)), .int (iI (Rg 4)), .int (iI (Ly 4)), .int (iI (Wo 4))])), ((sa 5), .inr (3, [.int (iI (Wt 5)), .int (iI (Wd 5)), .int (iI (Rg 5)), .int (iI (Ly 5)), .int (iI (Wo 5))]))])) 0 0 := by
  refine g_start2 (lo := [(0, .ref h0), (1, .int (iI k)), (2, .int (iI w))]) (by decide +kernel) rfl rfl (Nat.le_of_ble_eq_true rfl) (fun p e s m args below meth c A C => ?_)
  refine r_iload_n C dX5_mean_0 1 rfl ?_
  refine r_iconst C dX5_mean_1 ?_
  refine r_bipush C dX5_mean_2 (by decide) ?_
  refine g_S_i (ws2 := (fun _ => [(h0, .inr (5, [.ref s1, .int (iI 6), .ref w0, .ref t0, .ref k0, .ref r0, .int (iI gf), .int (iI gs), .ref rp, .int (iI rc), .ref sh1, .int (iI tc), .int (iI ft)])), (s1, .inl (X.2.1.2.1, 8, .inr (.inr (.inr (.inr sf))))), ((sa 0), .inr (3, [.int (iI (Wt 0)), .int (iI (Wd 0)), .int (iI (Rg 0)), .int (iI (Ly 0)), .int (iI (Wo 0))])), ((sa 1), .inr (3, [.int (iI (Wt 1)), .int (iI (Wd 1)), .int (iI (Rg 1)), .int (iI (Ly 1)), .int (iI (Wo 1))])), ((sa 2), .inr (3, [.int (iI (Wt 2)), .int (iI (Wd 2)), .int (iI (Rg 2)), .int (iI (Ly 2)), .int (iI (Wo 2))])), ((sa 3), .inr (3, [.int (iI (Wt 3)), .int (iI (Wd 3)), .int (iI (Rg 3)), .int (iI (Ly 3)), .int (iI (Wo 3))])), ((sa 4), .inr (3, [.int (iI (Wt 4)), .int (iI (Wd 4)), .int (iI (Rg 4)), .int (iI (Ly 4)), .int (iI (Wo 4))])), ((sa 5), .inr (3, [.int (iI (Wt 5)), .int (iI (Wd 5)), .int (iI (Rg 5)), .int (iI (Ly 5)), .int (iI (Wo 5))]))])) (As := [.int (iI k), .int (iI 1), .int (iI 6)]) C (c_X5_within l X k 1 6 (by first | assumption | omega) (by first | assumption | omega) (by first | assumption | omega)) gX5_mean_X5_within rfl rfl rfl hd_S_X5_within_X5_mean (by decide) dX5_mean_4 [] [0, 1, 2, 3, 4, 5, 6, 7] [0, 1, 2, 3, 4, 5, 6, 7] rfl rfl rfl rfl (by decide) rfl rfl rfl (Nat.le_of_ble_eq_true rfl) (by decide) (fun _ => rfl) (fun _ hy_ => ?_)
  clear hy_
  refine r_ite (fun h_1 => ?_) (fun h_1 => ?_)
  · skip
    refine r_if_eq (tgt := 19) C dX5_mean_7 (by decide) (by decide) (fun h_2 => absurd h_2 (by decide)) (fun h_2 => ?_)
    refine r_iload_n C dX5_mean_10 2 rfl ?_
    refine r_iconst C dX5_mean_11 ?_
    refine r_iconst C dX5_mean_12 ?_
    refine g_S_i (ws2 := (fun _ => [(h0, .inr (5, [.ref s1, .int (iI 6), .ref w0, .ref t0, .ref k0, .ref r0, .int (iI gf), .int (iI gs), .ref rp, .int (iI rc), .ref sh1, .int (iI tc), .int (iI ft)])), (s1, .inl (X.2.1.2.1, 8, .inr (.inr (.inr (.inr sf))))), ((sa 0), .inr (3, [.int (iI (Wt 0)), .int (iI (Wd 0)), .int (iI (Rg 0)), .int (iI (Ly 0)), .int (iI (Wo 0))])), ((sa 1), .inr (3, [.int (iI (Wt 1)), .int (iI (Wd 1)), .int (iI (Rg 1)), .int (iI (Ly 1)), .int (iI (Wo 1))])), ((sa 2), .inr (3, [.int (iI (Wt 2)), .int (iI (Wd 2)), .int (iI (Rg 2)), .int (iI (Ly 2)), .int (iI (Wo 2))])), ((sa 3), .inr (3, [.int (iI (Wt 3)), .int (iI (Wd 3)), .int (iI (Rg 3)), .int (iI (Ly 3)), .int (iI (Wo 3))])), ((sa 4), .inr (3, [.int (iI (Wt 4)), .int (iI (Wd 4)), .int (iI (Rg 4)), .int (iI (Ly 4)), .int (iI (Wo 4))])), ((sa 5), .inr (3, [.int (iI (Wt 5)), .int (iI (Wd 5)), .int (iI (Rg 5)), .int (iI (Ly 5)), .int (iI (Wo 5))]))])) (As := [.int (iI w), .int (iI 0), .int (iI 1)]) C (c_X5_within l X w 0 1 (by first | assumption | omega) (by first | assumption | omega) (by first | assumption | omega)) gX5_mean_X5_within rfl rfl rfl hd_S_X5_within_X5_mean (by decide) dX5_mean_13 [] [0, 1, 2, 3, 4, 5, 6, 7] [0, 1, 2, 3, 4, 5, 6, 7] rfl rfl rfl rfl (by decide) rfl rfl rfl (Nat.le_of_ble_eq_true rfl) (by decide) (fun _ => rfl) (fun _ hy_ => ?_)
    clear hy_
    refine r_ite (fun h_3 => ?_) (fun h_3 => ?_)
    · skip
      refine r_if_ne (tgt := 23) C dX5_mean_16 (by decide) (by decide) (fun h_4 => ?_) (fun h_4 => absurd h_4 (by decide))
      refine r_aload_n C dX5_mean_23 0 rfl ?_
      refine r_bipush C dX5_mean_24 (by decide) ?_
      refine g_V_l (ws2 := (fun _ => [(h0, .inr (5, [.ref s1, .int (iI 6), .ref w0, .ref t0, .ref k0, .ref r0, .int (iI gf), .int (iI gs), .ref rp, .int (iI rc), .ref sh1, .int (iI tc), .int (iI ft)])), (s1, .inl (X.2.1.2.1, 8, .inr (.inr (.inr (.inr sf))))), ((sa 0), .inr (3, [.int (iI (Wt 0)), .int (iI (Wd 0)), .int (iI (Rg 0)), .int (iI (Ly 0)), .int (iI (Wo 0))])), ((sa 1), .inr (3, [.int (iI (Wt 1)), .int (iI (Wd 1)), .int (iI (Rg 1)), .int (iI (Ly 1)), .int (iI (Wo 1))])), ((sa 2), .inr (3, [.int (iI (Wt 2)), .int (iI (Wd 2)), .int (iI (Rg 2)), .int (iI (Ly 2)), .int (iI (Wo 2))])), ((sa 3), .inr (3, [.int (iI (Wt 3)), .int (iI (Wd 3)), .int (iI (Rg 3)), .int (iI (Ly 3)), .int (iI (Wo 3))])), ((sa 4), .inr (3, [.int (iI (Wt 4)), .int (iI (Wd 4)), .int (iI (Rg 4)), .int (iI (Ly 4)), .int (iI (Wo 4))])), ((sa 5), .inr (3, [.int (iI (Wt 5)), .int (iI (Wd 5)), .int (iI (Rg 5)), .int (iI (Ly 5)), .int (iI (Wo 5))]))])) (As := [.int (iI 100)]) C (c_X5_lyingBelow_6 l X h0 s1 w0 t0 k0 r0 rp sh1 gf gs rc tc ft sf sa Wt Wd Rg Ly Wo 100 hsf hLy hWo (by first | assumption | omega)) gX5_mean_X5_lyingBelow rfl rfl rfl hd_V_X5_lyingBelow_X5_mean (by decide) dX5_mean_26 [0, 1, 2, 3, 4, 5, 6, 7] [] [0, 1, 2, 3, 4, 5, 6, 7] rfl rfl rfl rfl (by decide) rfl 0 5 rfl rfl rfl rfl (Nat.le_of_ble_eq_true rfl) (by decide) (fun _ => rfl) (fun _ hy_ => ?_)
      have y_5 : 0 ≤ lbL Ly Wo 100 6 ∧ lbL Ly Wo 100 6 ≤ 72 := hy_
      clear hy_
      refine r_lstore_n (lo2 := [(3, .long (lI (lbL Ly Wo 100 6))), (0, .ref h0), (1, .int (iI k)), (2, .int (iI w))]) C dX5_mean_29 rfl (by decide) rfl ?_
      refine r_lload_n C dX5_mean_30 0 rfl ?_
      refine r_lconst (z := 0) C dX5_mean_31 rfl ?_
      refine r_lcmp_ne (tgt := 40) C dX5_mean_32 dX5_mean_33 (by decide) (by omega) (by decide) (fun h_7 => ?_) (fun h_7 => ?_)
      · skip
        have bb := bwV_B (Ly := Ly) (Wo := Wo) (ns := 6) (k := k) (by decide) hLy (by omega) hWo
        have pp := pwI_72 (a := (lbL Ly Wo 100 6)) (k := k) (by omega) (by omega)
        have p1_ : 1 ≤ pwI (lbL Ly Wo 100 6) k := pwI_pos (by omega) _
        refine r_aload_n C dX5_mean_40 1 rfl ?_
        refine r_iload_n C dX5_mean_41 2 rfl ?_
        refine g_V_l (ws2 := (fun _ => [(h0, .inr (5, [.ref s1, .int (iI 6), .ref w0, .ref t0, .ref k0, .ref r0, .int (iI gf), .int (iI gs), .ref rp, .int (iI rc), .ref sh1, .int (iI tc), .int (iI ft)])), (s1, .inl (X.2.1.2.1, 8, .inr (.inr (.inr (.inr sf))))), ((sa 0), .inr (3, [.int (iI (Wt 0)), .int (iI (Wd 0)), .int (iI (Rg 0)), .int (iI (Ly 0)), .int (iI (Wo 0))])), ((sa 1), .inr (3, [.int (iI (Wt 1)), .int (iI (Wd 1)), .int (iI (Rg 1)), .int (iI (Ly 1)), .int (iI (Wo 1))])), ((sa 2), .inr (3, [.int (iI (Wt 2)), .int (iI (Wd 2)), .int (iI (Rg 2)), .int (iI (Ly 2)), .int (iI (Wo 2))])), ((sa 3), .inr (3, [.int (iI (Wt 3)), .int (iI (Wd 3)), .int (iI (Rg 3)), .int (iI (Ly 3)), .int (iI (Wo 3))])), ((sa 4), .inr (3, [.int (iI (Wt 4)), .int (iI (Wd 4)), .int (iI (Rg 4)), .int (iI (Ly 4)), .int (iI (Wo 4))])), ((sa 5), .inr (3, [.int (iI (Wt 5)), .int (iI (Wd 5)), .int (iI (Rg 5)), .int (iI (Ly 5)), .int (iI (Wo 5))]))])) (As := [.int (iI k)]) C (c_X5_bestWorths_6 l X h0 s1 w0 t0 k0 r0 rp sh1 gf gs rc tc ft sf sa Wt Wd Rg Ly Wo k hsf hLy hWo (by first | assumption | omega)) gX5_mean_X5_bestWorths rfl rfl rfl hd_V_X5_bestWorths_X5_mean (by decide) dX5_mean_42 [0, 1, 2, 3, 4, 5, 6, 7] [] [0, 1, 2, 3, 4, 5, 6, 7] rfl rfl rfl rfl (by decide) rfl 0 5 rfl rfl rfl rfl (Nat.le_of_ble_eq_true rfl) (by decide) (fun _ => rfl) (fun _ hy_ => ?_)
        clear hy_
        refine r_lload_n C dX5_mean_45 0 rfl ?_
        refine r_iload_n C dX5_mean_46 2 rfl ?_
        refine g_S_l (ws2 := (fun _ => [(h0, .inr (5, [.ref s1, .int (iI 6), .ref w0, .ref t0, .ref k0, .ref r0, .int (iI gf), .int (iI gs), .ref rp, .int (iI rc), .ref sh1, .int (iI tc), .int (iI ft)])), (s1, .inl (X.2.1.2.1, 8, .inr (.inr (.inr (.inr sf))))), ((sa 0), .inr (3, [.int (iI (Wt 0)), .int (iI (Wd 0)), .int (iI (Rg 0)), .int (iI (Ly 0)), .int (iI (Wo 0))])), ((sa 1), .inr (3, [.int (iI (Wt 1)), .int (iI (Wd 1)), .int (iI (Rg 1)), .int (iI (Ly 1)), .int (iI (Wo 1))])), ((sa 2), .inr (3, [.int (iI (Wt 2)), .int (iI (Wd 2)), .int (iI (Rg 2)), .int (iI (Ly 2)), .int (iI (Wo 2))])), ((sa 3), .inr (3, [.int (iI (Wt 3)), .int (iI (Wd 3)), .int (iI (Rg 3)), .int (iI (Ly 3)), .int (iI (Wo 3))])), ((sa 4), .inr (3, [.int (iI (Wt 4)), .int (iI (Wd 4)), .int (iI (Rg 4)), .int (iI (Ly 4)), .int (iI (Wo 4))])), ((sa 5), .inr (3, [.int (iI (Wt 5)), .int (iI (Wd 5)), .int (iI (Rg 5)), .int (iI (Ly 5)), .int (iI (Wo 5))]))])) (As := [.long (lI (lbL Ly Wo 100 6)), .int (iI k)]) C (c_X5_power l X (lbL Ly Wo 100 6) k (by first | assumption | omega)) gX5_mean_X5_power rfl rfl rfl hd_S_X5_power_X5_mean (by decide) dX5_mean_47 [] [0, 1, 2, 3, 4, 5, 6, 7] [0, 1, 2, 3, 4, 5, 6, 7] rfl rfl rfl rfl (by decide) rfl rfl rfl (Nat.le_of_ble_eq_true rfl) (by decide) (fun _ => rfl) (fun _ hy_ => ?_)
        clear hy_
        refine r_iload_n C dX5_mean_50 3 rfl ?_
        refine g_S_l (ws2 := (fun _ => [(h0, .inr (5, [.ref s1, .int (iI 6), .ref w0, .ref t0, .ref k0, .ref r0, .int (iI gf), .int (iI gs), .ref rp, .int (iI rc), .ref sh1, .int (iI tc), .int (iI ft)])), (s1, .inl (X.2.1.2.1, 8, .inr (.inr (.inr (.inr sf))))), ((sa 0), .inr (3, [.int (iI (Wt 0)), .int (iI (Wd 0)), .int (iI (Rg 0)), .int (iI (Ly 0)), .int (iI (Wo 0))])), ((sa 1), .inr (3, [.int (iI (Wt 1)), .int (iI (Wd 1)), .int (iI (Rg 1)), .int (iI (Ly 1)), .int (iI (Wo 1))])), ((sa 2), .inr (3, [.int (iI (Wt 2)), .int (iI (Wd 2)), .int (iI (Rg 2)), .int (iI (Ly 2)), .int (iI (Wo 2))])), ((sa 3), .inr (3, [.int (iI (Wt 3)), .int (iI (Wd 3)), .int (iI (Rg 3)), .int (iI (Ly 3)), .int (iI (Wo 3))])), ((sa 4), .inr (3, [.int (iI (Wt 4)), .int (iI (Wd 4)), .int (iI (Rg 4)), .int (iI (Ly 4)), .int (iI (Wo 4))])), ((sa 5), .inr (3, [.int (iI (Wt 5)), .int (iI (Wd 5)), .int (iI (Rg 5)), .int (iI (Ly 5)), .int (iI (Wo 5))]))])) (As := [.long (lI (bwV Ly Wo 6 k)), .long (lI (pwI (lbL Ly Wo 100 6) k)), .int (iI w)]) C (c_X5_share l X (bwV Ly Wo 6 k) (pwI (lbL Ly Wo 100 6) k) w (by first | assumption | omega) (by first | assumption | omega) (by first | assumption | omega)) gX5_mean_X5_share rfl rfl rfl hd_S_X5_share_X5_mean (by decide) dX5_mean_51 [] [0, 1, 2, 3, 4, 5, 6, 7] [0, 1, 2, 3, 4, 5, 6, 7] rfl rfl rfl rfl (by decide) rfl rfl rfl (Nat.le_of_ble_eq_true rfl) (by decide) (fun _ => rfl) (fun _ hy_ => ?_)
        clear hy_
        exact g_ret_l C rfl dX5_mean_54 () trivial (by first | (rw [if_pos (by omega)]; done) | (rw [if_neg (by omega)]; done)) [0, 1, 2, 3, 4, 5, 6, 7] rfl (by (repeat' split) <;> first | rfl | omega)
      · skip
        refine r_ldc2 (z := -9223372036854775808) C dX5_mean_36 kw_X5_mean_0 rfl ?_
        exact g_ret_l C rfl dX5_mean_39 () trivial (by first | (rw [if_pos (by omega)]; done) | (rw [if_neg (by omega)]; done)) [0, 1, 2, 3, 4, 5, 6, 7] rfl (by (repeat' split) <;> first | rfl | omega)
    · skip
      refine r_if_ne (tgt := 23) C dX5_mean_16 (by decide) (by decide) (fun h_8 => absurd h_8 (by decide)) (fun h_8 => ?_)
      refine r_ldc2 (z := -9223372036854775808) C dX5_mean_19 kw_X5_mean_0 rfl ?_
      exact g_ret_l C rfl dX5_mean_22 () trivial (by first | (rw [if_pos (by omega)]; done) | (rw [if_neg (by omega)]; done)) [0, 1, 2, 3, 4, 5, 6, 7] rfl (by (repeat' split) <;> first | rfl | omega)
  · skip
    refine r_if_eq (tgt := 19) C dX5_mean_7 (by decide) (by decide) (fun h_9 => ?_) (fun h_9 => absurd h_9 (by decide))
    refine r_ldc2 (z := -9223372036854775808) C dX5_mean_19 kw_X5_mean_0 rfl ?_
    exact g_ret_l C rfl dX5_mean_22 () trivial (by first | (rw [if_pos (by omega)]; done) | (rw [if_neg (by omega)]; done)) [0, 1, 2, 3, 4, 5, 6, 7] rfl (by (repeat' split) <;> first | rfl | omega)

set_option maxHeartbeats 4000000 in
set_option maxRecDepth 100000 in
theorem c_X5_hours_6 (l : Launch) (X : gX) (h0 : Nat) (s1 : Nat) (w0 : Nat) (t0 : Nat) (k0 : Nat) (r0 : Nat) (rp : Nat) (sh1 : Nat) (gf : Int) (gs : Int) (rc : Int) (tc : Int) (ft : Int) (sf : Nat → Option Nat) (sa : Nat → Nat) (Wt : Nat → Int) (Wd : Nat → Int) (Rg : Nat → Int) (Ly : Nat → Int) (Wo : Nat → Int) (cost : Int) (hsf : ∀ j : Nat, j < 6 → sf j = some (sa j)) (hLy : ∀ j : Nat, j < 6 → 0 ≤ Ly j ∧ Ly j ≤ 9) (hWo : ∀ j : Nat, j < 6 → 0 ≤ Wo j ∧ Wo j ≤ 99) (hb_cost : inB cost) : gM l yX5_hours wsX5_hours (gr 3 0 0) X [(h0, .inr (5, [.ref s1, .int (iI 6), .ref w0, .ref t0, .ref k0, .ref r0, .int (iI gf), .int (iI gs), .ref rp, .int (iI rc), .ref sh1, .int (iI tc), .int (iI ft)])), (s1, .inl (X.2.1.2.1, 8, .inr (.inr (.inr (.inr sf))))), ((sa 0), .inr (3, [.int (iI (Wt 0)), .int (iI (Wd 0)), .int (iI (Rg 0)), .int (iI (Ly 0)), .int (iI (Wo 0))])), ((sa 1), .inr (3, [.int (iI (Wt 1)), .int (iI (Wd 1)), .int (iI (Rg 1)), .int (iI (Ly 1)), .int (iI (Wo 1))])), ((sa 2), .inr (3, [.int (iI (Wt 2)), .int (iI (Wd 2)), .int (iI (Rg 2)), .int (iI (Ly 2)), .int (iI (Wo 2))])), ((sa 3), .inr (3, [.int (iI (Wt 3)), .int (iI (Wd 3)), .int (iI (Rg 3)), .int (iI (Ly 3)), .int (iI (Wo 3))])), ((sa 4), .inr (3, [.int (iI (Wt 4)), .int (iI (Wd 4)), .int (iI (Rg 4)), .int (iI (Ly 4)), .int (iI (Wo 4))])), ((sa 5), .inr (3, [.int (iI (Wt 5)), .int (iI (Wd 5)), .int (iI (Rg 5)), .int (iI (Ly 5)), .int (iI (Wo 5))]))] [.ref h0, .int (iI cost)] (gQi X (Y := Unit) (fun _ => True) (fun _ => (if ¬ (0 ≤ cost ∧ cost ≤ 99) then -2 else if (lbL Ly Wo 100 6) = 0 then -3 else (hrV Ly Wo 6 cost).2)) (fun _ => [(h0, .inr (5, [.ref s1, .int (iI 6), .ref w0, .ref t0, .ref k0, .ref r0, .int (iI gf), .int (iI gs), .ref rp, .int (iI rc), .ref sh1, .int (iI tc), .int (iI ft)])), (s1, .inl (X.2.1.2.1, 8, .inr (.inr (.inr (.inr sf))))), ((sa 0), .inr (3, [.int (iI (Wt 0)), .int (iI (Wd 0)), .int (iI (Rg 0)), .int (iI (Ly 0)), .int (iI (Wo 0))])), ((sa 1), .inr (3, [.int (iI (Wt 1)), .int (iI (Wd 1)), .int (iI (Rg 1)), .int (iI (Ly 1)), .int (iI (Wo 1))])), ((sa 2), .inr (3, [.int (iI (Wt 2)), .int (iI (Wd 2)), .int (iI (Rg 2)), .int (iI (Ly 2)), .int (iI (Wo 2))])), ((sa 3), .inr (3, [.int (iI (Wt 3)), .int (iI (Wd 3)), .int (iI (Rg 3)), .int (iI (Ly 3)), .int (iI (Wo 3))])), ((sa 4), .inr (3, [.int (iI (Wt 4)), .int (iI (Wd 4)), .int (iI (Rg 4)), .int (iI (Ly 4)), .int (iI (Wo 4))])), ((sa 5), .inr (3, [.int (iI (Wt 5)), .int (iI (Wd 5)), .int (iI (Rg 5)), .int (iI (Ly 5)), .int (iI (Wo 5))]))])) 0 0 := by
  refine g_start2 (lo := [(0, .ref h0), (1, .int (iI cost))]) (by decide +kernel) rfl rfl (Nat.le_of_ble_eq_true rfl) (fun p e s m args below meth c A C => ?_)
  refine r_iload_n C dX5_hours_0 1 rfl ?_
  refine r_iconst C dX5_hours_1 ?_
  refine r_bipush C dX5_hours_2 (by decide) ?_
  refine g_S_i (ws2 := (fun _ => [(h0, .inr (5, [.ref s1, .int (iI 6), .ref w0, .ref t0, .ref k0, .ref r0, .int (iI gf), .int (iI gs), .ref rp, .int (iI rc), .ref sh1, .int (iI tc), .int (iI ft)])), (s1, .inl (X.2.1.2.1, 8, .inr (.inr (.inr (.inr sf))))), ((sa 0), .inr (3, [.int (iI (Wt 0)), .int (iI (Wd 0)), .int (iI (Rg 0)), .int (iI (Ly 0)), .int (iI (Wo 0))])), ((sa 1), .inr (3, [.int (iI (Wt 1)), .int (iI (Wd 1)), .int (iI (Rg 1)), .int (iI (Ly 1)), .int (iI (Wo 1))])), ((sa 2), .inr (3, [.int (iI (Wt 2)), .int (iI (Wd 2)), .int (iI (Rg 2)), .int (iI (Ly 2)), .int (iI (Wo 2))])), ((sa 3), .inr (3, [.int (iI (Wt 3)), .int (iI (Wd 3)), .int (iI (Rg 3)), .int (iI (Ly 3)), .int (iI (Wo 3))])), ((sa 4), .inr (3, [.int (iI (Wt 4)), .int (iI (Wd 4)), .int (iI (Rg 4)), .int (iI (Ly 4)), .int (iI (Wo 4))])), ((sa 5), .inr (3, [.int (iI (Wt 5)), .int (iI (Wd 5)), .int (iI (Rg 5)), .int (iI (Ly 5)), .int (iI (Wo 5))]))])) (As := [.int (iI cost), .int (iI 0), .int (iI 99)]) C (c_X5_within l X cost 0 99 (by first | assumption | omega) (by first | assumption | omega) (by first | assumption | omega)) gX5_hours_X5_within rfl rfl rfl hd_S_X5_within_X5_hours (by decide) dX5_hours_4 [] [0, 1, 2, 3, 4, 5, 6, 7] [0, 1, 2, 3, 4, 5, 6, 7] rfl rfl rfl rfl (by decide) rfl rfl rfl (Nat.le_of_ble_eq_true rfl) (by decide) (fun _ => rfl) (fun _ hy_ => ?_)
  clear hy_
  refine r_ite (fun h_1 => ?_) (fun h_1 => ?_)
  · skip
    refine r_if_ne (tgt := 13) C dX5_hours_7 (by decide) (by decide) (fun h_2 => ?_) (fun h_2 => absurd h_2 (by decide))
    refine r_aload_n C dX5_hours_13 0 rfl ?_
    refine r_bipush C dX5_hours_14 (by decide) ?_
    refine g_V_l (ws2 := (fun _ => [(h0, .inr (5, [.ref s1, .int (iI 6), .ref w0, .ref t0, .ref k0, .ref r0, .int (iI gf), .int (iI gs), .ref rp, .int (iI rc), .ref sh1, .int (iI tc), .int (iI ft)])), (s1, .inl (X.2.1.2.1, 8, .inr (.inr (.inr (.inr sf))))), ((sa 0), .inr (3, [.int (iI (Wt 0)), .int (iI (Wd 0)), .int (iI (Rg 0)), .int (iI (Ly 0)), .int (iI (Wo 0))])), ((sa 1), .inr (3, [.int (iI (Wt 1)), .int (iI (Wd 1)), .int (iI (Rg 1)), .int (iI (Ly 1)), .int (iI (Wo 1))])), ((sa 2), .inr (3, [.int (iI (Wt 2)), .int (iI (Wd 2)), .int (iI (Rg 2)), .int (iI (Ly 2)), .int (iI (Wo 2))])), ((sa 3), .inr (3, [.int (iI (Wt 3)), .int (iI (Wd 3)), .int (iI (Rg 3)), .int (iI (Ly 3)), .int (iI (Wo 3))])), ((sa 4), .inr (3, [.int (iI (Wt 4)), .int (iI (Wd 4)), .int (iI (Rg 4)), .int (iI (Ly 4)), .int (iI (Wo 4))])), ((sa 5), .inr (3, [.int (iI (Wt 5)), .int (iI (Wd 5)), .int (iI (Rg 5)), .int (iI (Ly 5)), .int (iI (Wo 5))]))])) (As := [.int (iI 100)]) C (c_X5_lyingBelow_6 l X h0 s1 w0 t0 k0 r0 rp sh1 gf gs rc tc ft sf sa Wt Wd Rg Ly Wo 100 hsf hLy hWo (by first | assumption | omega)) gX5_hours_X5_lyingBelow rfl rfl rfl hd_V_X5_lyingBelow_X5_hours (by decide) dX5_hours_16 [0, 1, 2, 3, 4, 5, 6, 7] [] [0, 1, 2, 3, 4, 5, 6, 7] rfl rfl rfl rfl (by decide) rfl 0 5 rfl rfl rfl rfl (Nat.le_of_ble_eq_true rfl) (by decide) (fun _ => rfl) (fun _ hy_ => ?_)
    have y_3 : 0 ≤ lbL Ly Wo 100 6 ∧ lbL Ly Wo 100 6 ≤ 72 := hy_
    clear hy_
    refine r_lstore_n (lo2 := [(2, .long (lI (lbL Ly Wo 100 6))), (0, .ref h0), (1, .int (iI cost))]) C dX5_hours_19 rfl (by decide) rfl ?_
    refine r_lload_n C dX5_hours_20 0 rfl ?_
    refine r_lconst (z := 0) C dX5_hours_21 rfl ?_
    refine r_lcmp_ne (tgt := 29) C dX5_hours_22 dX5_hours_23 (by decide) (by omega) (by decide) (fun h_5 => ?_) (fun h_5 => ?_)
    · skip
      refine r_lload_n C dX5_hours_29 0 rfl ?_
      refine r_bipush C dX5_hours_30 (by decide) ?_
      refine g_S_l (ws2 := (fun _ => [(h0, .inr (5, [.ref s1, .int (iI 6), .ref w0, .ref t0, .ref k0, .ref r0, .int (iI gf), .int (iI gs), .ref rp, .int (iI rc), .ref sh1, .int (iI tc), .int (iI ft)])), (s1, .inl (X.2.1.2.1, 8, .inr (.inr (.inr (.inr sf))))), ((sa 0), .inr (3, [.int (iI (Wt 0)), .int (iI (Wd 0)), .int (iI (Rg 0)), .int (iI (Ly 0)), .int (iI (Wo 0))])), ((sa 1), .inr (3, [.int (iI (Wt 1)), .int (iI (Wd 1)), .int (iI (Rg 1)), .int (iI (Ly 1)), .int (iI (Wo 1))])), ((sa 2), .inr (3, [.int (iI (Wt 2)), .int (iI (Wd 2)), .int (iI (Rg 2)), .int (iI (Ly 2)), .int (iI (Wo 2))])), ((sa 3), .inr (3, [.int (iI (Wt 3)), .int (iI (Wd 3)), .int (iI (Rg 3)), .int (iI (Ly 3)), .int (iI (Wo 3))])), ((sa 4), .inr (3, [.int (iI (Wt 4)), .int (iI (Wd 4)), .int (iI (Rg 4)), .int (iI (Ly 4)), .int (iI (Wo 4))])), ((sa 5), .inr (3, [.int (iI (Wt 5)), .int (iI (Wd 5)), .int (iI (Rg 5)), .int (iI (Ly 5)), .int (iI (Wo 5))]))])) (As := [.long (lI (lbL Ly Wo 100 6)), .int (iI 6)]) C (c_X5_power l X (lbL Ly Wo 100 6) 6 (by first | assumption | omega)) gX5_hours_X5_power rfl rfl rfl hd_S_X5_power_X5_hours (by decide) dX5_hours_32 [] [0, 1, 2, 3, 4, 5, 6, 7] [0, 1, 2, 3, 4, 5, 6, 7] rfl rfl rfl rfl (by decide) rfl rfl rfl (Nat.le_of_ble_eq_true rfl) (by decide) (fun _ => rfl) (fun _ hy_ => ?_)
      clear hy_
      refine r_lstore (lo2 := [(4, .long (lI (pwI (lbL Ly Wo 100 6) 6))), (2, .long (lI (lbL Ly Wo 100 6))), (0, .ref h0), (1, .int (iI cost))]) C dX5_hours_35 (by decide) rfl ?_
      refine r_iconst C dX5_hours_37 ?_
      refine r_istore (lo2 := [(6, .int (iI 1)), (4, .long (lI (pwI (lbL Ly Wo 100 6) 6))), (2, .long (lI (lbL Ly Wo 100 6))), (0, .ref h0), (1, .int (iI cost))]) C dX5_hours_38 (by decide) rfl ?_
      refine r_lconst (z := 0) C dX5_hours_40 rfl ?_
      refine r_lstore (lo2 := [(7, .long (lI 0)), (6, .int (iI 1)), (4, .long (lI (pwI (lbL Ly Wo 100 6) 6))), (2, .long (lI (lbL Ly Wo 100 6))), (0, .ref h0), (1, .int (iI cost))]) C dX5_hours_41 (by decide) rfl ?_
      refine r_iconst C dX5_hours_43 ?_
      refine r_istore (lo2 := [(9, .int (iI 1)), (7, .long (lI 0)), (6, .int (iI 1)), (4, .long (lI (pwI (lbL Ly Wo 100 6) 6))), (2, .long (lI (lbL Ly Wo 100 6))), (0, .ref h0), (1, .int (iI cost))]) C dX5_hours_44 (by decide) rfl ?_
      have L46 : ∀ (fu46 : Nat) (a2 : Int) (a1 : Int) (c1 : Int), (1 ≤ c1 ∧ c1 ≤ 7) → (-100000000000000 ≤ a1 ∧ a1 ≤ 100000000000000) → (hrV Ly Wo 6 cost = gIn (hrF Ly Wo 6 cost) (7 - c1).toNat c1 (a1, a2)) → (7 - c1).toNat < fu46 → gW p l e (gr 3 0 0) s m args below meth c X A 12 (MQ below ((gQi X (Y := Unit) (fun _ => True) (fun _ => (if ¬ (0 ≤ cost ∧ cost ≤ 99) then -2 else if (lbL Ly Wo 100 6) = 0 then -3 else (hrV Ly Wo 6 cost).2)) (fun _ => [(h0, .inr (5, [.ref s1, .int (iI 6), .ref w0, .ref t0, .ref k0, .ref r0, .int (iI gf), .int (iI gs), .ref rp, .int (iI rc), .ref sh1, .int (iI tc), .int (iI ft)])), (s1, .inl (X.2.1.2.1, 8, .inr (.inr (.inr (.inr sf))))), ((sa 0), .inr (3, [.int (iI (Wt 0)), .int (iI (Wd 0)), .int (iI (Rg 0)), .int (iI (Ly 0)), .int (iI (Wo 0))])), ((sa 1), .inr (3, [.int (iI (Wt 1)), .int (iI (Wd 1)), .int (iI (Rg 1)), .int (iI (Ly 1)), .int (iI (Wo 1))])), ((sa 2), .inr (3, [.int (iI (Wt 2)), .int (iI (Wd 2)), .int (iI (Rg 2)), .int (iI (Ly 2)), .int (iI (Wo 2))])), ((sa 3), .inr (3, [.int (iI (Wt 3)), .int (iI (Wd 3)), .int (iI (Rg 3)), .int (iI (Ly 3)), .int (iI (Wo 3))])), ((sa 4), .inr (3, [.int (iI (Wt 4)), .int (iI (Wd 4)), .int (iI (Rg 4)), .int (iI (Ly 4)), .int (iI (Wo 4))])), ((sa 5), .inr (3, [.int (iI (Wt 5)), .int (iI (Wd 5)), .int (iI (Rg 5)), .int (iI (Ly 5)), .int (iI (Wo 5))]))])) A) args s 0 0 A) 0 0 [(h0, .inr (5, [.ref s1, .int (iI 6), .ref w0, .ref t0, .ref k0, .ref r0, .int (iI gf), .int (iI gs), .ref rp, .int (iI rc), .ref sh1, .int (iI tc), .int (iI ft)])), (s1, .inl (X.2.1.2.1, 8, .inr (.inr (.inr (.inr sf))))), ((sa 0), .inr (3, [.int (iI (Wt 0)), .int (iI (Wd 0)), .int (iI (Rg 0)), .int (iI (Ly 0)), .int (iI (Wo 0))])), ((sa 1), .inr (3, [.int (iI (Wt 1)), .int (iI (Wd 1)), .int (iI (Rg 1)), .int (iI (Ly 1)), .int (iI (Wo 1))])), ((sa 2), .inr (3, [.int (iI (Wt 2)), .int (iI (Wd 2)), .int (iI (Rg 2)), .int (iI (Ly 2)), .int (iI (Wo 2))])), ((sa 3), .inr (3, [.int (iI (Wt 3)), .int (iI (Wd 3)), .int (iI (Rg 3)), .int (iI (Ly 3)), .int (iI (Wo 3))])), ((sa 4), .inr (3, [.int (iI (Wt 4)), .int (iI (Wd 4)), .int (iI (Rg 4)), .int (iI (Ly 4)), .int (iI (Wo 4))])), ((sa 5), .inr (3, [.int (iI (Wt 5)), .int (iI (Wd 5)), .int (iI (Rg 5)), .int (iI (Ly 5)), .int (iI (Wo 5))]))] 46 [(4, .long (lI (pwI (lbL Ly Wo 100 6) 6))), (2, .long (lI (lbL Ly Wo 100 6))), (0, .ref h0), (1, .int (iI cost)), (6, .int (iI a2)), (7, .long (lI a1)), (9, .int (iI c1))] [] := by
        intro fu46
        induction fu46 with
        | zero => intro a2 a1 c1 ic ia iL hm46; exact absurd hm46 (Nat.not_lt_zero _)
        | succ fu46 ih46 =>
          intro a2 a1 c1 ic ia iL hm46
          refine r_iload C dX5_hours_46 6 rfl ?_
          refine r_bipush C dX5_hours_48 (by decide) ?_
          refine r_icmp_gt (tgt := 108) C dX5_hours_50 (by decide) (by omega) (by decide) (fun h_6 => ?_) (fun h_6 => ?_)
          · skip
            refine r_iload C dX5_hours_108 4 rfl ?_
            exact g_ret_i C rfl dX5_hours_110 () trivial (by rw [iL, gIn_endW (by omega)]; (repeat' split) <;> first | rfl | omega) [0, 1, 2, 3, 4, 5, 6, 7] rfl (by (repeat' split) <;> first | rfl | omega)
          · skip
            have hB := hr_B (Ly := Ly) (Wo := Wo) (ns := 6) (cost := cost) (n := c1) (by decide) hLy hWo (by omega) (by omega)
            have hm_ := mulB (a := c1) (b := cost) (A := 6) (B := 99) (by omega) (by omega)
            refine r_aload_n C dX5_hours_53 2 rfl ?_
            refine r_iload C dX5_hours_54 6 rfl ?_
            refine g_V_l (ws2 := (fun _ => [(h0, .inr (5, [.ref s1, .int (iI 6), .ref w0, .ref t0, .ref k0, .ref r0, .int (iI gf), .int (iI gs), .ref rp, .int (iI rc), .ref sh1, .int (iI tc), .int (iI ft)])), (s1, .inl (X.2.1.2.1, 8, .inr (.inr (.inr (.inr sf))))), ((sa 0), .inr (3, [.int (iI (Wt 0)), .int (iI (Wd 0)), .int (iI (Rg 0)), .int (iI (Ly 0)), .int (iI (Wo 0))])), ((sa 1), .inr (3, [.int (iI (Wt 1)), .int (iI (Wd 1)), .int (iI (Rg 1)), .int (iI (Ly 1)), .int (iI (Wo 1))])), ((sa 2), .inr (3, [.int (iI (Wt 2)), .int (iI (Wd 2)), .int (iI (Rg 2)), .int (iI (Ly 2)), .int (iI (Wo 2))])), ((sa 3), .inr (3, [.int (iI (Wt 3)), .int (iI (Wd 3)), .int (iI (Rg 3)), .int (iI (Ly 3)), .int (iI (Wo 3))])), ((sa 4), .inr (3, [.int (iI (Wt 4)), .int (iI (Wd 4)), .int (iI (Rg 4)), .int (iI (Ly 4)), .int (iI (Wo 4))])), ((sa 5), .inr (3, [.int (iI (Wt 5)), .int (iI (Wd 5)), .int (iI (Rg 5)), .int (iI (Ly 5)), .int (iI (Wo 5))]))])) (As := [.int (iI c1)]) C (c_X5_bestWorths_6 l X h0 s1 w0 t0 k0 r0 rp sh1 gf gs rc tc ft sf sa Wt Wd Rg Ly Wo c1 hsf hLy hWo (by first | assumption | omega)) gX5_hours_X5_bestWorths rfl rfl rfl hd_V_X5_bestWorths_X5_hours (by decide) dX5_hours_56 [0, 1, 2, 3, 4, 5, 6, 7] [] [0, 1, 2, 3, 4, 5, 6, 7] rfl rfl rfl rfl (by decide) rfl 0 5 rfl rfl rfl rfl (Nat.le_of_ble_eq_true rfl) (by decide) (fun _ => rfl) (fun _ hy_ => ?_)
            clear hy_
            refine r_lload_n C dX5_hours_59 1 rfl ?_
            refine r_bipush C dX5_hours_60 (by decide) ?_
            refine r_iload C dX5_hours_62 6 rfl ?_
            refine r_isub C dX5_hours_64 ?_
            refine g_S_l (ws2 := (fun _ => [(h0, .inr (5, [.ref s1, .int (iI 6), .ref w0, .ref t0, .ref k0, .ref r0, .int (iI gf), .int (iI gs), .ref rp, .int (iI rc), .ref sh1, .int (iI tc), .int (iI ft)])), (s1, .inl (X.2.1.2.1, 8, .inr (.inr (.inr (.inr sf))))), ((sa 0), .inr (3, [.int (iI (Wt 0)), .int (iI (Wd 0)), .int (iI (Rg 0)), .int (iI (Ly 0)), .int (iI (Wo 0))])), ((sa 1), .inr (3, [.int (iI (Wt 1)), .int (iI (Wd 1)), .int (iI (Rg 1)), .int (iI (Ly 1)), .int (iI (Wo 1))])), ((sa 2), .inr (3, [.int (iI (Wt 2)), .int (iI (Wd 2)), .int (iI (Rg 2)), .int (iI (Ly 2)), .int (iI (Wo 2))])), ((sa 3), .inr (3, [.int (iI (Wt 3)), .int (iI (Wd 3)), .int (iI (Rg 3)), .int (iI (Ly 3)), .int (iI (Wo 3))])), ((sa 4), .inr (3, [.int (iI (Wt 4)), .int (iI (Wd 4)), .int (iI (Rg 4)), .int (iI (Ly 4)), .int (iI (Wo 4))])), ((sa 5), .inr (3, [.int (iI (Wt 5)), .int (iI (Wd 5)), .int (iI (Rg 5)), .int (iI (Ly 5)), .int (iI (Wo 5))]))])) (As := [.long (lI (lbL Ly Wo 100 6)), .int (iI (6 - c1))]) C (c_X5_power l X (lbL Ly Wo 100 6) (6 - c1) (by first | assumption | omega)) gX5_hours_X5_power rfl rfl rfl hd_S_X5_power_X5_hours (by decide) dX5_hours_65 [] [0, 1, 2, 3, 4, 5, 6, 7] [0, 1, 2, 3, 4, 5, 6, 7] rfl rfl rfl rfl (by decide) rfl rfl rfl (Nat.le_of_ble_eq_true rfl) (by decide) (fun _ => rfl) (fun _ hy_ => ?_)
            clear hy_
            refine r_lmul C dX5_hours_68 ?_
            refine r_iload C dX5_hours_69 6 rfl ?_
            refine r_iload_n C dX5_hours_71 3 rfl ?_
            refine r_imul C dX5_hours_72 ?_
            refine r_i2l C dX5_hours_73 (by omega) ?_
            refine r_lload C dX5_hours_74 0 rfl ?_
            refine r_lmul C dX5_hours_76 ?_
            refine r_lsub C dX5_hours_77 ?_
            refine r_lstore (lo2 := [(10, .long (lI (((bwV Ly Wo 6 c1) * (pwI (lbL Ly Wo 100 6) (6 - c1))) - ((c1 * cost) * (pwI (lbL Ly Wo 100 6) 6))))), (4, .long (lI (pwI (lbL Ly Wo 100 6) 6))), (2, .long (lI (lbL Ly Wo 100 6))), (0, .ref h0), (1, .int (iI cost)), (6, .int (iI a2)), (7, .long (lI a1)), (9, .int (iI c1))]) C dX5_hours_78 (by decide) rfl ?_
            refine r_iload C dX5_hours_80 7 rfl ?_
            refine r_iconst C dX5_hours_82 ?_
            refine r_icmp_eq (tgt := 94) C dX5_hours_83 (by decide) (by omega) (by decide) (fun h_7 => ?_) (fun h_7 => ?_)
            · skip
              refine r_lload C dX5_hours_94 0 rfl ?_
              refine r_lstore (lo2 := [(7, .long (lI (((bwV Ly Wo 6 c1) * (pwI (lbL Ly Wo 100 6) (6 - c1))) - ((c1 * cost) * (pwI (lbL Ly Wo 100 6) 6))))), (10, .long (lI (((bwV Ly Wo 6 c1) * (pwI (lbL Ly Wo 100 6) (6 - c1))) - ((c1 * cost) * (pwI (lbL Ly Wo 100 6) 6))))), (4, .long (lI (pwI (lbL Ly Wo 100 6) 6))), (2, .long (lI (lbL Ly Wo 100 6))), (0, .ref h0), (1, .int (iI cost)), (6, .int (iI a2)), (9, .int (iI c1))]) C dX5_hours_96 (by decide) rfl ?_
              refine r_iload C dX5_hours_98 7 rfl ?_
              refine r_istore (lo2 := [(6, .int (iI c1)), (7, .long (lI (((bwV Ly Wo 6 c1) * (pwI (lbL Ly Wo 100 6) (6 - c1))) - ((c1 * cost) * (pwI (lbL Ly Wo 100 6) 6))))), (10, .long (lI (((bwV Ly Wo 6 c1) * (pwI (lbL Ly Wo 100 6) (6 - c1))) - ((c1 * cost) * (pwI (lbL Ly Wo 100 6) 6))))), (4, .long (lI (pwI (lbL Ly Wo 100 6) 6))), (2, .long (lI (lbL Ly Wo 100 6))), (0, .ref h0), (1, .int (iI cost)), (9, .int (iI c1))]) C dX5_hours_100 (by decide) rfl ?_
              refine r_iinc (lo2 := [(9, .int (iI (c1 + 1))), (6, .int (iI c1)), (7, .long (lI (((bwV Ly Wo 6 c1) * (pwI (lbL Ly Wo 100 6) (6 - c1))) - ((c1 * cost) * (pwI (lbL Ly Wo 100 6) 6))))), (10, .long (lI (((bwV Ly Wo 6 c1) * (pwI (lbL Ly Wo 100 6) (6 - c1))) - ((c1 * cost) * (pwI (lbL Ly Wo 100 6) 6))))), (4, .long (lI (pwI (lbL Ly Wo 100 6) 6))), (2, .long (lI (lbL Ly Wo 100 6))), (0, .ref h0), (1, .int (iI cost))]) C dX5_hours_102 7 rfl (by decide) rfl ?_
              refine r_goto (tgt := 46) C dX5_hours_105 (by decide) ?_
              refine r_lo [4, 5, 6, 7, 1, 2, 0] (lo2 := [(4, .long (lI (pwI (lbL Ly Wo 100 6) 6))), (2, .long (lI (lbL Ly Wo 100 6))), (0, .ref h0), (1, .int (iI cost)), (6, .int (iI c1)), (7, .long (lI (((bwV Ly Wo 6 c1) * (pwI (lbL Ly Wo 100 6) (6 - c1))) - ((c1 * cost) * (pwI (lbL Ly Wo 100 6) 6))))), (9, .int (iI (c1 + 1)))]) rfl ?_
              exact ih46 c1 (((bwV Ly Wo 6 c1) * (pwI (lbL Ly Wo 100 6) (6 - c1))) - ((c1 * cost) * (pwI (lbL Ly Wo 100 6) 6))) (c1 + 1) (by omega) (by omega) (by rw [iL, gIn_goW (by omega)]; first | (rw [hrF_t (by first | exact Or.inl (by omega) | exact Or.inr (by omega))]; done) | (rw [hrF_f (by intro q; rcases q with q | q <;> first | omega | (dsimp only at q; omega))]; done)) (by omega)
            · skip
              refine r_lload C dX5_hours_86 0 rfl ?_
              refine r_lload C dX5_hours_88 6 rfl ?_
              refine r_lcmp_le (tgt := 102) C dX5_hours_90 dX5_hours_91 (by decide) (by omega) (by omega) (fun h_8 => ?_) (fun h_8 => ?_)
              · skip
                refine r_iinc (lo2 := [(9, .int (iI (c1 + 1))), (10, .long (lI (((bwV Ly Wo 6 c1) * (pwI (lbL Ly Wo 100 6) (6 - c1))) - ((c1 * cost) * (pwI (lbL Ly Wo 100 6) 6))))), (4, .long (lI (pwI (lbL Ly Wo 100 6) 6))), (2, .long (lI (lbL Ly Wo 100 6))), (0, .ref h0), (1, .int (iI cost)), (6, .int (iI a2)), (7, .long (lI a1))]) C dX5_hours_102 7 rfl (by decide) rfl ?_
                refine r_goto (tgt := 46) C dX5_hours_105 (by decide) ?_
                refine r_lo [2, 3, 4, 5, 6, 7, 0] (lo2 := [(4, .long (lI (pwI (lbL Ly Wo 100 6) 6))), (2, .long (lI (lbL Ly Wo 100 6))), (0, .ref h0), (1, .int (iI cost)), (6, .int (iI a2)), (7, .long (lI a1)), (9, .int (iI (c1 + 1)))]) rfl ?_
                exact ih46 a2 a1 (c1 + 1) (by omega) (by omega) (by rw [iL, gIn_goW (by omega)]; first | (rw [hrF_t (by first | exact Or.inl (by omega) | exact Or.inr (by omega))]; done) | (rw [hrF_f (by intro q; rcases q with q | q <;> first | omega | (dsimp only at q; omega))]; done)) (by omega)
              · skip
                refine r_lload C dX5_hours_94 0 rfl ?_
                refine r_lstore (lo2 := [(7, .long (lI (((bwV Ly Wo 6 c1) * (pwI (lbL Ly Wo 100 6) (6 - c1))) - ((c1 * cost) * (pwI (lbL Ly Wo 100 6) 6))))), (10, .long (lI (((bwV Ly Wo 6 c1) * (pwI (lbL Ly Wo 100 6) (6 - c1))) - ((c1 * cost) * (pwI (lbL Ly Wo 100 6) 6))))), (4, .long (lI (pwI (lbL Ly Wo 100 6) 6))), (2, .long (lI (lbL Ly Wo 100 6))), (0, .ref h0), (1, .int (iI cost)), (6, .int (iI a2)), (9, .int (iI c1))]) C dX5_hours_96 (by decide) rfl ?_
                refine r_iload C dX5_hours_98 7 rfl ?_
                refine r_istore (lo2 := [(6, .int (iI c1)), (7, .long (lI (((bwV Ly Wo 6 c1) * (pwI (lbL Ly Wo 100 6) (6 - c1))) - ((c1 * cost) * (pwI (lbL Ly Wo 100 6) 6))))), (10, .long (lI (((bwV Ly Wo 6 c1) * (pwI (lbL Ly Wo 100 6) (6 - c1))) - ((c1 * cost) * (pwI (lbL Ly Wo 100 6) 6))))), (4, .long (lI (pwI (lbL Ly Wo 100 6) 6))), (2, .long (lI (lbL Ly Wo 100 6))), (0, .ref h0), (1, .int (iI cost)), (9, .int (iI c1))]) C dX5_hours_100 (by decide) rfl ?_
                refine r_iinc (lo2 := [(9, .int (iI (c1 + 1))), (6, .int (iI c1)), (7, .long (lI (((bwV Ly Wo 6 c1) * (pwI (lbL Ly Wo 100 6) (6 - c1))) - ((c1 * cost) * (pwI (lbL Ly Wo 100 6) 6))))), (10, .long (lI (((bwV Ly Wo 6 c1) * (pwI (lbL Ly Wo 100 6) (6 - c1))) - ((c1 * cost) * (pwI (lbL Ly Wo 100 6) 6))))), (4, .long (lI (pwI (lbL Ly Wo 100 6) 6))), (2, .long (lI (lbL Ly Wo 100 6))), (0, .ref h0), (1, .int (iI cost))]) C dX5_hours_102 7 rfl (by decide) rfl ?_
                refine r_goto (tgt := 46) C dX5_hours_105 (by decide) ?_
                refine r_lo [4, 5, 6, 7, 1, 2, 0] (lo2 := [(4, .long (lI (pwI (lbL Ly Wo 100 6) 6))), (2, .long (lI (lbL Ly Wo 100 6))), (0, .ref h0), (1, .int (iI cost)), (6, .int (iI c1)), (7, .long (lI (((bwV Ly Wo 6 c1) * (pwI (lbL Ly Wo 100 6) (6 - c1))) - ((c1 * cost) * (pwI (lbL Ly Wo 100 6) 6))))), (9, .int (iI (c1 + 1)))]) rfl ?_
                exact ih46 c1 (((bwV Ly Wo 6 c1) * (pwI (lbL Ly Wo 100 6) (6 - c1))) - ((c1 * cost) * (pwI (lbL Ly Wo 100 6) 6))) (c1 + 1) (by omega) (by omega) (by rw [iL, gIn_goW (by omega)]; first | (rw [hrF_t (by first | exact Or.inl (by omega) | exact Or.inr (by omega))]; done) | (rw [hrF_f (by intro q; rcases q with q | q <;> first | omega | (dsimp only at q; omega))]; done)) (by omega)
      refine r_lo [3, 4, 5, 6, 2, 1, 0] (lo2 := [(4, .long (lI (pwI (lbL Ly Wo 100 6) 6))), (2, .long (lI (lbL Ly Wo 100 6))), (0, .ref h0), (1, .int (iI cost)), (6, .int (iI 1)), (7, .long (lI 0)), (9, .int (iI 1))]) rfl ?_
      exact L46 ((7 - (1 : Int)).toNat + 1) 1 0 1 (by omega) (by omega) rfl (Nat.lt_succ_self _)
    · skip
      refine r_bipush C dX5_hours_26 (by decide) ?_
      exact g_ret_i C rfl dX5_hours_28 () trivial (by (repeat' split) <;> first | rfl | omega) [0, 1, 2, 3, 4, 5, 6, 7] rfl (by (repeat' split) <;> first | rfl | omega)
  · skip
    refine r_if_ne (tgt := 13) C dX5_hours_7 (by decide) (by decide) (fun h_9 => absurd h_9 (by decide)) (fun h_9 => ?_)
    refine r_bipush C dX5_hours_10 (by decide) ?_
    exact g_ret_i C rfl dX5_hours_12 () trivial (by (repeat' split) <;> first | rfl | omega) [0, 1, 2, 3, 4, 5, 6, 7] rfl (by (repeat' split) <;> first | rfl | omega)

set_option maxHeartbeats 4000000 in
set_option maxRecDepth 100000 in
theorem c_X5_lyingBelow_7 (l : Launch) (X : gX) (h0 : Nat) (s1 : Nat) (w0 : Nat) (t0 : Nat) (k0 : Nat) (r0 : Nat) (rp : Nat) (sh1 : Nat) (gf : Int) (gs : Int) (rc : Int) (tc : Int) (ft : Int) (sf : Nat → Option Nat) (sa : Nat → Nat) (Wt : Nat → Int) (Wd : Nat → Int) (Rg : Nat → Int) (Ly : Nat → Int) (Wo : Nat → Int) (w : Int) (hsf : ∀ j : Nat, j < 7 → sf j = some (sa j)) (hLy : ∀ j : Nat, j < 7 → 0 ≤ Ly j ∧ Ly j ≤ 9) (hWo : ∀ j : Nat, j < 7 → 0 ≤ Wo j ∧ Wo j ≤ 99) (hb_w : inB w) : gM l yX5_lyingBelow wsX5_lyingBelow (gr 1 0 0) X [(h0, .inr (5, [.ref s1, .int (iI 7), .ref w0, .ref t0, .ref k0, .ref r0, .int (iI gf), .int (iI gs), .ref rp, .int (iI rc), .ref sh1, .int (iI tc), .int (iI ft)])), (s1, .inl (X.2.1.2.1, 8, .inr (.inr (.inr (.inr sf))))), ((sa 0), .inr (3, [.int (iI (Wt 0)), .int (iI (Wd 0)), .int (iI (Rg 0)), .int (iI (Ly 0)), .int (iI (Wo 0))])), ((sa 1), .inr (3, [.int (iI (Wt 1)), .int (iI (Wd 1)), .int (iI (Rg 1)), .int (iI (Ly 1)), .int (iI (Wo 1))])), ((sa 2), .inr (3, [.int (iI (Wt 2)), .int (iI (Wd 2)), .int (iI (Rg 2)), .int (iI (Ly 2)), .int (iI (Wo 2))])), ((sa 3), .inr (3, [.int (iI (Wt 3)), .int (iI (Wd 3)), .int (iI (Rg 3)), .int (iI (Ly 3)), .int (iI (Wo 3))])), ((sa 4), .inr (3, [.int (iI (Wt 4)), .int (iI (Wd 4)), .int (iI (Rg 4)), .int (iI (Ly 4)), .int (iI (Wo 4))])), ((sa 5), .inr (3, [.int (iI (Wt 5)), .int (iI (Wd 5)), .int (iI (Rg 5)), .int (iI (Ly 5)), .int (iI (Wo 5))])), ((sa 6), .inr (3, [.int (iI (Wt 6)), .int (iI (Wd 6)), .int (iI (Rg 6)), .int (iI (Ly 6)), .int (iI (Wo 6))]))] [.ref h0, .int (iI w)] (gQl X (Y := Unit) (fun _ => (0 ≤ lbL Ly Wo w 7 ∧ lbL Ly Wo w 7 ≤ 72)) (fun _ => (lbL Ly Wo w 7)) (fun _ => [(h0, .inr (5, [.ref s1, .int (iI 7), .ref w0, .ref t0, .ref k0, .ref r0, .int (iI gf), .int (iI gs), .ref rp, .int (iI rc), .ref sh1, .int (iI tc), .int (iI ft)])), (s1, .inl (X.2.1.2.1, 8, .inr (.inr (.inr (.inr sf))))), ((sa 0), .inr (3, [.int (iI (Wt 0)), .int (iI (Wd 0)), .int (iI (Rg 0)), .int (iI (Ly 0)), .int (iI (Wo 0))])), ((sa 1), .inr (3, [.int (iI (Wt 1)), .int (iI (Wd 1)), .int (iI (Rg 1)), .int (iI (Ly 1)), .int (iI (Wo 1))])), ((sa 2), .inr (3, [.int (iI (Wt 2)), .int (iI (Wd 2)), .int (iI (Rg 2)), .int (iI (Ly 2)), .int (iI (Wo 2))])), ((sa 3), .inr (3, [.int (iI (Wt 3)), .int (iI (Wd 3)), .int (iI (Rg 3)), .int (iI (Ly 3)), .int (iI (Wo 3))])), ((sa 4), .inr (3, [.int (iI (Wt 4)), .int (iI (Wd 4)), .int (iI (Rg 4)), .int (iI (Ly 4)), .int (iI (Wo 4))])), ((sa 5), .inr (3, [.int (iI (Wt 5)), .int (iI (Wd 5)), .int (iI (Rg 5)), .int (iI (Ly 5)), .int (iI (Wo 5))])), ((sa 6), .inr (3, [.int (iI (Wt 6)), .int (iI (Wd 6)), .int (iI (Rg 6)), .int (iI (Ly 6)), .int (iI (Wo 6))]))])) 0 0 := by
  refine g_start2 (lo := [(0, .ref h0), (1, .int (iI w))]) (by decide +kernel) rfl rfl (Nat.le_of_ble_eq_true rfl) (fun p e s m args below meth c A C => ?_)
  have hLy0 := hLy 0 (by decide)
  have hWo0 := hWo 0 (by decide)
  have hLy1 := hLy 1 (by decide)
  have hWo1 := hWo 1 (by decide)
  have hLy2 := hLy 2 (by decide)
  have hWo2 := hWo 2 (by decide)
  have hLy3 := hLy 3 (by decide)
  have hWo3 := hWo 3 (by decide)
  have hLy4 := hLy 4 (by decide)
  have hWo4 := hWo 4 (by decide)
  have hLy5 := hLy 5 (by decide)
  have hWo5 := hWo 5 (by decide)
  have hLy6 := hLy 6 (by decide)
  have hWo6 := hWo 6 (by decide)
  refine r_lconst (z := 0) C dX5_lyingBelow_0 rfl ?_
  refine r_lstore_n (lo2 := [(2, .long (lI 0)), (0, .ref h0), (1, .int (iI w))]) C dX5_lyingBelow_1 rfl (by decide) rfl ?_
  refine r_iconst C dX5_lyingBelow_2 ?_
  refine r_istore (lo2 := [(4, .int (iI 0)), (2, .long (lI 0)), (0, .ref h0), (1, .int (iI w))]) C dX5_lyingBelow_3 (by decide) rfl ?_
  have J5_7 : ∀ (mk : Int), (mk = lbL Ly Wo w 7) → gW p l e (gr 1 0 0) s m args below meth c X A 6 (MQ below ((gQl X (Y := Unit) (fun _ => (0 ≤ lbL Ly Wo w 7 ∧ lbL Ly Wo w 7 ≤ 72)) (fun _ => (lbL Ly Wo w 7)) (fun _ => [(h0, .inr (5, [.ref s1, .int (iI 7), .ref w0, .ref t0, .ref k0, .ref r0, .int (iI gf), .int (iI gs), .ref rp, .int (iI rc), .ref sh1, .int (iI tc), .int (iI ft)])), (s1, .inl (X.2.1.2.1, 8, .inr (.inr (.inr (.inr sf))))), ((sa 0), .inr (3, [.int (iI (Wt 0)), .int (iI (Wd 0)), .int (iI (Rg 0)), .int (iI (Ly 0)), .int (iI (Wo 0))])), ((sa 1), .inr (3, [.int (iI (Wt 1)), .int (iI (Wd 1)), .int (iI (Rg 1)), .int (iI (Ly 1)), .int (iI (Wo 1))])), ((sa 2), .inr (3, [.int (iI (Wt 2)), .int (iI (Wd 2)), .int (iI (Rg 2)), .int (iI (Ly 2)), .int (iI (Wo 2))])), ((sa 3), .inr (3, [.int (iI (Wt 3)), .int (iI (Wd 3)), .int (iI (Rg 3)), .int (iI (Ly 3)), .int (iI (Wo 3))])), ((sa 4), .inr (3, [.int (iI (Wt 4)), .int (iI (Wd 4)), .int (iI (Rg 4)), .int (iI (Ly 4)), .int (iI (Wo 4))])), ((sa 5), .inr (3, [.int (iI (Wt 5)), .int (iI (Wd 5)), .int (iI (Rg 5)), .int (iI (Ly 5)), .int (iI (Wo 5))])), ((sa 6), .inr (3, [.int (iI (Wt 6)), .int (iI (Wd 6)), .int (iI (Rg 6)), .int (iI (Ly 6)), .int (iI (Wo 6))]))])) A) args s 0 0 A) 0 0 [(h0, .inr (5, [.ref s1, .int (iI 7), .ref w0, .ref t0, .ref k0, .ref r0, .int (iI gf), .int (iI gs), .ref rp, .int (iI rc), .ref sh1, .int (iI tc), .int (iI ft)])), (s1, .inl (X.2.1.2.1, 8, .inr (.inr (.inr (.inr sf))))), ((sa 0), .inr (3, [.int (iI (Wt 0)), .int (iI (Wd 0)), .int (iI (Rg 0)), .int (iI (Ly 0)), .int (iI (Wo 0))])), ((sa 1), .inr (3, [.int (iI (Wt 1)), .int (iI (Wd 1)), .int (iI (Rg 1)), .int (iI (Ly 1)), .int (iI (Wo 1))])), ((sa 2), .inr (3, [.int (iI (Wt 2)), .int (iI (Wd 2)), .int (iI (Rg 2)), .int (iI (Ly 2)), .int (iI (Wo 2))])), ((sa 3), .inr (3, [.int (iI (Wt 3)), .int (iI (Wd 3)), .int (iI (Rg 3)), .int (iI (Ly 3)), .int (iI (Wo 3))])), ((sa 4), .inr (3, [.int (iI (Wt 4)), .int (iI (Wd 4)), .int (iI (Rg 4)), .int (iI (Ly 4)), .int (iI (Wo 4))])), ((sa 5), .inr (3, [.int (iI (Wt 5)), .int (iI (Wd 5)), .int (iI (Rg 5)), .int (iI (Ly 5)), .int (iI (Wo 5))])), ((sa 6), .inr (3, [.int (iI (Wt 6)), .int (iI (Wd 6)), .int (iI (Rg 6)), .int (iI (Ly 6)), .int (iI (Wo 6))]))] 5 [(0, .ref h0), (1, .int (iI w)), (4, .int (iI 7)), (2, .long (lI mk))] [] := by
    intro mk im
    refine r_iload C dX5_lyingBelow_5 2 rfl ?_
    refine r_aload_n C dX5_lyingBelow_7 0 rfl ?_
    refine gf_5_1 C hi_X5_lyingBelow_5 kw_X5_lyingBelow_0 dX5_lyingBelow_8 0 rfl rfl ?_
    refine r_icmp_ge (tgt := 51) C dX5_lyingBelow_11 (by decide) (by decide) (by decide) (fun h_1 => ?_) (fun h_1 => absurd h_1 (by decide))
    refine r_lload_n C dX5_lyingBelow_51 3 rfl ?_
    exact g_ret_l C rfl dX5_lyingBelow_52 () (by have := lbL_B (Ly := Ly) (Wo := Wo) w 7 hLy; omega) im [0, 1, 2, 3, 4, 5, 6, 7, 8] rfl (by (repeat' split) <;> first | rfl | omega)
  have J5_6 : ∀ (mk : Int), (mk = lbL Ly Wo w 6) → gW p l e (gr 1 0 0) s m args below meth c X A 6 (MQ below ((gQl X (Y := Unit) (fun _ => (0 ≤ lbL Ly Wo w 7 ∧ lbL Ly Wo w 7 ≤ 72)) (fun _ => (lbL Ly Wo w 7)) (fun _ => [(h0, .inr (5, [.ref s1, .int (iI 7), .ref w0, .ref t0, .ref k0, .ref r0, .int (iI gf), .int (iI gs), .ref rp, .int (iI rc), .ref sh1, .int (iI tc), .int (iI ft)])), (s1, .inl (X.2.1.2.1, 8, .inr (.inr (.inr (.inr sf))))), ((sa 0), .inr (3, [.int (iI (Wt 0)), .int (iI (Wd 0)), .int (iI (Rg 0)), .int (iI (Ly 0)), .int (iI (Wo 0))])), ((sa 1), .inr (3, [.int (iI (Wt 1)), .int (iI (Wd 1)), .int (iI (Rg 1)), .int (iI (Ly 1)), .int (iI (Wo 1))])), ((sa 2), .inr (3, [.int (iI (Wt 2)), .int (iI (Wd 2)), .int (iI (Rg 2)), .int (iI (Ly 2)), .int (iI (Wo 2))])), ((sa 3), .inr (3, [.int (iI (Wt 3)), .int (iI (Wd 3)), .int (iI (Rg 3)), .int (iI (Ly 3)), .int (iI (Wo 3))])), ((sa 4), .inr (3, [.int (iI (Wt 4)), .int (iI (Wd 4)), .int (iI (Rg 4)), .int (iI (Ly 4)), .int (iI (Wo 4))])), ((sa 5), .inr (3, [.int (iI (Wt 5)), .int (iI (Wd 5)), .int (iI (Rg 5)), .int (iI (Ly 5)), .int (iI (Wo 5))])), ((sa 6), .inr (3, [.int (iI (Wt 6)), .int (iI (Wd 6)), .int (iI (Rg 6)), .int (iI (Ly 6)), .int (iI (Wo 6))]))])) A) args s 0 0 A) 0 0 [(h0, .inr (5, [.ref s1, .int (iI 7), .ref w0, .ref t0, .ref k0, .ref r0, .int (iI gf), .int (iI gs), .ref rp, .int (iI rc), .ref sh1, .int (iI tc), .int (iI ft)])), (s1, .inl (X.2.1.2.1, 8, .inr (.inr (.inr (.inr sf))))), ((sa 0), .inr (3, [.int (iI (Wt 0)), .int (iI (Wd 0)), .int (iI (Rg 0)), .int (iI (Ly 0)), .int (iI (Wo 0))])), ((sa 1), .inr (3, [.int (iI (Wt 1)), .int (iI (Wd 1)), .int (iI (Rg 1)), .int (iI (Ly 1)), .int (iI (Wo 1))])), ((sa 2), .inr (3, [.int (iI (Wt 2)), .int (iI (Wd 2)), .int (iI (Rg 2)), .int (iI (Ly 2)), .int (iI (Wo 2))])), ((sa 3), .inr (3, [.int (iI (Wt 3)), .int (iI (Wd 3)), .int (iI (Rg 3)), .int (iI (Ly 3)), .int (iI (Wo 3))])), ((sa 4), .inr (3, [.int (iI (Wt 4)), .int (iI (Wd 4)), .int (iI (Rg 4)), .int (iI (Ly 4)), .int (iI (Wo 4))])), ((sa 5), .inr (3, [.int (iI (Wt 5)), .int (iI (Wd 5)), .int (iI (Rg 5)), .int (iI (Ly 5)), .int (iI (Wo 5))])), ((sa 6), .inr (3, [.int (iI (Wt 6)), .int (iI (Wd 6)), .int (iI (Rg 6)), .int (iI (Ly 6)), .int (iI (Wo 6))]))] 5 [(0, .ref h0), (1, .int (iI w)), (4, .int (iI 6)), (2, .long (lI mk))] [] := by
    intro mk im
    refine r_iload C dX5_lyingBelow_5 2 rfl ?_
    refine r_aload_n C dX5_lyingBelow_7 0 rfl ?_
    refine gf_5_1 C hi_X5_lyingBelow_5 kw_X5_lyingBelow_0 dX5_lyingBelow_8 0 rfl rfl ?_
    refine r_icmp_ge (tgt := 51) C dX5_lyingBelow_11 (by decide) (by decide) (by decide) (fun h_2 => absurd h_2 (by decide)) (fun h_2 => ?_)
    refine r_aload_n C dX5_lyingBelow_14 0 rfl ?_
    refine r_iload C dX5_lyingBelow_15 2 rfl ?_
    refine g_V_q (ws2 := (fun _ => [(h0, .inr (5, [.ref s1, .int (iI 7), .ref w0, .ref t0, .ref k0, .ref r0, .int (iI gf), .int (iI gs), .ref rp, .int (iI rc), .ref sh1, .int (iI tc), .int (iI ft)])), (s1, .inl (X.2.1.2.1, 8, .inr (.inr (.inr (.inr sf))))), ((sa 0), .inr (3, [.int (iI (Wt 0)), .int (iI (Wd 0)), .int (iI (Rg 0)), .int (iI (Ly 0)), .int (iI (Wo 0))])), ((sa 1), .inr (3, [.int (iI (Wt 1)), .int (iI (Wd 1)), .int (iI (Rg 1)), .int (iI (Ly 1)), .int (iI (Wo 1))])), ((sa 2), .inr (3, [.int (iI (Wt 2)), .int (iI (Wd 2)), .int (iI (Rg 2)), .int (iI (Ly 2)), .int (iI (Wo 2))])), ((sa 3), .inr (3, [.int (iI (Wt 3)), .int (iI (Wd 3)), .int (iI (Rg 3)), .int (iI (Ly 3)), .int (iI (Wo 3))])), ((sa 4), .inr (3, [.int (iI (Wt 4)), .int (iI (Wd 4)), .int (iI (Rg 4)), .int (iI (Ly 4)), .int (iI (Wo 4))])), ((sa 5), .inr (3, [.int (iI (Wt 5)), .int (iI (Wd 5)), .int (iI (Rg 5)), .int (iI (Ly 5)), .int (iI (Wo 5))])), ((sa 6), .inr (3, [.int (iI (Wt 6)), .int (iI (Wd 6)), .int (iI (Rg 6)), .int (iI (Ly 6)), .int (iI (Wo 6))]))])) (As := [.int (iI 6)]) C (c_X5_stoneAt_in l X h0 s1 w0 t0 k0 r0 rp sh1 7 gf gs rc tc ft sf (sa 6) 6 (by decide) (hsf 6 (by decide))) gX5_lyingBelow_X5_stoneAt rfl rfl rfl hd_V_X5_stoneAt_X5_lyingBelow (by decide) dX5_lyingBelow_17 [0, 1] [2, 3, 4, 5, 6, 7, 8] [7, 8, 0, 1, 2, 3, 4, 5, 6] rfl rfl rfl rfl (by decide) rfl 0 5 rfl rfl rfl rfl (Nat.le_of_ble_eq_true rfl) (by decide) (fun _ => rfl) (fun _ hy_ => ?_)
    clear hy_
    refine r_astore (lo2 := [(5, .ref (sa 6)), (0, .ref h0), (1, .int (iI w)), (4, .int (iI 6)), (2, .long (lI mk))]) C dX5_lyingBelow_20 (by decide) rfl ?_
    refine r_aload C dX5_lyingBelow_22 0 rfl ?_
    refine r_ifnull C dX5_lyingBelow_24 ?_
    refine r_aload C dX5_lyingBelow_27 0 rfl ?_
    refine gf_3_4 C hi_X5_lyingBelow_3 kw_X5_lyingBelow_1 dX5_lyingBelow_29 8 rfl rfl ?_
    refine r_iload_n C dX5_lyingBelow_32 2 rfl ?_
    refine r_icmp_ge (tgt := 45) C dX5_lyingBelow_33 (by decide) (by omega) (by omega) (fun h_3 => ?_) (fun h_3 => ?_)
    · skip
      refine r_iinc (lo2 := [(4, .int (iI 7)), (5, .ref (sa 6)), (0, .ref h0), (1, .int (iI w)), (2, .long (lI mk))]) C dX5_lyingBelow_45 3 rfl (by decide) rfl ?_
      refine r_goto (tgt := 5) C dX5_lyingBelow_48 (by decide) ?_
      refine r_lo [2, 3, 0, 4] (lo2 := [(0, .ref h0), (1, .int (iI w)), (4, .int (iI 7)), (2, .long (lI mk))]) rfl ?_
      exact J5_7 mk (by rw [im]; first | exact (lbL_t 6 (by omega)).symm | exact (lbL_f 6 (by omega)).symm)
    · skip
      refine r_lload_n C dX5_lyingBelow_36 4 rfl ?_
      refine r_aload C dX5_lyingBelow_37 0 rfl ?_
      refine gf_3_3 C hi_X5_lyingBelow_3 kw_X5_lyingBelow_2 dX5_lyingBelow_39 8 rfl rfl ?_
      refine r_i2l C dX5_lyingBelow_42 (by omega) ?_
      refine r_ladd C dX5_lyingBelow_43 ?_
      refine r_lstore_n (lo2 := [(2, .long (lI (mk + (Ly 6)))), (5, .ref (sa 6)), (0, .ref h0), (1, .int (iI w)), (4, .int (iI 6))]) C dX5_lyingBelow_44 rfl (by decide) rfl ?_
      refine r_iinc (lo2 := [(4, .int (iI 7)), (2, .long (lI (mk + (Ly 6)))), (5, .ref (sa 6)), (0, .ref h0), (1, .int (iI w))]) C dX5_lyingBelow_45 4 rfl (by decide) rfl ?_
      refine r_goto (tgt := 5) C dX5_lyingBelow_48 (by decide) ?_
      refine r_lo [3, 4, 0, 1] (lo2 := [(0, .ref h0), (1, .int (iI w)), (4, .int (iI 7)), (2, .long (lI (mk + (Ly 6))))]) rfl ?_
      exact J5_7 (mk + (Ly 6)) (by rw [im]; first | exact (lbL_t 6 (by omega)).symm | exact (lbL_f 6 (by omega)).symm)
  have J5_5 : ∀ (mk : Int), (mk = lbL Ly Wo w 5) → gW p l e (gr 1 0 0) s m args below meth c X A 6 (MQ below ((gQl X (Y := Unit) (fun _ => (0 ≤ lbL Ly Wo w 7 ∧ lbL Ly Wo w 7 ≤ 72)) (fun _ => (lbL Ly Wo w 7)) (fun _ => [(h0, .inr (5, [.ref s1, .int (iI 7), .ref w0, .ref t0, .ref k0, .ref r0, .int (iI gf), .int (iI gs), .ref rp, .int (iI rc), .ref sh1, .int (iI tc), .int (iI ft)])), (s1, .inl (X.2.1.2.1, 8, .inr (.inr (.inr (.inr sf))))), ((sa 0), .inr (3, [.int (iI (Wt 0)), .int (iI (Wd 0)), .int (iI (Rg 0)), .int (iI (Ly 0)), .int (iI (Wo 0))])), ((sa 1), .inr (3, [.int (iI (Wt 1)), .int (iI (Wd 1)), .int (iI (Rg 1)), .int (iI (Ly 1)), .int (iI (Wo 1))])), ((sa 2), .inr (3, [.int (iI (Wt 2)), .int (iI (Wd 2)), .int (iI (Rg 2)), .int (iI (Ly 2)), .int (iI (Wo 2))])), ((sa 3), .inr (3, [.int (iI (Wt 3)), .int (iI (Wd 3)), .int (iI (Rg 3)), .int (iI (Ly 3)), .int (iI (Wo 3))])), ((sa 4), .inr (3, [.int (iI (Wt 4)), .int (iI (Wd 4)), .int (iI (Rg 4)), .int (iI (Ly 4)), .int (iI (Wo 4))])), ((sa 5), .inr (3, [.int (iI (Wt 5)), .int (iI (Wd 5)), .int (iI (Rg 5)), .int (iI (Ly 5)), .int (iI (Wo 5))])), ((sa 6), .inr (3, [.int (iI (Wt 6)), .int (iI (Wd 6)), .int (iI (Rg 6)), .int (iI (Ly 6)), .int (iI (Wo 6))]))])) A) args s 0 0 A) 0 0 [(h0, .inr (5, [.ref s1, .int (iI 7), .ref w0, .ref t0, .ref k0, .ref r0, .int (iI gf), .int (iI gs), .ref rp, .int (iI rc), .ref sh1, .int (iI tc), .int (iI ft)])), (s1, .inl (X.2.1.2.1, 8, .inr (.inr (.inr (.inr sf))))), ((sa 0), .inr (3, [.int (iI (Wt 0)), .int (iI (Wd 0)), .int (iI (Rg 0)), .int (iI (Ly 0)), .int (iI (Wo 0))])), ((sa 1), .inr (3, [.int (iI (Wt 1)), .int (iI (Wd 1)), .int (iI (Rg 1)), .int (iI (Ly 1)), .int (iI (Wo 1))])), ((sa 2), .inr (3, [.int (iI (Wt 2)), .int (iI (Wd 2)), .int (iI (Rg 2)), .int (iI (Ly 2)), .int (iI (Wo 2))])), ((sa 3), .inr (3, [.int (iI (Wt 3)), .int (iI (Wd 3)), .int (iI (Rg 3)), .int (iI (Ly 3)), .int (iI (Wo 3))])), ((sa 4), .inr (3, [.int (iI (Wt 4)), .int (iI (Wd 4)), .int (iI (Rg 4)), .int (iI (Ly 4)), .int (iI (Wo 4))])), ((sa 5), .inr (3, [.int (iI (Wt 5)), .int (iI (Wd 5)), .int (iI (Rg 5)), .int (iI (Ly 5)), .int (iI (Wo 5))])), ((sa 6), .inr (3, [.int (iI (Wt 6)), .int (iI (Wd 6)), .int (iI (Rg 6)), .int (iI (Ly 6)), .int (iI (Wo 6))]))] 5 [(0, .ref h0), (1, .int (iI w)), (4, .int (iI 5)), (2, .long (lI mk))] [] := by
    intro mk im
    refine r_iload C dX5_lyingBelow_5 2 rfl ?_
    refine r_aload_n C dX5_lyingBelow_7 0 rfl ?_
    refine gf_5_1 C hi_X5_lyingBelow_5 kw_X5_lyingBelow_0 dX5_lyingBelow_8 0 rfl rfl ?_
    refine r_icmp_ge (tgt := 51) C dX5_lyingBelow_11 (by decide) (by decide) (by decide) (fun h_4 => absurd h_4 (by decide)) (fun h_4 => ?_)
    refine r_aload_n C dX5_lyingBelow_14 0 rfl ?_
    refine r_iload C dX5_lyingBelow_15 2 rfl ?_
    refine g_V_q (ws2 := (fun _ => [(h0, .inr (5, [.ref s1, .int (iI 7), .ref w0, .ref t0, .ref k0, .ref r0, .int (iI gf), .int (iI gs), .ref rp, .int (iI rc), .ref sh1, .int (iI tc), .int (iI ft)])), (s1, .inl (X.2.1.2.1, 8, .inr (.inr (.inr (.inr sf))))), ((sa 0), .inr (3, [.int (iI (Wt 0)), .int (iI (Wd 0)), .int (iI (Rg 0)), .int (iI (Ly 0)), .int (iI (Wo 0))])), ((sa 1), .inr (3, [.int (iI (Wt 1)), .int (iI (Wd 1)), .int (iI (Rg 1)), .int (iI (Ly 1)), .int (iI (Wo 1))])), ((sa 2), .inr (3, [.int (iI (Wt 2)), .int (iI (Wd 2)), .int (iI (Rg 2)), .int (iI (Ly 2)), .int (iI (Wo 2))])), ((sa 3), .inr (3, [.int (iI (Wt 3)), .int (iI (Wd 3)), .int (iI (Rg 3)), .int (iI (Ly 3)), .int (iI (Wo 3))])), ((sa 4), .inr (3, [.int (iI (Wt 4)), .int (iI (Wd 4)), .int (iI (Rg 4)), .int (iI (Ly 4)), .int (iI (Wo 4))])), ((sa 5), .inr (3, [.int (iI (Wt 5)), .int (iI (Wd 5)), .int (iI (Rg 5)), .int (iI (Ly 5)), .int (iI (Wo 5))])), ((sa 6), .inr (3, [.int (iI (Wt 6)), .int (iI (Wd 6)), .int (iI (Rg 6)), .int (iI (Ly 6)), .int (iI (Wo 6))]))])) (As := [.int (iI 5)]) C (c_X5_stoneAt_in l X h0 s1 w0 t0 k0 r0 rp sh1 7 gf gs rc tc ft sf (sa 5) 5 (by decide) (hsf 5 (by decide))) gX5_lyingBelow_X5_stoneAt rfl rfl rfl hd_V_X5_stoneAt_X5_lyingBelow (by decide) dX5_lyingBelow_17 [0, 1] [2, 3, 4, 5, 6, 7, 8] [7, 8, 0, 1, 2, 3, 4, 5, 6] rfl rfl rfl rfl (by decide) rfl 0 5 rfl rfl rfl rfl (Nat.le_of_ble_eq_true rfl) (by decide) (fun _ => rfl) (fun _ hy_ => ?_)
    clear hy_
    refine r_astore (lo2 := [(5, .ref (sa 5)), (0, .ref h0), (1, .int (iI w)), (4, .int (iI 5)), (2, .long (lI mk))]) C dX5_lyingBelow_20 (by decide) rfl ?_
    refine r_aload C dX5_lyingBelow_22 0 rfl ?_
    refine r_ifnull C dX5_lyingBelow_24 ?_
    refine r_aload C dX5_lyingBelow_27 0 rfl ?_
    refine gf_3_4 C hi_X5_lyingBelow_3 kw_X5_lyingBelow_1 dX5_lyingBelow_29 7 rfl rfl ?_
    refine r_iload_n C dX5_lyingBelow_32 2 rfl ?_
    refine r_icmp_ge (tgt := 45) C dX5_lyingBelow_33 (by decide) (by omega) (by omega) (fun h_5 => ?_) (fun h_5 => ?_)
    · skip
      refine r_iinc (lo2 := [(4, .int (iI 6)), (5, .ref (sa 5)), (0, .ref h0), (1, .int (iI w)), (2, .long (lI mk))]) C dX5_lyingBelow_45 3 rfl (by decide) rfl ?_
      refine r_goto (tgt := 5) C dX5_lyingBelow_48 (by decide) ?_
      refine r_lo [2, 3, 0, 4] (lo2 := [(0, .ref h0), (1, .int (iI w)), (4, .int (iI 6)), (2, .long (lI mk))]) rfl ?_
      exact J5_6 mk (by rw [im]; first | exact (lbL_t 5 (by omega)).symm | exact (lbL_f 5 (by omega)).symm)
    · skip
      refine r_lload_n C dX5_lyingBelow_36 4 rfl ?_
      refine r_aload C dX5_lyingBelow_37 0 rfl ?_
      refine gf_3_3 C hi_X5_lyingBelow_3 kw_X5_lyingBelow_2 dX5_lyingBelow_39 7 rfl rfl ?_
      refine r_i2l C dX5_lyingBelow_42 (by omega) ?_
      refine r_ladd C dX5_lyingBelow_43 ?_
      refine r_lstore_n (lo2 := [(2, .long (lI (mk + (Ly 5)))), (5, .ref (sa 5)), (0, .ref h0), (1, .int (iI w)), (4, .int (iI 5))]) C dX5_lyingBelow_44 rfl (by decide) rfl ?_
      refine r_iinc (lo2 := [(4, .int (iI 6)), (2, .long (lI (mk + (Ly 5)))), (5, .ref (sa 5)), (0, .ref h0), (1, .int (iI w))]) C dX5_lyingBelow_45 4 rfl (by decide) rfl ?_
      refine r_goto (tgt := 5) C dX5_lyingBelow_48 (by decide) ?_
      refine r_lo [3, 4, 0, 1] (lo2 := [(0, .ref h0), (1, .int (iI w)), (4, .int (iI 6)), (2, .long (lI (mk + (Ly 5))))]) rfl ?_
      exact J5_6 (mk + (Ly 5)) (by rw [im]; first | exact (lbL_t 5 (by omega)).symm | exact (lbL_f 5 (by omega)).symm)
  have J5_4 : ∀ (mk : Int), (mk = lbL Ly Wo w 4) → gW p l e (gr 1 0 0) s m args below meth c X A 6 (MQ below ((gQl X (Y := Unit) (fun _ => (0 ≤ lbL Ly Wo w 7 ∧ lbL Ly Wo w 7 ≤ 72)) (fun _ => (lbL Ly Wo w 7)) (fun _ => [(h0, .inr (5, [.ref s1, .int (iI 7), .ref w0, .ref t0, .ref k0, .ref r0, .int (iI gf), .int (iI gs), .ref rp, .int (iI rc), .ref sh1, .int (iI tc), .int (iI ft)])), (s1, .inl (X.2.1.2.1, 8, .inr (.inr (.inr (.inr sf))))), ((sa 0), .inr (3, [.int (iI (Wt 0)), .int (iI (Wd 0)), .int (iI (Rg 0)), .int (iI (Ly 0)), .int (iI (Wo 0))])), ((sa 1), .inr (3, [.int (iI (Wt 1)), .int (iI (Wd 1)), .int (iI (Rg 1)), .int (iI (Ly 1)), .int (iI (Wo 1))])), ((sa 2), .inr (3, [.int (iI (Wt 2)), .int (iI (Wd 2)), .int (iI (Rg 2)), .int (iI (Ly 2)), .int (iI (Wo 2))])), ((sa 3), .inr (3, [.int (iI (Wt 3)), .int (iI (Wd 3)), .int (iI (Rg 3)), .int (iI (Ly 3)), .int (iI (Wo 3))])), ((sa 4), .inr (3, [.int (iI (Wt 4)), .int (iI (Wd 4)), .int (iI (Rg 4)), .int (iI (Ly 4)), .int (iI (Wo 4))])), ((sa 5), .inr (3, [.int (iI (Wt 5)), .int (iI (Wd 5)), .int (iI (Rg 5)), .int (iI (Ly 5)), .int (iI (Wo 5))])), ((sa 6), .inr (3, [.int (iI (Wt 6)), .int (iI (Wd 6)), .int (iI (Rg 6)), .int (iI (Ly 6)), .int (iI (Wo 6))]))])) A) args s 0 0 A) 0 0 [(h0, .inr (5, [.ref s1, .int (iI 7), .ref w0, .ref t0, .ref k0, .ref r0, .int (iI gf), .int (iI gs), .ref rp, .int (iI rc), .ref sh1, .int (iI tc), .int (iI ft)])), (s1, .inl (X.2.1.2.1, 8, .inr (.inr (.inr (.inr sf))))), ((sa 0), .inr (3, [.int (iI (Wt 0)), .int (iI (Wd 0)), .int (iI (Rg 0)), .int (iI (Ly 0)), .int (iI (Wo 0))])), ((sa 1), .inr (3, [.int (iI (Wt 1)), .int (iI (Wd 1)), .int (iI (Rg 1)), .int (iI (Ly 1)), .int (iI (Wo 1))])), ((sa 2), .inr (3, [.int (iI (Wt 2)), .int (iI (Wd 2)), .int (iI (Rg 2)), .int (iI (Ly 2)), .int (iI (Wo 2))])), ((sa 3), .inr (3, [.int (iI (Wt 3)), .int (iI (Wd 3)), .int (iI (Rg 3)), .int (iI (Ly 3)), .int (iI (Wo 3))])), ((sa 4), .inr (3, [.int (iI (Wt 4)), .int (iI (Wd 4)), .int (iI (Rg 4)), .int (iI (Ly 4)), .int (iI (Wo 4))])), ((sa 5), .inr (3, [.int (iI (Wt 5)), .int (iI (Wd 5)), .int (iI (Rg 5)), .int (iI (Ly 5)), .int (iI (Wo 5))])), ((sa 6), .inr (3, [.int (iI (Wt 6)), .int (iI (Wd 6)), .int (iI (Rg 6)), .int (iI (Ly 6)), .int (iI (Wo 6))]))] 5 [(0, .ref h0), (1, .int (iI w)), (4, .int (iI 4)), (2, .long (lI mk))] [] := by
    intro mk im
    refine r_iload C dX5_lyingBelow_5 2 rfl ?_
    refine r_aload_n C dX5_lyingBelow_7 0 rfl ?_
    refine gf_5_1 C hi_X5_lyingBelow_5 kw_X5_lyingBelow_0 dX5_lyingBelow_8 0 rfl rfl ?_
    refine r_icmp_ge (tgt := 51) C dX5_lyingBelow_11 (by decide) (by decide) (by decide) (fun h_6 => absurd h_6 (by decide)) (fun h_6 => ?_)
    refine r_aload_n C dX5_lyingBelow_14 0 rfl ?_
    refine r_iload C dX5_lyingBelow_15 2 rfl ?_
    refine g_V_q (ws2 := (fun _ => [(h0, .inr (5, [.ref s1, .int (iI 7), .ref w0, .ref t0, .ref k0, .ref r0, .int (iI gf), .int (iI gs), .ref rp, .int (iI rc), .ref sh1, .int (iI tc), .int (iI ft)])), (s1, .inl (X.2.1.2.1, 8, .inr (.inr (.inr (.inr sf))))), ((sa 0), .inr (3, [.int (iI (Wt 0)), .int (iI (Wd 0)), .int (iI (Rg 0)), .int (iI (Ly 0)), .int (iI (Wo 0))])), ((sa 1), .inr (3, [.int (iI (Wt 1)), .int (iI (Wd 1)), .int (iI (Rg 1)), .int (iI (Ly 1)), .int (iI (Wo 1))])), ((sa 2), .inr (3, [.int (iI (Wt 2)), .int (iI (Wd 2)), .int (iI (Rg 2)), .int (iI (Ly 2)), .int (iI (Wo 2))])), ((sa 3), .inr (3, [.int (iI (Wt 3)), .int (iI (Wd 3)), .int (iI (Rg 3)), .int (iI (Ly 3)), .int (iI (Wo 3))])), ((sa 4), .inr (3, [.int (iI (Wt 4)), .int (iI (Wd 4)), .int (iI (Rg 4)), .int (iI (Ly 4)), .int (iI (Wo 4))])), ((sa 5), .inr (3, [.int (iI (Wt 5)), .int (iI (Wd 5)), .int (iI (Rg 5)), .int (iI (Ly 5)), .int (iI (Wo 5))])), ((sa 6), .inr (3, [.int (iI (Wt 6)), .int (iI (Wd 6)), .int (iI (Rg 6)), .int (iI (Ly 6)), .int (iI (Wo 6))]))])) (As := [.int (iI 4)]) C (c_X5_stoneAt_in l X h0 s1 w0 t0 k0 r0 rp sh1 7 gf gs rc tc ft sf (sa 4) 4 (by decide) (hsf 4 (by decide))) gX5_lyingBelow_X5_stoneAt rfl rfl rfl hd_V_X5_stoneAt_X5_lyingBelow (by decide) dX5_lyingBelow_17 [0, 1] [2, 3, 4, 5, 6, 7, 8] [7, 8, 0, 1, 2, 3, 4, 5, 6] rfl rfl rfl rfl (by decide) rfl 0 5 rfl rfl rfl rfl (Nat.le_of_ble_eq_true rfl) (by decide) (fun _ => rfl) (fun _ hy_ => ?_)
    clear hy_
    refine r_astore (lo2 := [(5, .ref (sa 4)), (0, .ref h0), (1, .int (iI w)), (4, .int (iI 4)), (2, .long (lI mk))]) C dX5_lyingBelow_20 (by decide) rfl ?_
    refine r_aload C dX5_lyingBelow_22 0 rfl ?_
    refine r_ifnull C dX5_lyingBelow_24 ?_
    refine r_aload C dX5_lyingBelow_27 0 rfl ?_
    refine gf_3_4 C hi_X5_lyingBelow_3 kw_X5_lyingBelow_1 dX5_lyingBelow_29 6 rfl rfl ?_
    refine r_iload_n C dX5_lyingBelow_32 2 rfl ?_
    refine r_icmp_ge (tgt := 45) C dX5_lyingBelow_33 (by decide) (by omega) (by omega) (fun h_7 => ?_) (fun h_7 => ?_)
    · skip
      refine r_iinc (lo2 := [(4, .int (iI 5)), (5, .ref (sa 4)), (0, .ref h0), (1, .int (iI w)), (2, .long (lI mk))]) C dX5_lyingBelow_45 3 rfl (by decide) rfl ?_
      refine r_goto (tgt := 5) C dX5_lyingBelow_48 (by decide) ?_
      refine r_lo [2, 3, 0, 4] (lo2 := [(0, .ref h0), (1, .int (iI w)), (4, .int (iI 5)), (2, .long (lI mk))]) rfl ?_
      exact J5_5 mk (by rw [im]; first | exact (lbL_t 4 (by omega)).symm | exact (lbL_f 4 (by omega)).symm)
    · skip
      refine r_lload_n C dX5_lyingBelow_36 4 rfl ?_
      refine r_aload C dX5_lyingBelow_37 0 rfl ?_
      refine gf_3_3 C hi_X5_lyingBelow_3 kw_X5_lyingBelow_2 dX5_lyingBelow_39 6 rfl rfl ?_
      refine r_i2l C dX5_lyingBelow_42 (by omega) ?_
      refine r_ladd C dX5_lyingBelow_43 ?_
      refine r_lstore_n (lo2 := [(2, .long (lI (mk + (Ly 4)))), (5, .ref (sa 4)), (0, .ref h0), (1, .int (iI w)), (4, .int (iI 4))]) C dX5_lyingBelow_44 rfl (by decide) rfl ?_
      refine r_iinc (lo2 := [(4, .int (iI 5)), (2, .long (lI (mk + (Ly 4)))), (5, .ref (sa 4)), (0, .ref h0), (1, .int (iI w))]) C dX5_lyingBelow_45 4 rfl (by decide) rfl ?_
      refine r_goto (tgt := 5) C dX5_lyingBelow_48 (by decide) ?_
      refine r_lo [3, 4, 0, 1] (lo2 := [(0, .ref h0), (1, .int (iI w)), (4, .int (iI 5)), (2, .long (lI (mk + (Ly 4))))]) rfl ?_
      exact J5_5 (mk + (Ly 4)) (by rw [im]; first | exact (lbL_t 4 (by omega)).symm | exact (lbL_f 4 (by omega)).symm)
  have J5_3 : ∀ (mk : Int), (mk = lbL Ly Wo w 3) → gW p l e (gr 1 0 0) s m args below meth c X A 6 (MQ below ((gQl X (Y := Unit) (fun _ => (0 ≤ lbL Ly Wo w 7 ∧ lbL Ly Wo w 7 ≤ 72)) (fun _ => (lbL Ly Wo w 7)) (fun _ => [(h0, .inr (5, [.ref s1, .int (iI 7), .ref w0, .ref t0, .ref k0, .ref r0, .int (iI gf), .int (iI gs), .ref rp, .int (iI rc), .ref sh1, .int (iI tc), .int (iI ft)])), (s1, .inl (X.2.1.2.1, 8, .inr (.inr (.inr (.inr sf))))), ((sa 0), .inr (3, [.int (iI (Wt 0)), .int (iI (Wd 0)), .int (iI (Rg 0)), .int (iI (Ly 0)), .int (iI (Wo 0))])), ((sa 1), .inr (3, [.int (iI (Wt 1)), .int (iI (Wd 1)), .int (iI (Rg 1)), .int (iI (Ly 1)), .int (iI (Wo 1))])), ((sa 2), .inr (3, [.int (iI (Wt 2)), .int (iI (Wd 2)), .int (iI (Rg 2)), .int (iI (Ly 2)), .int (iI (Wo 2))])), ((sa 3), .inr (3, [.int (iI (Wt 3)), .int (iI (Wd 3)), .int (iI (Rg 3)), .int (iI (Ly 3)), .int (iI (Wo 3))])), ((sa 4), .inr (3, [.int (iI (Wt 4)), .int (iI (Wd 4)), .int (iI (Rg 4)), .int (iI (Ly 4)), .int (iI (Wo 4))])), ((sa 5), .inr (3, [.int (iI (Wt 5)), .int (iI (Wd 5)), .int (iI (Rg 5)), .int (iI (Ly 5)), .int (iI (Wo 5))])), ((sa 6), .inr (3, [.int (iI (Wt 6)), .int (iI (Wd 6)), .int (iI (Rg 6)), .int (iI (Ly 6)), .int (iI (Wo 6))]))])) A) args s 0 0 A) 0 0 [(h0, .inr (5, [.ref s1, .int (iI 7), .ref w0, .ref t0, .ref k0, .ref r0, .int (iI gf), .int (iI gs), .ref rp, .int (iI rc), .ref sh1, .int (iI tc), .int (iI ft)])), (s1, .inl (X.2.1.2.1, 8, .inr (.inr (.inr (.inr sf))))), ((sa 0), .inr (3, [.int (iI (Wt 0)), .int (iI (Wd 0)), .int (iI (Rg 0)), .int (iI (Ly 0)), .int (iI (Wo 0))])), ((sa 1), .inr (3, [.int (iI (Wt 1)), .int (iI (Wd 1)), .int (iI (Rg 1)), .int (iI (Ly 1)), .int (iI (Wo 1))])), ((sa 2), .inr (3, [.int (iI (Wt 2)), .int (iI (Wd 2)), .int (iI (Rg 2)), .int (iI (Ly 2)), .int (iI (Wo 2))])), ((sa 3), .inr (3, [.int (iI (Wt 3)), .int (iI (Wd 3)), .int (iI (Rg 3)), .int (iI (Ly 3)), .int (iI (Wo 3))])), ((sa 4), .inr (3, [.int (iI (Wt 4)), .int (iI (Wd 4)), .int (iI (Rg 4)), .int (iI (Ly 4)), .int (iI (Wo 4))])), ((sa 5), .inr (3, [.int (iI (Wt 5)), .int (iI (Wd 5)), .int (iI (Rg 5)), .int (iI (Ly 5)), .int (iI (Wo 5))])), ((sa 6), .inr (3, [.int (iI (Wt 6)), .int (iI (Wd 6)), .int (iI (Rg 6)), .int (iI (Ly 6)), .int (iI (Wo 6))]))] 5 [(0, .ref h0), (1, .int (iI w)), (4, .int (iI 3)), (2, .long (lI mk))] [] := by
    intro mk im
    refine r_iload C dX5_lyingBelow_5 2 rfl ?_
    refine r_aload_n C dX5_lyingBelow_7 0 rfl ?_
    refine gf_5_1 C hi_X5_lyingBelow_5 kw_X5_lyingBelow_0 dX5_lyingBelow_8 0 rfl rfl ?_
    refine r_icmp_ge (tgt := 51) C dX5_lyingBelow_11 (by decide) (by decide) (by decide) (fun h_8 => absurd h_8 (by decide)) (fun h_8 => ?_)
    refine r_aload_n C dX5_lyingBelow_14 0 rfl ?_
    refine r_iload C dX5_lyingBelow_15 2 rfl ?_
    refine g_V_q (ws2 := (fun _ => [(h0, .inr (5, [.ref s1, .int (iI 7), .ref w0, .ref t0, .ref k0, .ref r0, .int (iI gf), .int (iI gs), .ref rp, .int (iI rc), .ref sh1, .int (iI tc), .int (iI ft)])), (s1, .inl (X.2.1.2.1, 8, .inr (.inr (.inr (.inr sf))))), ((sa 0), .inr (3, [.int (iI (Wt 0)), .int (iI (Wd 0)), .int (iI (Rg 0)), .int (iI (Ly 0)), .int (iI (Wo 0))])), ((sa 1), .inr (3, [.int (iI (Wt 1)), .int (iI (Wd 1)), .int (iI (Rg 1)), .int (iI (Ly 1)), .int (iI (Wo 1))])), ((sa 2), .inr (3, [.int (iI (Wt 2)), .int (iI (Wd 2)), .int (iI (Rg 2)), .int (iI (Ly 2)), .int (iI (Wo 2))])), ((sa 3), .inr (3, [.int (iI (Wt 3)), .int (iI (Wd 3)), .int (iI (Rg 3)), .int (iI (Ly 3)), .int (iI (Wo 3))])), ((sa 4), .inr (3, [.int (iI (Wt 4)), .int (iI (Wd 4)), .int (iI (Rg 4)), .int (iI (Ly 4)), .int (iI (Wo 4))])), ((sa 5), .inr (3, [.int (iI (Wt 5)), .int (iI (Wd 5)), .int (iI (Rg 5)), .int (iI (Ly 5)), .int (iI (Wo 5))])), ((sa 6), .inr (3, [.int (iI (Wt 6)), .int (iI (Wd 6)), .int (iI (Rg 6)), .int (iI (Ly 6)), .int (iI (Wo 6))]))])) (As := [.int (iI 3)]) C (c_X5_stoneAt_in l X h0 s1 w0 t0 k0 r0 rp sh1 7 gf gs rc tc ft sf (sa 3) 3 (by decide) (hsf 3 (by decide))) gX5_lyingBelow_X5_stoneAt rfl rfl rfl hd_V_X5_stoneAt_X5_lyingBelow (by decide) dX5_lyingBelow_17 [0, 1] [2, 3, 4, 5, 6, 7, 8] [7, 8, 0, 1, 2, 3, 4, 5, 6] rfl rfl rfl rfl (by decide) rfl 0 5 rfl rfl rfl rfl (Nat.le_of_ble_eq_true rfl) (by decide) (fun _ => rfl) (fun _ hy_ => ?_)
    clear hy_
    refine r_astore (lo2 := [(5, .ref (sa 3)), (0, .ref h0), (1, .int (iI w)), (4, .int (iI 3)), (2, .long (lI mk))]) C dX5_lyingBelow_20 (by decide) rfl ?_
    refine r_aload C dX5_lyingBelow_22 0 rfl ?_
    refine r_ifnull C dX5_lyingBelow_24 ?_
    refine r_aload C dX5_lyingBelow_27 0 rfl ?_
    refine gf_3_4 C hi_X5_lyingBelow_3 kw_X5_lyingBelow_1 dX5_lyingBelow_29 5 rfl rfl ?_
    refine r_iload_n C dX5_lyingBelow_32 2 rfl ?_
    refine r_icmp_ge (tgt := 45) C dX5_lyingBelow_33 (by decide) (by omega) (by omega) (fun h_9 => ?_) (fun h_9 => ?_)
    · skip
      refine r_iinc (lo2 := [(4, .int (iI 4)), (5, .ref (sa 3)), (0, .ref h0), (1, .int (iI w)), (2, .long (lI mk))]) C dX5_lyingBelow_45 3 rfl (by decide) rfl ?_
      refine r_goto (tgt := 5) C dX5_lyingBelow_48 (by decide) ?_
      refine r_lo [2, 3, 0, 4] (lo2 := [(0, .ref h0), (1, .int (iI w)), (4, .int (iI 4)), (2, .long (lI mk))]) rfl ?_
      exact J5_4 mk (by rw [im]; first | exact (lbL_t 3 (by omega)).symm | exact (lbL_f 3 (by omega)).symm)
    · skip
      refine r_lload_n C dX5_lyingBelow_36 4 rfl ?_
      refine r_aload C dX5_lyingBelow_37 0 rfl ?_
      refine gf_3_3 C hi_X5_lyingBelow_3 kw_X5_lyingBelow_2 dX5_lyingBelow_39 5 rfl rfl ?_
      refine r_i2l C dX5_lyingBelow_42 (by omega) ?_
      refine r_ladd C dX5_lyingBelow_43 ?_
      refine r_lstore_n (lo2 := [(2, .long (lI (mk + (Ly 3)))), (5, .ref (sa 3)), (0, .ref h0), (1, .int (iI w)), (4, .int (iI 3))]) C dX5_lyingBelow_44 rfl (by decide) rfl ?_
      refine r_iinc (lo2 := [(4, .int (iI 4)), (2, .long (lI (mk + (Ly 3)))), (5, .ref (sa 3)), (0, .ref h0), (1, .int (iI w))]) C dX5_lyingBelow_45 4 rfl (by decide) rfl ?_
      refine r_goto (tgt := 5) C dX5_lyingBelow_48 (by decide) ?_
      refine r_lo [3, 4, 0, 1] (lo2 := [(0, .ref h0), (1, .int (iI w)), (4, .int (iI 4)), (2, .long (lI (mk + (Ly 3))))]) rfl ?_
      exact J5_4 (mk + (Ly 3)) (by rw [im]; first | exact (lbL_t 3 (by omega)).symm | exact (lbL_f 3 (by omega)).symm)
  have J5_2 : ∀ (mk : Int), (mk = lbL Ly Wo w 2) → gW p l e (gr 1 0 0) s m args below meth c X A 6 (MQ below ((gQl X (Y := Unit) (fun _ => (0 ≤ lbL Ly Wo w 7 ∧ lbL Ly Wo w 7 ≤ 72)) (fun _ => (lbL Ly Wo w 7)) (fun _ => [(h0, .inr (5, [.ref s1, .int (iI 7), .ref w0, .ref t0, .ref k0, .ref r0, .int (iI gf), .int (iI gs), .ref rp, .int (iI rc), .ref sh1, .int (iI tc), .int (iI ft)])), (s1, .inl (X.2.1.2.1, 8, .inr (.inr (.inr (.inr sf))))), ((sa 0), .inr (3, [.int (iI (Wt 0)), .int (iI (Wd 0)), .int (iI (Rg 0)), .int (iI (Ly 0)), .int (iI (Wo 0))])), ((sa 1), .inr (3, [.int (iI (Wt 1)), .int (iI (Wd 1)), .int (iI (Rg 1)), .int (iI (Ly 1)), .int (iI (Wo 1))])), ((sa 2), .inr (3, [.int (iI (Wt 2)), .int (iI (Wd 2)), .int (iI (Rg 2)), .int (iI (Ly 2)), .int (iI (Wo 2))])), ((sa 3), .inr (3, [.int (iI (Wt 3)), .int (iI (Wd 3)), .int (iI (Rg 3)), .int (iI (Ly 3)), .int (iI (Wo 3))])), ((sa 4), .inr (3, [.int (iI (Wt 4)), .int (iI (Wd 4)), .int (iI (Rg 4)), .int (iI (Ly 4)), .int (iI (Wo 4))])), ((sa 5), .inr (3, [.int (iI (Wt 5)), .int (iI (Wd 5)), .int (iI (Rg 5)), .int (iI (Ly 5)), .int (iI (Wo 5))])), ((sa 6), .inr (3, [.int (iI (Wt 6)), .int (iI (Wd 6)), .int (iI (Rg 6)), .int (iI (Ly 6)), .int (iI (Wo 6))]))])) A) args s 0 0 A) 0 0 [(h0, .inr (5, [.ref s1, .int (iI 7), .ref w0, .ref t0, .ref k0, .ref r0, .int (iI gf), .int (iI gs), .ref rp, .int (iI rc), .ref sh1, .int (iI tc), .int (iI ft)])), (s1, .inl (X.2.1.2.1, 8, .inr (.inr (.inr (.inr sf))))), ((sa 0), .inr (3, [.int (iI (Wt 0)), .int (iI (Wd 0)), .int (iI (Rg 0)), .int (iI (Ly 0)), .int (iI (Wo 0))])), ((sa 1), .inr (3, [.int (iI (Wt 1)), .int (iI (Wd 1)), .int (iI (Rg 1)), .int (iI (Ly 1)), .int (iI (Wo 1))])), ((sa 2), .inr (3, [.int (iI (Wt 2)), .int (iI (Wd 2)), .int (iI (Rg 2)), .int (iI (Ly 2)), .int (iI (Wo 2))])), ((sa 3), .inr (3, [.int (iI (Wt 3)), .int (iI (Wd 3)), .int (iI (Rg 3)), .int (iI (Ly 3)), .int (iI (Wo 3))])), ((sa 4), .inr (3, [.int (iI (Wt 4)), .int (iI (Wd 4)), .int (iI (Rg 4)), .int (iI (Ly 4)), .int (iI (Wo 4))])), ((sa 5), .inr (3, [.int (iI (Wt 5)), .int (iI (Wd 5)), .int (iI (Rg 5)), .int (iI (Ly 5)), .int (iI (Wo 5))])), ((sa 6), .inr (3, [.int (iI (Wt 6)), .int (iI (Wd 6)), .int (iI (Rg 6)), .int (iI (Ly 6)), .int (iI (Wo 6))]))] 5 [(0, .ref h0), (1, .int (iI w)), (4, .int (iI 2)), (2, .long (lI mk))] [] := by
    intro mk im
    refine r_iload C dX5_lyingBelow_5 2 rfl ?_
    refine r_aload_n C dX5_lyingBelow_7 0 rfl ?_
    refine gf_5_1 C hi_X5_lyingBelow_5 kw_X5_lyingBelow_0 dX5_lyingBelow_8 0 rfl rfl ?_
    refine r_icmp_ge (tgt := 51) C dX5_lyingBelow_11 (by decide) (by decide) (by decide) (fun h_10 => absurd h_10 (by decide)) (fun h_10 => ?_)
    refine r_aload_n C dX5_lyingBelow_14 0 rfl ?_
    refine r_iload C dX5_lyingBelow_15 2 rfl ?_
    refine g_V_q (ws2 := (fun _ => [(h0, .inr (5, [.ref s1, .int (iI 7), .ref w0, .ref t0, .ref k0, .ref r0, .int (iI gf), .int (iI gs), .ref rp, .int (iI rc), .ref sh1, .int (iI tc), .int (iI ft)])), (s1, .inl (X.2.1.2.1, 8, .inr (.inr (.inr (.inr sf))))), ((sa 0), .inr (3, [.int (iI (Wt 0)), .int (iI (Wd 0)), .int (iI (Rg 0)), .int (iI (Ly 0)), .int (iI (Wo 0))])), ((sa 1), .inr (3, [.int (iI (Wt 1)), .int (iI (Wd 1)), .int (iI (Rg 1)), .int (iI (Ly 1)), .int (iI (Wo 1))])), ((sa 2), .inr (3, [.int (iI (Wt 2)), .int (iI (Wd 2)), .int (iI (Rg 2)), .int (iI (Ly 2)), .int (iI (Wo 2))])), ((sa 3), .inr (3, [.int (iI (Wt 3)), .int (iI (Wd 3)), .int (iI (Rg 3)), .int (iI (Ly 3)), .int (iI (Wo 3))])), ((sa 4), .inr (3, [.int (iI (Wt 4)), .int (iI (Wd 4)), .int (iI (Rg 4)), .int (iI (Ly 4)), .int (iI (Wo 4))])), ((sa 5), .inr (3, [.int (iI (Wt 5)), .int (iI (Wd 5)), .int (iI (Rg 5)), .int (iI (Ly 5)), .int (iI (Wo 5))])), ((sa 6), .inr (3, [.int (iI (Wt 6)), .int (iI (Wd 6)), .int (iI (Rg 6)), .int (iI (Ly 6)), .int (iI (Wo 6))]))])) (As := [.int (iI 2)]) C (c_X5_stoneAt_in l X h0 s1 w0 t0 k0 r0 rp sh1 7 gf gs rc tc ft sf (sa 2) 2 (by decide) (hsf 2 (by decide))) gX5_lyingBelow_X5_stoneAt rfl rfl rfl hd_V_X5_stoneAt_X5_lyingBelow (by decide) dX5_lyingBelow_17 [0, 1] [2, 3, 4, 5, 6, 7, 8] [7, 8, 0, 1, 2, 3, 4, 5, 6] rfl rfl rfl rfl (by decide) rfl 0 5 rfl rfl rfl rfl (Nat.le_of_ble_eq_true rfl) (by decide) (fun _ => rfl) (fun _ hy_ => ?_)
    clear hy_
    refine r_astore (lo2 := [(5, .ref (sa 2)), (0, .ref h0), (1, .int (iI w)), (4, .int (iI 2)), (2, .long (lI mk))]) C dX5_lyingBelow_20 (by decide) rfl ?_
    refine r_aload C dX5_lyingBelow_22 0 rfl ?_
    refine r_ifnull C dX5_lyingBelow_24 ?_
    refine r_aload C dX5_lyingBelow_27 0 rfl ?_
    refine gf_3_4 C hi_X5_lyingBelow_3 kw_X5_lyingBelow_1 dX5_lyingBelow_29 4 rfl rfl ?_
    refine r_iload_n C dX5_lyingBelow_32 2 rfl ?_
    refine r_icmp_ge (tgt := 45) C dX5_lyingBelow_33 (by decide) (by omega) (by omega) (fun h_11 => ?_) (fun h_11 => ?_)
    · skip
      refine r_iinc (lo2 := [(4, .int (iI 3)), (5, .ref (sa 2)), (0, .ref h0), (1, .int (iI w)), (2, .long (lI mk))]) C dX5_lyingBelow_45 3 rfl (by decide) rfl ?_
      refine r_goto (tgt := 5) C dX5_lyingBelow_48 (by decide) ?_
      refine r_lo [2, 3, 0, 4] (lo2 := [(0, .ref h0), (1, .int (iI w)), (4, .int (iI 3)), (2, .long (lI mk))]) rfl ?_
      exact J5_3 mk (by rw [im]; first | exact (lbL_t 2 (by omega)).symm | exact (lbL_f 2 (by omega)).symm)
    · skip
      refine r_lload_n C dX5_lyingBelow_36 4 rfl ?_
      refine r_aload C dX5_lyingBelow_37 0 rfl ?_
      refine gf_3_3 C hi_X5_lyingBelow_3 kw_X5_lyingBelow_2 dX5_lyingBelow_39 4 rfl rfl ?_
      refine r_i2l C dX5_lyingBelow_42 (by omega) ?_
      refine r_ladd C dX5_lyingBelow_43 ?_
      refine r_lstore_n (lo2 := [(2, .long (lI (mk + (Ly 2)))), (5, .ref (sa 2)), (0, .ref h0), (1, .int (iI w)), (4, .int (iI 2))]) C dX5_lyingBelow_44 rfl (by decide) rfl ?_
      refine r_iinc (lo2 := [(4, .int (iI 3)), (2, .long (lI (mk + (Ly 2)))), (5, .ref (sa 2)), (0, .ref h0), (1, .int (iI w))]) C dX5_lyingBelow_45 4 rfl (by decide) rfl ?_
      refine r_goto (tgt := 5) C dX5_lyingBelow_48 (by decide) ?_
      refine r_lo [3, 4, 0, 1] (lo2 := [(0, .ref h0), (1, .int (iI w)), (4, .int (iI 3)), (2, .long (lI (mk + (Ly 2))))]) rfl ?_
      exact J5_3 (mk + (Ly 2)) (by rw [im]; first | exact (lbL_t 2 (by omega)).symm | exact (lbL_f 2 (by omega)).symm)
  have J5_1 : ∀ (mk : Int), (mk = lbL Ly Wo w 1) → gW p l e (gr 1 0 0) s m args below meth c X A 6 (MQ below ((gQl X (Y := Unit) (fun _ => (0 ≤ lbL Ly Wo w 7 ∧ lbL Ly Wo w 7 ≤ 72)) (fun _ => (lbL Ly Wo w 7)) (fun _ => [(h0, .inr (5, [.ref s1, .int (iI 7), .ref w0, .ref t0, .ref k0, .ref r0, .int (iI gf), .int (iI gs), .ref rp, .int (iI rc), .ref sh1, .int (iI tc), .int (iI ft)])), (s1, .inl (X.2.1.2.1, 8, .inr (.inr (.inr (.inr sf))))), ((sa 0), .inr (3, [.int (iI (Wt 0)), .int (iI (Wd 0)), .int (iI (Rg 0)), .int (iI (Ly 0)), .int (iI (Wo 0))])), ((sa 1), .inr (3, [.int (iI (Wt 1)), .int (iI (Wd 1)), .int (iI (Rg 1)), .int (iI (Ly 1)), .int (iI (Wo 1))])), ((sa 2), .inr (3, [.int (iI (Wt 2)), .int (iI (Wd 2)), .int (iI (Rg 2)), .int (iI (Ly 2)), .int (iI (Wo 2))])), ((sa 3), .inr (3, [.int (iI (Wt 3)), .int (iI (Wd 3)), .int (iI (Rg 3)), .int (iI (Ly 3)), .int (iI (Wo 3))])), ((sa 4), .inr (3, [.int (iI (Wt 4)), .int (iI (Wd 4)), .int (iI (Rg 4)), .int (iI (Ly 4)), .int (iI (Wo 4))])), ((sa 5), .inr (3, [.int (iI (Wt 5)), .int (iI (Wd 5)), .int (iI (Rg 5)), .int (iI (Ly 5)), .int (iI (Wo 5))])), ((sa 6), .inr (3, [.int (iI (Wt 6)), .int (iI (Wd 6)), .int (iI (Rg 6)), .int (iI (Ly 6)), .int (iI (Wo 6))]))])) A) args s 0 0 A) 0 0 [(h0, .inr (5, [.ref s1, .int (iI 7), .ref w0, .ref t0, .ref k0, .ref r0, .int (iI gf), .int (iI gs), .ref rp, .int (iI rc), .ref sh1, .int (iI tc), .int (iI ft)])), (s1, .inl (X.2.1.2.1, 8, .inr (.inr (.inr (.inr sf))))), ((sa 0), .inr (3, [.int (iI (Wt 0)), .int (iI (Wd 0)), .int (iI (Rg 0)), .int (iI (Ly 0)), .int (iI (Wo 0))])), ((sa 1), .inr (3, [.int (iI (Wt 1)), .int (iI (Wd 1)), .int (iI (Rg 1)), .int (iI (Ly 1)), .int (iI (Wo 1))])), ((sa 2), .inr (3, [.int (iI (Wt 2)), .int (iI (Wd 2)), .int (iI (Rg 2)), .int (iI (Ly 2)), .int (iI (Wo 2))])), ((sa 3), .inr (3, [.int (iI (Wt 3)), .int (iI (Wd 3)), .int (iI (Rg 3)), .int (iI (Ly 3)), .int (iI (Wo 3))])), ((sa 4), .inr (3, [.int (iI (Wt 4)), .int (iI (Wd 4)), .int (iI (Rg 4)), .int (iI (Ly 4)), .int (iI (Wo 4))])), ((sa 5), .inr (3, [.int (iI (Wt 5)), .int (iI (Wd 5)), .int (iI (Rg 5)), .int (iI (Ly 5)), .int (iI (Wo 5))])), ((sa 6), .inr (3, [.int (iI (Wt 6)), .int (iI (Wd 6)), .int (iI (Rg 6)), .int (iI (Ly 6)), .int (iI (Wo 6))]))] 5 [(0, .ref h0), (1, .int (iI w)), (4, .int (iI 1)), (2, .long (lI mk))] [] := by
    intro mk im
    refine r_iload C dX5_lyingBelow_5 2 rfl ?_
    refine r_aload_n C dX5_lyingBelow_7 0 rfl ?_
    refine gf_5_1 C hi_X5_lyingBelow_5 kw_X5_lyingBelow_0 dX5_lyingBelow_8 0 rfl rfl ?_
    refine r_icmp_ge (tgt := 51) C dX5_lyingBelow_11 (by decide) (by decide) (by decide) (fun h_12 => absurd h_12 (by decide)) (fun h_12 => ?_)
    refine r_aload_n C dX5_lyingBelow_14 0 rfl ?_
    refine r_iload C dX5_lyingBelow_15 2 rfl ?_
    refine g_V_q (ws2 := (fun _ => [(h0, .inr (5, [.ref s1, .int (iI 7), .ref w0, .ref t0, .ref k0, .ref r0, .int (iI gf), .int (iI gs), .ref rp, .int (iI rc), .ref sh1, .int (iI tc), .int (iI ft)])), (s1, .inl (X.2.1.2.1, 8, .inr (.inr (.inr (.inr sf))))), ((sa 0), .inr (3, [.int (iI (Wt 0)), .int (iI (Wd 0)), .int (iI (Rg 0)), .int (iI (Ly 0)), .int (iI (Wo 0))])), ((sa 1), .inr (3, [.int (iI (Wt 1)), .int (iI (Wd 1)), .int (iI (Rg 1)), .int (iI (Ly 1)), .int (iI (Wo 1))])), ((sa 2), .inr (3, [.int (iI (Wt 2)), .int (iI (Wd 2)), .int (iI (Rg 2)), .int (iI (Ly 2)), .int (iI (Wo 2))])), ((sa 3), .inr (3, [.int (iI (Wt 3)), .int (iI (Wd 3)), .int (iI (Rg 3)), .int (iI (Ly 3)), .int (iI (Wo 3))])), ((sa 4), .inr (3, [.int (iI (Wt 4)), .int (iI (Wd 4)), .int (iI (Rg 4)), .int (iI (Ly 4)), .int (iI (Wo 4))])), ((sa 5), .inr (3, [.int (iI (Wt 5)), .int (iI (Wd 5)), .int (iI (Rg 5)), .int (iI (Ly 5)), .int (iI (Wo 5))])), ((sa 6), .inr (3, [.int (iI (Wt 6)), .int (iI (Wd 6)), .int (iI (Rg 6)), .int (iI (Ly 6)), .int (iI (Wo 6))]))])) (As := [.int (iI 1)]) C (c_X5_stoneAt_in l X h0 s1 w0 t0 k0 r0 rp sh1 7 gf gs rc tc ft sf (sa 1) 1 (by decide) (hsf 1 (by decide))) gX5_lyingBelow_X5_stoneAt rfl rfl rfl hd_V_X5_stoneAt_X5_lyingBelow (by decide) dX5_lyingBelow_17 [0, 1] [2, 3, 4, 5, 6, 7, 8] [7, 8, 0, 1, 2, 3, 4, 5, 6] rfl rfl rfl rfl (by decide) rfl 0 5 rfl rfl rfl rfl (Nat.le_of_ble_eq_true rfl) (by decide) (fun _ => rfl) (fun _ hy_ => ?_)
    clear hy_
    refine r_astore (lo2 := [(5, .ref (sa 1)), (0, .ref h0), (1, .int (iI w)), (4, .int (iI 1)), (2, .long (lI mk))]) C dX5_lyingBelow_20 (by decide) rfl ?_
    refine r_aload C dX5_lyingBelow_22 0 rfl ?_
    refine r_ifnull C dX5_lyingBelow_24 ?_
    refine r_aload C dX5_lyingBelow_27 0 rfl ?_
    refine gf_3_4 C hi_X5_lyingBelow_3 kw_X5_lyingBelow_1 dX5_lyingBelow_29 3 rfl rfl ?_
    refine r_iload_n C dX5_lyingBelow_32 2 rfl ?_
    refine r_icmp_ge (tgt := 45) C dX5_lyingBelow_33 (by decide) (by omega) (by omega) (fun h_13 => ?_) (fun h_13 => ?_)
    · skip
      refine r_iinc (lo2 := [(4, .int (iI 2)), (5, .ref (sa 1)), (0, .ref h0), (1, .int (iI w)), (2, .long (lI mk))]) C dX5_lyingBelow_45 3 rfl (by decide) rfl ?_
      refine r_goto (tgt := 5) C dX5_lyingBelow_48 (by decide) ?_
      refine r_lo [2, 3, 0, 4] (lo2 := [(0, .ref h0), (1, .int (iI w)), (4, .int (iI 2)), (2, .long (lI mk))]) rfl ?_
      exact J5_2 mk (by rw [im]; first | exact (lbL_t 1 (by omega)).symm | exact (lbL_f 1 (by omega)).symm)
    · skip
      refine r_lload_n C dX5_lyingBelow_36 4 rfl ?_
      refine r_aload C dX5_lyingBelow_37 0 rfl ?_
      refine gf_3_3 C hi_X5_lyingBelow_3 kw_X5_lyingBelow_2 dX5_lyingBelow_39 3 rfl rfl ?_
      refine r_i2l C dX5_lyingBelow_42 (by omega) ?_
      refine r_ladd C dX5_lyingBelow_43 ?_
      refine r_lstore_n (lo2 := [(2, .long (lI (mk + (Ly 1)))), (5, .ref (sa 1)), (0, .ref h0), (1, .int (iI w)), (4, .int (iI 1))]) C dX5_lyingBelow_44 rfl (by decide) rfl ?_
      refine r_iinc (lo2 := [(4, .int (iI 2)), (2, .long (lI (mk + (Ly 1)))), (5, .ref (sa 1)), (0, .ref h0), (1, .int (iI w))]) C dX5_lyingBelow_45 4 rfl (by decide) rfl ?_
      refine r_goto (tgt := 5) C dX5_lyingBelow_48 (by decide) ?_
      refine r_lo [3, 4, 0, 1] (lo2 := [(0, .ref h0), (1, .int (iI w)), (4, .int (iI 2)), (2, .long (lI (mk + (Ly 1))))]) rfl ?_
      exact J5_2 (mk + (Ly 1)) (by rw [im]; first | exact (lbL_t 1 (by omega)).symm | exact (lbL_f 1 (by omega)).symm)
  have J5_0 : ∀ (mk : Int), (mk = lbL Ly Wo w 0) → gW p l e (gr 1 0 0) s m args below meth c X A 6 (MQ below ((gQl X (Y := Unit) (fun _ => (0 ≤ lbL Ly Wo w 7 ∧ lbL Ly Wo w 7 ≤ 72)) (fun _ => (lbL Ly Wo w 7)) (fun _ => [(h0, .inr (5, [.ref s1, .int (iI 7), .ref w0, .ref t0, .ref k0, .ref r0, .int (iI gf), .int (iI gs), .ref rp, .int (iI rc), .ref sh1, .int (iI tc), .int (iI ft)])), (s1, .inl (X.2.1.2.1, 8, .inr (.inr (.inr (.inr sf))))), ((sa 0), .inr (3, [.int (iI (Wt 0)), .int (iI (Wd 0)), .int (iI (Rg 0)), .int (iI (Ly 0)), .int (iI (Wo 0))])), ((sa 1), .inr (3, [.int (iI (Wt 1)), .int (iI (Wd 1)), .int (iI (Rg 1)), .int (iI (Ly 1)), .int (iI (Wo 1))])), ((sa 2), .inr (3, [.int (iI (Wt 2)), .int (iI (Wd 2)), .int (iI (Rg 2)), .int (iI (Ly 2)), .int (iI (Wo 2))])), ((sa 3), .inr (3, [.int (iI (Wt 3)), .int (iI (Wd 3)), .int (iI (Rg 3)), .int (iI (Ly 3)), .int (iI (Wo 3))])), ((sa 4), .inr (3, [.int (iI (Wt 4)), .int (iI (Wd 4)), .int (iI (Rg 4)), .int (iI (Ly 4)), .int (iI (Wo 4))])), ((sa 5), .inr (3, [.int (iI (Wt 5)), .int (iI (Wd 5)), .int (iI (Rg 5)), .int (iI (Ly 5)), .int (iI (Wo 5))])), ((sa 6), .inr (3, [.int (iI (Wt 6)), .int (iI (Wd 6)), .int (iI (Rg 6)), .int (iI (Ly 6)), .int (iI (Wo 6))]))])) A) args s 0 0 A) 0 0 [(h0, .inr (5, [.ref s1, .int (iI 7), .ref w0, .ref t0, .ref k0, .ref r0, .int (iI gf), .int (iI gs), .ref rp, .int (iI rc), .ref sh1, .int (iI tc), .int (iI ft)])), (s1, .inl (X.2.1.2.1, 8, .inr (.inr (.inr (.inr sf))))), ((sa 0), .inr (3, [.int (iI (Wt 0)), .int (iI (Wd 0)), .int (iI (Rg 0)), .int (iI (Ly 0)), .int (iI (Wo 0))])), ((sa 1), .inr (3, [.int (iI (Wt 1)), .int (iI (Wd 1)), .int (iI (Rg 1)), .int (iI (Ly 1)), .int (iI (Wo 1))])), ((sa 2), .inr (3, [.int (iI (Wt 2)), .int (iI (Wd 2)), .int (iI (Rg 2)), .int (iI (Ly 2)), .int (iI (Wo 2))])), ((sa 3), .inr (3, [.int (iI (Wt 3)), .int (iI (Wd 3)), .int (iI (Rg 3)), .int (iI (Ly 3)), .int (iI (Wo 3))])), ((sa 4), .inr (3, [.int (iI (Wt 4)), .int (iI (Wd 4)), .int (iI (Rg 4)), .int (iI (Ly 4)), .int (iI (Wo 4))])), ((sa 5), .inr (3, [.int (iI (Wt 5)), .int (iI (Wd 5)), .int (iI (Rg 5)), .int (iI (Ly 5)), .int (iI (Wo 5))])), ((sa 6), .inr (3, [.int (iI (Wt 6)), .int (iI (Wd 6)), .int (iI (Rg 6)), .int (iI (Ly 6)), .int (iI (Wo 6))]))] 5 [(0, .ref h0), (1, .int (iI w)), (4, .int (iI 0)), (2, .long (lI mk))] [] := by
    intro mk im
    refine r_iload C dX5_lyingBelow_5 2 rfl ?_
    refine r_aload_n C dX5_lyingBelow_7 0 rfl ?_
    refine gf_5_1 C hi_X5_lyingBelow_5 kw_X5_lyingBelow_0 dX5_lyingBelow_8 0 rfl rfl ?_
    refine r_icmp_ge (tgt := 51) C dX5_lyingBelow_11 (by decide) (by decide) (by decide) (fun h_14 => absurd h_14 (by decide)) (fun h_14 => ?_)
    refine r_aload_n C dX5_lyingBelow_14 0 rfl ?_
    refine r_iload C dX5_lyingBelow_15 2 rfl ?_
    refine g_V_q (ws2 := (fun _ => [(h0, .inr (5, [.ref s1, .int (iI 7), .ref w0, .ref t0, .ref k0, .ref r0, .int (iI gf), .int (iI gs), .ref rp, .int (iI rc), .ref sh1, .int (iI tc), .int (iI ft)])), (s1, .inl (X.2.1.2.1, 8, .inr (.inr (.inr (.inr sf))))), ((sa 0), .inr (3, [.int (iI (Wt 0)), .int (iI (Wd 0)), .int (iI (Rg 0)), .int (iI (Ly 0)), .int (iI (Wo 0))])), ((sa 1), .inr (3, [.int (iI (Wt 1)), .int (iI (Wd 1)), .int (iI (Rg 1)), .int (iI (Ly 1)), .int (iI (Wo 1))])), ((sa 2), .inr (3, [.int (iI (Wt 2)), .int (iI (Wd 2)), .int (iI (Rg 2)), .int (iI (Ly 2)), .int (iI (Wo 2))])), ((sa 3), .inr (3, [.int (iI (Wt 3)), .int (iI (Wd 3)), .int (iI (Rg 3)), .int (iI (Ly 3)), .int (iI (Wo 3))])), ((sa 4), .inr (3, [.int (iI (Wt 4)), .int (iI (Wd 4)), .int (iI (Rg 4)), .int (iI (Ly 4)), .int (iI (Wo 4))])), ((sa 5), .inr (3, [.int (iI (Wt 5)), .int (iI (Wd 5)), .int (iI (Rg 5)), .int (iI (Ly 5)), .int (iI (Wo 5))])), ((sa 6), .inr (3, [.int (iI (Wt 6)), .int (iI (Wd 6)), .int (iI (Rg 6)), .int (iI (Ly 6)), .int (iI (Wo 6))]))])) (As := [.int (iI 0)]) C (c_X5_stoneAt_in l X h0 s1 w0 t0 k0 r0 rp sh1 7 gf gs rc tc ft sf (sa 0) 0 (by decide) (hsf 0 (by decide))) gX5_lyingBelow_X5_stoneAt rfl rfl rfl hd_V_X5_stoneAt_X5_lyingBelow (by decide) dX5_lyingBelow_17 [0, 1] [2, 3, 4, 5, 6, 7, 8] [7, 8, 0, 1, 2, 3, 4, 5, 6] rfl rfl rfl rfl (by decide) rfl 0 5 rfl rfl rfl rfl (Nat.le_of_ble_eq_true rfl) (by decide) (fun _ => rfl) (fun _ hy_ => ?_)
    clear hy_
    refine r_astore (lo2 := [(5, .ref (sa 0)), (0, .ref h0), (1, .int (iI w)), (4, .int (iI 0)), (2, .long (lI mk))]) C dX5_lyingBelow_20 (by decide) rfl ?_
    refine r_aload C dX5_lyingBelow_22 0 rfl ?_
    refine r_ifnull C dX5_lyingBelow_24 ?_
    refine r_aload C dX5_lyingBelow_27 0 rfl ?_
    refine gf_3_4 C hi_X5_lyingBelow_3 kw_X5_lyingBelow_1 dX5_lyingBelow_29 2 rfl rfl ?_
    refine r_iload_n C dX5_lyingBelow_32 2 rfl ?_
    refine r_icmp_ge (tgt := 45) C dX5_lyingBelow_33 (by decide) (by omega) (by omega) (fun h_15 => ?_) (fun h_15 => ?_)
    · skip
      refine r_iinc (lo2 := [(4, .int (iI 1)), (5, .ref (sa 0)), (0, .ref h0), (1, .int (iI w)), (2, .long (lI mk))]) C dX5_lyingBelow_45 3 rfl (by decide) rfl ?_
      refine r_goto (tgt := 5) C dX5_lyingBelow_48 (by decide) ?_
      refine r_lo [2, 3, 0, 4] (lo2 := [(0, .ref h0), (1, .int (iI w)), (4, .int (iI 1)), (2, .long (lI mk))]) rfl ?_
      exact J5_1 mk (by rw [im]; first | exact (lbL_t 0 (by omega)).symm | exact (lbL_f 0 (by omega)).symm)
    · skip
      refine r_lload_n C dX5_lyingBelow_36 4 rfl ?_
      refine r_aload C dX5_lyingBelow_37 0 rfl ?_
      refine gf_3_3 C hi_X5_lyingBelow_3 kw_X5_lyingBelow_2 dX5_lyingBelow_39 2 rfl rfl ?_
      refine r_i2l C dX5_lyingBelow_42 (by omega) ?_
      refine r_ladd C dX5_lyingBelow_43 ?_
      refine r_lstore_n (lo2 := [(2, .long (lI (mk + (Ly 0)))), (5, .ref (sa 0)), (0, .ref h0), (1, .int (iI w)), (4, .int (iI 0))]) C dX5_lyingBelow_44 rfl (by decide) rfl ?_
      refine r_iinc (lo2 := [(4, .int (iI 1)), (2, .long (lI (mk + (Ly 0)))), (5, .ref (sa 0)), (0, .ref h0), (1, .int (iI w))]) C dX5_lyingBelow_45 4 rfl (by decide) rfl ?_
      refine r_goto (tgt := 5) C dX5_lyingBelow_48 (by decide) ?_
      refine r_lo [3, 4, 0, 1] (lo2 := [(0, .ref h0), (1, .int (iI w)), (4, .int (iI 1)), (2, .long (lI (mk + (Ly 0))))]) rfl ?_
      exact J5_1 (mk + (Ly 0)) (by rw [im]; first | exact (lbL_t 0 (by omega)).symm | exact (lbL_f 0 (by omega)).symm)
  refine r_lo [2, 3, 0, 1] (lo2 := [(0, .ref h0), (1, .int (iI w)), (4, .int (iI 0)), (2, .long (lI 0))]) rfl ?_
  exact J5_0 0 rfl

set_option maxHeartbeats 4000000 in
set_option maxRecDepth 100000 in
theorem c_X5_bestWorths_7 (l : Launch) (X : gX) (h0 : Nat) (s1 : Nat) (w0 : Nat) (t0 : Nat) (k0 : Nat) (r0 : Nat) (rp : Nat) (sh1 : Nat) (gf : Int) (gs : Int) (rc : Int) (tc : Int) (ft : Int) (sf : Nat → Option Nat) (sa : Nat → Nat) (Wt : Nat → Int) (Wd : Nat → Int) (Rg : Nat → Int) (Ly : Nat → Int) (Wo : Nat → Int) (k : Int) (hsf : ∀ j : Nat, j < 7 → sf j = some (sa j)) (hLy : ∀ j : Nat, j < 7 → 0 ≤ Ly j ∧ Ly j ≤ 9) (hWo : ∀ j : Nat, j < 7 → 0 ≤ Wo j ∧ Wo j ≤ 99) (hk : 0 ≤ k ∧ k ≤ 6) : gM l yX5_bestWorths wsX5_bestWorths (gr 2 0 0) X [(h0, .inr (5, [.ref s1, .int (iI 7), .ref w0, .ref t0, .ref k0, .ref r0, .int (iI gf), .int (iI gs), .ref rp, .int (iI rc), .ref sh1, .int (iI tc), .int (iI ft)])), (s1, .inl (X.2.1.2.1, 8, .inr (.inr (.inr (.inr sf))))), ((sa 0), .inr (3, [.int (iI (Wt 0)), .int (iI (Wd 0)), .int (iI (Rg 0)), .int (iI (Ly 0)), .int (iI (Wo 0))])), ((sa 1), .inr (3, [.int (iI (Wt 1)), .int (iI (Wd 1)), .int (iI (Rg 1)), .int (iI (Ly 1)), .int (iI (Wo 1))])), ((sa 2), .inr (3, [.int (iI (Wt 2)), .int (iI (Wd 2)), .int (iI (Rg 2)), .int (iI (Ly 2)), .int (iI (Wo 2))])), ((sa 3), .inr (3, [.int (iI (Wt 3)), .int (iI (Wd 3)), .int (iI (Rg 3)), .int (iI (Ly 3)), .int (iI (Wo 3))])), ((sa 4), .inr (3, [.int (iI (Wt 4)), .int (iI (Wd 4)), .int (iI (Rg 4)), .int (iI (Ly 4)), .int (iI (Wo 4))])), ((sa 5), .inr (3, [.int (iI (Wt 5)), .int (iI (Wd 5)), .int (iI (Rg 5)), .int (iI (Ly 5)), .int (iI (Wo 5))])), ((sa 6), .inr (3, [.int (iI (Wt 6)), .int (iI (Wd 6)), .int (iI (Rg 6)), .int (iI (Ly 6)), .int (iI (Wo 6))]))] [.ref h0, .int (iI k)] (gQl X (Y := Unit) (fun _ => True) (fun _ => (bwV Ly Wo 7 k)) (fun _ => [(h0, .inr (5, [.ref s1, .int (iI 7), .ref w0, .ref t0, .ref k0, .ref r0, .int (iI gf), .int (iI gs), .ref rp, .int (iI rc), .ref sh1, .int (iI tc), .int (iI ft)])), (s1, .inl (X.2.1.2.1, 8, .inr (.inr (.inr (.inr sf))))), ((sa 0), .inr (3, [.int (iI (Wt 0)), .int (iI (Wd 0)), .int (iI (Rg 0)), .int (iI (Ly 0)), .int (iI (Wo 0))])), ((sa 1), .inr (3, [.int (iI (Wt 1)), .int (iI (Wd 1)), .int (iI (Rg 1)), .int (iI (Ly 1)), .int (iI (Wo 1))])), ((sa 2), .inr (3, [.int (iI (Wt 2)), .int (iI (Wd 2)), .int (iI (Rg 2)), .int (iI (Ly 2)), .int (iI (Wo 2))])), ((sa 3), .inr (3, [.int (iI (Wt 3)), .int (iI (Wd 3)), .int (iI (Rg 3)), .int (iI (Ly 3)), .int (iI (Wo 3))])), ((sa 4), .inr (3, [.int (iI (Wt 4)), .int (iI (Wd 4)), .int (iI (Rg 4)), .int (iI (Ly 4)), .int (iI (Wo 4))])), ((sa 5), .inr (3, [.int (iI (Wt 5)), .int (iI (Wd 5)), .int (iI (Rg 5)), .int (iI (Ly 5)), .int (iI (Wo 5))])), ((sa 6), .inr (3, [.int (iI (Wt 6)), .int (iI (Wd 6)), .int (iI (Rg 6)), .int (iI (Ly 6)), .int (iI (Wo 6))]))])) 0 0 := by
  refine g_start2 (lo := [(0, .ref h0), (1, .int (iI k))]) (by decide +kernel) rfl rfl (Nat.le_of_ble_eq_true rfl) (fun p e s m args below meth c A C => ?_)
  refine r_aload_n C dX5_bestWorths_0 0 rfl ?_
  refine r_bipush C dX5_bestWorths_1 (by decide) ?_
  refine g_V_l (ws2 := (fun _ => [(h0, .inr (5, [.ref s1, .int (iI 7), .ref w0, .ref t0, .ref k0, .ref r0, .int (iI gf), .int (iI gs), .ref rp, .int (iI rc), .ref sh1, .int (iI tc), .int (iI ft)])), (s1, .inl (X.2.1.2.1, 8, .inr (.inr (.inr (.inr sf))))), ((sa 0), .inr (3, [.int (iI (Wt 0)), .int (iI (Wd 0)), .int (iI (Rg 0)), .int (iI (Ly 0)), .int (iI (Wo 0))])), ((sa 1), .inr (3, [.int (iI (Wt 1)), .int (iI (Wd 1)), .int (iI (Rg 1)), .int (iI (Ly 1)), .int (iI (Wo 1))])), ((sa 2), .inr (3, [.int (iI (Wt 2)), .int (iI (Wd 2)), .int (iI (Rg 2)), .int (iI (Ly 2)), .int (iI (Wo 2))])), ((sa 3), .inr (3, [.int (iI (Wt 3)), .int (iI (Wd 3)), .int (iI (Rg 3)), .int (iI (Ly 3)), .int (iI (Wo 3))])), ((sa 4), .inr (3, [.int (iI (Wt 4)), .int (iI (Wd 4)), .int (iI (Rg 4)), .int (iI (Ly 4)), .int (iI (Wo 4))])), ((sa 5), .inr (3, [.int (iI (Wt 5)), .int (iI (Wd 5)), .int (iI (Rg 5)), .int (iI (Ly 5)), .int (iI (Wo 5))])), ((sa 6), .inr (3, [.int (iI (Wt 6)), .int (iI (Wd 6)), .int (iI (Rg 6)), .int (iI (Ly 6)), .int (iI (Wo 6))]))])) (As := [.int (iI 100)]) C (c_X5_lyingBelow_7 l X h0 s1 w0 t0 k0 r0 rp sh1 gf gs rc tc ft sf sa Wt Wd Rg Ly Wo 100 hsf hLy hWo (by first | assumption | omega)) gX5_bestWorths_X5_lyingBelow rfl rfl rfl hd_V_X5_lyingBelow_X5_bestWorths (by decide) dX5_bestWorths_3 [0, 1, 2, 3, 4, 5, 6, 7, 8] [] [0, 1, 2, 3, 4, 5, 6, 7, 8] rfl rfl rfl rfl (by decide) rfl 0 5 rfl rfl rfl rfl (Nat.le_of_ble_eq_true rfl) (by decide) (fun _ => rfl) (fun _ hy_ => ?_)
  have y_1 : 0 ≤ lbL Ly Wo 100 7 ∧ lbL Ly Wo 100 7 ≤ 72 := hy_
  clear hy_
  refine r_iload_n C dX5_bestWorths_6 1 rfl ?_
  refine g_S_l (ws2 := (fun _ => [(h0, .inr (5, [.ref s1, .int (iI 7), .ref w0, .ref t0, .ref k0, .ref r0, .int (iI gf), .int (iI gs), .ref rp, .int (iI rc), .ref sh1, .int (iI tc), .int (iI ft)])), (s1, .inl (X.2.1.2.1, 8, .inr (.inr (.inr (.inr sf))))), ((sa 0), .inr (3, [.int (iI (Wt 0)), .int (iI (Wd 0)), .int (iI (Rg 0)), .int (iI (Ly 0)), .int (iI (Wo 0))])), ((sa 1), .inr (3, [.int (iI (Wt 1)), .int (iI (Wd 1)), .int (iI (Rg 1)), .int (iI (Ly 1)), .int (iI (Wo 1))])), ((sa 2), .inr (3, [.int (iI (Wt 2)), .int (iI (Wd 2)), .int (iI (Rg 2)), .int (iI (Ly 2)), .int (iI (Wo 2))])), ((sa 3), .inr (3, [.int (iI (Wt 3)), .int (iI (Wd 3)), .int (iI (Rg 3)), .int (iI (Ly 3)), .int (iI (Wo 3))])), ((sa 4), .inr (3, [.int (iI (Wt 4)), .int (iI (Wd 4)), .int (iI (Rg 4)), .int (iI (Ly 4)), .int (iI (Wo 4))])), ((sa 5), .inr (3, [.int (iI (Wt 5)), .int (iI (Wd 5)), .int (iI (Rg 5)), .int (iI (Ly 5)), .int (iI (Wo 5))])), ((sa 6), .inr (3, [.int (iI (Wt 6)), .int (iI (Wd 6)), .int (iI (Rg 6)), .int (iI (Ly 6)), .int (iI (Wo 6))]))])) (As := [.long (lI (lbL Ly Wo 100 7)), .int (iI k)]) C (c_X5_power l X (lbL Ly Wo 100 7) k (by first | assumption | omega)) gX5_bestWorths_X5_power rfl rfl rfl hd_S_X5_power_X5_bestWorths (by decide) dX5_bestWorths_7 [] [0, 1, 2, 3, 4, 5, 6, 7, 8] [0, 1, 2, 3, 4, 5, 6, 7, 8] rfl rfl rfl rfl (by decide) rfl rfl rfl (Nat.le_of_ble_eq_true rfl) (by decide) (fun _ => rfl) (fun _ hy_ => ?_)
  clear hy_
  refine r_lstore_n (lo2 := [(2, .long (lI (pwI (lbL Ly Wo 100 7) k))), (0, .ref h0), (1, .int (iI k))]) C dX5_bestWorths_10 rfl (by decide) rfl ?_
  refine r_lconst (z := 0) C dX5_bestWorths_11 rfl ?_
  refine r_lstore (lo2 := [(4, .long (lI 0)), (2, .long (lI (pwI (lbL Ly Wo 100 7) k))), (0, .ref h0), (1, .int (iI k))]) C dX5_bestWorths_12 (by decide) rfl ?_
  refine r_iconst C dX5_bestWorths_14 ?_
  refine r_istore (lo2 := [(6, .int (iI 1)), (4, .long (lI 0)), (2, .long (lI (pwI (lbL Ly Wo 100 7) k))), (0, .ref h0), (1, .int (iI k))]) C dX5_bestWorths_15 (by decide) rfl ?_
  have L17 : ∀ (fu17 : Nat) (a1 : Int) (wk : Int), (1 ≤ wk ∧ wk ≤ 100) → (bwV Ly Wo 7 k = bwL (fun w => pwI (lbL Ly Wo w 7) k) (pwI (lbL Ly Wo 100 7) k) (100 - wk).toNat wk a1) → (100 - wk).toNat < fu17 → gW p l e (gr 2 0 0) s m args below meth c X A 7 (MQ below ((gQl X (Y := Unit) (fun _ => True) (fun _ => (bwV Ly Wo 7 k)) (fun _ => [(h0, .inr (5, [.ref s1, .int (iI 7), .ref w0, .ref t0, .ref k0, .ref r0, .int (iI gf), .int (iI gs), .ref rp, .int (iI rc), .ref sh1, .int (iI tc), .int (iI ft)])), (s1, .inl (X.2.1.2.1, 8, .inr (.inr (.inr (.inr sf))))), ((sa 0), .inr (3, [.int (iI (Wt 0)), .int (iI (Wd 0)), .int (iI (Rg 0)), .int (iI (Ly 0)), .int (iI (Wo 0))])), ((sa 1), .inr (3, [.int (iI (Wt 1)), .int (iI (Wd 1)), .int (iI (Rg 1)), .int (iI (Ly 1)), .int (iI (Wo 1))])), ((sa 2), .inr (3, [.int (iI (Wt 2)), .int (iI (Wd 2)), .int (iI (Rg 2)), .int (iI (Ly 2)), .int (iI (Wo 2))])), ((sa 3), .inr (3, [.int (iI (Wt 3)), .int (iI (Wd 3)), .int (iI (Rg 3)), .int (iI (Ly 3)), .int (iI (Wo 3))])), ((sa 4), .inr (3, [.int (iI (Wt 4)), .int (iI (Wd 4)), .int (iI (Rg 4)), .int (iI (Ly 4)), .int (iI (Wo 4))])), ((sa 5), .inr (3, [.int (iI (Wt 5)), .int (iI (Wd 5)), .int (iI (Rg 5)), .int (iI (Ly 5)), .int (iI (Wo 5))])), ((sa 6), .inr (3, [.int (iI (Wt 6)), .int (iI (Wd 6)), .int (iI (Rg 6)), .int (iI (Ly 6)), .int (iI (Wo 6))]))])) A) args s 0 0 A) 0 0 [(h0, .inr (5, [.ref s1, .int (iI 7), .ref w0, .ref t0, .ref k0, .ref r0, .int (iI gf), .int (iI gs), .ref rp, .int (iI rc), .ref sh1, .int (iI tc), .int (iI ft)])), (s1, .inl (X.2.1.2.1, 8, .inr (.inr (.inr (.inr sf))))), ((sa 0), .inr (3, [.int (iI (Wt 0)), .int (iI (Wd 0)), .int (iI (Rg 0)), .int (iI (Ly 0)), .int (iI (Wo 0))])), ((sa 1), .inr (3, [.int (iI (Wt 1)), .int (iI (Wd 1)), .int (iI (Rg 1)), .int (iI (Ly 1)), .int (iI (Wo 1))])), ((sa 2), .inr (3, [.int (iI (Wt 2)), .int (iI (Wd 2)), .int (iI (Rg 2)), .int (iI (Ly 2)), .int (iI (Wo 2))])), ((sa 3), .inr (3, [.int (iI (Wt 3)), .int (iI (Wd 3)), .int (iI (Rg 3)), .int (iI (Ly 3)), .int (iI (Wo 3))])), ((sa 4), .inr (3, [.int (iI (Wt 4)), .int (iI (Wd 4)), .int (iI (Rg 4)), .int (iI (Ly 4)), .int (iI (Wo 4))])), ((sa 5), .inr (3, [.int (iI (Wt 5)), .int (iI (Wd 5)), .int (iI (Rg 5)), .int (iI (Ly 5)), .int (iI (Wo 5))])), ((sa 6), .inr (3, [.int (iI (Wt 6)), .int (iI (Wd 6)), .int (iI (Rg 6)), .int (iI (Ly 6)), .int (iI (Wo 6))]))] 17 [(2, .long (lI (pwI (lbL Ly Wo 100 7) k))), (0, .ref h0), (1, .int (iI k)), (4, .long (lI a1)), (6, .int (iI wk))] [] := by
    intro fu17
    induction fu17 with
    | zero => intro a1 wk iw iB hm17; exact absurd hm17 (Nat.not_lt_zero _)
    | succ fu17 ih17 =>
      intro a1 wk iw iB hm17
      refine r_iload C dX5_bestWorths_17 4 rfl ?_
      refine r_bipush C dX5_bestWorths_19 (by decide) ?_
      refine r_icmp_gt (tgt := 47) C dX5_bestWorths_21 (by decide) (by omega) (by decide) (fun h_3 => ?_) (fun h_3 => ?_)
      · skip
        refine r_lload C dX5_bestWorths_47 3 rfl ?_
        exact g_ret_l C rfl dX5_bestWorths_49 () trivial (by rw [iB, show (100 - wk).toNat = 0 by omega]; rfl) [0, 1, 2, 3, 4, 5, 6, 7, 8] rfl (by (repeat' split) <;> first | rfl | omega)
      · skip
        refine r_lload C dX5_bestWorths_24 3 rfl ?_
        refine r_lload_n C dX5_bestWorths_26 0 rfl ?_
        refine r_aload_n C dX5_bestWorths_27 1 rfl ?_
        refine r_iload C dX5_bestWorths_28 4 rfl ?_
        refine g_V_l (ws2 := (fun _ => [(h0, .inr (5, [.ref s1, .int (iI 7), .ref w0, .ref t0, .ref k0, .ref r0, .int (iI gf), .int (iI gs), .ref rp, .int (iI rc), .ref sh1, .int (iI tc), .int (iI ft)])), (s1, .inl (X.2.1.2.1, 8, .inr (.inr (.inr (.inr sf))))), ((sa 0), .inr (3, [.int (iI (Wt 0)), .int (iI (Wd 0)), .int (iI (Rg 0)), .int (iI (Ly 0)), .int (iI (Wo 0))])), ((sa 1), .inr (3, [.int (iI (Wt 1)), .int (iI (Wd 1)), .int (iI (Rg 1)), .int (iI (Ly 1)), .int (iI (Wo 1))])), ((sa 2), .inr (3, [.int (iI (Wt 2)), .int (iI (Wd 2)), .int (iI (Rg 2)), .int (iI (Ly 2)), .int (iI (Wo 2))])), ((sa 3), .inr (3, [.int (iI (Wt 3)), .int (iI (Wd 3)), .int (iI (Rg 3)), .int (iI (Ly 3)), .int (iI (Wo 3))])), ((sa 4), .inr (3, [.int (iI (Wt 4)), .int (iI (Wd 4)), .int (iI (Rg 4)), .int (iI (Ly 4)), .int (iI (Wo 4))])), ((sa 5), .inr (3, [.int (iI (Wt 5)), .int (iI (Wd 5)), .int (iI (Rg 5)), .int (iI (Ly 5)), .int (iI (Wo 5))])), ((sa 6), .inr (3, [.int (iI (Wt 6)), .int (iI (Wd 6)), .int (iI (Rg 6)), .int (iI (Ly 6)), .int (iI (Wo 6))]))])) (As := [.int (iI wk)]) C (c_X5_lyingBelow_7 l X h0 s1 w0 t0 k0 r0 rp sh1 gf gs rc tc ft sf sa Wt Wd Rg Ly Wo wk hsf hLy hWo (by first | assumption | omega)) gX5_bestWorths_X5_lyingBelow rfl rfl rfl hd_V_X5_lyingBelow_X5_bestWorths (by decide) dX5_bestWorths_30 [0, 1, 2, 3, 4, 5, 6, 7, 8] [] [0, 1, 2, 3, 4, 5, 6, 7, 8] rfl rfl rfl rfl (by decide) rfl 0 5 rfl rfl rfl rfl (Nat.le_of_ble_eq_true rfl) (by decide) (fun _ => rfl) (fun _ hy_ => ?_)
        have y_4 : 0 ≤ lbL Ly Wo wk 7 ∧ lbL Ly Wo wk 7 ≤ 72 := hy_
        clear hy_
        refine r_iload_n C dX5_bestWorths_33 2 rfl ?_
        refine g_S_l (ws2 := (fun _ => [(h0, .inr (5, [.ref s1, .int (iI 7), .ref w0, .ref t0, .ref k0, .ref r0, .int (iI gf), .int (iI gs), .ref rp, .int (iI rc), .ref sh1, .int (iI tc), .int (iI ft)])), (s1, .inl (X.2.1.2.1, 8, .inr (.inr (.inr (.inr sf))))), ((sa 0), .inr (3, [.int (iI (Wt 0)), .int (iI (Wd 0)), .int (iI (Rg 0)), .int (iI (Ly 0)), .int (iI (Wo 0))])), ((sa 1), .inr (3, [.int (iI (Wt 1)), .int (iI (Wd 1)), .int (iI (Rg 1)), .int (iI (Ly 1)), .int (iI (Wo 1))])), ((sa 2), .inr (3, [.int (iI (Wt 2)), .int (iI (Wd 2)), .int (iI (Rg 2)), .int (iI (Ly 2)), .int (iI (Wo 2))])), ((sa 3), .inr (3, [.int (iI (Wt 3)), .int (iI (Wd 3)), .int (iI (Rg 3)), .int (iI (Ly 3)), .int (iI (Wo 3))])), ((sa 4), .inr (3, [.int (iI (Wt 4)), .int (iI (Wd 4)), .int (iI (Rg 4)), .int (iI (Ly 4)), .int (iI (Wo 4))])), ((sa 5), .inr (3, [.int (iI (Wt 5)), .int (iI (Wd 5)), .int (iI (Rg 5)), .int (iI (Ly 5)), .int (iI (Wo 5))])), ((sa 6), .inr (3, [.int (iI (Wt 6)), .int (iI (Wd 6)), .int (iI (Rg 6)), .int (iI (Ly 6)), .int (iI (Wo 6))]))])) (As := [.long (lI (lbL Ly Wo wk 7)), .int (iI k)]) C (c_X5_power l X (lbL Ly Wo wk 7) k (by first | assumption | omega)) gX5_bestWorths_X5_power rfl rfl rfl hd_S_X5_power_X5_bestWorths (by decide) dX5_bestWorths_34 [] [0, 1, 2, 3, 4, 5, 6, 7, 8] [0, 1, 2, 3, 4, 5, 6, 7, 8] rfl rfl rfl rfl (by decide) rfl rfl rfl (Nat.le_of_ble_eq_true rfl) (by decide) (fun _ => rfl) (fun _ hy_ => ?_)
        clear hy_
        refine r_lsub C dX5_bestWorths_37 ?_
        refine r_ladd C dX5_bestWorths_38 ?_
        refine r_lstore (lo2 := [(4, .long (lI (a1 + ((pwI (lbL Ly Wo 100 7) k) - (pwI (lbL Ly Wo wk 7) k))))), (2, .long (lI (pwI (lbL Ly Wo 100 7) k))), (0, .ref h0), (1, .int (iI k)), (6, .int (iI wk))]) C dX5_bestWorths_39 (by decide) rfl ?_
        refine r_iinc (lo2 := [(6, .int (iI (wk + 1))), (4, .long (lI (a1 + ((pwI (lbL Ly Wo 100 7) k) - (pwI (lbL Ly Wo wk 7) k))))), (2, .long (lI (pwI (lbL Ly Wo 100 7) k))), (0, .ref h0), (1, .int (iI k))]) C dX5_bestWorths_41 4 rfl (by decide) rfl ?_
        refine r_goto (tgt := 17) C dX5_bestWorths_44 (by decide) ?_
        refine r_lo [2, 3, 4, 1, 0] (lo2 := [(2, .long (lI (pwI (lbL Ly Wo 100 7) k))), (0, .ref h0), (1, .int (iI k)), (4, .long (lI (a1 + ((pwI (lbL Ly Wo 100 7) k) - (pwI (lbL Ly Wo wk 7) k))))), (6, .int (iI (wk + 1)))]) rfl ?_
        exact ih17 (a1 + ((pwI (lbL Ly Wo 100 7) k) - (pwI (lbL Ly Wo wk 7) k))) (wk + 1) (by omega) (by rw [iB, bwL_go (by omega)]) (by omega)
  refine r_lo [2, 3, 4, 1, 0] (lo2 := [(2, .long (lI (pwI (lbL Ly Wo 100 7) k))), (0, .ref h0), (1, .int (iI k)), (4, .long (lI 0)), (6, .int (iI 1))]) rfl ?_
  exact L17 ((100 - (1 : Int)).toNat + 1) 0 1 (by omega) rfl (Nat.lt_succ_self _)

set_option maxHeartbeats 4000000 in
set_option maxRecDepth 100000 in
theorem c_X5_mean_7 (l : Launch) (X : gX) (h0 : Nat) (s1 : Nat) (w0 : Nat) (t0 : Nat) (k0 : Nat) (r0 : Nat) (rp : Nat) (sh1 : Nat) (gf : Int) (gs : Int) (rc : Int) (tc : Int) (ft : Int) (sf : Nat → Option Nat) (sa : Nat → Nat) (Wt : Nat → Int) (Wd : Nat → Int) (Rg : Nat → Int) (Ly : Nat → Int) (Wo : Nat → Int) (k : Int) (w : Int) (hsf : ∀ j : Nat, j < 7 → sf j = some (sa j)) (hLy : ∀ j : Nat, j < 7 → 0 ≤ Ly j ∧ Ly j ≤ 9) (hWo : ∀ j : Nat, j < 7 → 0 ≤ Wo j ∧ Wo j ≤ 99) (hb_k : inB k) (hb_w : inB w) : gM l yX5_mean wsX5_mean (gr 3 0 0) X [(h0, .inr (5, [.ref s1, .int (iI 7), .ref w0, .ref t0, .ref k0, .ref r0, .int (iI gf), .int (iI gs), .ref rp, .int (iI rc), .ref sh1, .int (iI tc), .int (iI ft)])), (s1, .inl (X.2.1.2.1, 8, .inr (.inr (.inr (.inr sf))))), ((sa 0), .inr (3, [.int (iI (Wt 0)), .int (iI (Wd 0)), .int (iI (Rg 0)), .int (iI (Ly 0)), .int (iI (Wo 0))])), ((sa 1), .inr (3, [.int (iI (Wt 1)), .int (iI (Wd 1)), .int (iI (Rg 1)), .int (iI (Ly 1)), .int (iI (Wo 1))])), ((sa 2), .inr (3, [.int (iI (Wt 2)), .int (iI (Wd 2)), .int (iI (Rg 2)), .int (iI (Ly 2)), .int (iI (Wo 2))])), ((sa 3), .inr (3, [.int (iI (Wt 3)), .int (iI (Wd 3)), .int (iI (Rg 3)), .int (iI (Ly 3)), .int (iI (Wo 3))])), ((sa 4), .inr (3, [.int (iI (Wt 4)), .int (iI (Wd 4)), .int (iI (Rg 4)), .int (iI (Ly 4)), .int (iI (Wo 4))])), ((sa 5), .inr (3, [.int (iI (Wt 5)), .int (iI (Wd 5)), .int (iI (Rg 5)), .int (iI (Ly 5)), .int (iI (Wo 5))])), ((sa 6), .inr (3, [.int (iI (Wt 6)), .int (iI (Wd 6)), .int (iI (Rg 6)), .int (iI (Ly 6)), .int (iI (Wo 6))]))] [.ref h0, .int (iI k), .int (iI w)] (gQl X (Y := Unit) (fun _ => True) (fun _ => (if 1 ≤ k ∧ k ≤ 6 ∧ 0 ≤ w ∧ w ≤ 1 ∧ ¬ (lbL Ly Wo 100 7) = 0 then shV (bwV Ly Wo 7 k) (pwI (lbL Ly Wo 100 7) k) w else -9223372036854775808)) (fun _ => [(h0, .inr (5, [.ref s1, .int (iI 7), .ref w0, .ref t0, .ref k0, .ref r0, .int (iI gf), .int (iI gs), .ref rp, .int (iI rc), .ref sh1, .int (iI tc), .int (iI ft)])), (s1, .inl (X.2.1.2.1, 8, .inr (.inr (.inr (.inr sf))))), ((sa 0), .inr (3, [.int (iI (Wt 0)), .int (iI (Wd 0)), .int (iI (Rg 0)), .int (iI (Ly 0)), .int (iI (Wo 0))])), ((sa 1), .inr (3, [.int (iI (Wt 1)), .int (iI (Wd 1)), .int (iI (Rg 1)), .int (iI (Ly 1)), .int (iI (Wo 1))])), ((sa 2), .inr (3, [.int (iI (Wt 2)), .int (iI (Wd 2)), .int (iI (Rg 2)), .int (iI (Ly 2)), .int (iI (Wo 2))])), ((sa 3), .inr (3, [.int (iI (Wt 3)), .int (iI (Wd 3)), .int (iI (Rg 3)), .int (iI (Ly 3)), .int (iI (Wo 3))])), ((sa 4), .inr (3, [.int (iI (Wt 4)), .int (iI (Wd 4)), .int (iI (Rg 4)), .int (iI (Ly 4)), .int (iI (Wo 4))])), ((sa 5), .inr (3, [.int (iI (Wt 5)), .int (iI (Wd 5)), .int (iI (Rg 5)), .int (iI (Ly 5)), .int (iI (Wo 5))])), ((sa 6), .inr (3, [.int (iI (Wt 6)), .int (iI (Wd 6)), .int (iI (Rg 6)), .int (iI (Ly 6)), .int (iI (Wo 6))]))])) 0 0 := by
  refine g_start2 (lo := [(0, .ref h0), (1, .int (iI k)), (2, .int (iI w))]) (by decide +kernel) rfl rfl (Nat.le_of_ble_eq_true rfl) (fun p e s m args below meth c A C => ?_)
  refine r_iload_n C dX5_mean_0 1 rfl ?_
  refine r_iconst C dX5_mean_1 ?_
  refine r_bipush C dX5_mean_2 (by decide) ?_
  refine g_S_i (ws2 := (fun _ => [(h0, .inr (5, [.ref s1, .int (iI 7), .ref w0, .ref t0, .ref k0, .ref r0, .int (iI gf), .int (iI gs), .ref rp, .int (iI rc), .ref sh1, .int (iI tc), .int (iI ft)])), (s1, .inl (X.2.1.2.1, 8, .inr (.inr (.inr (.inr sf))))), ((sa 0), .inr (3, [.int (iI (Wt 0)), .int (iI (Wd 0)), .int (iI (Rg 0)), .int (iI (Ly 0)), .int (iI (Wo 0))])), ((sa 1), .inr (3, [.int (iI (Wt 1)), .int (iI (Wd 1)), .int (iI (Rg 1)), .int (iI (Ly 1)), .int (iI (Wo 1))])), ((sa 2), .inr (3, [.int (iI (Wt 2)), .int (iI (Wd 2)), .int (iI (Rg 2)), .int (iI (Ly 2)), .int (iI (Wo 2))])), ((sa 3), .inr (3, [.int (iI (Wt 3)), .int (iI (Wd 3)), .int (iI (Rg 3)), .int (iI (Ly 3)), .int (iI (Wo 3))])), ((sa 4), .inr (3, [.int (iI (Wt 4)), .int (iI (Wd 4)), .int (iI (Rg 4)), .int (iI (Ly 4)), .int (iI (Wo 4))])), ((sa 5), .inr (3, [.int (iI (Wt 5)), .int (iI (Wd 5)), .int (iI (Rg 5)), .int (iI (Ly 5)), .int (iI (Wo 5))])), ((sa 6), .inr (3, [.int (iI (Wt 6)), .int (iI (Wd 6)), .int (iI (Rg 6)), .int (iI (Ly 6)), .int (iI (Wo 6))]))])) (As := [.int (iI k), .int (iI 1), .int (iI 6)]) C (c_X5_within l X k 1 6 (by first | assumption | omega) (by first | assumption | omega) (by first | assumption | omega)) gX5_mean_X5_within rfl rfl rfl hd_S_X5_within_X5_mean (by decide) dX5_mean_4 [] [0, 1, 2, 3, 4, 5, 6, 7, 8] [0, 1, 2, 3, 4, 5, 6, 7, 8] rfl rfl rfl rfl (by decide) rfl rfl rfl (Nat.le_of_ble_eq_true rfl) (by decide) (fun _ => rfl) (fun _ hy_ => ?_)
  clear hy_
  refine r_ite (fun h_1 => ?_) (fun h_1 => ?_)
  · skip
    refine r_if_eq (tgt := 19) C dX5_mean_7 (by decide) (by decide) (fun h_2 => absurd h_2 (by decide)) (fun h_2 => ?_)
    refine r_iload_n C dX5_mean_10 2 rfl ?_
    refine r_iconst C dX5_mean_11 ?_
    refine r_iconst C dX5_mean_12 ?_
    refine g_S_i (ws2 := (fun _ => [(h0, .inr (5, [.ref s1, .int (iI 7), .ref w0, .ref t0, .ref k0, .ref r0, .int (iI gf), .int (iI gs), .ref rp, .int (iI rc), .ref sh1, .int (iI tc), .int (iI ft)])), (s1, .inl (X.2.1.2.1, 8, .inr (.inr (.inr (.inr sf))))), ((sa 0), .inr (3, [.int (iI (Wt 0)), .int (iI (Wd 0)), .int (iI (Rg 0)), .int (iI (Ly 0)), .int (iI (Wo 0))])), ((sa 1), .inr (3, [.int (iI (Wt 1)), .int (iI (Wd 1)), .int (iI (Rg 1)), .int (iI (Ly 1)), .int (iI (Wo 1))])), ((sa 2), .inr (3, [.int (iI (Wt 2)), .int (iI (Wd 2)), .int (iI (Rg 2)), .int (iI (Ly 2)), .int (iI (Wo 2))])), ((sa 3), .inr (3, [.int (iI (Wt 3)), .int (iI (Wd 3)), .int (iI (Rg 3)), .int (iI (Ly 3)), .int (iI (Wo 3))])), ((sa 4), .inr (3, [.int (iI (Wt 4)), .int (iI (Wd 4)), .int (iI (Rg 4)), .int (iI (Ly 4)), .int (iI (Wo 4))])), ((sa 5), .inr (3, [.int (iI (Wt 5)), .int (iI (Wd 5)), .int (iI (Rg 5)), .int (iI (Ly 5)), .int (iI (Wo 5))])), ((sa 6), .inr (3, [.int (iI (Wt 6)), .int (iI (Wd 6)), .int (iI (Rg 6)), .int (iI (Ly 6)), .int (iI (Wo 6))]))])) (As := [.int (iI w), .int (iI 0), .int (iI 1)]) C (c_X5_within l X w 0 1 (by first | assumption | omega) (by first | assumption | omega) (by first | assumption | omega)) gX5_mean_X5_within rfl rfl rfl hd_S_X5_within_X5_mean (by decide) dX5_mean_13 [] [0, 1, 2, 3, 4, 5, 6, 7, 8] [0, 1, 2, 3, 4, 5, 6, 7, 8] rfl rfl rfl rfl (by decide) rfl rfl rfl (Nat.le_of_ble_eq_true rfl) (by decide) (fun _ => rfl) (fun _ hy_ => ?_)
    clear hy_
    refine r_ite (fun h_3 => ?_) (fun h_3 => ?_)
    · skip
      refine r_if_ne (tgt := 23) C dX5_mean_16 (by decide) (by decide) (fun h_4 => ?_) (fun h_4 => absurd h_4 (by decide))
      refine r_aload_n C dX5_mean_23 0 rfl ?_
      refine r_bipush C dX5_mean_24 (by decide) ?_
      refine g_V_l (ws2 := (fun _ => [(h0, .inr (5, [.ref s1, .int (iI 7), .ref w0, .ref t0, .ref k0, .ref r0, .int (iI gf), .int (iI gs), .ref rp, .int (iI rc), .ref sh1, .int (iI tc), .int (iI ft)])), (s1, .inl (X.2.1.2.1, 8, .inr (.inr (.inr (.inr sf))))), ((sa 0), .inr (3, [.int (iI (Wt 0)), .int (iI (Wd 0)), .int (iI (Rg 0)), .int (iI (Ly 0)), .int (iI (Wo 0))])), ((sa 1), .inr (3, [.int (iI (Wt 1)), .int (iI (Wd 1)), .int (iI (Rg 1)), .int (iI (Ly 1)), .int (iI (Wo 1))])), ((sa 2), .inr (3, [.int (iI (Wt 2)), .int (iI (Wd 2)), .int (iI (Rg 2)), .int (iI (Ly 2)), .int (iI (Wo 2))])), ((sa 3), .inr (3, [.int (iI (Wt 3)), .int (iI (Wd 3)), .int (iI (Rg 3)), .int (iI (Ly 3)), .int (iI (Wo 3))])), ((sa 4), .inr (3, [.int (iI (Wt 4)), .int (iI (Wd 4)), .int (iI (Rg 4)), .int (iI (Ly 4)), .int (iI (Wo 4))])), ((sa 5), .inr (3, [.int (iI (Wt 5)), .int (iI (Wd 5)), .int (iI (Rg 5)), .int (iI (Ly 5)), .int (iI (Wo 5))])), ((sa 6), .inr (3, [.int (iI (Wt 6)), .int (iI (Wd 6)), .int (iI (Rg 6)), .int (iI (Ly 6)), .int (iI (Wo 6))]))])) (As := [.int (iI 100)]) C (c_X5_lyingBelow_7 l X h0 s1 w0 t0 k0 r0 rp sh1 gf gs rc tc ft sf sa Wt Wd Rg Ly Wo 100 hsf hLy hWo (by first | assumption | omega)) gX5_mean_X5_lyingBelow rfl rfl rfl hd_V_X5_lyingBelow_X5_mean (by decide) dX5_mean_26 [0, 1, 2, 3, 4, 5, 6, 7, 8] [] [0, 1, 2, 3, 4, 5, 6, 7, 8] rfl rfl rfl rfl (by decide) rfl 0 5 rfl rfl rfl rfl (Nat.le_of_ble_eq_true rfl) (by decide) (fun _ => rfl) (fun _ hy_ => ?_)
      have y_5 : 0 ≤ lbL Ly Wo 100 7 ∧ lbL Ly Wo 100 7 ≤ 72 := hy_
      clear hy_
      refine r_lstore_n (lo2 := [(3, .long (lI (lbL Ly Wo 100 7))), (0, .ref h0), (1, .int (iI k)), (2, .int (iI w))]) C dX5_mean_29 rfl (by decide) rfl ?_
      refine r_lload_n C dX5_mean_30 0 rfl ?_
      refine r_lconst (z := 0) C dX5_mean_31 rfl ?_
      refine r_lcmp_ne (tgt := 40) C dX5_mean_32 dX5_mean_33 (by decide) (by omega) (by decide) (fun h_7 => ?_) (fun h_7 => ?_)
      · skip
        have bb := bwV_B (Ly := Ly) (Wo := Wo) (ns := 7) (k := k) (by decide) hLy (by omega) hWo
        have pp := pwI_72 (a := (lbL Ly Wo 100 7)) (k := k) (by omega) (by omega)
        have p1_ : 1 ≤ pwI (lbL Ly Wo 100 7) k := pwI_pos (by omega) _
        refine r_aload_n C dX5_mean_40 1 rfl ?_
        refine r_iload_n C dX5_mean_41 2 rfl ?_
        refine g_V_l (ws2 := (fun _ => [(h0, .inr (5, [.ref s1, .int (iI 7), .ref w0, .ref t0, .ref k0, .ref r0, .int (iI gf), .int (iI gs), .ref rp, .int (iI rc), .ref sh1, .int (iI tc), .int (iI ft)])), (s1, .inl (X.2.1.2.1, 8, .inr (.inr (.inr (.inr sf))))), ((sa 0), .inr (3, [.int (iI (Wt 0)), .int (iI (Wd 0)), .int (iI (Rg 0)), .int (iI (Ly 0)), .int (iI (Wo 0))])), ((sa 1), .inr (3, [.int (iI (Wt 1)), .int (iI (Wd 1)), .int (iI (Rg 1)), .int (iI (Ly 1)), .int (iI (Wo 1))])), ((sa 2), .inr (3, [.int (iI (Wt 2)), .int (iI (Wd 2)), .int (iI (Rg 2)), .int (iI (Ly 2)), .int (iI (Wo 2))])), ((sa 3), .inr (3, [.int (iI (Wt 3)), .int (iI (Wd 3)), .int (iI (Rg 3)), .int (iI (Ly 3)), .int (iI (Wo 3))])), ((sa 4), .inr (3, [.int (iI (Wt 4)), .int (iI (Wd 4)), .int (iI (Rg 4)), .int (iI (Ly 4)), .int (iI (Wo 4))])), ((sa 5), .inr (3, [.int (iI (Wt 5)), .int (iI (Wd 5)), .int (iI (Rg 5)), .int (iI (Ly 5)), .int (iI (Wo 5))])), ((sa 6), .inr (3, [.int (iI (Wt 6)), .int (iI (Wd 6)), .int (iI (Rg 6)), .int (iI (Ly 6)), .int (iI (Wo 6))]))])) (As := [.int (iI k)]) C (c_X5_bestWorths_7 l X h0 s1 w0 t0 k0 r0 rp sh1 gf gs rc tc ft sf sa Wt Wd Rg Ly Wo k hsf hLy hWo (by first | assumption | omega)) gX5_mean_X5_bestWorths rfl rfl rfl hd_V_X5_bestWorths_X5_mean (by decide) dX5_mean_42 [0, 1, 2, 3, 4, 5, 6, 7, 8] [] [0, 1, 2, 3, 4, 5, 6, 7, 8] rfl rfl rfl rfl (by decide) rfl 0 5 rfl rfl rfl rfl (Nat.le_of_ble_eq_true rfl) (by decide) (fun _ => rfl) (fun _ hy_ => ?_)
        clear hy_
        refine r_lload_n C dX5_mean_45 0 rfl ?_
        refine r_iload_n C dX5_mean_46 2 rfl ?_
        refine g_S_l (ws2 := (fun _ => [(h0, .inr (5, [.ref s1, .int (iI 7), .ref w0, .ref t0, .ref k0, .ref r0, .int (iI gf), .int (iI gs), .ref rp, .int (iI rc), .ref sh1, .int (iI tc), .int (iI ft)])), (s1, .inl (X.2.1.2.1, 8, .inr (.inr (.inr (.inr sf))))), ((sa 0), .inr (3, [.int (iI (Wt 0)), .int (iI (Wd 0)), .int (iI (Rg 0)), .int (iI (Ly 0)), .int (iI (Wo 0))])), ((sa 1), .inr (3, [.int (iI (Wt 1)), .int (iI (Wd 1)), .int (iI (Rg 1)), .int (iI (Ly 1)), .int (iI (Wo 1))])), ((sa 2), .inr (3, [.int (iI (Wt 2)), .int (iI (Wd 2)), .int (iI (Rg 2)), .int (iI (Ly 2)), .int (iI (Wo 2))])), ((sa 3), .inr (3, [.int (iI (Wt 3)), .int (iI (Wd 3)), .int (iI (Rg 3)), .int (iI (Ly 3)), .int (iI (Wo 3))])), ((sa 4), .inr (3, [.int (iI (Wt 4)), .int (iI (Wd 4)), .int (iI (Rg 4)), .int (iI (Ly 4)), .int (iI (Wo 4))])), ((sa 5), .inr (3, [.int (iI (Wt 5)), .int (iI (Wd 5)), .int (iI (Rg 5)), .int (iI (Ly 5)), .int (iI (Wo 5))])), ((sa 6), .inr (3, [.int (iI (Wt 6)), .int (iI (Wd 6)), .int (iI (Rg 6)), .int (iI (Ly 6)), .int (iI (Wo 6))]))])) (As := [.long (lI (lbL Ly Wo 100 7)), .int (iI k)]) C (c_X5_power l X (lbL Ly Wo 100 7) k (by first | assumption | omega)) gX5_mean_X5_power rfl rfl rfl hd_S_X5_power_X5_mean (by decide) dX5_mean_47 [] [0, 1, 2, 3, 4, 5, 6, 7, 8] [0, 1, 2, 3, 4, 5, 6, 7, 8] rfl rfl rfl rfl (by decide) rfl rfl rfl (Nat.le_of_ble_eq_true rfl) (by decide) (fun _ => rfl) (fun _ hy_ => ?_)
        clear hy_
        refine r_iload_n C dX5_mean_50 3 rfl ?_
        refine g_S_l (ws2 := (fun _ => [(h0, .inr (5, [.ref s1, .int (iI 7), .ref w0, .ref t0, .ref k0, .ref r0, .int (iI gf), .int (iI gs), .ref rp, .int (iI rc), .ref sh1, .int (iI tc), .int (iI ft)])), (s1, .inl (X.2.1.2.1, 8, .inr (.inr (.inr (.inr sf))))), ((sa 0), .inr (3, [.int (iI (Wt 0)), .int (iI (Wd 0)), .int (iI (Rg 0)), .int (iI (Ly 0)), .int (iI (Wo 0))])), ((sa 1), .inr (3, [.int (iI (Wt 1)), .int (iI (Wd 1)), .int (iI (Rg 1)), .int (iI (Ly 1)), .int (iI (Wo 1))])), ((sa 2), .inr (3, [.int (iI (Wt 2)), .int (iI (Wd 2)), .int (iI (Rg 2)), .int (iI (Ly 2)), .int (iI (Wo 2))])), ((sa 3), .inr (3, [.int (iI (Wt 3)), .int (iI (Wd 3)), .int (iI (Rg 3)), .int (iI (Ly 3)), .int (iI (Wo 3))])), ((sa 4), .inr (3, [.int (iI (Wt 4)), .int (iI (Wd 4)), .int (iI (Rg 4)), .int (iI (Ly 4)), .int (iI (Wo 4))])), ((sa 5), .inr (3, [.int (iI (Wt 5)), .int (iI (Wd 5)), .int (iI (Rg 5)), .int (iI (Ly 5)), .int (iI (Wo 5))])), ((sa 6), .inr (3, [.int (iI (Wt 6)), .int (iI (Wd 6)), .int (iI (Rg 6)), .int (iI (Ly 6)), .int (iI (Wo 6))]))])) (As := [.long (lI (bwV Ly Wo 7 k)), .long (lI (pwI (lbL Ly Wo 100 7) k)), .int (iI w)]) C (c_X5_share l X (bwV Ly Wo 7 k) (pwI (lbL Ly Wo 100 7) k) w (by first | assumption | omega) (by first | assumption | omega) (by first | assumption | omega)) gX5_mean_X5_share rfl rfl rfl hd_S_X5_share_X5_mean (by decide) dX5_mean_51 [] [0, 1, 2, 3, 4, 5, 6, 7, 8] [0, 1, 2, 3, 4, 5, 6, 7, 8] rfl rfl rfl rfl (by decide) rfl rfl rfl (Nat.le_of_ble_eq_true rfl) (by decide) (fun _ => rfl) (fun _ hy_ => ?_)
        clear hy_
        exact g_ret_l C rfl dX5_mean_54 () trivial (by first | (rw [if_pos (by omega)]; done) | (rw [if_neg (by omega)]; done)) [0, 1, 2, 3, 4, 5, 6, 7, 8] rfl (by (repeat' split) <;> first | rfl | omega)
      · skip
        refine r_ldc2 (z := -9223372036854775808) C dX5_mean_36 kw_X5_mean_0 rfl ?_
        exact g_ret_l C rfl dX5_mean_39 () trivial (by first | (rw [if_pos (by omega)]; done) | (rw [if_neg (by omega)]; done)) [0, 1, 2, 3, 4, 5, 6, 7, 8] rfl (by (repeat' split) <;> first | rfl | omega)
    · skip
      refine r_if_ne (tgt := 23) C dX5_mean_16 (by decide) (by decide) (fun h_8 => absurd h_8 (by decide)) (fun h_8 => ?_)
      refine r_ldc2 (z := -9223372036854775808) C dX5_mean_19 kw_X5_mean_0 rfl ?_
      exact g_ret_l C rfl dX5_mean_22 () trivial (by first | (rw [if_pos (by omega)]; done) | (rw [if_neg (by omega)]; done)) [0, 1, 2, 3, 4, 5, 6, 7, 8] rfl (by (repeat' split) <;> first | rfl | omega)
  · skip
    refine r_if_eq (tgt := 19) C dX5_mean_7 (by decide) (by decide) (fun h_9 => ?_) (fun h_9 => absurd h_9 (by decide))
    refine r_ldc2 (z := -9223372036854775808) C dX5_mean_19 kw_X5_mean_0 rfl ?_
    exact g_ret_l C rfl dX5_mean_22 () trivial (by first | (rw [if_pos (by omega)]; done) | (rw [if_neg (by omega)]; done)) [0, 1, 2, 3, 4, 5, 6, 7, 8] rfl (by (repeat' split) <;> first | rfl | omega)

set_option maxHeartbeats 4000000 in
set_option maxRecDepth 100000 in
theorem c_X5_hours_7 (l : Launch) (X : gX) (h0 : Nat) (s1 : Nat) (w0 : Nat) (t0 : Nat) (k0 : Nat) (r0 : Nat) (rp : Nat) (sh1 : Nat) (gf : Int) (gs : Int) (rc : Int) (tc : Int) (ft : Int) (sf : Nat → Option Nat) (sa : Nat → Nat) (Wt : Nat → Int) (Wd : Nat → Int) (Rg : Nat → Int) (Ly : Nat → Int) (Wo : Nat → Int) (cost : Int) (hsf : ∀ j : Nat, j < 7 → sf j = some (sa j)) (hLy : ∀ j : Nat, j < 7 → 0 ≤ Ly j ∧ Ly j ≤ 9) (hWo : ∀ j : Nat, j < 7 → 0 ≤ Wo j ∧ Wo j ≤ 99) (hb_cost : inB cost) : gM l yX5_hours wsX5_hours (gr 3 0 0) X [(h0, .inr (5, [.ref s1, .int (iI 7), .ref w0, .ref t0, .ref k0, .ref r0, .int (iI gf), .int (iI gs), .ref rp, .int (iI rc), .ref sh1, .int (iI tc), .int (iI ft)])), (s1, .inl (X.2.1.2.1, 8, .inr (.inr (.inr (.inr sf))))), ((sa 0), .inr (3, [.int (iI (Wt 0)), .int (iI (Wd 0)), .int (iI (Rg 0)), .int (iI (Ly 0)), .int (iI (Wo 0))])), ((sa 1), .inr (3, [.int (iI (Wt 1)), .int (iI (Wd 1)), .int (iI (Rg 1)), .int (iI (Ly 1)), .int (iI (Wo 1))])), ((sa 2), .inr (3, [.int (iI (Wt 2)), .int (iI (Wd 2)), .int (iI (Rg 2)), .int (iI (Ly 2)), .int (iI (Wo 2))])), ((sa 3), .inr (3, [.int (iI (Wt 3)), .int (iI (Wd 3)), .int (iI (Rg 3)), .int (iI (Ly 3)), .int (iI (Wo 3))])), ((sa 4), .inr (3, [.int (iI (Wt 4)), .int (iI (Wd 4)), .int (iI (Rg 4)), .int (iI (Ly 4)), .int (iI (Wo 4))])), ((sa 5), .inr (3, [.int (iI (Wt 5)), .int (iI (Wd 5)), .int (iI (Rg 5)), .int (iI (Ly 5)), .int (iI (Wo 5))])), ((sa 6), .inr (3, [.int (iI (Wt 6)), .int (iI (Wd 6)), .int (iI (Rg 6)), .int (iI (Ly 6)), .int (iI (Wo 6))]))] [.ref h0, .int (iI cost)] (gQi X (Y := Unit) (fun _ => True) (fun _ => (if ¬ (0 ≤ cost ∧ cost ≤ 99) then -2 else if (lbL Ly Wo 100 7) = 0 then -3 else (hrV Ly Wo 7 cost).2)) (fun _ => [(h0, .inr (5, [.ref s1, .int (iI 7), .ref w0, .ref t0, .ref k0, .ref r0, .int (iI gf), .int (iI gs), .ref rp, .int (iI rc), .ref sh1, .int (iI tc), .int (iI ft)])), (s1, .inl (X.2.1.2.1, 8, .inr (.inr (.inr (.inr sf))))), ((sa 0), .inr (3, [.int (iI (Wt 0)), .int (iI (Wd 0)), .int (iI (Rg 0)), .int (iI (Ly 0)), .int (iI (Wo 0))])), ((sa 1), .inr (3, [.int (iI (Wt 1)), .int (iI (Wd 1)), .int (iI (Rg 1)), .int (iI (Ly 1)), .int (iI (Wo 1))])), ((sa 2), .inr (3, [.int (iI (Wt 2)), .int (iI (Wd 2)), .int (iI (Rg 2)), .int (iI (Ly 2)), .int (iI (Wo 2))])), ((sa 3), .inr (3, [.int (iI (Wt 3)), .int (iI (Wd 3)), .int (iI (Rg 3)), .int (iI (Ly 3)), .int (iI (Wo 3))])), ((sa 4), .inr (3, [.int (iI (Wt 4)), .int (iI (Wd 4)), .int (iI (Rg 4)), .int (iI (Ly 4)), .int (iI (Wo 4))])), ((sa 5), .inr (3, [.int (iI (Wt 5)), .int (iI (Wd 5)), .int (iI (Rg 5)), .int (iI (Ly 5)), .int (iI (Wo 5))])), ((sa 6), .inr (3, [.int (iI (Wt 6)), .int (iI (Wd 6)), .int (iI (Rg 6)), .int (iI (Ly 6)), .int (iI (Wo 6))]))])) 0 0 := by
  refine g_start2 (lo := [(0, .ref h0), (1, .int (iI cost))]) (by decide +kernel) rfl rfl (Nat.le_of_ble_eq_true rfl) (fun p e s m args below meth c A C => ?_)
  refine r_iload_n C dX5_hours_0 1 rfl ?_
  refine r_iconst C dX5_hours_1 ?_
  refine r_bipush C dX5_hours_2 (by decide) ?_
  refine g_S_i (ws2 := (fun _ => [(h0, .inr (5, [.ref s1, .int (iI 7), .ref w0, .ref t0, .ref k0, .ref r0, .int (iI gf), .int (iI gs), .ref rp, .int (iI rc), .ref sh1, .int (iI tc), .int (iI ft)])), (s1, .inl (X.2.1.2.1, 8, .inr (.inr (.inr (.inr sf))))), ((sa 0), .inr (3, [.int (iI (Wt 0)), .int (iI (Wd 0)), .int (iI (Rg 0)), .int (iI (Ly 0)), .int (iI (Wo 0))])), ((sa 1), .inr (3, [.int (iI (Wt 1)), .int (iI (Wd 1)), .int (iI (Rg 1)), .int (iI (Ly 1)), .int (iI (Wo 1))])), ((sa 2), .inr (3, [.int (iI (Wt 2)), .int (iI (Wd 2)), .int (iI (Rg 2)), .int (iI (Ly 2)), .int (iI (Wo 2))])), ((sa 3), .inr (3, [.int (iI (Wt 3)), .int (iI (Wd 3)), .int (iI (Rg 3)), .int (iI (Ly 3)), .int (iI (Wo 3))])), ((sa 4), .inr (3, [.int (iI (Wt 4)), .int (iI (Wd 4)), .int (iI (Rg 4)), .int (iI (Ly 4)), .int (iI (Wo 4))])), ((sa 5), .inr (3, [.int (iI (Wt 5)), .int (iI (Wd 5)), .int (iI (Rg 5)), .int (iI (Ly 5)), .int (iI (Wo 5))])), ((sa 6), .inr (3, [.int (iI (Wt 6)), .int (iI (Wd 6)), .int (iI (Rg 6)), .int (iI (Ly 6)), .int (iI (Wo 6))]))])) (As := [.int (iI cost), .int (iI 0), .int (iI 99)]) C (c_X5_within l X cost 0 99 (by first | assumption | omega) (by first | assumption | omega) (by first | assumption | omega)) gX5_hours_X5_within rfl rfl rfl hd_S_X5_within_X5_hours (by decide) dX5_hours_4 [] [0, 1, 2, 3, 4, 5, 6, 7, 8] [0, 1, 2, 3, 4, 5, 6, 7, 8] rfl rfl rfl rfl (by decide) rfl rfl rfl (Nat.le_of_ble_eq_true rfl) (by decide) (fun _ => rfl) (fun _ hy_ => ?_)
  clear hy_
  refine r_ite (fun h_1 => ?_) (fun h_1 => ?_)
  · skip
    refine r_if_ne (tgt := 13) C dX5_hours_7 (by decide) (by decide) (fun h_2 => ?_) (fun h_2 => absurd h_2 (by decide))
    refine r_aload_n C dX5_hours_13 0 rfl ?_
    refine r_bipush C dX5_hours_14 (by decide) ?_
    refine g_V_l (ws2 := (fun _ => [(h0, .inr (5, [.ref s1, .int (iI 7), .ref w0, .ref t0, .ref k0, .ref r0, .int (iI gf), .int (iI gs), .ref rp, .int (iI rc), .ref sh1, .int (iI tc), .int (iI ft)])), (s1, .inl (X.2.1.2.1, 8, .inr (.inr (.inr (.inr sf))))), ((sa 0), .inr (3, [.int (iI (Wt 0)), .int (iI (Wd 0)), .int (iI (Rg 0)), .int (iI (Ly 0)), .int (iI (Wo 0))])), ((sa 1), .inr (3, [.int (iI (Wt 1)), .int (iI (Wd 1)), .int (iI (Rg 1)), .int (iI (Ly 1)), .int (iI (Wo 1))])), ((sa 2), .inr (3, [.int (iI (Wt 2)), .int (iI (Wd 2)), .int (iI (Rg 2)), .int (iI (Ly 2)), .int (iI (Wo 2))])), ((sa 3), .inr (3, [.int (iI (Wt 3)), .int (iI (Wd 3)), .int (iI (Rg 3)), .int (iI (Ly 3)), .int (iI (Wo 3))])), ((sa 4), .inr (3, [.int (iI (Wt 4)), .int (iI (Wd 4)), .int (iI (Rg 4)), .int (iI (Ly 4)), .int (iI (Wo 4))])), ((sa 5), .inr (3, [.int (iI (Wt 5)), .int (iI (Wd 5)), .int (iI (Rg 5)), .int (iI (Ly 5)), .int (iI (Wo 5))])), ((sa 6), .inr (3, [.int (iI (Wt 6)), .int (iI (Wd 6)), .int (iI (Rg 6)), .int (iI (Ly 6)), .int (iI (Wo 6))]))])) (As := [.int (iI 100)]) C (c_X5_lyingBelow_7 l X h0 s1 w0 t0 k0 r0 rp sh1 gf gs rc tc ft sf sa Wt Wd Rg Ly Wo 100 hsf hLy hWo (by first | assumption | omega)) gX5_hours_X5_lyingBelow rfl rfl rfl hd_V_X5_lyingBelow_X5_hours (by decide) dX5_hours_16 [0, 1, 2, 3, 4, 5, 6, 7, 8] [] [0, 1, 2, 3, 4, 5, 6, 7, 8] rfl rfl rfl rfl (by decide) rfl 0 5 rfl rfl rfl rfl (Nat.le_of_ble_eq_true rfl) (by decide) (fun _ => rfl) (fun _ hy_ => ?_)
    have y_3 : 0 ≤ lbL Ly Wo 100 7 ∧ lbL Ly Wo 100 7 ≤ 72 := hy_
    clear hy_
    refine r_lstore_n (lo2 := [(2, .long (lI (lbL Ly Wo 100 7))), (0, .ref h0), (1, .int (iI cost))]) C dX5_hours_19 rfl (by decide) rfl ?_
    refine r_lload_n C dX5_hours_20 0 rfl ?_
    refine r_lconst (z := 0) C dX5_hours_21 rfl ?_
    refine r_lcmp_ne (tgt := 29) C dX5_hours_22 dX5_hours_23 (by decide) (by omega) (by decide) (fun h_5 => ?_) (fun h_5 => ?_)
    · skip
      refine r_lload_n C dX5_hours_29 0 rfl ?_
      refine r_bipush C dX5_hours_30 (by decide) ?_
      refine g_S_l (ws2 := (fun _ => [(h0, .inr (5, [.ref s1, .int (iI 7), .ref w0, .ref t0, .ref k0, .ref r0, .int (iI gf), .int (iI gs), .ref rp, .int (iI rc), .ref sh1, .int (iI tc), .int (iI ft)])), (s1, .inl (X.2.1.2.1, 8, .inr (.inr (.inr (.inr sf))))), ((sa 0), .inr (3, [.int (iI (Wt 0)), .int (iI (Wd 0)), .int (iI (Rg 0)), .int (iI (Ly 0)), .int (iI (Wo 0))])), ((sa 1), .inr (3, [.int (iI (Wt 1)), .int (iI (Wd 1)), .int (iI (Rg 1)), .int (iI (Ly 1)), .int (iI (Wo 1))])), ((sa 2), .inr (3, [.int (iI (Wt 2)), .int (iI (Wd 2)), .int (iI (Rg 2)), .int (iI (Ly 2)), .int (iI (Wo 2))])), ((sa 3), .inr (3, [.int (iI (Wt 3)), .int (iI (Wd 3)), .int (iI (Rg 3)), .int (iI (Ly 3)), .int (iI (Wo 3))])), ((sa 4), .inr (3, [.int (iI (Wt 4)), .int (iI (Wd 4)), .int (iI (Rg 4)), .int (iI (Ly 4)), .int (iI (Wo 4))])), ((sa 5), .inr (3, [.int (iI (Wt 5)), .int (iI (Wd 5)), .int (iI (Rg 5)), .int (iI (Ly 5)), .int (iI (Wo 5))])), ((sa 6), .inr (3, [.int (iI (Wt 6)), .int (iI (Wd 6)), .int (iI (Rg 6)), .int (iI (Ly 6)), .int (iI (Wo 6))]))])) (As := [.long (lI (lbL Ly Wo 100 7)), .int (iI 6)]) C (c_X5_power l X (lbL Ly Wo 100 7) 6 (by first | assumption | omega)) gX5_hours_X5_power rfl rfl rfl hd_S_X5_power_X5_hours (by decide) dX5_hours_32 [] [0, 1, 2, 3, 4, 5, 6, 7, 8] [0, 1, 2, 3, 4, 5, 6, 7, 8] rfl rfl rfl rfl (by decide) rfl rfl rfl (Nat.le_of_ble_eq_true rfl) (by decide) (fun _ => rfl) (fun _ hy_ => ?_)
      clear hy_
      refine r_lstore (lo2 := [(4, .long (lI (pwI (lbL Ly Wo 100 7) 6))), (2, .long (lI (lbL Ly Wo 100 7))), (0, .ref h0), (1, .int (iI cost))]) C dX5_hours_35 (by decide) rfl ?_
      refine r_iconst C dX5_hours_37 ?_
      refine r_istore (lo2 := [(6, .int (iI 1)), (4, .long (lI (pwI (lbL Ly Wo 100 7) 6))), (2, .long (lI (lbL Ly Wo 100 7))), (0, .ref h0), (1, .int (iI cost))]) C dX5_hours_38 (by decide) rfl ?_
      refine r_lconst (z := 0) C dX5_hours_40 rfl ?_
      refine r_lstore (lo2 := [(7, .long (lI 0)), (6, .int (iI 1)), (4, .long (lI (pwI (lbL Ly Wo 100 7) 6))), (2, .long (lI (lbL Ly Wo 100 7))), (0, .ref h0), (1, .int (iI cost))]) C dX5_hours_41 (by decide) rfl ?_
      refine r_iconst C dX5_hours_43 ?_
      refine r_istore (lo2 := [(9, .int (iI 1)), (7, .long (lI 0)), (6, .int (iI 1)), (4, .long (lI (pwI (lbL Ly Wo 100 7) 6))), (2, .long (lI (lbL Ly Wo 100 7))), (0, .ref h0), (1, .int (iI cost))]) C dX5_hours_44 (by decide) rfl ?_
      have L46 : ∀ (fu46 : Nat) (a2 : Int) (a1 : Int) (c1 : Int), (1 ≤ c1 ∧ c1 ≤ 7) → (-100000000000000 ≤ a1 ∧ a1 ≤ 100000000000000) → (hrV Ly Wo 7 cost = gIn (hrF Ly Wo 7 cost) (7 - c1).toNat c1 (a1, a2)) → (7 - c1).toNat < fu46 → gW p l e (gr 3 0 0) s m args below meth c X A 12 (MQ below ((gQi X (Y := Unit) (fun _ => True) (fun _ => (if ¬ (0 ≤ cost ∧ cost ≤ 99) then -2 else if (lbL Ly Wo 100 7) = 0 then -3 else (hrV Ly Wo 7 cost).2)) (fun _ => [(h0, .inr (5, [.ref s1, .int (iI 7), .ref w0, .ref t0, .ref k0, .ref r0, .int (iI gf), .int (iI gs), .ref rp, .int (iI rc), .ref sh1, .int (iI tc), .int (iI ft)])), (s1, .inl (X.2.1.2.1, 8, .inr (.inr (.inr (.inr sf))))), ((sa 0), .inr (3, [.int (iI (Wt 0)), .int (iI (Wd 0)), .int (iI (Rg 0)), .int (iI (Ly 0)), .int (iI (Wo 0))])), ((sa 1), .inr (3, [.int (iI (Wt 1)), .int (iI (Wd 1)), .int (iI (Rg 1)), .int (iI (Ly 1)), .int (iI (Wo 1))])), ((sa 2), .inr (3, [.int (iI (Wt 2)), .int (iI (Wd 2)), .int (iI (Rg 2)), .int (iI (Ly 2)), .int (iI (Wo 2))])), ((sa 3), .inr (3, [.int (iI (Wt 3)), .int (iI (Wd 3)), .int (iI (Rg 3)), .int (iI (Ly 3)), .int (iI (Wo 3))])), ((sa 4), .inr (3, [.int (iI (Wt 4)), .int (iI (Wd 4)), .int (iI (Rg 4)), .int (iI (Ly 4)), .int (iI (Wo 4))])), ((sa 5), .inr (3, [.int (iI (Wt 5)), .int (iI (Wd 5)), .int (iI (Rg 5)), .int (iI (Ly 5)), .int (iI (Wo 5))])), ((sa 6), .inr (3, [.int (iI (Wt 6)), .int (iI (Wd 6)), .int (iI (Rg 6)), .int (iI (Ly 6)), .int (iI (Wo 6))]))])) A) args s 0 0 A) 0 0 [(h0, .inr (5, [.ref s1, .int (iI 7), .ref w0, .ref t0, .ref k0, .ref r0, .int (iI gf), .int (iI gs), .ref rp, .int (iI rc), .ref sh1, .int (iI tc), .int (iI ft)])), (s1, .inl (X.2.1.2.1, 8, .inr (.inr (.inr (.inr sf))))), ((sa 0), .inr (3, [.int (iI (Wt 0)), .int (iI (Wd 0)), .int (iI (Rg 0)), .int (iI (Ly 0)), .int (iI (Wo 0))])), ((sa 1), .inr (3, [.int (iI (Wt 1)), .int (iI (Wd 1)), .int (iI (Rg 1)), .int (iI (Ly 1)), .int (iI (Wo 1))])), ((sa 2), .inr (3, [.int (iI (Wt 2)), .int (iI (Wd 2)), .int (iI (Rg 2)), .int (iI (Ly 2)), .int (iI (Wo 2))])), ((sa 3), .inr (3, [.int (iI (Wt 3)), .int (iI (Wd 3)), .int (iI (Rg 3)), .int (iI (Ly 3)), .int (iI (Wo 3))])), ((sa 4), .inr (3, [.int (iI (Wt 4)), .int (iI (Wd 4)), .int (iI (Rg 4)), .int (iI (Ly 4)), .int (iI (Wo 4))])), ((sa 5), .inr (3, [.int (iI (Wt 5)), .int (iI (Wd 5)), .int (iI (Rg 5)), .int (iI (Ly 5)), .int (iI (Wo 5))])), ((sa 6), .inr (3, [.int (iI (Wt 6)), .int (iI (Wd 6)), .int (iI (Rg 6)), .int (iI (Ly 6)), .int (iI (Wo 6))]))] 46 [(4, .long (lI (pwI (lbL Ly Wo 100 7) 6))), (2, .long (lI (lbL Ly Wo 100 7))), (0, .ref h0), (1, .int (iI cost)), (6, .int (iI a2)), (7, .long (lI a1)), (9, .int (iI c1))] [] := by
        intro fu46
        induction fu46 with
        | zero => intro a2 a1 c1 ic ia iL hm46; exact absurd hm46 (Nat.not_lt_zero _)
        | succ fu46 ih46 =>
          intro a2 a1 c1 ic ia iL hm46
          refine r_iload C dX5_hours_46 6 rfl ?_
          refine r_bipush C dX5_hours_48 (by decide) ?_
          refine r_icmp_gt (tgt := 108) C dX5_hours_50 (by decide) (by omega) (by decide) (fun h_6 => ?_) (fun h_6 => ?_)
          · skip
            refine r_iload C dX5_hours_108 4 rfl ?_
            exact g_ret_i C rfl dX5_hours_110 () trivial (by rw [iL, gIn_endW (by omega)]; (repeat' split) <;> first | rfl | omega) [0, 1, 2, 3, 4, 5, 6, 7, 8] rfl (by (repeat' split) <;> first | rfl | omega)
          · skip
            have hB := hr_B (Ly := Ly) (Wo := Wo) (ns := 7) (cost := cost) (n := c1) (by decide) hLy hWo (by omega) (by omega)
            have hm_ := mulB (a := c1) (b := cost) (A := 6) (B := 99) (by omega) (by omega)
            refine r_aload_n C dX5_hours_53 2 rfl ?_
            refine r_iload C dX5_hours_54 6 rfl ?_
            refine g_V_l (ws2 := (fun _ => [(h0, .inr (5, [.ref s1, .int (iI 7), .ref w0, .ref t0, .ref k0, .ref r0, .int (iI gf), .int (iI gs), .ref rp, .int (iI rc), .ref sh1, .int (iI tc), .int (iI ft)])), (s1, .inl (X.2.1.2.1, 8, .inr (.inr (.inr (.inr sf))))), ((sa 0), .inr (3, [.int (iI (Wt 0)), .int (iI (Wd 0)), .int (iI (Rg 0)), .int (iI (Ly 0)), .int (iI (Wo 0))])), ((sa 1), .inr (3, [.int (iI (Wt 1)), .int (iI (Wd 1)), .int (iI (Rg 1)), .int (iI (Ly 1)), .int (iI (Wo 1))])), ((sa 2), .inr (3, [.int (iI (Wt 2)), .int (iI (Wd 2)), .int (iI (Rg 2)), .int (iI (Ly 2)), .int (iI (Wo 2))])), ((sa 3), .inr (3, [.int (iI (Wt 3)), .int (iI (Wd 3)), .int (iI (Rg 3)), .int (iI (Ly 3)), .int (iI (Wo 3))])), ((sa 4), .inr (3, [.int (iI (Wt 4)), .int (iI (Wd 4)), .int (iI (Rg 4)), .int (iI (Ly 4)), .int (iI (Wo 4))])), ((sa 5), .inr (3, [.int (iI (Wt 5)), .int (iI (Wd 5)), .int (iI (Rg 5)), .int (iI (Ly 5)), .int (iI (Wo 5))])), ((sa 6), .inr (3, [.int (iI (Wt 6)), .int (iI (Wd 6)), .int (iI (Rg 6)), .int (iI (Ly 6)), .int (iI (Wo 6))]))])) (As := [.int (iI c1)]) C (c_X5_bestWorths_7 l X h0 s1 w0 t0 k0 r0 rp sh1 gf gs rc tc ft sf sa Wt Wd Rg Ly Wo c1 hsf hLy hWo (by first | assumption | omega)) gX5_hours_X5_bestWorths rfl rfl rfl hd_V_X5_bestWorths_X5_hours (by decide) dX5_hours_56 [0, 1, 2, 3, 4, 5, 6, 7, 8] [] [0, 1, 2, 3, 4, 5, 6, 7, 8] rfl rfl rfl rfl (by decide) rfl 0 5 rfl rfl rfl rfl (Nat.le_of_ble_eq_true rfl) (by decide) (fun _ => rfl) (fun _ hy_ => ?_)
            clear hy_
            refine r_lload_n C dX5_hours_59 1 rfl ?_
            refine r_bipush C dX5_hours_60 (by decide) ?_
            refine r_iload C dX5_hours_62 6 rfl ?_
            refine r_isub C dX5_hours_64 ?_
            refine g_S_l (ws2 := (fun _ => [(h0, .inr (5, [.ref s1, .int (iI 7), .ref w0, .ref t0, .ref k0, .ref r0, .int (iI gf), .int (iI gs), .ref rp, .int (iI rc), .ref sh1, .int (iI tc), .int (iI ft)])), (s1, .inl (X.2.1.2.1, 8, .inr (.inr (.inr (.inr sf))))), ((sa 0), .inr (3, [.int (iI (Wt 0)), .int (iI (Wd 0)), .int (iI (Rg 0)), .int (iI (Ly 0)), .int (iI (Wo 0))])), ((sa 1), .inr (3, [.int (iI (Wt 1)), .int (iI (Wd 1)), .int (iI (Rg 1)), .int (iI (Ly 1)), .int (iI (Wo 1))])), ((sa 2), .inr (3, [.int (iI (Wt 2)), .int (iI (Wd 2)), .int (iI (Rg 2)), .int (iI (Ly 2)), .int (iI (Wo 2))])), ((sa 3), .inr (3, [.int (iI (Wt 3)), .int (iI (Wd 3)), .int (iI (Rg 3)), .int (iI (Ly 3)), .int (iI (Wo 3))])), ((sa 4), .inr (3, [.int (iI (Wt 4)), .int (iI (Wd 4)), .int (iI (Rg 4)), .int (iI (Ly 4)), .int (iI (Wo 4))])), ((sa 5), .inr (3, [.int (iI (Wt 5)), .int (iI (Wd 5)), .int (iI (Rg 5)), .int (iI (Ly 5)), .int (iI (Wo 5))])), ((sa 6), .inr (3, [.int (iI (Wt 6)), .int (iI (Wd 6)), .int (iI (Rg 6)), .int (iI (Ly 6)), .int (iI (Wo 6))]))])) (As := [.long (lI (lbL Ly Wo 100 7)), .int (iI (6 - c1))]) C (c_X5_power l X (lbL Ly Wo 100 7) (6 - c1) (by first | assumption | omega)) gX5_hours_X5_power rfl rfl rfl hd_S_X5_power_X5_hours (by decide) dX5_hours_65 [] [0, 1, 2, 3, 4, 5, 6, 7, 8] [0, 1, 2, 3, 4, 5, 6, 7, 8] rfl rfl rfl rfl (by decide) rfl rfl rfl (Nat.le_of_ble_eq_true rfl) (by decide) (fun _ => rfl) (fun _ hy_ => ?_)
            clear hy_
            refine r_lmul C dX5_hours_68 ?_
            refine r_iload C dX5_hours_69 6 rfl ?_
            refine r_iload_n C dX5_hours_71 3 rfl ?_
            refine r_imul C dX5_hours_72 ?_
            refine r_i2l C dX5_hours_73 (by omega) ?_
            refine r_lload C dX5_hours_74 0 rfl ?_
            refine r_lmul C dX5_hours_76 ?_
            refine r_lsub C dX5_hours_77 ?_
            refine r_lstore (lo2 := [(10, .long (lI (((bwV Ly Wo 7 c1) * (pwI (lbL Ly Wo 100 7) (6 - c1))) - ((c1 * cost) * (pwI (lbL Ly Wo 100 7) 6))))), (4, .long (lI (pwI (lbL Ly Wo 100 7) 6))), (2, .long (lI (lbL Ly Wo 100 7))), (0, .ref h0), (1, .int (iI cost)), (6, .int (iI a2)), (7, .long (lI a1)), (9, .int (iI c1))]) C dX5_hours_78 (by decide) rfl ?_
            refine r_iload C dX5_hours_80 7 rfl ?_
            refine r_iconst C dX5_hours_82 ?_
            refine r_icmp_eq (tgt := 94) C dX5_hours_83 (by decide) (by omega) (by decide) (fun h_7 => ?_) (fun h_7 => ?_)
            · skip
              refine r_lload C dX5_hours_94 0 rfl ?_
              refine r_lstore (lo2 := [(7, .long (lI (((bwV Ly Wo 7 c1) * (pwI (lbL Ly Wo 100 7) (6 - c1))) - ((c1 * cost) * (pwI (lbL Ly Wo 100 7) 6))))), (10, .long (lI (((bwV Ly Wo 7 c1) * (pwI (lbL Ly Wo 100 7) (6 - c1))) - ((c1 * cost) * (pwI (lbL Ly Wo 100 7) 6))))), (4, .long (lI (pwI (lbL Ly Wo 100 7) 6))), (2, .long (lI (lbL Ly Wo 100 7))), (0, .ref h0), (1, .int (iI cost)), (6, .int (iI a2)), (9, .int (iI c1))]) C dX5_hours_96 (by decide) rfl ?_
              refine r_iload C dX5_hours_98 7 rfl ?_
              refine r_istore (lo2 := [(6, .int (iI c1)), (7, .long (lI (((bwV Ly Wo 7 c1) * (pwI (lbL Ly Wo 100 7) (6 - c1))) - ((c1 * cost) * (pwI (lbL Ly Wo 100 7) 6))))), (10, .long (lI (((bwV Ly Wo 7 c1) * (pwI (lbL Ly Wo 100 7) (6 - c1))) - ((c1 * cost) * (pwI (lbL Ly Wo 100 7) 6))))), (4, .long (lI (pwI (lbL Ly Wo 100 7) 6))), (2, .long (lI (lbL Ly Wo 100 7))), (0, .ref h0), (1, .int (iI cost)), (9, .int (iI c1))]) C dX5_hours_100 (by decide) rfl ?_
              refine r_iinc (lo2 := [(9, .int (iI (c1 + 1))), (6, .int (iI c1)), (7, .long (lI (((bwV Ly Wo 7 c1) * (pwI (lbL Ly Wo 100 7) (6 - c1))) - ((c1 * cost) * (pwI (lbL Ly Wo 100 7) 6))))), (10, .long (lI (((bwV Ly Wo 7 c1) * (pwI (lbL Ly Wo 100 7) (6 - c1))) - ((c1 * cost) * (pwI (lbL Ly Wo 100 7) 6))))), (4, .long (lI (pwI (lbL Ly Wo 100 7) 6))), (2, .long (lI (lbL Ly Wo 100 7))), (0, .ref h0), (1, .int (iI cost))]) C dX5_hours_102 7 rfl (by decide) rfl ?_
              refine r_goto (tgt := 46) C dX5_hours_105 (by decide) ?_
              refine r_lo [4, 5, 6, 7, 1, 2, 0] (lo2 := [(4, .long (lI (pwI (lbL Ly Wo 100 7) 6))), (2, .long (lI (lbL Ly Wo 100 7))), (0, .ref h0), (1, .int (iI cost)), (6, .int (iI c1)), (7, .long (lI (((bwV Ly Wo 7 c1) * (pwI (lbL Ly Wo 100 7) (6 - c1))) - ((c1 * cost) * (pwI (lbL Ly Wo 100 7) 6))))), (9, .int (iI (c1 + 1)))]) rfl ?_
              exact ih46 c1 (((bwV Ly Wo 7 c1) * (pwI (lbL Ly Wo 100 7) (6 - c1))) - ((c1 * cost) * (pwI (lbL Ly Wo 100 7) 6))) (c1 + 1) (by omega) (by omega) (by rw [iL, gIn_goW (by omega)]; first | (rw [hrF_t (by first | exact Or.inl (by omega) | exact Or.inr (by omega))]; done) | (rw [hrF_f (by intro q; rcases q with q | q <;> first | omega | (dsimp only at q; omega))]; done)) (by omega)
            · skip
              refine r_lload C dX5_hours_86 0 rfl ?_
              refine r_lload C dX5_hours_88 6 rfl ?_
              refine r_lcmp_le (tgt := 102) C dX5_hours_90 dX5_hours_91 (by decide) (by omega) (by omega) (fun h_8 => ?_) (fun h_8 => ?_)
              · skip
                refine r_iinc (lo2 := [(9, .int (iI (c1 + 1))), (10, .long (lI (((bwV Ly Wo 7 c1) * (pwI (lbL Ly Wo 100 7) (6 - c1))) - ((c1 * cost) * (pwI (lbL Ly Wo 100 7) 6))))), (4, .long (lI (pwI (lbL Ly Wo 100 7) 6))), (2, .long (lI (lbL Ly Wo 100 7))), (0, .ref h0), (1, .int (iI cost)), (6, .int (iI a2)), (7, .long (lI a1))]) C dX5_hours_102 7 rfl (by decide) rfl ?_
                refine r_goto (tgt := 46) C dX5_hours_105 (by decide) ?_
                refine r_lo [2, 3, 4, 5, 6, 7, 0] (lo2 := [(4, .long (lI (pwI (lbL Ly Wo 100 7) 6))), (2, .long (lI (lbL Ly Wo 100 7))), (0, .ref h0), (1, .int (iI cost)), (6, .int (iI a2)), (7, .long (lI a1)), (9, .int (iI (c1 + 1)))]) rfl ?_
                exact ih46 a2 a1 (c1 + 1) (by omega) (by omega) (by rw [iL, gIn_goW (by omega)]; first | (rw [hrF_t (by first | exact Or.inl (by omega) | exact Or.inr (by omega))]; done) | (rw [hrF_f (by intro q; rcases q with q | q <;> first | omega | (dsimp only at q; omega))]; done)) (by omega)
              · skip
                refine r_lload C dX5_hours_94 0 rfl ?_
                refine r_lstore (lo2 := [(7, .long (lI (((bwV Ly Wo 7 c1) * (pwI (lbL Ly Wo 100 7) (6 - c1))) - ((c1 * cost) * (pwI (lbL Ly Wo 100 7) 6))))), (10, .long (lI (((bwV Ly Wo 7 c1) * (pwI (lbL Ly Wo 100 7) (6 - c1))) - ((c1 * cost) * (pwI (lbL Ly Wo 100 7) 6))))), (4, .long (lI (pwI (lbL Ly Wo 100 7) 6))), (2, .long (lI (lbL Ly Wo 100 7))), (0, .ref h0), (1, .int (iI cost)), (6, .int (iI a2)), (9, .int (iI c1))]) C dX5_hours_96 (by decide) rfl ?_
                refine r_iload C dX5_hours_98 7 rfl ?_
                refine r_istore (lo2 := [(6, .int (iI c1)), (7, .long (lI (((bwV Ly Wo 7 c1) * (pwI (lbL Ly Wo 100 7) (6 - c1))) - ((c1 * cost) * (pwI (lbL Ly Wo 100 7) 6))))), (10, .long (lI (((bwV Ly Wo 7 c1) * (pwI (lbL Ly Wo 100 7) (6 - c1))) - ((c1 * cost) * (pwI (lbL Ly Wo 100 7) 6))))), (4, .long (lI (pwI (lbL Ly Wo 100 7) 6))), (2, .long (lI (lbL Ly Wo 100 7))), (0, .ref h0), (1, .int (iI cost)), (9, .int (iI c1))]) C dX5_hours_100 (by decide) rfl ?_
                refine r_iinc (lo2 := [(9, .int (iI (c1 + 1))), (6, .int (iI c1)), (7, .long (lI (((bwV Ly Wo 7 c1) * (pwI (lbL Ly Wo 100 7) (6 - c1))) - ((c1 * cost) * (pwI (lbL Ly Wo 100 7) 6))))), (10, .long (lI (((bwV Ly Wo 7 c1) * (pwI (lbL Ly Wo 100 7) (6 - c1))) - ((c1 * cost) * (pwI (lbL Ly Wo 100 7) 6))))), (4, .long (lI (pwI (lbL Ly Wo 100 7) 6))), (2, .long (lI (lbL Ly Wo 100 7))), (0, .ref h0), (1, .int (iI cost))]) C dX5_hours_102 7 rfl (by decide) rfl ?_
                refine r_goto (tgt := 46) C dX5_hours_105 (by decide) ?_
                refine r_lo [4, 5, 6, 7, 1, 2, 0] (lo2 := [(4, .long (lI (pwI (lbL Ly Wo 100 7) 6))), (2, .long (lI (lbL Ly Wo 100 7))), (0, .ref h0), (1, .int (iI cost)), (6, .int (iI c1)), (7, .long (lI (((bwV Ly Wo 7 c1) * (pwI (lbL Ly Wo 100 7) (6 - c1))) - ((c1 * cost) * (pwI (lbL Ly Wo 100 7) 6))))), (9, .int (iI (c1 + 1)))]) rfl ?_
                exact ih46 c1 (((bwV Ly Wo 7 c1) * (pwI (lbL Ly Wo 100 7) (6 - c1))) - ((c1 * cost) * (pwI (lbL Ly Wo 100 7) 6))) (c1 + 1) (by omega) (by omega) (by rw [iL, gIn_goW (by omega)]; first | (rw [hrF_t (by first | exact Or.inl (by omega) | exact Or.inr (by omega))]; done) | (rw [hrF_f (by intro q; rcases q with q | q <;> first | omega | (dsimp only at q; omega))]; done)) (by omega)
      refine r_lo [3, 4, 5, 6, 2, 1, 0] (lo2 := [(4, .long (lI (pwI (lbL Ly Wo 100 7) 6))), (2, .long (lI (lbL Ly Wo 100 7))), (0, .ref h0), (1, .int (iI cost)), (6, .int (iI 1)), (7, .long (lI 0)), (9, .int (iI 1))]) rfl ?_
      exact L46 ((7 - (1 : Int)).toNat + 1) 1 0 1 (by omega) (by omega) rfl (Nat.lt_succ_self _)
    · skip
      refine r_bipush C dX5_hours_26 (by decide) ?_
      exact g_ret_i C rfl dX5_hours_28 () trivial (by (repeat' split) <;> first | rfl | omega) [0, 1, 2, 3, 4, 5, 6, 7, 8] rfl (by (repeat' split) <;> first | rfl | omega)
  · skip
    refine r_if_ne (tgt := 13) C dX5_hours_7 (by decide) (by decide) (fun h_9 => absurd h_9 (by decide)) (fun h_9 => ?_)
    refine r_bipush C dX5_hours_10 (by decide) ?_
    exact g_ret_i C rfl dX5_hours_12 () trivial (by (repeat' split) <;> first | rfl | omega) [0, 1, 2, 3, 4, 5, 6, 7, 8] rfl (by (repeat' split) <;> first | rfl | omega)

set_option maxHeartbeats 4000000 in
set_option maxRecDepth 100000 in
theorem c_X5_lyingBelow_8 (l : Launch) (X : gX) (h0 : Nat) (s1 : Nat) (w0 : Nat) (t0 : Nat) (k0 : Nat) (r0 : Nat) (rp : Nat) (sh1 : Nat) (gf : Int) (gs : Int) (rc : Int) (tc : Int) (ft : Int) (sf : Nat → Option Nat) (sa : Nat → Nat) (Wt : Nat → Int) (Wd : Nat → Int) (Rg : Nat → Int) (Ly : Nat → Int) (Wo : Nat → Int) (w : Int) (hsf : ∀ j : Nat, j < 8 → sf j = some (sa j)) (hLy : ∀ j : Nat, j < 8 → 0 ≤ Ly j ∧ Ly j ≤ 9) (hWo : ∀ j : Nat, j < 8 → 0 ≤ Wo j ∧ Wo j ≤ 99) (hb_w : inB w) : gM l yX5_lyingBelow wsX5_lyingBelow (gr 1 0 0) X [(h0, .inr (5, [.ref s1, .int (iI 8), .ref w0, .ref t0, .ref k0, .ref r0, .int (iI gf), .int (iI gs), .ref rp, .int (iI rc), .ref sh1, .int (iI tc), .int (iI ft)])), (s1, .inl (X.2.1.2.1, 8, .inr (.inr (.inr (.inr sf))))), ((sa 0), .inr (3, [.int (iI (Wt 0)), .int (iI (Wd 0)), .int (iI (Rg 0)), .int (iI (Ly 0)), .int (iI (Wo 0))])), ((sa 1), .inr (3, [.int (iI (Wt 1)), .int (iI (Wd 1)), .int (iI (Rg 1)), .int (iI (Ly 1)), .int (iI (Wo 1))])), ((sa 2), .inr (3, [.int (iI (Wt 2)), .int (iI (Wd 2)), .int (iI (Rg 2)), .int (iI (Ly 2)), .int (iI (Wo 2))])), ((sa 3), .inr (3, [.int (iI (Wt 3)), .int (iI (Wd 3)), .int (iI (Rg 3)), .int (iI (Ly 3)), .int (iI (Wo 3))])), ((sa 4), .inr (3, [.int (iI (Wt 4)), .int (iI (Wd 4)), .int (iI (Rg 4)), .int (iI (Ly 4)), .int (iI (Wo 4))])), ((sa 5), .inr (3, [.int (iI (Wt 5)), .int (iI (Wd 5)), .int (iI (Rg 5)), .int (iI (Ly 5)), .int (iI (Wo 5))])), ((sa 6), .inr (3, [.int (iI (Wt 6)), .int (iI (Wd 6)), .int (iI (Rg 6)), .int (iI (Ly 6)), .int (iI (Wo 6))])), ((sa 7), .inr (3, [.int (iI (Wt 7)), .int (iI (Wd 7)), .int (iI (Rg 7)), .int (iI (Ly 7)), .int (iI (Wo 7))]))] [.ref h0, .int (iI w)] (gQl X (Y := Unit) (fun _ => (0 ≤ lbL Ly Wo w 8 ∧ lbL Ly Wo w 8 ≤ 72)) (fun _ => (lbL Ly Wo w 8)) (fun _ => [(h0, .inr (5, [.ref s1, .int (iI 8), .ref w0, .ref t0, .ref k0, .ref r0, .int (iI gf), .int (iI gs), .ref rp, .int (iI rc), .ref sh1, .int (iI tc), .int (iI ft)])), (s1, .inl (X.2.1.2.1, 8, .inr (.inr (.inr (.inr sf))))), ((sa 0), .inr (3, [.int (iI (Wt 0)), .int (iI (Wd 0)), .int (iI (Rg 0)), .int (iI (Ly 0)), .int (iI (Wo 0))])), ((sa 1), .inr (3, [.int (iI (Wt 1)), .int (iI (Wd 1)), .int (iI (Rg 1)), .int (iI (Ly 1)), .int (iI (Wo 1))])), ((sa 2), .inr (3, [.int (iI (Wt 2)), .int (iI (Wd 2)), .int (iI (Rg 2)), .int (iI (Ly 2)), .int (iI (Wo 2))])), ((sa 3), .inr (3, [.int (iI (Wt 3)), .int (iI (Wd 3)), .int (iI (Rg 3)), .int (iI (Ly 3)), .int (iI (Wo 3))])), ((sa 4), .inr (3, [.int (iI (Wt 4)), .int (iI (Wd 4)), .int (iI (Rg 4)), .int (iI (Ly 4)), .int (iI (Wo 4))])), ((sa 5), .inr (3, [.int (iI (Wt 5)), .int (iI (Wd 5)), .int (iI (Rg 5)), .int (iI (Ly 5)), .int (iI (Wo 5))])), ((sa 6), .inr (3, [.int (iI (Wt 6)), .int (iI (Wd 6)), .int (iI (Rg 6)), .int (iI (Ly 6)), .int (iI (Wo 6))])), ((sa 7), .inr (3, [.int (iI (Wt 7)), .int (iI (Wd 7)), .int (iI (Rg 7)), .int (iI (Ly 7)), .int (iI (Wo 7))]))])) 0 0 := by
  refine g_start2 (lo := [(0, .ref h0), (1, .int (iI w))]) (by decide +kernel) rfl rfl (Nat.le_of_ble_eq_true rfl) (fun p e s m args below meth c A C => ?_)
  have hLy0 := hLy 0 (by decide)
  have hWo0 := hWo 0 (by decide)
  have hLy1 := hLy 1 (by decide)
  have hWo1 := hWo 1 (by decide)
  have hLy2 := hLy 2 (by decide)
  have hWo2 := hWo 2 (by decide)
  have hLy3 := hLy 3 (by decide)
  have hWo3 := hWo 3 (by decide)
  have hLy4 := hLy 4 (by decide)
  have hWo4 := hWo 4 (by decide)
  have hLy5 := hLy 5 (by decide)
  have hWo5 := hWo 5 (by decide)
  have hLy6 := hLy 6 (by decide)
  have hWo6 := hWo 6 (by decide)
  have hLy7 := hLy 7 (by decide)
  have hWo7 := hWo 7 (by decide)
  refine r_lconst (z := 0) C dX5_lyingBelow_0 rfl ?_
  refine r_lstore_n (lo2 := [(2, .long (lI 0)), (0, .ref h0), (1, .int (iI w))]) C dX5_lyingBelow_1 rfl (by decide) rfl ?_
  refine r_iconst C dX5_lyingBelow_2 ?_
  refine r_istore (lo2 := [(4, .int (iI 0)), (2, .long (lI 0)), (0, .ref h0), (1, .int (iI w))]) C dX5_lyingBelow_3 (by decide) rfl ?_
  have J5_8 : ∀ (mk : Int), (mk = lbL Ly Wo w 8) → gW p l e (gr 1 0 0) s m args below meth c X A 6 (MQ below ((gQl X (Y := Unit) (fun _ => (0 ≤ lbL Ly Wo w 8 ∧ lbL Ly Wo w 8 ≤ 72)) (fun _ => (lbL Ly Wo w 8)) (fun _ => [(h0, .inr (5, [.ref s1, .int (iI 8), .ref w0, .ref t0, .ref k0, .ref r0, .int (iI gf), .int (iI gs), .ref rp, .int (iI rc), .ref sh1, .int (iI tc), .int (iI ft)])), (s1, .inl (X.2.1.2.1, 8, .inr (.inr (.inr (.inr sf))))), ((sa 0), .inr (3, [.int (iI (Wt 0)), .int (iI (Wd 0)), .int (iI (Rg 0)), .int (iI (Ly 0)), .int (iI (Wo 0))])), ((sa 1), .inr (3, [.int (iI (Wt 1)), .int (iI (Wd 1)), .int (iI (Rg 1)), .int (iI (Ly 1)), .int (iI (Wo 1))])), ((sa 2), .inr (3, [.int (iI (Wt 2)), .int (iI (Wd 2)), .int (iI (Rg 2)), .int (iI (Ly 2)), .int (iI (Wo 2))])), ((sa 3), .inr (3, [.int (iI (Wt 3)), .int (iI (Wd 3)), .int (iI (Rg 3)), .int (iI (Ly 3)), .int (iI (Wo 3))])), ((sa 4), .inr (3, [.int (iI (Wt 4)), .int (iI (Wd 4)), .int (iI (Rg 4)), .int (iI (Ly 4)), .int (iI (Wo 4))])), ((sa 5), .inr (3, [.int (iI (Wt 5)), .int (iI (Wd 5)), .int (iI (Rg 5)), .int (iI (Ly 5)), .int (iI (Wo 5))])), ((sa 6), .inr (3, [.int (iI (Wt 6)), .int (iI (Wd 6)), .int (iI (Rg 6)), .int (iI (Ly 6)), .int (iI (Wo 6))])), ((sa 7), .inr (3, [.int (iI (Wt 7)), .int (iI (Wd 7)), .int (iI (Rg 7)), .int (iI (Ly 7)), .int (iI (Wo 7))]))])) A) args s 0 0 A) 0 0 [(h0, .inr (5, [.ref s1, .int (iI 8), .ref w0, .ref t0, .ref k0, .ref r0, .int (iI gf), .int (iI gs), .ref rp, .int (iI rc), .ref sh1, .int (iI tc), .int (iI ft)])), (s1, .inl (X.2.1.2.1, 8, .inr (.inr (.inr (.inr sf))))), ((sa 0), .inr (3, [.int (iI (Wt 0)), .int (iI (Wd 0)), .int (iI (Rg 0)), .int (iI (Ly 0)), .int (iI (Wo 0))])), ((sa 1), .inr (3, [.int (iI (Wt 1)), .int (iI (Wd 1)), .int (iI (Rg 1)), .int (iI (Ly 1)), .int (iI (Wo 1))])), ((sa 2), .inr (3, [.int (iI (Wt 2)), .int (iI (Wd 2)), .int (iI (Rg 2)), .int (iI (Ly 2)), .int (iI (Wo 2))])), ((sa 3), .inr (3, [.int (iI (Wt 3)), .int (iI (Wd 3)), .int (iI (Rg 3)), .int (iI (Ly 3)), .int (iI (Wo 3))])), ((sa 4), .inr (3, [.int (iI (Wt 4)), .int (iI (Wd 4)), .int (iI (Rg 4)), .int (iI (Ly 4)), .int (iI (Wo 4))])), ((sa 5), .inr (3, [.int (iI (Wt 5)), .int (iI (Wd 5)), .int (iI (Rg 5)), .int (iI (Ly 5)), .int (iI (Wo 5))])), ((sa 6), .inr (3, [.int (iI (Wt 6)), .int (iI (Wd 6)), .int (iI (Rg 6)), .int (iI (Ly 6)), .int (iI (Wo 6))])), ((sa 7), .inr (3, [.int (iI (Wt 7)), .int (iI (Wd 7)), .int (iI (Rg 7)), .int (iI (Ly 7)), .int (iI (Wo 7))]))] 5 [(0, .ref h0), (1, .int (iI w)), (4, .int (iI 8)), (2, .long (lI mk))] [] := by
    intro mk im
    refine r_iload C dX5_lyingBelow_5 2 rfl ?_
    refine r_aload_n C dX5_lyingBelow_7 0 rfl ?_
    refine gf_5_1 C hi_X5_lyingBelow_5 kw_X5_lyingBelow_0 dX5_lyingBelow_8 0 rfl rfl ?_
    refine r_icmp_ge (tgt := 51) C dX5_lyingBelow_11 (by decide) (by decide) (by decide) (fun h_1 => ?_) (fun h_1 => absurd h_1 (by decide))
    refine r_lload_n C dX5_lyingBelow_51 3 rfl ?_
    exact g_ret_l C rfl dX5_lyingBelow_52 () (by have := lbL_B (Ly := Ly) (Wo := Wo) w 8 hLy; omega) im [0, 1, 2, 3, 4, 5, 6, 7, 8, 9] rfl (by (repeat' split) <;> first | rfl | omega)
  have J5_7 : ∀ (mk : Int), (mk = lbL Ly Wo w 7) → gW p l e (gr 1 0 0) s m args below meth c X A 6 (MQ below ((gQl X (Y := Unit) (fun _ => (0 ≤ lbL Ly Wo w 8 ∧ lbL Ly Wo w 8 ≤ 72)) (fun _ => (lbL Ly Wo w 8)) (fun _ => [(h0, .inr (5, [.ref s1, .int (iI 8), .ref w0, .ref t0, .ref k0, .ref r0, .int (iI gf), .int (iI gs), .ref rp, .int (iI rc), .ref sh1, .int (iI tc), .int (iI ft)])), (s1, .inl (X.2.1.2.1, 8, .inr (.inr (.inr (.inr sf))))), ((sa 0), .inr (3, [.int (iI (Wt 0)), .int (iI (Wd 0)), .int (iI (Rg 0)), .int (iI (Ly 0)), .int (iI (Wo 0))])), ((sa 1), .inr (3, [.int (iI (Wt 1)), .int (iI (Wd 1)), .int (iI (Rg 1)), .int (iI (Ly 1)), .int (iI (Wo 1))])), ((sa 2), .inr (3, [.int (iI (Wt 2)), .int (iI (Wd 2)), .int (iI (Rg 2)), .int (iI (Ly 2)), .int (iI (Wo 2))])), ((sa 3), .inr (3, [.int (iI (Wt 3)), .int (iI (Wd 3)), .int (iI (Rg 3)), .int (iI (Ly 3)), .int (iI (Wo 3))])), ((sa 4), .inr (3, [.int (iI (Wt 4)), .int (iI (Wd 4)), .int (iI (Rg 4)), .int (iI (Ly 4)), .int (iI (Wo 4))])), ((sa 5), .inr (3, [.int (iI (Wt 5)), .int (iI (Wd 5)), .int (iI (Rg 5)), .int (iI (Ly 5)), .int (iI (Wo 5))])), ((sa 6), .inr (3, [.int (iI (Wt 6)), .int (iI (Wd 6)), .int (iI (Rg 6)), .int (iI (Ly 6)), .int (iI (Wo 6))])), ((sa 7), .inr (3, [.int (iI (Wt 7)), .int (iI (Wd 7)), .int (iI (Rg 7)), .int (iI (Ly 7)), .int (iI (Wo 7))]))])) A) args s 0 0 A) 0 0 [(h0, .inr (5, [.ref s1, .int (iI 8), .ref w0, .ref t0, .ref k0, .ref r0, .int (iI gf), .int (iI gs), .ref rp, .int (iI rc), .ref sh1, .int (iI tc), .int (iI ft)])), (s1, .inl (X.2.1.2.1, 8, .inr (.inr (.inr (.inr sf))))), ((sa 0), .inr (3, [.int (iI (Wt 0)), .int (iI (Wd 0)), .int (iI (Rg 0)), .int (iI (Ly 0)), .int (iI (Wo 0))])), ((sa 1), .inr (3, [.int (iI (Wt 1)), .int (iI (Wd 1)), .int (iI (Rg 1)), .int (iI (Ly 1)), .int (iI (Wo 1))])), ((sa 2), .inr (3, [.int (iI (Wt 2)), .int (iI (Wd 2)), .int (iI (Rg 2)), .int (iI (Ly 2)), .int (iI (Wo 2))])), ((sa 3), .inr (3, [.int (iI (Wt 3)), .int (iI (Wd 3)), .int (iI (Rg 3)), .int (iI (Ly 3)), .int (iI (Wo 3))])), ((sa 4), .inr (3, [.int (iI (Wt 4)), .int (iI (Wd 4)), .int (iI (Rg 4)), .int (iI (Ly 4)), .int (iI (Wo 4))])), ((sa 5), .inr (3, [.int (iI (Wt 5)), .int (iI (Wd 5)), .int (iI (Rg 5)), .int (iI (Ly 5)), .int (iI (Wo 5))])), ((sa 6), .inr (3, [.int (iI (Wt 6)), .int (iI (Wd 6)), .int (iI (Rg 6)), .int (iI (Ly 6)), .int (iI (Wo 6))])), ((sa 7), .inr (3, [.int (iI (Wt 7)), .int (iI (Wd 7)), .int (iI (Rg 7)), .int (iI (Ly 7)), .int (iI (Wo 7))]))] 5 [(0, .ref h0), (1, .int (iI w)), (4, .int (iI 7)), (2, .long (lI mk))] [] := by
    intro mk im
    refine r_iload C dX5_lyingBelow_5 2 rfl ?_
    refine r_aload_n C dX5_lyingBelow_7 0 rfl ?_
    refine gf_5_1 C hi_X5_lyingBelow_5 kw_X5_lyingBelow_0 dX5_lyingBelow_8 0 rfl rfl ?_
    refine r_icmp_ge (tgt := 51) C dX5_lyingBelow_11 (by decide) (by decide) (by decide) (fun h_2 => absurd h_2 (by decide)) (fun h_2 => ?_)
    refine r_aload_n C dX5_lyingBelow_14 0 rfl ?_
    refine r_iload C dX5_lyingBelow_15 2 rfl ?_
    refine g_V_q (ws2 := (fun _ => [(h0, .inr (5, [.ref s1, .int (iI 8), .ref w0, .ref t0, .ref k0, .ref r0, .int (iI gf), .int (iI gs), .ref rp, .int (iI rc), .ref sh1, .int (iI tc), .int (iI ft)])), (s1, .inl (X.2.1.2.1, 8, .inr (.inr (.inr (.inr sf))))), ((sa 0), .inr (3, [.int (iI (Wt 0)), .int (iI (Wd 0)), .int (iI (Rg 0)), .int (iI (Ly 0)), .int (iI (Wo 0))])), ((sa 1), .inr (3, [.int (iI (Wt 1)), .int (iI (Wd 1)), .int (iI (Rg 1)), .int (iI (Ly 1)), .int (iI (Wo 1))])), ((sa 2), .inr (3, [.int (iI (Wt 2)), .int (iI (Wd 2)), .int (iI (Rg 2)), .int (iI (Ly 2)), .int (iI (Wo 2))])), ((sa 3), .inr (3, [.int (iI (Wt 3)), .int (iI (Wd 3)), .int (iI (Rg 3)), .int (iI (Ly 3)), .int (iI (Wo 3))])), ((sa 4), .inr (3, [.int (iI (Wt 4)), .int (iI (Wd 4)), .int (iI (Rg 4)), .int (iI (Ly 4)), .int (iI (Wo 4))])), ((sa 5), .inr (3, [.int (iI (Wt 5)), .int (iI (Wd 5)), .int (iI (Rg 5)), .int (iI (Ly 5)), .int (iI (Wo 5))])), ((sa 6), .inr (3, [.int (iI (Wt 6)), .int (iI (Wd 6)), .int (iI (Rg 6)), .int (iI (Ly 6)), .int (iI (Wo 6))])), ((sa 7), .inr (3, [.int (iI (Wt 7)), .int (iI (Wd 7)), .int (iI (Rg 7)), .int (iI (Ly 7)), .int (iI (Wo 7))]))])) (As := [.int (iI 7)]) C (c_X5_stoneAt_in l X h0 s1 w0 t0 k0 r0 rp sh1 8 gf gs rc tc ft sf (sa 7) 7 (by decide) (hsf 7 (by decide))) gX5_lyingBelow_X5_stoneAt rfl rfl rfl hd_V_X5_stoneAt_X5_lyingBelow (by decide) dX5_lyingBelow_17 [0, 1] [2, 3, 4, 5, 6, 7, 8, 9] [8, 9, 0, 1, 2, 3, 4, 5, 6, 7] rfl rfl rfl rfl (by decide) rfl 0 5 rfl rfl rfl rfl (Nat.le_of_ble_eq_true rfl) (by decide) (fun _ => rfl) (fun _ hy_ => ?_)
    clear hy_
    refine r_astore (lo2 := [(5, .ref (sa 7)), (0, .ref h0), (1, .int (iI w)), (4, .int (iI 7)), (2, .long (lI mk))]) C dX5_lyingBelow_20 (by decide) rfl ?_
    refine r_aload C dX5_lyingBelow_22 0 rfl ?_
    refine r_ifnull C dX5_lyingBelow_24 ?_
    refine r_aload C dX5_lyingBelow_27 0 rfl ?_
    refine gf_3_4 C hi_X5_lyingBelow_3 kw_X5_lyingBelow_1 dX5_lyingBelow_29 9 rfl rfl ?_
    refine r_iload_n C dX5_lyingBelow_32 2 rfl ?_
    refine r_icmp_ge (tgt := 45) C dX5_lyingBelow_33 (by decide) (by omega) (by omega) (fun h_3 => ?_) (fun h_3 => ?_)
    · skip
      refine r_iinc (lo2 := [(4, .int (iI 8)), (5, .ref (sa 7)), (0, .ref h0), (1, .int (iI w)), (2, .long (lI mk))]) C dX5_lyingBelow_45 3 rfl (by decide) rfl ?_
      refine r_goto (tgt := 5) C dX5_lyingBelow_48 (by decide) ?_
      refine r_lo [2, 3, 0, 4] (lo2 := [(0, .ref h0), (1, .int (iI w)), (4, .int (iI 8)), (2, .long (lI mk))]) rfl ?_
      exact J5_8 mk (by rw [im]; first | exact (lbL_t 7 (by omega)).symm | exact (lbL_f 7 (by omega)).symm)
    · skip
      refine r_lload_n C dX5_lyingBelow_36 4 rfl ?_
      refine r_aload C dX5_lyingBelow_37 0 rfl ?_
      refine gf_3_3 C hi_X5_lyingBelow_3 kw_X5_lyingBelow_2 dX5_lyingBelow_39 9 rfl rfl ?_
      refine r_i2l C dX5_lyingBelow_42 (by omega) ?_
      refine r_ladd C dX5_lyingBelow_43 ?_
      refine r_lstore_n (lo2 := [(2, .long (lI (mk + (Ly 7)))), (5, .ref (sa 7)), (0, .ref h0), (1, .int (iI w)), (4, .int (iI 7))]) C dX5_lyingBelow_44 rfl (by decide) rfl ?_
      refine r_iinc (lo2 := [(4, .int (iI 8)), (2, .long (lI (mk + (Ly 7)))), (5, .ref (sa 7)), (0, .ref h0), (1, .int (iI w))]) C dX5_lyingBelow_45 4 rfl (by decide) rfl ?_
      refine r_goto (tgt := 5) C dX5_lyingBelow_48 (by decide) ?_
      refine r_lo [3, 4, 0, 1] (lo2 := [(0, .ref h0), (1, .int (iI w)), (4, .int (iI 8)), (2, .long (lI (mk + (Ly 7))))]) rfl ?_
      exact J5_8 (mk + (Ly 7)) (by rw [im]; first | exact (lbL_t 7 (by omega)).symm | exact (lbL_f 7 (by omega)).symm)
  have J5_6 : ∀ (mk : Int), (mk = lbL Ly Wo w 6) → gW p l e (gr 1 0 0) s m args below meth c X A 6 (MQ below ((gQl X (Y := Unit) (fun _ => (0 ≤ lbL Ly Wo w 8 ∧ lbL Ly Wo w 8 ≤ 72)) (fun _ => (lbL Ly Wo w 8)) (fun _ => [(h0, .inr (5, [.ref s1, .int (iI 8), .ref w0, .ref t0, .ref k0, .ref r0, .int (iI gf), .int (iI gs), .ref rp, .int (iI rc), .ref sh1, .int (iI tc), .int (iI ft)])), (s1, .inl (X.2.1.2.1, 8, .inr (.inr (.inr (.inr sf))))), ((sa 0), .inr (3, [.int (iI (Wt 0)), .int (iI (Wd 0)), .int (iI (Rg 0)), .int (iI (Ly 0)), .int (iI (Wo 0))])), ((sa 1), .inr (3, [.int (iI (Wt 1)), .int (iI (Wd 1)), .int (iI (Rg 1)), .int (iI (Ly 1)), .int (iI (Wo 1))])), ((sa 2), .inr (3, [.int (iI (Wt 2)), .int (iI (Wd 2)), .int (iI (Rg 2)), .int (iI (Ly 2)), .int (iI (Wo 2))])), ((sa 3), .inr (3, [.int (iI (Wt 3)), .int (iI (Wd 3)), .int (iI (Rg 3)), .int (iI (Ly 3)), .int (iI (Wo 3))])), ((sa 4), .inr (3, [.int (iI (Wt 4)), .int (iI (Wd 4)), .int (iI (Rg 4)), .int (iI (Ly 4)), .int (iI (Wo 4))])), ((sa 5), .inr (3, [.int (iI (Wt 5)), .int (iI (Wd 5)), .int (iI (Rg 5)), .int (iI (Ly 5)), .int (iI (Wo 5))])), ((sa 6), .inr (3, [.int (iI (Wt 6)), .int (iI (Wd 6)), .int (iI (Rg 6)), .int (iI (Ly 6)), .int (iI (Wo 6))])), ((sa 7), .inr (3, [.int (iI (Wt 7)), .int (iI (Wd 7)), .int (iI (Rg 7)), .int (iI (Ly 7)), .int (iI (Wo 7))]))])) A) args s 0 0 A) 0 0 [(h0, .inr (5, [.ref s1, .int (iI 8), .ref w0, .ref t0, .ref k0, .ref r0, .int (iI gf), .int (iI gs), .ref rp, .int (iI rc), .ref sh1, .int (iI tc), .int (iI ft)])), (s1, .inl (X.2.1.2.1, 8, .inr (.inr (.inr (.inr sf))))), ((sa 0), .inr (3, [.int (iI (Wt 0)), .int (iI (Wd 0)), .int (iI (Rg 0)), .int (iI (Ly 0)), .int (iI (Wo 0))])), ((sa 1), .inr (3, [.int (iI (Wt 1)), .int (iI (Wd 1)), .int (iI (Rg 1)), .int (iI (Ly 1)), .int (iI (Wo 1))])), ((sa 2), .inr (3, [.int (iI (Wt 2)), .int (iI (Wd 2)), .int (iI (Rg 2)), .int (iI (Ly 2)), .int (iI (Wo 2))])), ((sa 3), .inr (3, [.int (iI (Wt 3)), .int (iI (Wd 3)), .int (iI (Rg 3)), .int (iI (Ly 3)), .int (iI (Wo 3))])), ((sa 4), .inr (3, [.int (iI (Wt 4)), .int (iI (Wd 4)), .int (iI (Rg 4)), .int (iI (Ly 4)), .int (iI (Wo 4))])), ((sa 5), .inr (3, [.int (iI (Wt 5)), .int (iI (Wd 5)), .int (iI (Rg 5)), .int (iI (Ly 5)), .int (iI (Wo 5))])), ((sa 6), .inr (3, [.int (iI (Wt 6)), .int (iI (Wd 6)), .int (iI (Rg 6)), .int (iI (Ly 6)), .int (iI (Wo 6))])), ((sa 7), .inr (3, [.int (iI (Wt 7)), .int (iI (Wd 7)), .int (iI (Rg 7)), .int (iI (Ly 7)), .int (iI (Wo 7))]))] 5 [(0, .ref h0), (1, .int (iI w)), (4, .int (iI 6)), (2, .long (lI mk))] [] := by
    intro mk im
    refine r_iload C dX5_lyingBelow_5 2 rfl ?_
    refine r_aload_n C dX5_lyingBelow_7 0 rfl ?_
    refine gf_5_1 C hi_X5_lyingBelow_5 kw_X5_lyingBelow_0 dX5_lyingBelow_8 0 rfl rfl ?_
    refine r_icmp_ge (tgt := 51) C dX5_lyingBelow_11 (by decide) (by decide) (by decide) (fun h_4 => absurd h_4 (by decide)) (fun h_4 => ?_)
    refine r_aload_n C dX5_lyingBelow_14 0 rfl ?_
    refine r_iload C dX5_lyingBelow_15 2 rfl ?_
    refine g_V_q (ws2 := (fun _ => [(h0, .inr (5, [.ref s1, .int (iI 8), .ref w0, .ref t0, .ref k0, .ref r0, .int (iI gf), .int (iI gs), .ref rp, .int (iI rc), .ref sh1, .int (iI tc), .int (iI ft)])), (s1, .inl (X.2.1.2.1, 8, .inr (.inr (.inr (.inr sf))))), ((sa 0), .inr (3, [.int (iI (Wt 0)), .int (iI (Wd 0)), .int (iI (Rg 0)), .int (iI (Ly 0)), .int (iI (Wo 0))])), ((sa 1), .inr (3, [.int (iI (Wt 1)), .int (iI (Wd 1)), .int (iI (Rg 1)), .int (iI (Ly 1)), .int (iI (Wo 1))])), ((sa 2), .inr (3, [.int (iI (Wt 2)), .int (iI (Wd 2)), .int (iI (Rg 2)), .int (iI (Ly 2)), .int (iI (Wo 2))])), ((sa 3), .inr (3, [.int (iI (Wt 3)), .int (iI (Wd 3)), .int (iI (Rg 3)), .int (iI (Ly 3)), .int (iI (Wo 3))])), ((sa 4), .inr (3, [.int (iI (Wt 4)), .int (iI (Wd 4)), .int (iI (Rg 4)), .int (iI (Ly 4)), .int (iI (Wo 4))])), ((sa 5), .inr (3, [.int (iI (Wt 5)), .int (iI (Wd 5)), .int (iI (Rg 5)), .int (iI (Ly 5)), .int (iI (Wo 5))])), ((sa 6), .inr (3, [.int (iI (Wt 6)), .int (iI (Wd 6)), .int (iI (Rg 6)), .int (iI (Ly 6)), .int (iI (Wo 6))])), ((sa 7), .inr (3, [.int (iI (Wt 7)), .int (iI (Wd 7)), .int (iI (Rg 7)), .int (iI (Ly 7)), .int (iI (Wo 7))]))])) (As := [.int (iI 6)]) C (c_X5_stoneAt_in l X h0 s1 w0 t0 k0 r0 rp sh1 8 gf gs rc tc ft sf (sa 6) 6 (by decide) (hsf 6 (by decide))) gX5_lyingBelow_X5_stoneAt rfl rfl rfl hd_V_X5_stoneAt_X5_lyingBelow (by decide) dX5_lyingBelow_17 [0, 1] [2, 3, 4, 5, 6, 7, 8, 9] [8, 9, 0, 1, 2, 3, 4, 5, 6, 7] rfl rfl rfl rfl (by decide) rfl 0 5 rfl rfl rfl rfl (Nat.le_of_ble_eq_true rfl) (by decide) (fun _ => rfl) (fun _ hy_ => ?_)
    clear hy_
    refine r_astore (lo2 := [(5, .ref (sa 6)), (0, .ref h0), (1, .int (iI w)), (4, .int (iI 6)), (2, .long (lI mk))]) C dX5_lyingBelow_20 (by decide) rfl ?_
    refine r_aload C dX5_lyingBelow_22 0 rfl ?_
    refine r_ifnull C dX5_lyingBelow_24 ?_
    refine r_aload C dX5_lyingBelow_27 0 rfl ?_
    refine gf_3_4 C hi_X5_lyingBelow_3 kw_X5_lyingBelow_1 dX5_lyingBelow_29 8 rfl rfl ?_
    refine r_iload_n C dX5_lyingBelow_32 2 rfl ?_
    refine r_icmp_ge (tgt := 45) C dX5_lyingBelow_33 (by decide) (by omega) (by omega) (fun h_5 => ?_) (fun h_5 => ?_)
    · skip
      refine r_iinc (lo2 := [(4, .int (iI 7)), (5, .ref (sa 6)), (0, .ref h0), (1, .int (iI w)), (2, .long (lI mk))]) C dX5_lyingBelow_45 3 rfl (by decide) rfl ?_
      refine r_goto (tgt := 5) C dX5_lyingBelow_48 (by decide) ?_
      refine r_lo [2, 3, 0, 4] (lo2 := [(0, .ref h0), (1, .int (iI w)), (4, .int (iI 7)), (2, .long (lI mk))]) rfl ?_
      exact J5_7 mk (by rw [im]; first | exact (lbL_t 6 (by omega)).symm | exact (lbL_f 6 (by omega)).symm)
    · skip
      refine r_lload_n C dX5_lyingBelow_36 4 rfl ?_
      refine r_aload C dX5_lyingBelow_37 0 rfl ?_
      refine gf_3_3 C hi_X5_lyingBelow_3 kw_X5_lyingBelow_2 dX5_lyingBelow_39 8 rfl rfl ?_
      refine r_i2l C dX5_lyingBelow_42 (by omega) ?_
      refine r_ladd C dX5_lyingBelow_43 ?_
      refine r_lstore_n (lo2 := [(2, .long (lI (mk + (Ly 6)))), (5, .ref (sa 6)), (0, .ref h0), (1, .int (iI w)), (4, .int (iI 6))]) C dX5_lyingBelow_44 rfl (by decide) rfl ?_
      refine r_iinc (lo2 := [(4, .int (iI 7)), (2, .long (lI (mk + (Ly 6)))), (5, .ref (sa 6)), (0, .ref h0), (1, .int (iI w))]) C dX5_lyingBelow_45 4 rfl (by decide) rfl ?_
      refine r_goto (tgt := 5) C dX5_lyingBelow_48 (by decide) ?_
      refine r_lo [3, 4, 0, 1] (lo2 := [(0, .ref h0), (1, .int (iI w)), (4, .int (iI 7)), (2, .long (lI (mk + (Ly 6))))]) rfl ?_
      exact J5_7 (mk + (Ly 6)) (by rw [im]; first | exact (lbL_t 6 (by omega)).symm | exact (lbL_f 6 (by omega)).symm)
  have J5_5 : ∀ (mk : Int), (mk = lbL Ly Wo w 5) → gW p l e (gr 1 0 0) s m args below meth c X A 6 (MQ below ((gQl X (Y := Unit) (fun _ => (0 ≤ lbL Ly Wo w 8 ∧ lbL Ly Wo w 8 ≤ 72)) (fun _ => (lbL Ly Wo w 8)) (fun _ => [(h0, .inr (5, [.ref s1, .int (iI 8), .ref w0, .ref t0, .ref k0, .ref r0, .int (iI gf), .int (iI gs), .ref rp, .int (iI rc), .ref sh1, .int (iI tc), .int (iI ft)])), (s1, .inl (X.2.1.2.1, 8, .inr (.inr (.inr (.inr sf))))), ((sa 0), .inr (3, [.int (iI (Wt 0)), .int (iI (Wd 0)), .int (iI (Rg 0)), .int (iI (Ly 0)), .int (iI (Wo 0))])), ((sa 1), .inr (3, [.int (iI (Wt 1)), .int (iI (Wd 1)), .int (iI (Rg 1)), .int (iI (Ly 1)), .int (iI (Wo 1))])), ((sa 2), .inr (3, [.int (iI (Wt 2)), .int (iI (Wd 2)), .int (iI (Rg 2)), .int (iI (Ly 2)), .int (iI (Wo 2))])), ((sa 3), .inr (3, [.int (iI (Wt 3)), .int (iI (Wd 3)), .int (iI (Rg 3)), .int (iI (Ly 3)), .int (iI (Wo 3))])), ((sa 4), .inr (3, [.int (iI (Wt 4)), .int (iI (Wd 4)), .int (iI (Rg 4)), .int (iI (Ly 4)), .int (iI (Wo 4))])), ((sa 5), .inr (3, [.int (iI (Wt 5)), .int (iI (Wd 5)), .int (iI (Rg 5)), .int (iI (Ly 5)), .int (iI (Wo 5))])), ((sa 6), .inr (3, [.int (iI (Wt 6)), .int (iI (Wd 6)), .int (iI (Rg 6)), .int (iI (Ly 6)), .int (iI (Wo 6))])), ((sa 7), .inr (3, [.int (iI (Wt 7)), .int (iI (Wd 7)), .int (iI (Rg 7)), .int (iI (Ly 7)), .int (iI (Wo 7))]))])) A) args s 0 0 A) 0 0 [(h0, .inr (5, [.ref s1, .int (iI 8), .ref w0, .ref t0, .ref k0, .ref r0, .int (iI gf), .int (iI gs), .ref rp, .int (iI rc), .ref sh1, .int (iI tc), .int (iI ft)])), (s1, .inl (X.2.1.2.1, 8, .inr (.inr (.inr (.inr sf))))), ((sa 0), .inr (3, [.int (iI (Wt 0)), .int (iI (Wd 0)), .int (iI (Rg 0)), .int (iI (Ly 0)), .int (iI (Wo 0))])), ((sa 1), .inr (3, [.int (iI (Wt 1)), .int (iI (Wd 1)), .int (iI (Rg 1)), .int (iI (Ly 1)), .int (iI (Wo 1))])), ((sa 2), .inr (3, [.int (iI (Wt 2)), .int (iI (Wd 2)), .int (iI (Rg 2)), .int (iI (Ly 2)), .int (iI (Wo 2))])), ((sa 3), .inr (3, [.int (iI (Wt 3)), .int (iI (Wd 3)), .int (iI (Rg 3)), .int (iI (Ly 3)), .int (iI (Wo 3))])), ((sa 4), .inr (3, [.int (iI (Wt 4)), .int (iI (Wd 4)), .int (iI (Rg 4)), .int (iI (Ly 4)), .int (iI (Wo 4))])), ((sa 5), .inr (3, [.int (iI (Wt 5)), .int (iI (Wd 5)), .int (iI (Rg 5)), .int (iI (Ly 5)), .int (iI (Wo 5))])), ((sa 6), .inr (3, [.int (iI (Wt 6)), .int (iI (Wd 6)), .int (iI (Rg 6)), .int (iI (Ly 6)), .int (iI (Wo 6))])), ((sa 7), .inr (3, [.int (iI (Wt 7)), .int (iI (Wd 7)), .int (iI (Rg 7)), .int (iI (Ly 7)), .int (iI (Wo 7))]))] 5 [(0, .ref h0), (1, .int (iI w)), (4, .int (iI 5)), (2, .long (lI mk))] [] := by
    intro mk im
    refine r_iload C dX5_lyingBelow_5 2 rfl ?_
    refine r_aload_n C dX5_lyingBelow_7 0 rfl ?_
    refine gf_5_1 C hi_X5_lyingBelow_5 kw_X5_lyingBelow_0 dX5_lyingBelow_8 0 rfl rfl ?_
    refine r_icmp_ge (tgt := 51) C dX5_lyingBelow_11 (by decide) (by decide) (by decide) (fun h_6 => absurd h_6 (by decide)) (fun h_6 => ?_)
    refine r_aload_n C dX5_lyingBelow_14 0 rfl ?_
    refine r_iload C dX5_lyingBelow_15 2 rfl ?_
    refine g_V_q (ws2 := (fun _ => [(h0, .inr (5, [.ref s1, .int (iI 8), .ref w0, .ref t0, .ref k0, .ref r0, .int (iI gf), .int (iI gs), .ref rp, .int (iI rc), .ref sh1, .int (iI tc), .int (iI ft)])), (s1, .inl (X.2.1.2.1, 8, .inr (.inr (.inr (.inr sf))))), ((sa 0), .inr (3, [.int (iI (Wt 0)), .int (iI (Wd 0)), .int (iI (Rg 0)), .int (iI (Ly 0)), .int (iI (Wo 0))])), ((sa 1), .inr (3, [.int (iI (Wt 1)), .int (iI (Wd 1)), .int (iI (Rg 1)), .int (iI (Ly 1)), .int (iI (Wo 1))])), ((sa 2), .inr (3, [.int (iI (Wt 2)), .int (iI (Wd 2)), .int (iI (Rg 2)), .int (iI (Ly 2)), .int (iI (Wo 2))])), ((sa 3), .inr (3, [.int (iI (Wt 3)), .int (iI (Wd 3)), .int (iI (Rg 3)), .int (iI (Ly 3)), .int (iI (Wo 3))])), ((sa 4), .inr (3, [.int (iI (Wt 4)), .int (iI (Wd 4)), .int (iI (Rg 4)), .int (iI (Ly 4)), .int (iI (Wo 4))])), ((sa 5), .inr (3, [.int (iI (Wt 5)), .int (iI (Wd 5)), .int (iI (Rg 5)), .int (iI (Ly 5)), .int (iI (Wo 5))])), ((sa 6), .inr (3, [.int (iI (Wt 6)), .int (iI (Wd 6)), .int (iI (Rg 6)), .int (iI (Ly 6)), .int (iI (Wo 6))])), ((sa 7), .inr (3, [.int (iI (Wt 7)), .int (iI (Wd 7)), .int (iI (Rg 7)), .int (iI (Ly 7)), .int (iI (Wo 7))]))])) (As := [.int (iI 5)]) C (c_X5_stoneAt_in l X h0 s1 w0 t0 k0 r0 rp sh1 8 gf gs rc tc ft sf (sa 5) 5 (by decide) (hsf 5 (by decide))) gX5_lyingBelow_X5_stoneAt rfl rfl rfl hd_V_X5_stoneAt_X5_lyingBelow (by decide) dX5_lyingBelow_17 [0, 1] [2, 3, 4, 5, 6, 7, 8, 9] [8, 9, 0, 1, 2, 3, 4, 5, 6, 7] rfl rfl rfl rfl (by decide) rfl 0 5 rfl rfl rfl rfl (Nat.le_of_ble_eq_true rfl) (by decide) (fun _ => rfl) (fun _ hy_ => ?_)
    clear hy_
    refine r_astore (lo2 := [(5, .ref (sa 5)), (0, .ref h0), (1, .int (iI w)), (4, .int (iI 5)), (2, .long (lI mk))]) C dX5_lyingBelow_20 (by decide) rfl ?_
    refine r_aload C dX5_lyingBelow_22 0 rfl ?_
    refine r_ifnull C dX5_lyingBelow_24 ?_
    refine r_aload C dX5_lyingBelow_27 0 rfl ?_
    refine gf_3_4 C hi_X5_lyingBelow_3 kw_X5_lyingBelow_1 dX5_lyingBelow_29 7 rfl rfl ?_
    refine r_iload_n C dX5_lyingBelow_32 2 rfl ?_
    refine r_icmp_ge (tgt := 45) C dX5_lyingBelow_33 (by decide) (by omega) (by omega) (fun h_7 => ?_) (fun h_7 => ?_)
    · skip
      refine r_iinc (lo2 := [(4, .int (iI 6)), (5, .ref (sa 5)), (0, .ref h0), (1, .int (iI w)), (2, .long (lI mk))]) C dX5_lyingBelow_45 3 rfl (by decide) rfl ?_
      refine r_goto (tgt := 5) C dX5_lyingBelow_48 (by decide) ?_
      refine r_lo [2, 3, 0, 4] (lo2 := [(0, .ref h0), (1, .int (iI w)), (4, .int (iI 6)), (2, .long (lI mk))]) rfl ?_
      exact J5_6 mk (by rw [im]; first | exact (lbL_t 5 (by omega)).symm | exact (lbL_f 5 (by omega)).symm)
    · skip
      refine r_lload_n C dX5_lyingBelow_36 4 rfl ?_
      refine r_aload C dX5_lyingBelow_37 0 rfl ?_
      refine gf_3_3 C hi_X5_lyingBelow_3 kw_X5_lyingBelow_2 dX5_lyingBelow_39 7 rfl rfl ?_
      refine r_i2l C dX5_lyingBelow_42 (by omega) ?_
      refine r_ladd C dX5_lyingBelow_43 ?_
      refine r_lstore_n (lo2 := [(2, .long (lI (mk + (Ly 5)))), (5, .ref (sa 5)), (0, .ref h0), (1, .int (iI w)), (4, .int (iI 5))]) C dX5_lyingBelow_44 rfl (by decide) rfl ?_
      refine r_iinc (lo2 := [(4, .int (iI 6)), (2, .long (lI (mk + (Ly 5)))), (5, .ref (sa 5)), (0, .ref h0), (1, .int (iI w))]) C dX5_lyingBelow_45 4 rfl (by decide) rfl ?_
      refine r_goto (tgt := 5) C dX5_lyingBelow_48 (by decide) ?_
      refine r_lo [3, 4, 0, 1] (lo2 := [(0, .ref h0), (1, .int (iI w)), (4, .int (iI 6)), (2, .long (lI (mk + (Ly 5))))]) rfl ?_
      exact J5_6 (mk + (Ly 5)) (by rw [im]; first | exact (lbL_t 5 (by omega)).symm | exact (lbL_f 5 (by omega)).symm)
  have J5_4 : ∀ (mk : Int), (mk = lbL Ly Wo w 4) → gW p l e (gr 1 0 0) s m args below meth c X A 6 (MQ below ((gQl X (Y := Unit) (fun _ => (0 ≤ lbL Ly Wo w 8 ∧ lbL Ly Wo w 8 ≤ 72)) (fun _ => (lbL Ly Wo w 8)) (fun _ => [(h0, .inr (5, [.ref s1, .int (iI 8), .ref w0, .ref t0, .ref k0, .ref r0, .int (iI gf), .int (iI gs), .ref rp, .int (iI rc), .ref sh1, .int (iI tc), .int (iI ft)])), (s1, .inl (X.2.1.2.1, 8, .inr (.inr (.inr (.inr sf))))), ((sa 0), .inr (3, [.int (iI (Wt 0)), .int (iI (Wd 0)), .int (iI (Rg 0)), .int (iI (Ly 0)), .int (iI (Wo 0))])), ((sa 1), .inr (3, [.int (iI (Wt 1)), .int (iI (Wd 1)), .int (iI (Rg 1)), .int (iI (Ly 1)), .int (iI (Wo 1))])), ((sa 2), .inr (3, [.int (iI (Wt 2)), .int (iI (Wd 2)), .int (iI (Rg 2)), .int (iI (Ly 2)), .int (iI (Wo 2))])), ((sa 3), .inr (3, [.int (iI (Wt 3)), .int (iI (Wd 3)), .int (iI (Rg 3)), .int (iI (Ly 3)), .int (iI (Wo 3))])), ((sa 4), .inr (3, [.int (iI (Wt 4)), .int (iI (Wd 4)), .int (iI (Rg 4)), .int (iI (Ly 4)), .int (iI (Wo 4))])), ((sa 5), .inr (3, [.int (iI (Wt 5)), .int (iI (Wd 5)), .int (iI (Rg 5)), .int (iI (Ly 5)), .int (iI (Wo 5))])), ((sa 6), .inr (3, [.int (iI (Wt 6)), .int (iI (Wd 6)), .int (iI (Rg 6)), .int (iI (Ly 6)), .int (iI (Wo 6))])), ((sa 7), .inr (3, [.int (iI (Wt 7)), .int (iI (Wd 7)), .int (iI (Rg 7)), .int (iI (Ly 7)), .int (iI (Wo 7))]))])) A) args s 0 0 A) 0 0 [(h0, .inr (5, [.ref s1, .int (iI 8), .ref w0, .ref t0, .ref k0, .ref r0, .int (iI gf), .int (iI gs), .ref rp, .int (iI rc), .ref sh1, .int (iI tc), .int (iI ft)])), (s1, .inl (X.2.1.2.1, 8, .inr (.inr (.inr (.inr sf))))), ((sa 0), .inr (3, [.int (iI (Wt 0)), .int (iI (Wd 0)), .int (iI (Rg 0)), .int (iI (Ly 0)), .int (iI (Wo 0))])), ((sa 1), .inr (3, [.int (iI (Wt 1)), .int (iI (Wd 1)), .int (iI (Rg 1)), .int (iI (Ly 1)), .int (iI (Wo 1))])), ((sa 2), .inr (3, [.int (iI (Wt 2)), .int (iI (Wd 2)), .int (iI (Rg 2)), .int (iI (Ly 2)), .int (iI (Wo 2))])), ((sa 3), .inr (3, [.int (iI (Wt 3)), .int (iI (Wd 3)), .int (iI (Rg 3)), .int (iI (Ly 3)), .int (iI (Wo 3))])), ((sa 4), .inr (3, [.int (iI (Wt 4)), .int (iI (Wd 4)), .int (iI (Rg 4)), .int (iI (Ly 4)), .int (iI (Wo 4))])), ((sa 5), .inr (3, [.int (iI (Wt 5)), .int (iI (Wd 5)), .int (iI (Rg 5)), .int (iI (Ly 5)), .int (iI (Wo 5))])), ((sa 6), .inr (3, [.int (iI (Wt 6)), .int (iI (Wd 6)), .int (iI (Rg 6)), .int (iI (Ly 6)), .int (iI (Wo 6))])), ((sa 7), .inr (3, [.int (iI (Wt 7)), .int (iI (Wd 7)), .int (iI (Rg 7)), .int (iI (Ly 7)), .int (iI (Wo 7))]))] 5 [(0, .ref h0), (1, .int (iI w)), (4, .int (iI 4)), (2, .long (lI mk))] [] := by
    intro mk im
    refine r_iload C dX5_lyingBelow_5 2 rfl ?_
    refine r_aload_n C dX5_lyingBelow_7 0 rfl ?_
    refine gf_5_1 C hi_X5_lyingBelow_5 kw_X5_lyingBelow_0 dX5_lyingBelow_8 0 rfl rfl ?_
    refine r_icmp_ge (tgt := 51) C dX5_lyingBelow_11 (by decide) (by decide) (by decide) (fun h_8 => absurd h_8 (by decide)) (fun h_8 => ?_)
    refine r_aload_n C dX5_lyingBelow_14 0 rfl ?_
    refine r_iload C dX5_lyingBelow_15 2 rfl ?_
    refine g_V_q (ws2 := (fun _ => [(h0, .inr (5, [.ref s1, .int (iI 8), .ref w0, .ref t0, .ref k0, .ref r0, .int (iI gf), .int (iI gs), .ref rp, .int (iI rc), .ref sh1, .int (iI tc), .int (iI ft)])), (s1, .inl (X.2.1.2.1, 8, .inr (.inr (.inr (.inr sf))))), ((sa 0), .inr (3, [.int (iI (Wt 0)), .int (iI (Wd 0)), .int (iI (Rg 0)), .int (iI (Ly 0)), .int (iI (Wo 0))])), ((sa 1), .inr (3, [.int (iI (Wt 1)), .int (iI (Wd 1)), .int (iI (Rg 1)), .int (iI (Ly 1)), .int (iI (Wo 1))])), ((sa 2), .inr (3, [.int (iI (Wt 2)), .int (iI (Wd 2)), .int (iI (Rg 2)), .int (iI (Ly 2)), .int (iI (Wo 2))])), ((sa 3), .inr (3, [.int (iI (Wt 3)), .int (iI (Wd 3)), .int (iI (Rg 3)), .int (iI (Ly 3)), .int (iI (Wo 3))])), ((sa 4), .inr (3, [.int (iI (Wt 4)), .int (iI (Wd 4)), .int (iI (Rg 4)), .int (iI (Ly 4)), .int (iI (Wo 4))])), ((sa 5), .inr (3, [.int (iI (Wt 5)), .int (iI (Wd 5)), .int (iI (Rg 5)), .int (iI (Ly 5)), .int (iI (Wo 5))])), ((sa 6), .inr (3, [.int (iI (Wt 6)), .int (iI (Wd 6)), .int (iI (Rg 6)), .int (iI (Ly 6)), .int (iI (Wo 6))])), ((sa 7), .inr (3, [.int (iI (Wt 7)), .int (iI (Wd 7)), .int (iI (Rg 7)), .int (iI (Ly 7)), .int (iI (Wo 7))]))])) (As := [.int (iI 4)]) C (c_X5_stoneAt_in l X h0 s1 w0 t0 k0 r0 rp sh1 8 gf gs rc tc ft sf (sa 4) 4 (by decide) (hsf 4 (by decide))) gX5_lyingBelow_X5_stoneAt rfl rfl rfl hd_V_X5_stoneAt_X5_lyingBelow (by decide) dX5_lyingBelow_17 [0, 1] [2, 3, 4, 5, 6, 7, 8, 9] [8, 9, 0, 1, 2, 3, 4, 5, 6, 7] rfl rfl rfl rfl (by decide) rfl 0 5 rfl rfl rfl rfl (Nat.le_of_ble_eq_true rfl) (by decide) (fun _ => rfl) (fun _ hy_ => ?_)
    clear hy_
    refine r_astore (lo2 := [(5, .ref (sa 4)), (0, .ref h0), (1, .int (iI w)), (4, .int (iI 4)), (2, .long (lI mk))]) C dX5_lyingBelow_20 (by decide) rfl ?_
    refine r_aload C dX5_lyingBelow_22 0 rfl ?_
    refine r_ifnull C dX5_lyingBelow_24 ?_
    refine r_aload C dX5_lyingBelow_27 0 rfl ?_
    refine gf_3_4 C hi_X5_lyingBelow_3 kw_X5_lyingBelow_1 dX5_lyingBelow_29 6 rfl rfl ?_
    refine r_iload_n C dX5_lyingBelow_32 2 rfl ?_
    refine r_icmp_ge (tgt := 45) C dX5_lyingBelow_33 (by decide) (by omega) (by omega) (fun h_9 => ?_) (fun h_9 => ?_)
    · skip
      refine r_iinc (lo2 := [(4, .int (iI 5)), (5, .ref (sa 4)), (0, .ref h0), (1, .int (iI w)), (2, .long (lI mk))]) C dX5_lyingBelow_45 3 rfl (by decide) rfl ?_
      refine r_goto (tgt := 5) C dX5_lyingBelow_48 (by decide) ?_
      refine r_lo [2, 3, 0, 4] (lo2 := [(0, .ref h0), (1, .int (iI w)), (4, .int (iI 5)), (2, .long (lI mk))]) rfl ?_
      exact J5_5 mk (by rw [im]; first | exact (lbL_t 4 (by omega)).symm | exact (lbL_f 4 (by omega)).symm)
    · skip
      refine r_lload_n C dX5_lyingBelow_36 4 rfl ?_
      refine r_aload C dX5_lyingBelow_37 0 rfl ?_
      refine gf_3_3 C hi_X5_lyingBelow_3 kw_X5_lyingBelow_2 dX5_lyingBelow_39 6 rfl rfl ?_
      refine r_i2l C dX5_lyingBelow_42 (by omega) ?_
      refine r_ladd C dX5_lyingBelow_43 ?_
      refine r_lstore_n (lo2 := [(2, .long (lI (mk + (Ly 4)))), (5, .ref (sa 4)), (0, .ref h0), (1, .int (iI w)), (4, .int (iI 4))]) C dX5_lyingBelow_44 rfl (by decide) rfl ?_
      refine r_iinc (lo2 := [(4, .int (iI 5)), (2, .long (lI (mk + (Ly 4)))), (5, .ref (sa 4)), (0, .ref h0), (1, .int (iI w))]) C dX5_lyingBelow_45 4 rfl (by decide) rfl ?_
      refine r_goto (tgt := 5) C dX5_lyingBelow_48 (by decide) ?_
      refine r_lo [3, 4, 0, 1] (lo2 := [(0, .ref h0), (1, .int (iI w)), (4, .int (iI 5)), (2, .long (lI (mk + (Ly 4))))]) rfl ?_
      exact J5_5 (mk + (Ly 4)) (by rw [im]; first | exact (lbL_t 4 (by omega)).symm | exact (lbL_f 4 (by omega)).symm)
  have J5_3 : ∀ (mk : Int), (mk = lbL Ly Wo w 3) → gW p l e (gr 1 0 0) s m args below meth c X A 6 (MQ below ((gQl X (Y := Unit) (fun _ => (0 ≤ lbL Ly Wo w 8 ∧ lbL Ly Wo w 8 ≤ 72)) (fun _ => (lbL Ly Wo w 8)) (fun _ => [(h0, .inr (5, [.ref s1, .int (iI 8), .ref w0, .ref t0, .ref k0, .ref r0, .int (iI gf), .int (iI gs), .ref rp, .int (iI rc), .ref sh1, .int (iI tc), .int (iI ft)])), (s1, .inl (X.2.1.2.1, 8, .inr (.inr (.inr (.inr sf))))), ((sa 0), .inr (3, [.int (iI (Wt 0)), .int (iI (Wd 0)), .int (iI (Rg 0)), .int (iI (Ly 0)), .int (iI (Wo 0))])), ((sa 1), .inr (3, [.int (iI (Wt 1)), .int (iI (Wd 1)), .int (iI (Rg 1)), .int (iI (Ly 1)), .int (iI (Wo 1))])), ((sa 2), .inr (3, [.int (iI (Wt 2)), .int (iI (Wd 2)), .int (iI (Rg 2)), .int (iI (Ly 2)), .int (iI (Wo 2))])), ((sa 3), .inr (3, [.int (iI (Wt 3)), .int (iI (Wd 3)), .int (iI (Rg 3)), .int (iI (Ly 3)), .int (iI (Wo 3))])), ((sa 4), .inr (3, [.int (iI (Wt 4)), .int (iI (Wd 4)), .int (iI (Rg 4)), .int (iI (Ly 4)), .int (iI (Wo 4))])), ((sa 5), .inr (3, [.int (iI (Wt 5)), .int (iI (Wd 5)), .int (iI (Rg 5)), .int (iI (Ly 5)), .int (iI (Wo 5))])), ((sa 6), .inr (3, [.int (iI (Wt 6)), .int (iI (Wd 6)), .int (iI (Rg 6)), .int (iI (Ly 6)), .int (iI (Wo 6))])), ((sa 7), .inr (3, [.int (iI (Wt 7)), .int (iI (Wd 7)), .int (iI (Rg 7)), .int (iI (Ly 7)), .int (iI (Wo 7))]))])) A) args s 0 0 A) 0 0 [(h0, .inr (5, [.ref s1, .int (iI 8), .ref w0, .ref t0, .ref k0, .ref r0, .int (iI gf), .int (iI gs), .ref rp, .int (iI rc), .ref sh1, .int (iI tc), .int (iI ft)])), (s1, .inl (X.2.1.2.1, 8, .inr (.inr (.inr (.inr sf))))), ((sa 0), .inr (3, [.int (iI (Wt 0)), .int (iI (Wd 0)), .int (iI (Rg 0)), .int (iI (Ly 0)), .int (iI (Wo 0))])), ((sa 1), .inr (3, [.int (iI (Wt 1)), .int (iI (Wd 1)), .int (iI (Rg 1)), .int (iI (Ly 1)), .int (iI (Wo 1))])), ((sa 2), .inr (3, [.int (iI (Wt 2)), .int (iI (Wd 2)), .int (iI (Rg 2)), .int (iI (Ly 2)), .int (iI (Wo 2))])), ((sa 3), .inr (3, [.int (iI (Wt 3)), .int (iI (Wd 3)), .int (iI (Rg 3)), .int (iI (Ly 3)), .int (iI (Wo 3))])), ((sa 4), .inr (3, [.int (iI (Wt 4)), .int (iI (Wd 4)), .int (iI (Rg 4)), .int (iI (Ly 4)), .int (iI (Wo 4))])), ((sa 5), .inr (3, [.int (iI (Wt 5)), .int (iI (Wd 5)), .int (iI (Rg 5)), .int (iI (Ly 5)), .int (iI (Wo 5))])), ((sa 6), .inr (3, [.int (iI (Wt 6)), .int (iI (Wd 6)), .int (iI (Rg 6)), .int (iI (Ly 6)), .int (iI (Wo 6))])), ((sa 7), .inr (3, [.int (iI (Wt 7)), .int (iI (Wd 7)), .int (iI (Rg 7)), .int (iI (Ly 7)), .int (iI (Wo 7))]))] 5 [(0, .ref h0), (1, .int (iI w)), (4, .int (iI 3)), (2, .long (lI mk))] [] := by
    intro mk im
    refine r_iload C dX5_lyingBelow_5 2 rfl ?_
    refine r_aload_n C dX5_lyingBelow_7 0 rfl ?_
    refine gf_5_1 C hi_X5_lyingBelow_5 kw_X5_lyingBelow_0 dX5_lyingBelow_8 0 rfl rfl ?_
    refine r_icmp_ge (tgt := 51) C dX5_lyingBelow_11 (by decide) (by decide) (by decide) (fun h_10 => absurd h_10 (by decide)) (fun h_10 => ?_)
    refine r_aload_n C dX5_lyingBelow_14 0 rfl ?_
    refine r_iload C dX5_lyingBelow_15 2 rfl ?_
    refine g_V_q (ws2 := (fun _ => [(h0, .inr (5, [.ref s1, .int (iI 8), .ref w0, .ref t0, .ref k0, .ref r0, .int (iI gf), .int (iI gs), .ref rp, .int (iI rc), .ref sh1, .int (iI tc), .int (iI ft)])), (s1, .inl (X.2.1.2.1, 8, .inr (.inr (.inr (.inr sf))))), ((sa 0), .inr (3, [.int (iI (Wt 0)), .int (iI (Wd 0)), .int (iI (Rg 0)), .int (iI (Ly 0)), .int (iI (Wo 0))])), ((sa 1), .inr (3, [.int (iI (Wt 1)), .int (iI (Wd 1)), .int (iI (Rg 1)), .int (iI (Ly 1)), .int (iI (Wo 1))])), ((sa 2), .inr (3, [.int (iI (Wt 2)), .int (iI (Wd 2)), .int (iI (Rg 2)), .int (iI (Ly 2)), .int (iI (Wo 2))])), ((sa 3), .inr (3, [.int (iI (Wt 3)), .int (iI (Wd 3)), .int (iI (Rg 3)), .int (iI (Ly 3)), .int (iI (Wo 3))])), ((sa 4), .inr (3, [.int (iI (Wt 4)), .int (iI (Wd 4)), .int (iI (Rg 4)), .int (iI (Ly 4)), .int (iI (Wo 4))])), ((sa 5), .inr (3, [.int (iI (Wt 5)), .int (iI (Wd 5)), .int (iI (Rg 5)), .int (iI (Ly 5)), .int (iI (Wo 5))])), ((sa 6), .inr (3, [.int (iI (Wt 6)), .int (iI (Wd 6)), .int (iI (Rg 6)), .int (iI (Ly 6)), .int (iI (Wo 6))])), ((sa 7), .inr (3, [.int (iI (Wt 7)), .int (iI (Wd 7)), .int (iI (Rg 7)), .int (iI (Ly 7)), .int (iI (Wo 7))]))])) (As := [.int (iI 3)]) C (c_X5_stoneAt_in l X h0 s1 w0 t0 k0 r0 rp sh1 8 gf gs rc tc ft sf (sa 3) 3 (by decide) (hsf 3 (by decide))) gX5_lyingBelow_X5_stoneAt rfl rfl rfl hd_V_X5_stoneAt_X5_lyingBelow (by decide) dX5_lyingBelow_17 [0, 1] [2, 3, 4, 5, 6, 7, 8, 9] [8, 9, 0, 1, 2, 3, 4, 5, 6, 7] rfl rfl rfl rfl (by decide) rfl 0 5 rfl rfl rfl rfl (Nat.le_of_ble_eq_true rfl) (by decide) (fun _ => rfl) (fun _ hy_ => ?_)
    clear hy_
    refine r_astore (lo2 := [(5, .ref (sa 3)), (0, .ref h0), (1, .int (iI w)), (4, .int (iI 3)), (2, .long (lI mk))]) C dX5_lyingBelow_20 (by decide) rfl ?_
    refine r_aload C dX5_lyingBelow_22 0 rfl ?_
    refine r_ifnull C dX5_lyingBelow_24 ?_
    refine r_aload C dX5_lyingBelow_27 0 rfl ?_
    refine gf_3_4 C hi_X5_lyingBelow_3 kw_X5_lyingBelow_1 dX5_lyingBelow_29 5 rfl rfl ?_
    refine r_iload_n C dX5_lyingBelow_32 2 rfl ?_
    refine r_icmp_ge (tgt := 45) C dX5_lyingBelow_33 (by decide) (by omega) (by omega) (fun h_11 => ?_) (fun h_11 => ?_)
    · skip
      refine r_iinc (lo2 := [(4, .int (iI 4)), (5, .ref (sa 3)), (0, .ref h0), (1, .int (iI w)), (2, .long (lI mk))]) C dX5_lyingBelow_45 3 rfl (by decide) rfl ?_
      refine r_goto (tgt := 5) C dX5_lyingBelow_48 (by decide) ?_
      refine r_lo [2, 3, 0, 4] (lo2 := [(0, .ref h0), (1, .int (iI w)), (4, .int (iI 4)), (2, .long (lI mk))]) rfl ?_
      exact J5_4 mk (by rw [im]; first | exact (lbL_t 3 (by omega)).symm | exact (lbL_f 3 (by omega)).symm)
    · skip
      refine r_lload_n C dX5_lyingBelow_36 4 rfl ?_
      refine r_aload C dX5_lyingBelow_37 0 rfl ?_
      refine gf_3_3 C hi_X5_lyingBelow_3 kw_X5_lyingBelow_2 dX5_lyingBelow_39 5 rfl rfl ?_
      refine r_i2l C dX5_lyingBelow_42 (by omega) ?_
      refine r_ladd C dX5_lyingBelow_43 ?_
      refine r_lstore_n (lo2 := [(2, .long (lI (mk + (Ly 3)))), (5, .ref (sa 3)), (0, .ref h0), (1, .int (iI w)), (4, .int (iI 3))]) C dX5_lyingBelow_44 rfl (by decide) rfl ?_
      refine r_iinc (lo2 := [(4, .int (iI 4)), (2, .long (lI (mk + (Ly 3)))), (5, .ref (sa 3)), (0, .ref h0), (1, .int (iI w))]) C dX5_lyingBelow_45 4 rfl (by decide) rfl ?_
      refine r_goto (tgt := 5) C dX5_lyingBelow_48 (by decide) ?_
      refine r_lo [3, 4, 0, 1] (lo2 := [(0, .ref h0), (1, .int (iI w)), (4, .int (iI 4)), (2, .long (lI (mk + (Ly 3))))]) rfl ?_
      exact J5_4 (mk + (Ly 3)) (by rw [im]; first | exact (lbL_t 3 (by omega)).symm | exact (lbL_f 3 (by omega)).symm)
  have J5_2 : ∀ (mk : Int), (mk = lbL Ly Wo w 2) → gW p l e (gr 1 0 0) s m args below meth c X A 6 (MQ below ((gQl X (Y := Unit) (fun _ => (0 ≤ lbL Ly Wo w 8 ∧ lbL Ly Wo w 8 ≤ 72)) (fun _ => (lbL Ly Wo w 8)) (fun _ => [(h0, .inr (5, [.ref s1, .int (iI 8), .ref w0, .ref t0, .ref k0, .ref r0, .int (iI gf), .int (iI gs), .ref rp, .int (iI rc), .ref sh1, .int (iI tc), .int (iI ft)])), (s1, .inl (X.2.1.2.1, 8, .inr (.inr (.inr (.inr sf))))), ((sa 0), .inr (3, [.int (iI (Wt 0)), .int (iI (Wd 0)), .int (iI (Rg 0)), .int (iI (Ly 0)), .int (iI (Wo 0))])), ((sa 1), .inr (3, [.int (iI (Wt 1)), .int (iI (Wd 1)), .int (iI (Rg 1)), .int (iI (Ly 1)), .int (iI (Wo 1))])), ((sa 2), .inr (3, [.int (iI (Wt 2)), .int (iI (Wd 2)), .int (iI (Rg 2)), .int (iI (Ly 2)), .int (iI (Wo 2))])), ((sa 3), .inr (3, [.int (iI (Wt 3)), .int (iI (Wd 3)), .int (iI (Rg 3)), .int (iI (Ly 3)), .int (iI (Wo 3))])), ((sa 4), .inr (3, [.int (iI (Wt 4)), .int (iI (Wd 4)), .int (iI (Rg 4)), .int (iI (Ly 4)), .int (iI (Wo 4))])), ((sa 5), .inr (3, [.int (iI (Wt 5)), .int (iI (Wd 5)), .int (iI (Rg 5)), .int (iI (Ly 5)), .int (iI (Wo 5))])), ((sa 6), .inr (3, [.int (iI (Wt 6)), .int (iI (Wd 6)), .int (iI (Rg 6)), .int (iI (Ly 6)), .int (iI (Wo 6))])), ((sa 7), .inr (3, [.int (iI (Wt 7)), .int (iI (Wd 7)), .int (iI (Rg 7)), .int (iI (Ly 7)), .int (iI (Wo 7))]))])) A) args s 0 0 A) 0 0 [(h0, .inr (5, [.ref s1, .int (iI 8), .ref w0, .ref t0, .ref k0, .ref r0, .int (iI gf), .int (iI gs), .ref rp, .int (iI rc), .ref sh1, .int (iI tc), .int (iI ft)])), (s1, .inl (X.2.1.2.1, 8, .inr (.inr (.inr (.inr sf))))), ((sa 0), .inr (3, [.int (iI (Wt 0)), .int (iI (Wd 0)), .int (iI (Rg 0)), .int (iI (Ly 0)), .int (iI (Wo 0))])), ((sa 1), .inr (3, [.int (iI (Wt 1)), .int (iI (Wd 1)), .int (iI (Rg 1)), .int (iI (Ly 1)), .int (iI (Wo 1))])), ((sa 2), .inr (3, [.int (iI (Wt 2)), .int (iI (Wd 2)), .int (iI (Rg 2)), .int (iI (Ly 2)), .int (iI (Wo 2))])), ((sa 3), .inr (3, [.int (iI (Wt 3)), .int (iI (Wd 3)), .int (iI (Rg 3)), .int (iI (Ly 3)), .int (iI (Wo 3))])), ((sa 4), .inr (3, [.int (iI (Wt 4)), .int (iI (Wd 4)), .int (iI (Rg 4)), .int (iI (Ly 4)), .int (iI (Wo 4))])), ((sa 5), .inr (3, [.int (iI (Wt 5)), .int (iI (Wd 5)), .int (iI (Rg 5)), .int (iI (Ly 5)), .int (iI (Wo 5))])), ((sa 6), .inr (3, [.int (iI (Wt 6)), .int (iI (Wd 6)), .int (iI (Rg 6)), .int (iI (Ly 6)), .int (iI (Wo 6))])), ((sa 7), .inr (3, [.int (iI (Wt 7)), .int (iI (Wd 7)), .int (iI (Rg 7)), .int (iI (Ly 7)), .int (iI (Wo 7))]))] 5 [(0, .ref h0), (1, .int (iI w)), (4, .int (iI 2)), (2, .long (lI mk))] [] := by
    intro mk im
    refine r_iload C dX5_lyingBelow_5 2 rfl ?_
    refine r_aload_n C dX5_lyingBelow_7 0 rfl ?_
    refine gf_5_1 C hi_X5_lyingBelow_5 kw_X5_lyingBelow_0 dX5_lyingBelow_8 0 rfl rfl ?_
    refine r_icmp_ge (tgt := 51) C dX5_lyingBelow_11 (by decide) (by decide) (by decide) (fun h_12 => absurd h_12 (by decide)) (fun h_12 => ?_)
    refine r_aload_n C dX5_lyingBelow_14 0 rfl ?_
    refine r_iload C dX5_lyingBelow_15 2 rfl ?_
    refine g_V_q (ws2 := (fun _ => [(h0, .inr (5, [.ref s1, .int (iI 8), .ref w0, .ref t0, .ref k0, .ref r0, .int (iI gf), .int (iI gs), .ref rp, .int (iI rc), .ref sh1, .int (iI tc), .int (iI ft)])), (s1, .inl (X.2.1.2.1, 8, .inr (.inr (.inr (.inr sf))))), ((sa 0), .inr (3, [.int (iI (Wt 0)), .int (iI (Wd 0)), .int (iI (Rg 0)), .int (iI (Ly 0)), .int (iI (Wo 0))])), ((sa 1), .inr (3, [.int (iI (Wt 1)), .int (iI (Wd 1)), .int (iI (Rg 1)), .int (iI (Ly 1)), .int (iI (Wo 1))])), ((sa 2), .inr (3, [.int (iI (Wt 2)), .int (iI (Wd 2)), .int (iI (Rg 2)), .int (iI (Ly 2)), .int (iI (Wo 2))])), ((sa 3), .inr (3, [.int (iI (Wt 3)), .int (iI (Wd 3)), .int (iI (Rg 3)), .int (iI (Ly 3)), .int (iI (Wo 3))])), ((sa 4), .inr (3, [.int (iI (Wt 4)), .int (iI (Wd 4)), .int (iI (Rg 4)), .int (iI (Ly 4)), .int (iI (Wo 4))])), ((sa 5), .inr (3, [.int (iI (Wt 5)), .int (iI (Wd 5)), .int (iI (Rg 5)), .int (iI (Ly 5)), .int (iI (Wo 5))])), ((sa 6), .inr (3, [.int (iI (Wt 6)), .int (iI (Wd 6)), .int (iI (Rg 6)), .int (iI (Ly 6)), .int (iI (Wo 6))])), ((sa 7), .inr (3, [.int (iI (Wt 7)), .int (iI (Wd 7)), .int (iI (Rg 7)), .int (iI (Ly 7)), .int (iI (Wo 7))]))])) (As := [.int (iI 2)]) C (c_X5_stoneAt_in l X h0 s1 w0 t0 k0 r0 rp sh1 8 gf gs rc tc ft sf (sa 2) 2 (by decide) (hsf 2 (by decide))) gX5_lyingBelow_X5_stoneAt rfl rfl rfl hd_V_X5_stoneAt_X5_lyingBelow (by decide) dX5_lyingBelow_17 [0, 1] [2, 3, 4, 5, 6, 7, 8, 9] [8, 9, 0, 1, 2, 3, 4, 5, 6, 7] rfl rfl rfl rfl (by decide) rfl 0 5 rfl rfl rfl rfl (Nat.le_of_ble_eq_true rfl) (by decide) (fun _ => rfl) (fun _ hy_ => ?_)
    clear hy_
    refine r_astore (lo2 := [(5, .ref (sa 2)), (0, .ref h0), (1, .int (iI w)), (4, .int (iI 2)), (2, .long (lI mk))]) C dX5_lyingBelow_20 (by decide) rfl ?_
    refine r_aload C dX5_lyingBelow_22 0 rfl ?_
    refine r_ifnull C dX5_lyingBelow_24 ?_
    refine r_aload C dX5_lyingBelow_27 0 rfl ?_
    refine gf_3_4 C hi_X5_lyingBelow_3 kw_X5_lyingBelow_1 dX5_lyingBelow_29 4 rfl rfl ?_
    refine r_iload_n C dX5_lyingBelow_32 2 rfl ?_
    refine r_icmp_ge (tgt := 45) C dX5_lyingBelow_33 (by decide) (by omega) (by omega) (fun h_13 => ?_) (fun h_13 => ?_)
    · skip
      refine r_iinc (lo2 := [(4, .int (iI 3)), (5, .ref (sa 2)), (0, .ref h0), (1, .int (iI w)), (2, .long (lI mk))]) C dX5_lyingBelow_45 3 rfl (by decide) rfl ?_
      refine r_goto (tgt := 5) C dX5_lyingBelow_48 (by decide) ?_
      refine r_lo [2, 3, 0, 4] (lo2 := [(0, .ref h0), (1, .int (iI w)), (4, .int (iI 3)), (2, .long (lI mk))]) rfl ?_
      exact J5_3 mk (by rw [im]; first | exact (lbL_t 2 (by omega)).symm | exact (lbL_f 2 (by omega)).symm)
    · skip
      refine r_lload_n C dX5_lyingBelow_36 4 rfl ?_
      refine r_aload C dX5_lyingBelow_37 0 rfl ?_
      refine gf_3_3 C hi_X5_lyingBelow_3 kw_X5_lyingBelow_2 dX5_lyingBelow_39 4 rfl rfl ?_
      refine r_i2l C dX5_lyingBelow_42 (by omega) ?_
      refine r_ladd C dX5_lyingBelow_43 ?_
      refine r_lstore_n (lo2 := [(2, .long (lI (mk + (Ly 2)))), (5, .ref (sa 2)), (0, .ref h0), (1, .int (iI w)), (4, .int (iI 2))]) C dX5_lyingBelow_44 rfl (by decide) rfl ?_
      refine r_iinc (lo2 := [(4, .int (iI 3)), (2, .long (lI (mk + (Ly 2)))), (5, .ref (sa 2)), (0, .ref h0), (1, .int (iI w))]) C dX5_lyingBelow_45 4 rfl (by decide) rfl ?_
      refine r_goto (tgt := 5) C dX5_lyingBelow_48 (by decide) ?_
      refine r_lo [3, 4, 0, 1] (lo2 := [(0, .ref h0), (1, .int (iI w)), (4, .int (iI 3)), (2, .long (lI (mk + (Ly 2))))]) rfl ?_
      exact J5_3 (mk + (Ly 2)) (by rw [im]; first | exact (lbL_t 2 (by omega)).symm | exact (lbL_f 2 (by omega)).symm)
  have J5_1 : ∀ (mk : Int), (mk = lbL Ly Wo w 1) → gW p l e (gr 1 0 0) s m args below meth c X A 6 (MQ below ((gQl X (Y := Unit) (fun _ => (0 ≤ lbL Ly Wo w 8 ∧ lbL Ly Wo w 8 ≤ 72)) (fun _ => (lbL Ly Wo w 8)) (fun _ => [(h0, .inr (5, [.ref s1, .int (iI 8), .ref w0, .ref t0, .ref k0, .ref r0, .int (iI gf), .int (iI gs), .ref rp, .int (iI rc), .ref sh1, .int (iI tc), .int (iI ft)])), (s1, .inl (X.2.1.2.1, 8, .inr (.inr (.inr (.inr sf))))), ((sa 0), .inr (3, [.int (iI (Wt 0)), .int (iI (Wd 0)), .int (iI (Rg 0)), .int (iI (Ly 0)), .int (iI (Wo 0))])), ((sa 1), .inr (3, [.int (iI (Wt 1)), .int (iI (Wd 1)), .int (iI (Rg 1)), .int (iI (Ly 1)), .int (iI (Wo 1))])), ((sa 2), .inr (3, [.int (iI (Wt 2)), .int (iI (Wd 2)), .int (iI (Rg 2)), .int (iI (Ly 2)), .int (iI (Wo 2))])), ((sa 3), .inr (3, [.int (iI (Wt 3)), .int (iI (Wd 3)), .int (iI (Rg 3)), .int (iI (Ly 3)), .int (iI (Wo 3))])), ((sa 4), .inr (3, [.int (iI (Wt 4)), .int (iI (Wd 4)), .int (iI (Rg 4)), .int (iI (Ly 4)), .int (iI (Wo 4))])), ((sa 5), .inr (3, [.int (iI (Wt 5)), .int (iI (Wd 5)), .int (iI (Rg 5)), .int (iI (Ly 5)), .int (iI (Wo 5))])), ((sa 6), .inr (3, [.int (iI (Wt 6)), .int (iI (Wd 6)), .int (iI (Rg 6)), .int (iI (Ly 6)), .int (iI (Wo 6))])), ((sa 7), .inr (3, [.int (iI (Wt 7)), .int (iI (Wd 7)), .int (iI (Rg 7)), .int (iI (Ly 7)), .int (iI (Wo 7))]))])) A) args s 0 0 A) 0 0 [(h0, .inr (5, [.ref s1, .int (iI 8), .ref w0, .ref t0, .ref k0, .ref r0, .int (iI gf), .int (iI gs), .ref rp, .int (iI rc), .ref sh1, .int (iI tc), .int (iI ft)])), (s1, .inl (X.2.1.2.1, 8, .inr (.inr (.inr (.inr sf))))), ((sa 0), .inr (3, [.int (iI (Wt 0)), .int (iI (Wd 0)), .int (iI (Rg 0)), .int (iI (Ly 0)), .int (iI (Wo 0))])), ((sa 1), .inr (3, [.int (iI (Wt 1)), .int (iI (Wd 1)), .int (iI (Rg 1)), .int (iI (Ly 1)), .int (iI (Wo 1))])), ((sa 2), .inr (3, [.int (iI (Wt 2)), .int (iI (Wd 2)), .int (iI (Rg 2)), .int (iI (Ly 2)), .int (iI (Wo 2))])), ((sa 3), .inr (3, [.int (iI (Wt 3)), .int (iI (Wd 3)), .int (iI (Rg 3)), .int (iI (Ly 3)), .int (iI (Wo 3))])), ((sa 4), .inr (3, [.int (iI (Wt 4)), .int (iI (Wd 4)), .int (iI (Rg 4)), .int (iI (Ly 4)), .int (iI (Wo 4))])), ((sa 5), .inr (3, [.int (iI (Wt 5)), .int (iI (Wd 5)), .int (iI (Rg 5)), .int (iI (Ly 5)), .int (iI (Wo 5))])), ((sa 6), .inr (3, [.int (iI (Wt 6)), .int (iI (Wd 6)), .int (iI (Rg 6)), .int (iI (Ly 6)), .int (iI (Wo 6))])), ((sa 7), .inr (3, [.int (iI (Wt 7)), .int (iI (Wd 7)), .int (iI (Rg 7)), .int (iI (Ly 7)), .int (iI (Wo 7))]))] 5 [(0, .ref h0), (1, .int (iI w)), (4, .int (iI 1)), (2, .long (lI mk))] [] := by
    intro mk im
    refine r_iload C dX5_lyingBelow_5 2 rfl ?_
    refine r_aload_n C dX5_lyingBelow_7 0 rfl ?_
    refine gf_5_1 C hi_X5_lyingBelow_5 kw_X5_lyingBelow_0 dX5_lyingBelow_8 0 rfl rfl ?_
    refine r_icmp_ge (tgt := 51) C dX5_lyingBelow_11 (by decide) (by decide) (by decide) (fun h_14 => absurd h_14 (by decide)) (fun h_14 => ?_)
    refine r_aload_n C dX5_lyingBelow_14 0 rfl ?_
    refine r_iload C dX5_lyingBelow_15 2 rfl ?_
    refine g_V_q (ws2 := (fun _ => [(h0, .inr (5, [.ref s1, .int (iI 8), .ref w0, .ref t0, .ref k0, .ref r0, .int (iI gf), .int (iI gs), .ref rp, .int (iI rc), .ref sh1, .int (iI tc), .int (iI ft)])), (s1, .inl (X.2.1.2.1, 8, .inr (.inr (.inr (.inr sf))))), ((sa 0), .inr (3, [.int (iI (Wt 0)), .int (iI (Wd 0)), .int (iI (Rg 0)), .int (iI (Ly 0)), .int (iI (Wo 0))])), ((sa 1), .inr (3, [.int (iI (Wt 1)), .int (iI (Wd 1)), .int (iI (Rg 1)), .int (iI (Ly 1)), .int (iI (Wo 1))])), ((sa 2), .inr (3, [.int (iI (Wt 2)), .int (iI (Wd 2)), .int (iI (Rg 2)), .int (iI (Ly 2)), .int (iI (Wo 2))])), ((sa 3), .inr (3, [.int (iI (Wt 3)), .int (iI (Wd 3)), .int (iI (Rg 3)), .int (iI (Ly 3)), .int (iI (Wo 3))])), ((sa 4), .inr (3, [.int (iI (Wt 4)), .int (iI (Wd 4)), .int (iI (Rg 4)), .int (iI (Ly 4)), .int (iI (Wo 4))])), ((sa 5), .inr (3, [.int (iI (Wt 5)), .int (iI (Wd 5)), .int (iI (Rg 5)), .int (iI (Ly 5)), .int (iI (Wo 5))])), ((sa 6), .inr (3, [.int (iI (Wt 6)), .int (iI (Wd 6)), .int (iI (Rg 6)), .int (iI (Ly 6)), .int (iI (Wo 6))])), ((sa 7), .inr (3, [.int (iI (Wt 7)), .int (iI (Wd 7)), .int (iI (Rg 7)), .int (iI (Ly 7)), .int (iI (Wo 7))]))])) (As := [.int (iI 1)]) C (c_X5_stoneAt_in l X h0 s1 w0 t0 k0 r0 rp sh1 8 gf gs rc tc ft sf (sa 1) 1 (by decide) (hsf 1 (by decide))) gX5_lyingBelow_X5_stoneAt rfl rfl rfl hd_V_X5_stoneAt_X5_lyingBelow (by decide) dX5_lyingBelow_17 [0, 1] [2, 3, 4, 5, 6, 7, 8, 9] [8, 9, 0, 1, 2, 3, 4, 5, 6, 7] rfl rfl rfl rfl (by decide) rfl 0 5 rfl rfl rfl rfl (Nat.le_of_ble_eq_true rfl) (by decide) (fun _ => rfl) (fun _ hy_ => ?_)
    clear hy_
    refine r_astore (lo2 := [(5, .ref (sa 1)), (0, .ref h0), (1, .int (iI w)), (4, .int (iI 1)), (2, .long (lI mk))]) C dX5_lyingBelow_20 (by decide) rfl ?_
    refine r_aload C dX5_lyingBelow_22 0 rfl ?_
    refine r_ifnull C dX5_lyingBelow_24 ?_
    refine r_aload C dX5_lyingBelow_27 0 rfl ?_
    refine gf_3_4 C hi_X5_lyingBelow_3 kw_X5_lyingBelow_1 dX5_lyingBelow_29 3 rfl rfl ?_
    refine r_iload_n C dX5_lyingBelow_32 2 rfl ?_
    refine r_icmp_ge (tgt := 45) C dX5_lyingBelow_33 (by decide) (by omega) (by omega) (fun h_15 => ?_) (fun h_15 => ?_)
    · skip
      refine r_iinc (lo2 := [(4, .int (iI 2)), (5, .ref (sa 1)), (0, .ref h0), (1, .int (iI w)), (2, .long (lI mk))]) C dX5_lyingBelow_45 3 rfl (by decide) rfl ?_
      refine r_goto (tgt := 5) C dX5_lyingBelow_48 (by decide) ?_
      refine r_lo [2, 3, 0, 4] (lo2 := [(0, .ref h0), (1, .int (iI w)), (4, .int (iI 2)), (2, .long (lI mk))]) rfl ?_
      exact J5_2 mk (by rw [im]; first | exact (lbL_t 1 (by omega)).symm | exact (lbL_f 1 (by omega)).symm)
    · skip
      refine r_lload_n C dX5_lyingBelow_36 4 rfl ?_
      refine r_aload C dX5_lyingBelow_37 0 rfl ?_
      refine gf_3_3 C hi_X5_lyingBelow_3 kw_X5_lyingBelow_2 dX5_lyingBelow_39 3 rfl rfl ?_
      refine r_i2l C dX5_lyingBelow_42 (by omega) ?_
      refine r_ladd C dX5_lyingBelow_43 ?_
      refine r_lstore_n (lo2 := [(2, .long (lI (mk + (Ly 1)))), (5, .ref (sa 1)), (0, .ref h0), (1, .int (iI w)), (4, .int (iI 1))]) C dX5_lyingBelow_44 rfl (by decide) rfl ?_
      refine r_iinc (lo2 := [(4, .int (iI 2)), (2, .long (lI (mk + (Ly 1)))), (5, .ref (sa 1)), (0, .ref h0), (1, .int (iI w))]) C dX5_lyingBelow_45 4 rfl (by decide) rfl ?_
      refine r_goto (tgt := 5) C dX5_lyingBelow_48 (by decide) ?_
      refine r_lo [3, 4, 0, 1] (lo2 := [(0, .ref h0), (1, .int (iI w)), (4, .int (iI 2)), (2, .long (lI (mk + (Ly 1))))]) rfl ?_
      exact J5_2 (mk + (Ly 1)) (by rw [im]; first | exact (lbL_t 1 (by omega)).symm | exact (lbL_f 1 (by omega)).symm)
  have J5_0 : ∀ (mk : Int), (mk = lbL Ly Wo w 0) → gW p l e (gr 1 0 0) s m args below meth c X A 6 (MQ below ((gQl X (Y := Unit) (fun _ => (0 ≤ lbL Ly Wo w 8 ∧ lbL Ly Wo w 8 ≤ 72)) (fun _ => (lbL Ly Wo w 8)) (fun _ => [(h0, .inr (5, [.ref s1, .int (iI 8), .ref w0, .ref t0, .ref k0, .ref r0, .int (iI gf), .int (iI gs), .ref rp, .int (iI rc), .ref sh1, .int (iI tc), .int (iI ft)])), (s1, .inl (X.2.1.2.1, 8, .inr (.inr (.inr (.inr sf))))), ((sa 0), .inr (3, [.int (iI (Wt 0)), .int (iI (Wd 0)), .int (iI (Rg 0)), .int (iI (Ly 0)), .int (iI (Wo 0))])), ((sa 1), .inr (3, [.int (iI (Wt 1)), .int (iI (Wd 1)), .int (iI (Rg 1)), .int (iI (Ly 1)), .int (iI (Wo 1))])), ((sa 2), .inr (3, [.int (iI (Wt 2)), .int (iI (Wd 2)), .int (iI (Rg 2)), .int (iI (Ly 2)), .int (iI (Wo 2))])), ((sa 3), .inr (3, [.int (iI (Wt 3)), .int (iI (Wd 3)), .int (iI (Rg 3)), .int (iI (Ly 3)), .int (iI (Wo 3))])), ((sa 4), .inr (3, [.int (iI (Wt 4)), .int (iI (Wd 4)), .int (iI (Rg 4)), .int (iI (Ly 4)), .int (iI (Wo 4))])), ((sa 5), .inr (3, [.int (iI (Wt 5)), .int (iI (Wd 5)), .int (iI (Rg 5)), .int (iI (Ly 5)), .int (iI (Wo 5))])), ((sa 6), .inr (3, [.int (iI (Wt 6)), .int (iI (Wd 6)), .int (iI (Rg 6)), .int (iI (Ly 6)), .int (iI (Wo 6))])), ((sa 7), .inr (3, [.int (iI (Wt 7)), .int (iI (Wd 7)), .int (iI (Rg 7)), .int (iI (Ly 7)), .int (iI (Wo 7))]))])) A) args s 0 0 A) 0 0 [(h0, .inr (5, [.ref s1, .int (iI 8), .ref w0, .ref t0, .ref k0, .ref r0, .int (iI gf), .int (iI gs), .ref rp, .int (iI rc), .ref sh1, .int (iI tc), .int (iI ft)])), (s1, .inl (X.2.1.2.1, 8, .inr (.inr (.inr (.inr sf))))), ((sa 0), .inr (3, [.int (iI (Wt 0)), .int (iI (Wd 0)), .int (iI (Rg 0)), .int (iI (Ly 0)), .int (iI (Wo 0))])), ((sa 1), .inr (3, [.int (iI (Wt 1)), .int (iI (Wd 1)), .int (iI (Rg 1)), .int (iI (Ly 1)), .int (iI (Wo 1))])), ((sa 2), .inr (3, [.int (iI (Wt 2)), .int (iI (Wd 2)), .int (iI (Rg 2)), .int (iI (Ly 2)), .int (iI (Wo 2))])), ((sa 3), .inr (3, [.int (iI (Wt 3)), .int (iI (Wd 3)), .int (iI (Rg 3)), .int (iI (Ly 3)), .int (iI (Wo 3))])), ((sa 4), .inr (3, [.int (iI (Wt 4)), .int (iI (Wd 4)), .int (iI (Rg 4)), .int (iI (Ly 4)), .int (iI (Wo 4))])), ((sa 5), .inr (3, [.int (iI (Wt 5)), .int (iI (Wd 5)), .int (iI (Rg 5)), .int (iI (Ly 5)), .int (iI (Wo 5))])), ((sa 6), .inr (3, [.int (iI (Wt 6)), .int (iI (Wd 6)), .int (iI (Rg 6)), .int (iI (Ly 6)), .int (iI (Wo 6))])), ((sa 7), .inr (3, [.int (iI (Wt 7)), .int (iI (Wd 7)), .int (iI (Rg 7)), .int (iI (Ly 7)), .int (iI (Wo 7))]))] 5 [(0, .ref h0), (1, .int (iI w)), (4, .int (iI 0)), (2, .long (lI mk))] [] := by
    intro mk im
    refine r_iload C dX5_lyingBelow_5 2 rfl ?_
    refine r_aload_n C dX5_lyingBelow_7 0 rfl ?_
    refine gf_5_1 C hi_X5_lyingBelow_5 kw_X5_lyingBelow_0 dX5_lyingBelow_8 0 rfl rfl ?_
    refine r_icmp_ge (tgt := 51) C dX5_lyingBelow_11 (by decide) (by decide) (by decide) (fun h_16 => absurd h_16 (by decide)) (fun h_16 => ?_)
    refine r_aload_n C dX5_lyingBelow_14 0 rfl ?_
    refine r_iload C dX5_lyingBelow_15 2 rfl ?_
    refine g_V_q (ws2 := (fun _ => [(h0, .inr (5, [.ref s1, .int (iI 8), .ref w0, .ref t0, .ref k0, .ref r0, .int (iI gf), .int (iI gs), .ref rp, .int (iI rc), .ref sh1, .int (iI tc), .int (iI ft)])), (s1, .inl (X.2.1.2.1, 8, .inr (.inr (.inr (.inr sf))))), ((sa 0), .inr (3, [.int (iI (Wt 0)), .int (iI (Wd 0)), .int (iI (Rg 0)), .int (iI (Ly 0)), .int (iI (Wo 0))])), ((sa 1), .inr (3, [.int (iI (Wt 1)), .int (iI (Wd 1)), .int (iI (Rg 1)), .int (iI (Ly 1)), .int (iI (Wo 1))])), ((sa 2), .inr (3, [.int (iI (Wt 2)), .int (iI (Wd 2)), .int (iI (Rg 2)), .int (iI (Ly 2)), .int (iI (Wo 2))])), ((sa 3), .inr (3, [.int (iI (Wt 3)), .int (iI (Wd 3)), .int (iI (Rg 3)), .int (iI (Ly 3)), .int (iI (Wo 3))])), ((sa 4), .inr (3, [.int (iI (Wt 4)), .int (iI (Wd 4)), .int (iI (Rg 4)), .int (iI (Ly 4)), .int (iI (Wo 4))])), ((sa 5), .inr (3, [.int (iI (Wt 5)), .int (iI (Wd 5)), .int (iI (Rg 5)), .int (iI (Ly 5)), .int (iI (Wo 5))])), ((sa 6), .inr (3, [.int (iI (Wt 6)), .int (iI (Wd 6)), .int (iI (Rg 6)), .int (iI (Ly 6)), .int (iI (Wo 6))])), ((sa 7), .inr (3, [.int (iI (Wt 7)), .int (iI (Wd 7)), .int (iI (Rg 7)), .int (iI (Ly 7)), .int (iI (Wo 7))]))])) (As := [.int (iI 0)]) C (c_X5_stoneAt_in l X h0 s1 w0 t0 k0 r0 rp sh1 8 gf gs rc tc ft sf (sa 0) 0 (by decide) (hsf 0 (by decide))) gX5_lyingBelow_X5_stoneAt rfl rfl rfl hd_V_X5_stoneAt_X5_lyingBelow (by decide) dX5_lyingBelow_17 [0, 1] [2, 3, 4, 5, 6, 7, 8, 9] [8, 9, 0, 1, 2, 3, 4, 5, 6, 7] rfl rfl rfl rfl (by decide) rfl 0 5 rfl rfl rfl rfl (Nat.le_of_ble_eq_true rfl) (by decide) (fun _ => rfl) (fun _ hy_ => ?_)
    clear hy_
    refine r_astore (lo2 := [(5, .ref (sa 0)), (0, .ref h0), (1, .int (iI w)), (4, .int (iI 0)), (2, .long (lI mk))]) C dX5_lyingBelow_20 (by decide) rfl ?_
    refine r_aload C dX5_lyingBelow_22 0 rfl ?_
    refine r_ifnull C dX5_lyingBelow_24 ?_
    refine r_aload C dX5_lyingBelow_27 0 rfl ?_
    refine gf_3_4 C hi_X5_lyingBelow_3 kw_X5_lyingBelow_1 dX5_lyingBelow_29 2 rfl rfl ?_
    refine r_iload_n C dX5_lyingBelow_32 2 rfl ?_
    refine r_icmp_ge (tgt := 45) C dX5_lyingBelow_33 (by decide) (by omega) (by omega) (fun h_17 => ?_) (fun h_17 => ?_)
    · skip
      refine r_iinc (lo2 := [(4, .int (iI 1)), (5, .ref (sa 0)), (0, .ref h0), (1, .int (iI w)), (2, .long (lI mk))]) C dX5_lyingBelow_45 3 rfl (by decide) rfl ?_
      refine r_goto (tgt := 5) C dX5_lyingBelow_48 (by decide) ?_
      refine r_lo [2, 3, 0, 4] (lo2 := [(0, .ref h0), (1, .int (iI w)), (4, .int (iI 1)), (2, .long (lI mk))]) rfl ?_
      exact J5_1 mk (by rw [im]; first | exact (lbL_t 0 (by omega)).symm | exact (lbL_f 0 (by omega)).symm)
    · skip
      refine r_lload_n C dX5_lyingBelow_36 4 rfl ?_
      refine r_aload C dX5_lyingBelow_37 0 rfl ?_
      refine gf_3_3 C hi_X5_lyingBelow_3 kw_X5_lyingBelow_2 dX5_lyingBelow_39 2 rfl rfl ?_
      refine r_i2l C dX5_lyingBelow_42 (by omega) ?_
      refine r_ladd C dX5_lyingBelow_43 ?_
      refine r_lstore_n (lo2 := [(2, .long (lI (mk + (Ly 0)))), (5, .ref (sa 0)), (0, .ref h0), (1, .int (iI w)), (4, .int (iI 0))]) C dX5_lyingBelow_44 rfl (by decide) rfl ?_
      refine r_iinc (lo2 := [(4, .int (iI 1)), (2, .long (lI (mk + (Ly 0)))), (5, .ref (sa 0)), (0, .ref h0), (1, .int (iI w))]) C dX5_lyingBelow_45 4 rfl (by decide) rfl ?_
      refine r_goto (tgt := 5) C dX5_lyingBelow_48 (by decide) ?_
      refine r_lo [3, 4, 0, 1] (lo2 := [(0, .ref h0), (1, .int (iI w)), (4, .int (iI 1)), (2, .long (lI (mk + (Ly 0))))]) rfl ?_
      exact J5_1 (mk + (Ly 0)) (by rw [im]; first | exact (lbL_t 0 (by omega)).symm | exact (lbL_f 0 (by omega)).symm)
  refine r_lo [2, 3, 0, 1] (lo2 := [(0, .ref h0), (1, .int (iI w)), (4, .int (iI 0)), (2, .long (lI 0))]) rfl ?_
  exact J5_0 0 rfl

set_option maxHeartbeats 4000000 in
set_option maxRecDepth 100000 in
theorem c_X5_bestWorths_8 (l : Launch) (X : gX) (h0 : Nat) (s1 : Nat) (w0 : Nat) (t0 : Nat) (k0 : Nat) (r0 : Nat) (rp : Nat) (sh1 : Nat) (gf : Int) (gs : Int) (rc : Int) (tc : Int) (ft : Int) (sf : Nat → Option Nat) (sa : Nat → Nat) (Wt : Nat → Int) (Wd : Nat → Int) (Rg : Nat → Int) (Ly : Nat → Int) (Wo : Nat → Int) (k : Int) (hsf : ∀ j : Nat, j < 8 → sf j = some (sa j)) (hLy : ∀ j : Nat, j < 8 → 0 ≤ Ly j ∧ Ly j ≤ 9) (hWo : ∀ j : Nat, j < 8 → 0 ≤ Wo j ∧ Wo j ≤ 99) (hk : 0 ≤ k ∧ k ≤ 6) : gM l yX5_bestWorths wsX5_bestWorths (gr 2 0 0) X [(h0, .inr (5, [.ref s1, .int (iI 8), .ref w0, .ref t0, .ref k0, .ref r0, .int (iI gf), .int (iI gs), .ref rp, .int (iI rc), .ref sh1, .int (iI tc), .int (iI ft)])), (s1, .inl (X.2.1.2.1, 8, .inr (.inr (.inr (.inr sf))))), ((sa 0), .inr (3, [.int (iI (Wt 0)), .int (iI (Wd 0)), .int (iI (Rg 0)), .int (iI (Ly 0)), .int (iI (Wo 0))])), ((sa 1), .inr (3, [.int (iI (Wt 1)), .int (iI (Wd 1)), .int (iI (Rg 1)), .int (iI (Ly 1)), .int (iI (Wo 1))])), ((sa 2), .inr (3, [.int (iI (Wt 2)), .int (iI (Wd 2)), .int (iI (Rg 2)), .int (iI (Ly 2)), .int (iI (Wo 2))])), ((sa 3), .inr (3, [.int (iI (Wt 3)), .int (iI (Wd 3)), .int (iI (Rg 3)), .int (iI (Ly 3)), .int (iI (Wo 3))])), ((sa 4), .inr (3, [.int (iI (Wt 4)), .int (iI (Wd 4)), .int (iI (Rg 4)), .int (iI (Ly 4)), .int (iI (Wo 4))])), ((sa 5), .inr (3, [.int (iI (Wt 5)), .int (iI (Wd 5)), .int (iI (Rg 5)), .int (iI (Ly 5)), .int (iI (Wo 5))])), ((sa 6), .inr (3, [.int (iI (Wt 6)), .int (iI (Wd 6)), .int (iI (Rg 6)), .int (iI (Ly 6)), .int (iI (Wo 6))])), ((sa 7), .inr (3, [.int (iI (Wt 7)), .int (iI (Wd 7)), .int (iI (Rg 7)), .int (iI (Ly 7)), .int (iI (Wo 7))]))] [.ref h0, .int (iI k)] (gQl X (Y := Unit) (fun _ => True) (fun _ => (bwV Ly Wo 8 k)) (fun _ => [(h0, .inr (5, [.ref s1, .int (iI 8), .ref w0, .ref t0, .ref k0, .ref r0, .int (iI gf), .int (iI gs), .ref rp, .int (iI rc), .ref sh1, .int (iI tc), .int (iI ft)])), (s1, .inl (X.2.1.2.1, 8, .inr (.inr (.inr (.inr sf))))), ((sa 0), .inr (3, [.int (iI (Wt 0)), .int (iI (Wd 0)), .int (iI (Rg 0)), .int (iI (Ly 0)), .int (iI (Wo 0))])), ((sa 1), .inr (3, [.int (iI (Wt 1)), .int (iI (Wd 1)), .int (iI (Rg 1)), .int (iI (Ly 1)), .int (iI (Wo 1))])), ((sa 2), .inr (3, [.int (iI (Wt 2)), .int (iI (Wd 2)), .int (iI (Rg 2)), .int (iI (Ly 2)), .int (iI (Wo 2))])), ((sa 3), .inr (3, [.int (iI (Wt 3)), .int (iI (Wd 3)), .int (iI (Rg 3)), .int (iI (Ly 3)), .int (iI (Wo 3))])), ((sa 4), .inr (3, [.int (iI (Wt 4)), .int (iI (Wd 4)), .int (iI (Rg 4)), .int (iI (Ly 4)), .int (iI (Wo 4))])), ((sa 5), .inr (3, [.int (iI (Wt 5)), .int (iI (Wd 5)), .int (iI (Rg 5)), .int (iI (Ly 5)), .int (iI (Wo 5))])), ((sa 6), .inr (3, [.int (iI (Wt 6)), .int (iI (Wd 6)), .int (iI (Rg 6)), .int (iI (Ly 6)), .int (iI (Wo 6))])), ((sa 7), .inr (3, [.int (iI (Wt 7)), .int (iI (Wd 7)), .int (iI (Rg 7)), .int (iI (Ly 7)), .int (iI (Wo 7))]))])) 0 0 := by
  refine g_start2 (lo := [(0, .ref h0), (1, .int (iI k))]) (by decide +kernel) rfl rfl (Nat.le_of_ble_eq_true rfl) (fun p e s m args below meth c A C => ?_)
  refine r_aload_n C dX5_bestWorths_0 0 rfl ?_
  refine r_bipush C dX5_bestWorths_1 (by decide) ?_
  refine g_V_l (ws2 := (fun _ => [(h0, .inr (5, [.ref s1, .int (iI 8), .ref w0, .ref t0, .ref k0, .ref r0, .int (iI gf), .int (iI gs), .ref rp, .int (iI rc), .ref sh1, .int (iI tc), .int (iI ft)])), (s1, .inl (X.2.1.2.1, 8, .inr (.inr (.inr (.inr sf))))), ((sa 0), .inr (3, [.int (iI (Wt 0)), .int (iI (Wd 0)), .int (iI (Rg 0)), .int (iI (Ly 0)), .int (iI (Wo 0))])), ((sa 1), .inr (3, [.int (iI (Wt 1)), .int (iI (Wd 1)), .int (iI (Rg 1)), .int (iI (Ly 1)), .int (iI (Wo 1))])), ((sa 2), .inr (3, [.int (iI (Wt 2)), .int (iI (Wd 2)), .int (iI (Rg 2)), .int (iI (Ly 2)), .int (iI (Wo 2))])), ((sa 3), .inr (3, [.int (iI (Wt 3)), .int (iI (Wd 3)), .int (iI (Rg 3)), .int (iI (Ly 3)), .int (iI (Wo 3))])), ((sa 4), .inr (3, [.int (iI (Wt 4)), .int (iI (Wd 4)), .int (iI (Rg 4)), .int (iI (Ly 4)), .int (iI (Wo 4))])), ((sa 5), .inr (3, [.int (iI (Wt 5)), .int (iI (Wd 5)), .int (iI (Rg 5)), .int (iI (Ly 5)), .int (iI (Wo 5))])), ((sa 6), .inr (3, [.int (iI (Wt 6)), .int (iI (Wd 6)), .int (iI (Rg 6)), .int (iI (Ly 6)), .int (iI (Wo 6))])), ((sa 7), .inr (3, [.int (iI (Wt 7)), .int (iI (Wd 7)), .int (iI (Rg 7)), .int (iI (Ly 7)), .int (iI (Wo 7))]))])) (As := [.int (iI 100)]) C (c_X5_lyingBelow_8 l X h0 s1 w0 t0 k0 r0 rp sh1 gf gs rc tc ft sf sa Wt Wd Rg Ly Wo 100 hsf hLy hWo (by first | assumption | omega)) gX5_bestWorths_X5_lyingBelow rfl rfl rfl hd_V_X5_lyingBelow_X5_bestWorths (by decide) dX5_bestWorths_3 [0, 1, 2, 3, 4, 5, 6, 7, 8, 9] [] [0, 1, 2, 3, 4, 5, 6, 7, 8, 9] rfl rfl rfl rfl (by decide) rfl 0 5 rfl rfl rfl rfl (Nat.le_of_ble_eq_true rfl) (by decide) (fun _ => rfl) (fun _ hy_ => ?_)
  have y_1 : 0 ≤ lbL Ly Wo 100 8 ∧ lbL Ly Wo 100 8 ≤ 72 := hy_
  clear hy_
  refine r_iload_n C dX5_bestWorths_6 1 rfl ?_
  refine g_S_l (ws2 := (fun _ => [(h0, .inr (5, [.ref s1, .int (iI 8), .ref w0, .ref t0, .ref k0, .ref r0, .int (iI gf), .int (iI gs), .ref rp, .int (iI rc), .ref sh1, .int (iI tc), .int (iI ft)])), (s1, .inl (X.2.1.2.1, 8, .inr (.inr (.inr (.inr sf))))), ((sa 0), .inr (3, [.int (iI (Wt 0)), .int (iI (Wd 0)), .int (iI (Rg 0)), .int (iI (Ly 0)), .int (iI (Wo 0))])), ((sa 1), .inr (3, [.int (iI (Wt 1)), .int (iI (Wd 1)), .int (iI (Rg 1)), .int (iI (Ly 1)), .int (iI (Wo 1))])), ((sa 2), .inr (3, [.int (iI (Wt 2)), .int (iI (Wd 2)), .int (iI (Rg 2)), .int (iI (Ly 2)), .int (iI (Wo 2))])), ((sa 3), .inr (3, [.int (iI (Wt 3)), .int (iI (Wd 3)), .int (iI (Rg 3)), .int (iI (Ly 3)), .int (iI (Wo 3))])), ((sa 4), .inr (3, [.int (iI (Wt 4)), .int (iI (Wd 4)), .int (iI (Rg 4)), .int (iI (Ly 4)), .int (iI (Wo 4))])), ((sa 5), .inr (3, [.int (iI (Wt 5)), .int (iI (Wd 5)), .int (iI (Rg 5)), .int (iI (Ly 5)), .int (iI (Wo 5))])), ((sa 6), .inr (3, [.int (iI (Wt 6)), .int (iI (Wd 6)), .int (iI (Rg 6)), .int (iI (Ly 6)), .int (iI (Wo 6))])), ((sa 7), .inr (3, [.int (iI (Wt 7)), .int (iI (Wd 7)), .int (iI (Rg 7)), .int (iI (Ly 7)), .int (iI (Wo 7))]))])) (As := [.long (lI (lbL Ly Wo 100 8)), .int (iI k)]) C (c_X5_power l X (lbL Ly Wo 100 8) k (by first | assumption | omega)) gX5_bestWorths_X5_power rfl rfl rfl hd_S_X5_power_X5_bestWorths (by decide) dX5_bestWorths_7 [] [0, 1, 2, 3, 4, 5, 6, 7, 8, 9] [0, 1, 2, 3, 4, 5, 6, 7, 8, 9] rfl rfl rfl rfl (by decide) rfl rfl rfl (Nat.le_of_ble_eq_true rfl) (by decide) (fun _ => rfl) (fun _ hy_ => ?_)
  clear hy_
  refine r_lstore_n (lo2 := [(2, .long (lI (pwI (lbL Ly Wo 100 8) k))), (0, .ref h0), (1, .int (iI k))]) C dX5_bestWorths_10 rfl (by decide) rfl ?_
  refine r_lconst (z := 0) C dX5_bestWorths_11 rfl ?_
  refine r_lstore (lo2 := [(4, .long (lI 0)), (2, .long (lI (pwI (lbL Ly Wo 100 8) k))), (0, .ref h0), (1, .int (iI k))]) C dX5_bestWorths_12 (by decide) rfl ?_
  refine r_iconst C dX5_bestWorths_14 ?_
  refine r_istore (lo2 := [(6, .int (iI 1)), (4, .long (lI 0)), (2, .long (lI (pwI (lbL Ly Wo 100 8) k))), (0, .ref h0), (1, .int (iI k))]) C dX5_bestWorths_15 (by decide) rfl ?_
  have L17 : ∀ (fu17 : Nat) (a1 : Int) (wk : Int), (1 ≤ wk ∧ wk ≤ 100) → (bwV Ly Wo 8 k = bwL (fun w => pwI (lbL Ly Wo w 8) k) (pwI (lbL Ly Wo 100 8) k) (100 - wk).toNat wk a1) → (100 - wk).toNat < fu17 → gW p l e (gr 2 0 0) s m args below meth c X A 7 (MQ below ((gQl X (Y := Unit) (fun _ => True) (fun _ => (bwV Ly Wo 8 k)) (fun _ => [(h0, .inr (5, [.ref s1, .int (iI 8), .ref w0, .ref t0, .ref k0, .ref r0, .int (iI gf), .int (iI gs), .ref rp, .int (iI rc), .ref sh1, .int (iI tc), .int (iI ft)])), (s1, .inl (X.2.1.2.1, 8, .inr (.inr (.inr (.inr sf))))), ((sa 0), .inr (3, [.int (iI (Wt 0)), .int (iI (Wd 0)), .int (iI (Rg 0)), .int (iI (Ly 0)), .int (iI (Wo 0))])), ((sa 1), .inr (3, [.int (iI (Wt 1)), .int (iI (Wd 1)), .int (iI (Rg 1)), .int (iI (Ly 1)), .int (iI (Wo 1))])), ((sa 2), .inr (3, [.int (iI (Wt 2)), .int (iI (Wd 2)), .int (iI (Rg 2)), .int (iI (Ly 2)), .int (iI (Wo 2))])), ((sa 3), .inr (3, [.int (iI (Wt 3)), .int (iI (Wd 3)), .int (iI (Rg 3)), .int (iI (Ly 3)), .int (iI (Wo 3))])), ((sa 4), .inr (3, [.int (iI (Wt 4)), .int (iI (Wd 4)), .int (iI (Rg 4)), .int (iI (Ly 4)), .int (iI (Wo 4))])), ((sa 5), .inr (3, [.int (iI (Wt 5)), .int (iI (Wd 5)), .int (iI (Rg 5)), .int (iI (Ly 5)), .int (iI (Wo 5))])), ((sa 6), .inr (3, [.int (iI (Wt 6)), .int (iI (Wd 6)), .int (iI (Rg 6)), .int (iI (Ly 6)), .int (iI (Wo 6))])), ((sa 7), .inr (3, [.int (iI (Wt 7)), .int (iI (Wd 7)), .int (iI (Rg 7)), .int (iI (Ly 7)), .int (iI (Wo 7))]))])) A) args s 0 0 A) 0 0 [(h0, .inr (5, [.ref s1, .int (iI 8), .ref w0, .ref t0, .ref k0, .ref r0, .int (iI gf), .int (iI gs), .ref rp, .int (iI rc), .ref sh1, .int (iI tc), .int (iI ft)])), (s1, .inl (X.2.1.2.1, 8, .inr (.inr (.inr (.inr sf))))), ((sa 0), .inr (3, [.int (iI (Wt 0)), .int (iI (Wd 0)), .int (iI (Rg 0)), .int (iI (Ly 0)), .int (iI (Wo 0))])), ((sa 1), .inr (3, [.int (iI (Wt 1)), .int (iI (Wd 1)), .int (iI (Rg 1)), .int (iI (Ly 1)), .int (iI (Wo 1))])), ((sa 2), .inr (3, [.int (iI (Wt 2)), .int (iI (Wd 2)), .int (iI (Rg 2)), .int (iI (Ly 2)), .int (iI (Wo 2))])), ((sa 3), .inr (3, [.int (iI (Wt 3)), .int (iI (Wd 3)), .int (iI (Rg 3)), .int (iI (Ly 3)), .int (iI (Wo 3))])), ((sa 4), .inr (3, [.int (iI (Wt 4)), .int (iI (Wd 4)), .int (iI (Rg 4)), .int (iI (Ly 4)), .int (iI (Wo 4))])), ((sa 5), .inr (3, [.int (iI (Wt 5)), .int (iI (Wd 5)), .int (iI (Rg 5)), .int (iI (Ly 5)), .int (iI (Wo 5))])), ((sa 6), .inr (3, [.int (iI (Wt 6)), .int (iI (Wd 6)), .int (iI (Rg 6)), .int (iI (Ly 6)), .int (iI (Wo 6))])), ((sa 7), .inr (3, [.int (iI (Wt 7)), .int (iI (Wd 7)), .int (iI (Rg 7)), .int (iI (Ly 7)), .int (iI (Wo 7))]))] 17 [(2, .long (lI (pwI (lbL Ly Wo 100 8) k))), (0, .ref h0), (1, .int (iI k)), (4, .long (lI a1)), (6, .int (iI wk))] [] := by
    intro fu17
    induction fu17 with
    | zero => intro a1 wk iw iB hm17; exact absurd hm17 (Nat.not_lt_zero _)
    | succ fu17 ih17 =>
      intro a1 wk iw iB hm17
      refine r_iload C dX5_bestWorths_17 4 rfl ?_
      refine r_bipush C dX5_bestWorths_19 (by decide) ?_
      refine r_icmp_gt (tgt := 47) C dX5_bestWorths_21 (by decide) (by omega) (by decide) (fun h_3 => ?_) (fun h_3 => ?_)
      · skip
        refine r_lload C dX5_bestWorths_47 3 rfl ?_
        exact g_ret_l C rfl dX5_bestWorths_49 () trivial (by rw [iB, show (100 - wk).toNat = 0 by omega]; rfl) [0, 1, 2, 3, 4, 5, 6, 7, 8, 9] rfl (by (repeat' split) <;> first | rfl | omega)
      · skip
        refine r_lload C dX5_bestWorths_24 3 rfl ?_
        refine r_lload_n C dX5_bestWorths_26 0 rfl ?_
        refine r_aload_n C dX5_bestWorths_27 1 rfl ?_
        refine r_iload C dX5_bestWorths_28 4 rfl ?_
        refine g_V_l (ws2 := (fun _ => [(h0, .inr (5, [.ref s1, .int (iI 8), .ref w0, .ref t0, .ref k0, .ref r0, .int (iI gf), .int (iI gs), .ref rp, .int (iI rc), .ref sh1, .int (iI tc), .int (iI ft)])), (s1, .inl (X.2.1.2.1, 8, .inr (.inr (.inr (.inr sf))))), ((sa 0), .inr (3, [.int (iI (Wt 0)), .int (iI (Wd 0)), .int (iI (Rg 0)), .int (iI (Ly 0)), .int (iI (Wo 0))])), ((sa 1), .inr (3, [.int (iI (Wt 1)), .int (iI (Wd 1)), .int (iI (Rg 1)), .int (iI (Ly 1)), .int (iI (Wo 1))])), ((sa 2), .inr (3, [.int (iI (Wt 2)), .int (iI (Wd 2)), .int (iI (Rg 2)), .int (iI (Ly 2)), .int (iI (Wo 2))])), ((sa 3), .inr (3, [.int (iI (Wt 3)), .int (iI (Wd 3)), .int (iI (Rg 3)), .int (iI (Ly 3)), .int (iI (Wo 3))])), ((sa 4), .inr (3, [.int (iI (Wt 4)), .int (iI (Wd 4)), .int (iI (Rg 4)), .int (iI (Ly 4)), .int (iI (Wo 4))])), ((sa 5), .inr (3, [.int (iI (Wt 5)), .int (iI (Wd 5)), .int (iI (Rg 5)), .int (iI (Ly 5)), .int (iI (Wo 5))])), ((sa 6), .inr (3, [.int (iI (Wt 6)), .int (iI (Wd 6)), .int (iI (Rg 6)), .int (iI (Ly 6)), .int (iI (Wo 6))])), ((sa 7), .inr (3, [.int (iI (Wt 7)), .int (iI (Wd 7)), .int (iI (Rg 7)), .int (iI (Ly 7)), .int (iI (Wo 7))]))])) (As := [.int (iI wk)]) C (c_X5_lyingBelow_8 l X h0 s1 w0 t0 k0 r0 rp sh1 gf gs rc tc ft sf sa Wt Wd Rg Ly Wo wk hsf hLy hWo (by first | assumption | omega)) gX5_bestWorths_X5_lyingBelow rfl rfl rfl hd_V_X5_lyingBelow_X5_bestWorths (by decide) dX5_bestWorths_30 [0, 1, 2, 3, 4, 5, 6, 7, 8, 9] [] [0, 1, 2, 3, 4, 5, 6, 7, 8, 9] rfl rfl rfl rfl (by decide) rfl 0 5 rfl rfl rfl rfl (Nat.le_of_ble_eq_true rfl) (by decide) (fun _ => rfl) (fun _ hy_ => ?_)
        have y_4 : 0 ≤ lbL Ly Wo wk 8 ∧ lbL Ly Wo wk 8 ≤ 72 := hy_
        clear hy_
        refine r_iload_n C dX5_bestWorths_33 2 rfl ?_
        refine g_S_l (ws2 := (fun _ => [(h0, .inr (5, [.ref s1, .int (iI 8), .ref w0, .ref t0, .ref k0, .ref r0, .int (iI gf), .int (iI gs), .ref rp, .int (iI rc), .ref sh1, .int (iI tc), .int (iI ft)])), (s1, .inl (X.2.1.2.1, 8, .inr (.inr (.inr (.inr sf))))), ((sa 0), .inr (3, [.int (iI (Wt 0)), .int (iI (Wd 0)), .int (iI (Rg 0)), .int (iI (Ly 0)), .int (iI (Wo 0))])), ((sa 1), .inr (3, [.int (iI (Wt 1)), .int (iI (Wd 1)), .int (iI (Rg 1)), .int (iI (Ly 1)), .int (iI (Wo 1))])), ((sa 2), .inr (3, [.int (iI (Wt 2)), .int (iI (Wd 2)), .int (iI (Rg 2)), .int (iI (Ly 2)), .int (iI (Wo 2))])), ((sa 3), .inr (3, [.int (iI (Wt 3)), .int (iI (Wd 3)), .int (iI (Rg 3)), .int (iI (Ly 3)), .int (iI (Wo 3))])), ((sa 4), .inr (3, [.int (iI (Wt 4)), .int (iI (Wd 4)), .int (iI (Rg 4)), .int (iI (Ly 4)), .int (iI (Wo 4))])), ((sa 5), .inr (3, [.int (iI (Wt 5)), .int (iI (Wd 5)), .int (iI (Rg 5)), .int (iI (Ly 5)), .int (iI (Wo 5))])), ((sa 6), .inr (3, [.int (iI (Wt 6)), .int (iI (Wd 6)), .int (iI (Rg 6)), .int (iI (Ly 6)), .int (iI (Wo 6))])), ((sa 7), .inr (3, [.int (iI (Wt 7)), .int (iI (Wd 7)), .int (iI (Rg 7)), .int (iI (Ly 7)), .int (iI (Wo 7))]))])) (As := [.long (lI (lbL Ly Wo wk 8)), .int (iI k)]) C (c_X5_power l X (lbL Ly Wo wk 8) k (by first | assumption | omega)) gX5_bestWorths_X5_power rfl rfl rfl hd_S_X5_power_X5_bestWorths (by decide) dX5_bestWorths_34 [] [0, 1, 2, 3, 4, 5, 6, 7, 8, 9] [0, 1, 2, 3, 4, 5, 6, 7, 8, 9] rfl rfl rfl rfl (by decide) rfl rfl rfl (Nat.le_of_ble_eq_true rfl) (by decide) (fun _ => rfl) (fun _ hy_ => ?_)
        clear hy_
        refine r_lsub C dX5_bestWorths_37 ?_
        refine r_ladd C dX5_bestWorths_38 ?_
        refine r_lstore (lo2 := [(4, .long (lI (a1 + ((pwI (lbL Ly Wo 100 8) k) - (pwI (lbL Ly Wo wk 8) k))))), (2, .long (lI (pwI (lbL Ly Wo 100 8) k))), (0, .ref h0), (1, .int (iI k)), (6, .int (iI wk))]) C dX5_bestWorths_39 (by decide) rfl ?_
        refine r_iinc (lo2 := [(6, .int (iI (wk + 1))), (4, .long (lI (a1 + ((pwI (lbL Ly Wo 100 8) k) - (pwI (lbL Ly Wo wk 8) k))))), (2, .long (lI (pwI (lbL Ly Wo 100 8) k))), (0, .ref h0), (1, .int (iI k))]) C dX5_bestWorths_41 4 rfl (by decide) rfl ?_
        refine r_goto (tgt := 17) C dX5_bestWorths_44 (by decide) ?_
        refine r_lo [2, 3, 4, 1, 0] (lo2 := [(2, .long (lI (pwI (lbL Ly Wo 100 8) k))), (0, .ref h0), (1, .int (iI k)), (4, .long (lI (a1 + ((pwI (lbL Ly Wo 100 8) k) - (pwI (lbL Ly Wo wk 8) k))))), (6, .int (iI (wk + 1)))]) rfl ?_
        exact ih17 (a1 + ((pwI (lbL Ly Wo 100 8) k) - (pwI (lbL Ly Wo wk 8) k))) (wk + 1) (by omega) (by rw [iB, bwL_go (by omega)]) (by omega)
  refine r_lo [2, 3, 4, 1, 0] (lo2 := [(2, .long (lI (pwI (lbL Ly Wo 100 8) k))), (0, .ref h0), (1, .int (iI k)), (4, .long (lI 0)), (6, .int (iI 1))]) rfl ?_
  exact L17 ((100 - (1 : Int)).toNat + 1) 0 1 (by omega) rfl (Nat.lt_succ_self _)

set_option maxHeartbeats 4000000 in
set_option maxRecDepth 100000 in
theorem c_X5_mean_8 (l : Launch) (X : gX) (h0 : Nat) (s1 : Nat) (w0 : Nat) (t0 : Nat) (k0 : Nat) (r0 : Nat) (rp : Nat) (sh1 : Nat) (gf : Int) (gs : Int) (rc : Int) (tc : Int) (ft : Int) (sf : Nat → Option Nat) (sa : Nat → Nat) (Wt : Nat → Int) (Wd : Nat → Int) (Rg : Nat → Int) (Ly : Nat → Int) (Wo : Nat → Int) (k : Int) (w : Int) (hsf : ∀ j : Nat, j < 8 → sf j = some (sa j)) (hLy : ∀ j : Nat, j < 8 → 0 ≤ Ly j ∧ Ly j ≤ 9) (hWo : ∀ j : Nat, j < 8 → 0 ≤ Wo j ∧ Wo j ≤ 99) (hb_k : inB k) (hb_w : inB w) : gM l yX5_mean wsX5_mean (gr 3 0 0) X [(h0, .inr (5, [.ref s1, .int (iI 8), .ref w0, .ref t0, .ref k0, .ref r0, .int (iI gf), .int (iI gs), .ref rp, .int (iI rc), .ref sh1, .int (iI tc), .int (iI ft)])), (s1, .inl (X.2.1.2.1, 8, .inr (.inr (.inr (.inr sf))))), ((sa 0), .inr (3, [.int (iI (Wt 0)), .int (iI (Wd 0)), .int (iI (Rg 0)), .int (iI (Ly 0)), .int (iI (Wo 0))])), ((sa 1), .inr (3, [.int (iI (Wt 1)), .int (iI (Wd 1)), .int (iI (Rg 1)), .int (iI (Ly 1)), .int (iI (Wo 1))])), ((sa 2), .inr (3, [.int (iI (Wt 2)), .int (iI (Wd 2)), .int (iI (Rg 2)), .int (iI (Ly 2)), .int (iI (Wo 2))])), ((sa 3), .inr (3, [.int (iI (Wt 3)), .int (iI (Wd 3)), .int (iI (Rg 3)), .int (iI (Ly 3)), .int (iI (Wo 3))])), ((sa 4), .inr (3, [.int (iI (Wt 4)), .int (iI (Wd 4)), .int (iI (Rg 4)), .int (iI (Ly 4)), .int (iI (Wo 4))])), ((sa 5), .inr (3, [.int (iI (Wt 5)), .int (iI (Wd 5)), .int (iI (Rg 5)), .int (iI (Ly 5)), .int (iI (Wo 5))])), ((sa 6), .inr (3, [.int (iI (Wt 6)), .int (iI (Wd 6)), .int (iI (Rg 6)), .int (iI (Ly 6)), .int (iI (Wo 6))])), ((sa 7), .inr (3, [.int (iI (Wt 7)), .int (iI (Wd 7)), .int (iI (Rg 7)), .int (iI (Ly 7)), .int (iI (Wo 7))]))] [.ref h0, .int (iI k), .int (iI w)] (gQl X (Y := Unit) (fun _ => True) (fun _ => (if 1 ≤ k ∧ k ≤ 6 ∧ 0 ≤ w ∧ w ≤ 1 ∧ ¬ (lbL Ly Wo 100 8) = 0 then shV (bwV Ly Wo 8 k) (pwI (lbL Ly Wo 100 8) k) w else -9223372036854775808)) (fun _ => [(h0, .inr (5, [.ref s1, .int (iI 8), .ref w0, .ref t0, .ref k0, .ref r0, .int (iI gf), .int (iI gs), .ref rp, .int (iI rc), .ref sh1, .int (iI tc), .int (iI ft)])), (s1, .inl (X.2.1.2.1, 8, .inr (.inr (.inr (.inr sf))))), ((sa 0), .inr (3, [.int (iI (Wt 0)), .int (iI (Wd 0)), .int (iI (Rg 0)), .int (iI (Ly 0)), .int (iI (Wo 0))])), ((sa 1), .inr (3, [.int (iI (Wt 1)), .int (iI (Wd 1)), .int (iI (Rg 1)), .int (iI (Ly 1)), .int (iI (Wo 1))])), ((sa 2), .inr (3, [.int (iI (Wt 2)), .int (iI (Wd 2)), .int (iI (Rg 2)), .int (iI (Ly 2)), .int (iI (Wo 2))])), ((sa 3), .inr (3, [.int (iI (Wt 3)), .int (iI (Wd 3)), .int (iI (Rg 3)), .int (iI (Ly 3)), .int (iI (Wo 3))])), ((sa 4), .inr (3, [.int (iI (Wt 4)), .int (iI (Wd 4)), .int (iI (Rg 4)), .int (iI (Ly 4)), .int (iI (Wo 4))])), ((sa 5), .inr (3, [.int (iI (Wt 5)), .int (iI (Wd 5)), .int (iI (Rg 5)), .int (iI (Ly 5)), .int (iI (Wo 5))])), ((sa 6), .inr (3, [.int (iI (Wt 6)), .int (iI (Wd 6)), .int (iI (Rg 6)), .int (iI (Ly 6)), .int (iI (Wo 6))])), ((sa 7), .inr (3, [.int (iI (Wt 7)), .int (iI (Wd 7)), .int (iI (Rg 7)), .int (iI (Ly 7)), .int (iI (Wo 7))]))])) 0 0 := by
  refine g_start2 (lo := [(0, .ref h0), (1, .int (iI k)), (2, .int (iI w))]) (by decide +kernel) rfl rfl (Nat.le_of_ble_eq_true rfl) (fun p e s m args below meth c A C => ?_)
  refine r_iload_n C dX5_mean_0 1 rfl ?_
  refine r_iconst C dX5_mean_1 ?_
  refine r_bipush C dX5_mean_2 (by decide) ?_
  refine g_S_i (ws2 := (fun _ => [(h0, .inr (5, [.ref s1, .int (iI 8), .ref w0, .ref t0, .ref k0, .ref r0, .int (iI gf), .int (iI gs), .ref rp, .int (iI rc), .ref sh1, .int (iI tc), .int (iI ft)])), (s1, .inl (X.2.1.2.1, 8, .inr (.inr (.inr (.inr sf))))), ((sa 0), .inr (3, [.int (iI (Wt 0)), .int (iI (Wd 0)), .int (iI (Rg 0)), .int (iI (Ly 0)), .int (iI (Wo 0))])), ((sa 1), .inr (3, [.int (iI (Wt 1)), .int (iI (Wd 1)), .int (iI (Rg 1)), .int (iI (Ly 1)), .int (iI (Wo 1))])), ((sa 2), .inr (3, [.int (iI (Wt 2)), .int (iI (Wd 2)), .int (iI (Rg 2)), .int (iI (Ly 2)), .int (iI (Wo 2))])), ((sa 3), .inr (3, [.int (iI (Wt 3)), .int (iI (Wd 3)), .int (iI (Rg 3)), .int (iI (Ly 3)), .int (iI (Wo 3))])), ((sa 4), .inr (3, [.int (iI (Wt 4)), .int (iI (Wd 4)), .int (iI (Rg 4)), .int (iI (Ly 4)), .int (iI (Wo 4))])), ((sa 5), .inr (3, [.int (iI (Wt 5)), .int (iI (Wd 5)), .int (iI (Rg 5)), .int (iI (Ly 5)), .int (iI (Wo 5))])), ((sa 6), .inr (3, [.int (iI (Wt 6)), .int (iI (Wd 6)), .int (iI (Rg 6)), .int (iI (Ly 6)), .int (iI (Wo 6))])), ((sa 7), .inr (3, [.int (iI (Wt 7)), .int (iI (Wd 7)), .int (iI (Rg 7)), .int (iI (Ly 7)), .int (iI (Wo 7))]))])) (As := [.int (iI k), .int (iI 1), .int (iI 6)]) C (c_X5_within l X k 1 6 (by first | assumption | omega) (by first | assumption | omega) (by first | assumption | omega)) gX5_mean_X5_within rfl rfl rfl hd_S_X5_within_X5_mean (by decide) dX5_mean_4 [] [0, 1, 2, 3, 4, 5, 6, 7, 8, 9] [0, 1, 2, 3, 4, 5, 6, 7, 8, 9] rfl rfl rfl rfl (by decide) rfl rfl rfl (Nat.le_of_ble_eq_true rfl) (by decide) (fun _ => rfl) (fun _ hy_ => ?_)
  clear hy_
  refine r_ite (fun h_1 => ?_) (fun h_1 => ?_)
  · skip
    refine r_if_eq (tgt := 19) C dX5_mean_7 (by decide) (by decide) (fun h_2 => absurd h_2 (by decide)) (fun h_2 => ?_)
    refine r_iload_n C dX5_mean_10 2 rfl ?_
    refine r_iconst C dX5_mean_11 ?_
    refine r_iconst C dX5_mean_12 ?_
    refine g_S_i (ws2 := (fun _ => [(h0, .inr (5, [.ref s1, .int (iI 8), .ref w0, .ref t0, .ref k0, .ref r0, .int (iI gf), .int (iI gs), .ref rp, .int (iI rc), .ref sh1, .int (iI tc), .int (iI ft)])), (s1, .inl (X.2.1.2.1, 8, .inr (.inr (.inr (.inr sf))))), ((sa 0), .inr (3, [.int (iI (Wt 0)), .int (iI (Wd 0)), .int (iI (Rg 0)), .int (iI (Ly 0)), .int (iI (Wo 0))])), ((sa 1), .inr (3, [.int (iI (Wt 1)), .int (iI (Wd 1)), .int (iI (Rg 1)), .int (iI (Ly 1)), .int (iI (Wo 1))])), ((sa 2), .inr (3, [.int (iI (Wt 2)), .int (iI (Wd 2)), .int (iI (Rg 2)), .int (iI (Ly 2)), .int (iI (Wo 2))])), ((sa 3), .inr (3, [.int (iI (Wt 3)), .int (iI (Wd 3)), .int (iI (Rg 3)), .int (iI (Ly 3)), .int (iI (Wo 3))])), ((sa 4), .inr (3, [.int (iI (Wt 4)), .int (iI (Wd 4)), .int (iI (Rg 4)), .int (iI (Ly 4)), .int (iI (Wo 4))])), ((sa 5), .inr (3, [.int (iI (Wt 5)), .int (iI (Wd 5)), .int (iI (Rg 5)), .int (iI (Ly 5)), .int (iI (Wo 5))])), ((sa 6), .inr (3, [.int (iI (Wt 6)), .int (iI (Wd 6)), .int (iI (Rg 6)), .int (iI (Ly 6)), .int (iI (Wo 6))])), ((sa 7), .inr (3, [.int (iI (Wt 7)), .int (iI (Wd 7)), .int (iI (Rg 7)), .int (iI (Ly 7)), .int (iI (Wo 7))]))])) (As := [.int (iI w), .int (iI 0), .int (iI 1)]) C (c_X5_within l X w 0 1 (by first | assumption | omega) (by first | assumption | omega) (by first | assumption | omega)) gX5_mean_X5_within rfl rfl rfl hd_S_X5_within_X5_mean (by decide) dX5_mean_13 [] [0, 1, 2, 3, 4, 5, 6, 7, 8, 9] [0, 1, 2, 3, 4, 5, 6, 7, 8, 9] rfl rfl rfl rfl (by decide) rfl rfl rfl (Nat.le_of_ble_eq_true rfl) (by decide) (fun _ => rfl) (fun _ hy_ => ?_)
    clear hy_
    refine r_ite (fun h_3 => ?_) (fun h_3 => ?_)
    · skip
      refine r_if_ne (tgt := 23) C dX5_mean_16 (by decide) (by decide) (fun h_4 => ?_) (fun h_4 => absurd h_4 (by decide))
      refine r_aload_n C dX5_mean_23 0 rfl ?_
      refine r_bipush C dX5_mean_24 (by decide) ?_
      refine g_V_l (ws2 := (fun _ => [(h0, .inr (5, [.ref s1, .int (iI 8), .ref w0, .ref t0, .ref k0, .ref r0, .int (iI gf), .int (iI gs), .ref rp, .int (iI rc), .ref sh1, .int (iI tc), .int (iI ft)])), (s1, .inl (X.2.1.2.1, 8, .inr (.inr (.inr (.inr sf))))), ((sa 0), .inr (3, [.int (iI (Wt 0)), .int (iI (Wd 0)), .int (iI (Rg 0)), .int (iI (Ly 0)), .int (iI (Wo 0))])), ((sa 1), .inr (3, [.int (iI (Wt 1)), .int (iI (Wd 1)), .int (iI (Rg 1)), .int (iI (Ly 1)), .int (iI (Wo 1))])), ((sa 2), .inr (3, [.int (iI (Wt 2)), .int (iI (Wd 2)), .int (iI (Rg 2)), .int (iI (Ly 2)), .int (iI (Wo 2))])), ((sa 3), .inr (3, [.int (iI (Wt 3)), .int (iI (Wd 3)), .int (iI (Rg 3)), .int (iI (Ly 3)), .int (iI (Wo 3))])), ((sa 4), .inr (3, [.int (iI (Wt 4)), .int (iI (Wd 4)), .int (iI (Rg 4)), .int (iI (Ly 4)), .int (iI (Wo 4))])), ((sa 5), .inr (3, [.int (iI (Wt 5)), .int (iI (Wd 5)), .int (iI (Rg 5)), .int (iI (Ly 5)), .int (iI (Wo 5))])), ((sa 6), .inr (3, [.int (iI (Wt 6)), .int (iI (Wd 6)), .int (iI (Rg 6)), .int (iI (Ly 6)), .int (iI (Wo 6))])), ((sa 7), .inr (3, [.int (iI (Wt 7)), .int (iI (Wd 7)), .int (iI (Rg 7)), .int (iI (Ly 7)), .int (iI (Wo 7))]))])) (As := [.int (iI 100)]) C (c_X5_lyingBelow_8 l X h0 s1 w0 t0 k0 r0 rp sh1 gf gs rc tc ft sf sa Wt Wd Rg Ly Wo 100 hsf hLy hWo (by first | assumption | omega)) gX5_mean_X5_lyingBelow rfl rfl rfl hd_V_X5_lyingBelow_X5_mean (by decide) dX5_mean_26 [0, 1, 2, 3, 4, 5, 6, 7, 8, 9] [] [0, 1, 2, 3, 4, 5, 6, 7, 8, 9] rfl rfl rfl rfl (by decide) rfl 0 5 rfl rfl rfl rfl (Nat.le_of_ble_eq_true rfl) (by decide) (fun _ => rfl) (fun _ hy_ => ?_)
      have y_5 : 0 ≤ lbL Ly Wo 100 8 ∧ lbL Ly Wo 100 8 ≤ 72 := hy_
      clear hy_
      refine r_lstore_n (lo2 := [(3, .long (lI (lbL Ly Wo 100 8))), (0, .ref h0), (1, .int (iI k)), (2, .int (iI w))]) C dX5_mean_29 rfl (by decide) rfl ?_
      refine r_lload_n C dX5_mean_30 0 rfl ?_
      refine r_lconst (z := 0) C dX5_mean_31 rfl ?_
      refine r_lcmp_ne (tgt := 40) C dX5_mean_32 dX5_mean_33 (by decide) (by omega) (by decide) (fun h_7 => ?_) (fun h_7 => ?_)
      · skip
        have bb := bwV_B (Ly := Ly) (Wo := Wo) (ns := 8) (k := k) (by decide) hLy (by omega) hWo
        have pp := pwI_72 (a := (lbL Ly Wo 100 8)) (k := k) (by omega) (by omega)
        have p1_ : 1 ≤ pwI (lbL Ly Wo 100 8) k := pwI_pos (by omega) _
        refine r_aload_n C dX5_mean_40 1 rfl ?_
        refine r_iload_n C dX5_mean_41 2 rfl ?_
        refine g_V_l (ws2 := (fun _ => [(h0, .inr (5, [.ref s1, .int (iI 8), .ref w0, .ref t0, .ref k0, .ref r0, .int (iI gf), .int (iI gs), .ref rp, .int (iI rc), .ref sh1, .int (iI tc), .int (iI ft)])), (s1, .inl (X.2.1.2.1, 8, .inr (.inr (.inr (.inr sf))))), ((sa 0), .inr (3, [.int (iI (Wt 0)), .int (iI (Wd 0)), .int (iI (Rg 0)), .int (iI (Ly 0)), .int (iI (Wo 0))])), ((sa 1), .inr (3, [.int (iI (Wt 1)), .int (iI (Wd 1)), .int (iI (Rg 1)), .int (iI (Ly 1)), .int (iI (Wo 1))])), ((sa 2), .inr (3, [.int (iI (Wt 2)), .int (iI (Wd 2)), .int (iI (Rg 2)), .int (iI (Ly 2)), .int (iI (Wo 2))])), ((sa 3), .inr (3, [.int (iI (Wt 3)), .int (iI (Wd 3)), .int (iI (Rg 3)), .int (iI (Ly 3)), .int (iI (Wo 3))])), ((sa 4), .inr (3, [.int (iI (Wt 4)), .int (iI (Wd 4)), .int (iI (Rg 4)), .int (iI (Ly 4)), .int (iI (Wo 4))])), ((sa 5), .inr (3, [.int (iI (Wt 5)), .int (iI (Wd 5)), .int (iI (Rg 5)), .int (iI (Ly 5)), .int (iI (Wo 5))])), ((sa 6), .inr (3, [.int (iI (Wt 6)), .int (iI (Wd 6)), .int (iI (Rg 6)), .int (iI (Ly 6)), .int (iI (Wo 6))])), ((sa 7), .inr (3, [.int (iI (Wt 7)), .int (iI (Wd 7)), .int (iI (Rg 7)), .int (iI (Ly 7)), .int (iI (Wo 7))]))])) (As := [.int (iI k)]) C (c_X5_bestWorths_8 l X h0 s1 w0 t0 k0 r0 rp sh1 gf gs rc tc ft sf sa Wt Wd Rg Ly Wo k hsf hLy hWo (by first | assumption | omega)) gX5_mean_X5_bestWorths rfl rfl rfl hd_V_X5_bestWorths_X5_mean (by decide) dX5_mean_42 [0, 1, 2, 3, 4, 5, 6, 7, 8, 9] [] [0, 1, 2, 3, 4, 5, 6, 7, 8, 9] rfl rfl rfl rfl (by decide) rfl 0 5 rfl rfl rfl rfl (Nat.le_of_ble_eq_true rfl) (by decide) (fun _ => rfl) (fun _ hy_ => ?_)
        clear hy_
        refine r_lload_n C dX5_mean_45 0 rfl ?_
        refine r_iload_n C dX5_mean_46 2 rfl ?_
        refine g_S_l (ws2 := (fun _ => [(h0, .inr (5, [.ref s1, .int (iI 8), .ref w0, .ref t0, .ref k0, .ref r0, .int (iI gf), .int (iI gs), .ref rp, .int (iI rc), .ref sh1, .int (iI tc), .int (iI ft)])), (s1, .inl (X.2.1.2.1, 8, .inr (.inr (.inr (.inr sf))))), ((sa 0), .inr (3, [.int (iI (Wt 0)), .int (iI (Wd 0)), .int (iI (Rg 0)), .int (iI (Ly 0)), .int (iI (Wo 0))])), ((sa 1), .inr (3, [.int (iI (Wt 1)), .int (iI (Wd 1)), .int (iI (Rg 1)), .int (iI (Ly 1)), .int (iI (Wo 1))])), ((sa 2), .inr (3, [.int (iI (Wt 2)), .int (iI (Wd 2)), .int (iI (Rg 2)), .int (iI (Ly 2)), .int (iI (Wo 2))])), ((sa 3), .inr (3, [.int (iI (Wt 3)), .int (iI (Wd 3)), .int (iI (Rg 3)), .int (iI (Ly 3)), .int (iI (Wo 3))])), ((sa 4), .inr (3, [.int (iI (Wt 4)), .int (iI (Wd 4)), .int (iI (Rg 4)), .int (iI (Ly 4)), .int (iI (Wo 4))])), ((sa 5), .inr (3, [.int (iI (Wt 5)), .int (iI (Wd 5)), .int (iI (Rg 5)), .int (iI (Ly 5)), .int (iI (Wo 5))])), ((sa 6), .inr (3, [.int (iI (Wt 6)), .int (iI (Wd 6)), .int (iI (Rg 6)), .int (iI (Ly 6)), .int (iI (Wo 6))])), ((sa 7), .inr (3, [.int (iI (Wt 7)), .int (iI (Wd 7)), .int (iI (Rg 7)), .int (iI (Ly 7)), .int (iI (Wo 7))]))])) (As := [.long (lI (lbL Ly Wo 100 8)), .int (iI k)]) C (c_X5_power l X (lbL Ly Wo 100 8) k (by first | assumption | omega)) gX5_mean_X5_power rfl rfl rfl hd_S_X5_power_X5_mean (by decide) dX5_mean_47 [] [0, 1, 2, 3, 4, 5, 6, 7, 8, 9] [0, 1, 2, 3, 4, 5, 6, 7, 8, 9] rfl rfl rfl rfl (by decide) rfl rfl rfl (Nat.le_of_ble_eq_true rfl) (by decide) (fun _ => rfl) (fun _ hy_ => ?_)
        clear hy_
        refine r_iload_n C dX5_mean_50 3 rfl ?_
        refine g_S_l (ws2 := (fun _ => [(h0, .inr (5, [.ref s1, .int (iI 8), .ref w0, .ref t0, .ref k0, .ref r0, .int (iI gf), .int (iI gs), .ref rp, .int (iI rc), .ref sh1, .int (iI tc), .int (iI ft)])), (s1, .inl (X.2.1.2.1, 8, .inr (.inr (.inr (.inr sf))))), ((sa 0), .inr (3, [.int (iI (Wt 0)), .int (iI (Wd 0)), .int (iI (Rg 0)), .int (iI (Ly 0)), .int (iI (Wo 0))])), ((sa 1), .inr (3, [.int (iI (Wt 1)), .int (iI (Wd 1)), .int (iI (Rg 1)), .int (iI (Ly 1)), .int (iI (Wo 1))])), ((sa 2), .inr (3, [.int (iI (Wt 2)), .int (iI (Wd 2)), .int (iI (Rg 2)), .int (iI (Ly 2)), .int (iI (Wo 2))])), ((sa 3), .inr (3, [.int (iI (Wt 3)), .int (iI (Wd 3)), .int (iI (Rg 3)), .int (iI (Ly 3)), .int (iI (Wo 3))])), ((sa 4), .inr (3, [.int (iI (Wt 4)), .int (iI (Wd 4)), .int (iI (Rg 4)), .int (iI (Ly 4)), .int (iI (Wo 4))])), ((sa 5), .inr (3, [.int (iI (Wt 5)), .int (iI (Wd 5)), .int (iI (Rg 5)), .int (iI (Ly 5)), .int (iI (Wo 5))])), ((sa 6), .inr (3, [.int (iI (Wt 6)), .int (iI (Wd 6)), .int (iI (Rg 6)), .int (iI (Ly 6)), .int (iI (Wo 6))])), ((sa 7), .inr (3, [.int (iI (Wt 7)), .int (iI (Wd 7)), .int (iI (Rg 7)), .int (iI (Ly 7)), .int (iI (Wo 7))]))])) (As := [.long (lI (bwV Ly Wo 8 k)), .long (lI (pwI (lbL Ly Wo 100 8) k)), .int (iI w)]) C (c_X5_share l X (bwV Ly Wo 8 k) (pwI (lbL Ly Wo 100 8) k) w (by first | assumption | omega) (by first | assumption | omega) (by first | assumption | omega)) gX5_mean_X5_share rfl rfl rfl hd_S_X5_share_X5_mean (by decide) dX5_mean_51 [] [0, 1, 2, 3, 4, 5, 6, 7, 8, 9] [0, 1, 2, 3, 4, 5, 6, 7, 8, 9] rfl rfl rfl rfl (by decide) rfl rfl rfl (Nat.le_of_ble_eq_true rfl) (by decide) (fun _ => rfl) (fun _ hy_ => ?_)
        clear hy_
        exact g_ret_l C rfl dX5_mean_54 () trivial (by first | (rw [if_pos (by omega)]; done) | (rw [if_neg (by omega)]; done)) [0, 1, 2, 3, 4, 5, 6, 7, 8, 9] rfl (by (repeat' split) <;> first | rfl | omega)
      · skip
        refine r_ldc2 (z := -9223372036854775808) C dX5_mean_36 kw_X5_mean_0 rfl ?_
        exact g_ret_l C rfl dX5_mean_39 () trivial (by first | (rw [if_pos (by omega)]; done) | (rw [if_neg (by omega)]; done)) [0, 1, 2, 3, 4, 5, 6, 7, 8, 9] rfl (by (repeat' split) <;> first | rfl | omega)
    · skip
      refine r_if_ne (tgt := 23) C dX5_mean_16 (by decide) (by decide) (fun h_8 => absurd h_8 (by decide)) (fun h_8 => ?_)
      refine r_ldc2 (z := -9223372036854775808) C dX5_mean_19 kw_X5_mean_0 rfl ?_
      exact g_ret_l C rfl dX5_mean_22 () trivial (by first | (rw [if_pos (by omega)]; done) | (rw [if_neg (by omega)]; done)) [0, 1, 2, 3, 4, 5, 6, 7, 8, 9] rfl (by (repeat' split) <;> first | rfl | omega)
  · skip
    refine r_if_eq (tgt := 19) C dX5_mean_7 (by decide) (by decide) (fun h_9 => ?_) (fun h_9 => absurd h_9 (by decide))
    refine r_ldc2 (z := -9223372036854775808) C dX5_mean_19 kw_X5_mean_0 rfl ?_
    exact g_ret_l C rfl dX5_mean_22 () trivial (by first | (rw [if_pos (by omega)]; done) | (rw [if_neg (by omega)]; done)) [0, 1, 2, 3, 4, 5, 6, 7, 8, 9] rfl (by (repeat' split) <;> first | rfl | omega)

set_option maxHeartbeats 4000000 in
set_option maxRecDepth 100000 in
theorem c_X5_hours_8 (l : Launch) (X : gX) (h0 : Nat) (s1 : Nat) (w0 : Nat) (t0 : Nat) (k0 : Nat) (r0 : Nat) (rp : Nat) (sh1 : Nat) (gf : Int) (gs : Int) (rc : Int) (tc : Int) (ft : Int) (sf : Nat → Option Nat) (sa : Nat → Nat) (Wt : Nat → Int) (Wd : Nat → Int) (Rg : Nat → Int) (Ly : Nat → Int) (Wo : Nat → Int) (cost : Int) (hsf : ∀ j : Nat, j < 8 → sf j = some (sa j)) (hLy : ∀ j : Nat, j < 8 → 0 ≤ Ly j ∧ Ly j ≤ 9) (hWo : ∀ j : Nat, j < 8 → 0 ≤ Wo j ∧ Wo j ≤ 99) (hb_cost : inB cost) : gM l yX5_hours wsX5_hours (gr 3 0 0) X [(h0, .inr (5, [.ref s1, .int (iI 8), .ref w0, .ref t0, .ref k0, .ref r0, .int (iI gf), .int (iI gs), .ref rp, .int (iI rc), .ref sh1, .int (iI tc), .int (iI ft)])), (s1, .inl (X.2.1.2.1, 8, .inr (.inr (.inr (.inr sf))))), ((sa 0), .inr (3, [.int (iI (Wt 0)), .int (iI (Wd 0)), .int (iI (Rg 0)), .int (iI (Ly 0)), .int (iI (Wo 0))])), ((sa 1), .inr (3, [.int (iI (Wt 1)), .int (iI (Wd 1)), .int (iI (Rg 1)), .int (iI (Ly 1)), .int (iI (Wo 1))])), ((sa 2), .inr (3, [.int (iI (Wt 2)), .int (iI (Wd 2)), .int (iI (Rg 2)), .int (iI (Ly 2)), .int (iI (Wo 2))])), ((sa 3), .inr (3, [.int (iI (Wt 3)), .int (iI (Wd 3)), .int (iI (Rg 3)), .int (iI (Ly 3)), .int (iI (Wo 3))])), ((sa 4), .inr (3, [.int (iI (Wt 4)), .int (iI (Wd 4)), .int (iI (Rg 4)), .int (iI (Ly 4)), .int (iI (Wo 4))])), ((sa 5), .inr (3, [.int (iI (Wt 5)), .int (iI (Wd 5)), .int (iI (Rg 5)), .int (iI (Ly 5)), .int (iI (Wo 5))])), ((sa 6), .inr (3, [.int (iI (Wt 6)), .int (iI (Wd 6)), .int (iI (Rg 6)), .int (iI (Ly 6)), .int (iI (Wo 6))])), ((sa 7), .inr (3, [.int (iI (Wt 7)), .int (iI (Wd 7)), .int (iI (Rg 7)), .int (iI (Ly 7)), .int (iI (Wo 7))]))] [.ref h0, .int (iI cost)] (gQi X (Y := Unit) (fun _ => True) (fun _ => (if ¬ (0 ≤ cost ∧ cost ≤ 99) then -2 else if (lbL Ly Wo 100 8) = 0 then -3 else (hrV Ly Wo 8 cost).2)) (fun _ => [(h0, .inr (5, [.ref s1, .int (iI 8), .ref w0, .ref t0, .ref k0, .ref r0, .int (iI gf), .int (iI gs), .ref rp, .int (iI rc), .ref sh1, .int (iI tc), .int (iI ft)])), (s1, .inl (X.2.1.2.1, 8, .inr (.inr (.inr (.inr sf))))), ((sa 0), .inr (3, [.int (iI (Wt 0)), .int (iI (Wd 0)), .int (iI (Rg 0)), .int (iI (Ly 0)), .int (iI (Wo 0))])), ((sa 1), .inr (3, [.int (iI (Wt 1)), .int (iI (Wd 1)), .int (iI (Rg 1)), .int (iI (Ly 1)), .int (iI (Wo 1))])), ((sa 2), .inr (3, [.int (iI (Wt 2)), .int (iI (Wd 2)), .int (iI (Rg 2)), .int (iI (Ly 2)), .int (iI (Wo 2))])), ((sa 3), .inr (3, [.int (iI (Wt 3)), .int (iI (Wd 3)), .int (iI (Rg 3)), .int (iI (Ly 3)), .int (iI (Wo 3))])), ((sa 4), .inr (3, [.int (iI (Wt 4)), .int (iI (Wd 4)), .int (iI (Rg 4)), .int (iI (Ly 4)), .int (iI (Wo 4))])), ((sa 5), .inr (3, [.int (iI (Wt 5)), .int (iI (Wd 5)), .int (iI (Rg 5)), .int (iI (Ly 5)), .int (iI (Wo 5))])), ((sa 6), .inr (3, [.int (iI (Wt 6)), .int (iI (Wd 6)), .int (iI (Rg 6)), .int (iI (Ly 6)), .int (iI (Wo 6))])), ((sa 7), .inr (3, [.int (iI (Wt 7)), .int (iI (Wd 7)), .int (iI (Rg 7)), .int (iI (Ly 7)), .int (iI (Wo 7))]))])) 0 0 := by
  refine g_start2 (lo := [(0, .ref h0), (1, .int (iI cost))]) (by decide +kernel) rfl rfl (Nat.le_of_ble_eq_true rfl) (fun p e s m args below meth c A C => ?_)
  refine r_iload_n C dX5_hours_0 1 rfl ?_
  refine r_iconst C dX5_hours_1 ?_
  refine r_bipush C dX5_hours_2 (by decide) ?_
  refine g_S_i (ws2 := (fun _ => [(h0, .inr (5, [.ref s1, .int (iI 8), .ref w0, .ref t0, .ref k0, .ref r0, .int (iI gf), .int (iI gs), .ref rp, .int (iI rc), .ref sh1, .int (iI tc), .int (iI ft)])), (s1, .inl (X.2.1.2.1, 8, .inr (.inr (.inr (.inr sf))))), ((sa 0), .inr (3, [.int (iI (Wt 0)), .int (iI (Wd 0)), .int (iI (Rg 0)), .int (iI (Ly 0)), .int (iI (Wo 0))])), ((sa 1), .inr (3, [.int (iI (Wt 1)), .int (iI (Wd 1)), .int (iI (Rg 1)), .int (iI (Ly 1)), .int (iI (Wo 1))])), ((sa 2), .inr (3, [.int (iI (Wt 2)), .int (iI (Wd 2)), .int (iI (Rg 2)), .int (iI (Ly 2)), .int (iI (Wo 2))])), ((sa 3), .inr (3, [.int (iI (Wt 3)), .int (iI (Wd 3)), .int (iI (Rg 3)), .int (iI (Ly 3)), .int (iI (Wo 3))])), ((sa 4), .inr (3, [.int (iI (Wt 4)), .int (iI (Wd 4)), .int (iI (Rg 4)), .int (iI (Ly 4)), .int (iI (Wo 4))])), ((sa 5), .inr (3, [.int (iI (Wt 5)), .int (iI (Wd 5)), .int (iI (Rg 5)), .int (iI (Ly 5)), .int (iI (Wo 5))])), ((sa 6), .inr (3, [.int (iI (Wt 6)), .int (iI (Wd 6)), .int (iI (Rg 6)), .int (iI (Ly 6)), .int (iI (Wo 6))])), ((sa 7), .inr (3, [.int (iI (Wt 7)), .int (iI (Wd 7)), .int (iI (Rg 7)), .int (iI (Ly 7)), .int (iI (Wo 7))]))])) (As := [.int (iI cost), .int (iI 0), .int (iI 99)]) C (c_X5_within l X cost 0 99 (by first | assumption | omega) (by first | assumption | omega) (by first | assumption | omega)) gX5_hours_X5_within rfl rfl rfl hd_S_X5_within_X5_hours (by decide) dX5_hours_4 [] [0, 1, 2, 3, 4, 5, 6, 7, 8, 9] [0, 1, 2, 3, 4, 5, 6, 7, 8, 9] rfl rfl rfl rfl (by decide) rfl rfl rfl (Nat.le_of_ble_eq_true rfl) (by decide) (fun _ => rfl) (fun _ hy_ => ?_)
  clear hy_
  refine r_ite (fun h_1 => ?_) (fun h_1 => ?_)
  · skip
    refine r_if_ne (tgt := 13) C dX5_hours_7 (by decide) (by decide) (fun h_2 => ?_) (fun h_2 => absurd h_2 (by decide))
    refine r_aload_n C dX5_hours_13 0 rfl ?_
    refine r_bipush C dX5_hours_14 (by decide) ?_
    refine g_V_l (ws2 := (fun _ => [(h0, .inr (5, [.ref s1, .int (iI 8), .ref w0, .ref t0, .ref k0, .ref r0, .int (iI gf), .int (iI gs), .ref rp, .int (iI rc), .ref sh1, .int (iI tc), .int (iI ft)])), (s1, .inl (X.2.1.2.1, 8, .inr (.inr (.inr (.inr sf))))), ((sa 0), .inr (3, [.int (iI (Wt 0)), .int (iI (Wd 0)), .int (iI (Rg 0)), .int (iI (Ly 0)), .int (iI (Wo 0))])), ((sa 1), .inr (3, [.int (iI (Wt 1)), .int (iI (Wd 1)), .int (iI (Rg 1)), .int (iI (Ly 1)), .int (iI (Wo 1))])), ((sa 2), .inr (3, [.int (iI (Wt 2)), .int (iI (Wd 2)), .int (iI (Rg 2)), .int (iI (Ly 2)), .int (iI (Wo 2))])), ((sa 3), .inr (3, [.int (iI (Wt 3)), .int (iI (Wd 3)), .int (iI (Rg 3)), .int (iI (Ly 3)), .int (iI (Wo 3))])), ((sa 4), .inr (3, [.int (iI (Wt 4)), .int (iI (Wd 4)), .int (iI (Rg 4)), .int (iI (Ly 4)), .int (iI (Wo 4))])), ((sa 5), .inr (3, [.int (iI (Wt 5)), .int (iI (Wd 5)), .int (iI (Rg 5)), .int (iI (Ly 5)), .int (iI (Wo 5))])), ((sa 6), .inr (3, [.int (iI (Wt 6)), .int (iI (Wd 6)), .int (iI (Rg 6)), .int (iI (Ly 6)), .int (iI (Wo 6))])), ((sa 7), .inr (3, [.int (iI (Wt 7)), .int (iI (Wd 7)), .int (iI (Rg 7)), .int (iI (Ly 7)), .int (iI (Wo 7))]))])) (As := [.int (iI 100)]) C (c_X5_lyingBelow_8 l X h0 s1 w0 t0 k0 r0 rp sh1 gf gs rc tc ft sf sa Wt Wd Rg Ly Wo 100 hsf hLy hWo (by first | assumption | omega)) gX5_hours_X5_lyingBelow rfl rfl rfl hd_V_X5_lyingBelow_X5_hours (by decide) dX5_hours_16 [0, 1, 2, 3, 4, 5, 6, 7, 8, 9] [] [0, 1, 2, 3, 4, 5, 6, 7, 8, 9] rfl rfl rfl rfl (by decide) rfl 0 5 rfl rfl rfl rfl (Nat.le_of_ble_eq_true rfl) (by decide) (fun _ => rfl) (fun _ hy_ => ?_)
    have y_3 : 0 ≤ lbL Ly Wo 100 8 ∧ lbL Ly Wo 100 8 ≤ 72 := hy_
    clear hy_
    refine r_lstore_n (lo2 := [(2, .long (lI (lbL Ly Wo 100 8))), (0, .ref h0), (1, .int (iI cost))]) C dX5_hours_19 rfl (by decide) rfl ?_
    refine r_lload_n C dX5_hours_20 0 rfl ?_
    refine r_lconst (z := 0) C dX5_hours_21 rfl ?_
    refine r_lcmp_ne (tgt := 29) C dX5_hours_22 dX5_hours_23 (by decide) (by omega) (by decide) (fun h_5 => ?_) (fun h_5 => ?_)
    · skip
      refine r_lload_n C dX5_hours_29 0 rfl ?_
      refine r_bipush C dX5_hours_30 (by decide) ?_
      refine g_S_l (ws2 := (fun _ => [(h0, .inr (5, [.ref s1, .int (iI 8), .ref w0, .ref t0, .ref k0, .ref r0, .int (iI gf), .int (iI gs), .ref rp, .int (iI rc), .ref sh1, .int (iI tc), .int (iI ft)])), (s1, .inl (X.2.1.2.1, 8, .inr (.inr (.inr (.inr sf))))), ((sa 0), .inr (3, [.int (iI (Wt 0)), .int (iI (Wd 0)), .int (iI (Rg 0)), .int (iI (Ly 0)), .int (iI (Wo 0))])), ((sa 1), .inr (3, [.int (iI (Wt 1)), .int (iI (Wd 1)), .int (iI (Rg 1)), .int (iI (Ly 1)), .int (iI (Wo 1))])), ((sa 2), .inr (3, [.int (iI (Wt 2)), .int (iI (Wd 2)), .int (iI (Rg 2)), .int (iI (Ly 2)), .int (iI (Wo 2))])), ((sa 3), .inr (3, [.int (iI (Wt 3)), .int (iI (Wd 3)), .int (iI (Rg 3)), .int (iI (Ly 3)), .int (iI (Wo 3))])), ((sa 4), .inr (3, [.int (iI (Wt 4)), .int (iI (Wd 4)), .int (iI (Rg 4)), .int (iI (Ly 4)), .int (iI (Wo 4))])), ((sa 5), .inr (3, [.int (iI (Wt 5)), .int (iI (Wd 5)), .int (iI (Rg 5)), .int (iI (Ly 5)), .int (iI (Wo 5))])), ((sa 6), .inr (3, [.int (iI (Wt 6)), .int (iI (Wd 6)), .int (iI (Rg 6)), .int (iI (Ly 6)), .int (iI (Wo 6))])), ((sa 7), .inr (3, [.int (iI (Wt 7)), .int (iI (Wd 7)), .int (iI (Rg 7)), .int (iI (Ly 7)), .int (iI (Wo 7))]))])) (As := [.long (lI (lbL Ly Wo 100 8)), .int (iI 6)]) C (c_X5_power l X (lbL Ly Wo 100 8) 6 (by first | assumption | omega)) gX5_hours_X5_power rfl rfl rfl hd_S_X5_power_X5_hours (by decide) dX5_hours_32 [] [0, 1, 2, 3, 4, 5, 6, 7, 8, 9] [0, 1, 2, 3, 4, 5, 6, 7, 8, 9] rfl rfl rfl rfl (by decide) rfl rfl rfl (Nat.le_of_ble_eq_true rfl) (by decide) (fun _ => rfl) (fun _ hy_ => ?_)
      clear hy_
      refine r_lstore (lo2 := [(4, .long (lI (pwI (lbL Ly Wo 100 8) 6))), (2, .long (lI (lbL Ly Wo 100 8))), (0, .ref h0), (1, .int (iI cost))]) C dX5_hours_35 (by decide) rfl ?_
      refine r_iconst C dX5_hours_37 ?_
      refine r_istore (lo2 := [(6, .int (iI 1)), (4, .long (lI (pwI (lbL Ly Wo 100 8) 6))), (2, .long (lI (lbL Ly Wo 100 8))), (0, .ref h0), (1, .int (iI cost))]) C dX5_hours_38 (by decide) rfl ?_
      refine r_lconst (z := 0) C dX5_hours_40 rfl ?_
      refine r_lstore (lo2 := [(7, .long (lI 0)), (6, .int (iI 1)), (4, .long (lI (pwI (lbL Ly Wo 100 8) 6))), (2, .long (lI (lbL Ly Wo 100 8))), (0, .ref h0), (1, .int (iI cost))]) C dX5_hours_41 (by decide) rfl ?_
      refine r_iconst C dX5_hours_43 ?_
      refine r_istore (lo2 := [(9, .int (iI 1)), (7, .long (lI 0)), (6, .int (iI 1)), (4, .long (lI (pwI (lbL Ly Wo 100 8) 6))), (2, .long (lI (lbL Ly Wo 100 8))), (0, .ref h0), (1, .int (iI cost))]) C dX5_hours_44 (by decide) rfl ?_
      have L46 : ∀ (fu46 : Nat) (a2 : Int) (a1 : Int) (c1 : Int), (1 ≤ c1 ∧ c1 ≤ 7) → (-100000000000000 ≤ a1 ∧ a1 ≤ 100000000000000) → (hrV Ly Wo 8 cost = gIn (hrF Ly Wo 8 cost) (7 - c1).toNat c1 (a1, a2)) → (7 - c1).toNat < fu46 → gW p l e (gr 3 0 0) s m args below meth c X A 12 (MQ below ((gQi X (Y := Unit) (fun _ => True) (fun _ => (if ¬ (0 ≤ cost ∧ cost ≤ 99) then -2 else if (lbL Ly Wo 100 8) = 0 then -3 else (hrV Ly Wo 8 cost).2)) (fun _ => [(h0, .inr (5, [.ref s1, .int (iI 8), .ref w0, .ref t0, .ref k0, .ref r0, .int (iI gf), .int (iI gs), .ref rp, .int (iI rc), .ref sh1, .int (iI tc), .int (iI ft)])), (s1, .inl (X.2.1.2.1, 8, .inr (.inr (.inr (.inr sf))))), ((sa 0), .inr (3, [.int (iI (Wt 0)), .int (iI (Wd 0)), .int (iI (Rg 0)), .int (iI (Ly 0)), .int (iI (Wo 0))])), ((sa 1), .inr (3, [.int (iI (Wt 1)), .int (iI (Wd 1)), .int (iI (Rg 1)), .int (iI (Ly 1)), .int (iI (Wo 1))])), ((sa 2), .inr (3, [.int (iI (Wt 2)), .int (iI (Wd 2)), .int (iI (Rg 2)), .int (iI (Ly 2)), .int (iI (Wo 2))])), ((sa 3), .inr (3, [.int (iI (Wt 3)), .int (iI (Wd 3)), .int (iI (Rg 3)), .int (iI (Ly 3)), .int (iI (Wo 3))])), ((sa 4), .inr (3, [.int (iI (Wt 4)), .int (iI (Wd 4)), .int (iI (Rg 4)), .int (iI (Ly 4)), .int (iI (Wo 4))])), ((sa 5), .inr (3, [.int (iI (Wt 5)), .int (iI (Wd 5)), .int (iI (Rg 5)), .int (iI (Ly 5)), .int (iI (Wo 5))])), ((sa 6), .inr (3, [.int (iI (Wt 6)), .int (iI (Wd 6)), .int (iI (Rg 6)), .int (iI (Ly 6)), .int (iI (Wo 6))])), ((sa 7), .inr (3, [.int (iI (Wt 7)), .int (iI (Wd 7)), .int (iI (Rg 7)), .int (iI (Ly 7)), .int (iI (Wo 7))]))])) A) args s 0 0 A) 0 0 [(h0, .inr (5, [.ref s1, .int (iI 8), .ref w0, .ref t0, .ref k0, .ref r0, .int (iI gf), .int (iI gs), .ref rp, .int (iI rc), .ref sh1, .int (iI tc), .int (iI ft)])), (s1, .inl (X.2.1.2.1, 8, .inr (.inr (.inr (.inr sf))))), ((sa 0), .inr (3, [.int (iI (Wt 0)), .int (iI (Wd 0)), .int (iI (Rg 0)), .int (iI (Ly 0)), .int (iI (Wo 0))])), ((sa 1), .inr (3, [.int (iI (Wt 1)), .int (iI (Wd 1)), .int (iI (Rg 1)), .int (iI (Ly 1)), .int (iI (Wo 1))])), ((sa 2), .inr (3, [.int (iI (Wt 2)), .int (iI (Wd 2)), .int (iI (Rg 2)), .int (iI (Ly 2)), .int (iI (Wo 2))])), ((sa 3), .inr (3, [.int (iI (Wt 3)), .int (iI (Wd 3)), .int (iI (Rg 3)), .int (iI (Ly 3)), .int (iI (Wo 3))])), ((sa 4), .inr (3, [.int (iI (Wt 4)), .int (iI (Wd 4)), .int (iI (Rg 4)), .int (iI (Ly 4)), .int (iI (Wo 4))])), ((sa 5), .inr (3, [.int (iI (Wt 5)), .int (iI (Wd 5)), .int (iI (Rg 5)), .int (iI (Ly 5)), .int (iI (Wo 5))])), ((sa 6), .inr (3, [.int (iI (Wt 6)), .int (iI (Wd 6)), .int (iI (Rg 6)), .int (iI (Ly 6)), .int (iI (Wo 6))])), ((sa 7), .inr (3, [.int (iI (Wt 7)), .int (iI (Wd 7)), .int (iI (Rg 7)), .int (iI (Ly 7)), .int (iI (Wo 7))]))] 46 [(4, .long (lI (pwI (lbL Ly Wo 100 8) 6))), (2, .long (lI (lbL Ly Wo 100 8))), (0, .ref h0), (1, .int (iI cost)), (6, .int (iI a2)), (7, .long (lI a1)), (9, .int (iI c1))] [] := by
        intro fu46
        induction fu46 with
        | zero => intro a2 a1 c1 ic ia iL hm46; exact absurd hm46 (Nat.not_lt_zero _)
        | succ fu46 ih46 =>
          intro a2 a1 c1 ic ia iL hm46
          refine r_iload C dX5_hours_46 6 rfl ?_
          refine r_bipush C dX5_hours_48 (by decide) ?_
          refine r_icmp_gt (tgt := 108) C dX5_hours_50 (by decide) (by omega) (by decide) (fun h_6 => ?_) (fun h_6 => ?_)
          · skip
            refine r_iload C dX5_hours_108 4 rfl ?_
            exact g_ret_i C rfl dX5_hours_110 () trivial (by rw [iL, gIn_endW (by omega)]; (repeat' split) <;> first | rfl | omega) [0, 1, 2, 3, 4, 5, 6, 7, 8, 9] rfl (by (repeat' split) <;> first | rfl | omega)
          · skip
            have hB := hr_B (Ly := Ly) (Wo := Wo) (ns := 8) (cost := cost) (n := c1) (by decide) hLy hWo (by omega) (by omega)
            have hm_ := mulB (a := c1) (b := cost) (A := 6) (B := 99) (by omega) (by omega)
            refine r_aload_n C dX5_hours_53 2 rfl ?_
            refine r_iload C dX5_hours_54 6 rfl ?_
            refine g_V_l (ws2 := (fun _ => [(h0, .inr (5, [.ref s1, .int (iI 8), .ref w0, .ref t0, .ref k0, .ref r0, .int (iI gf), .int (iI gs), .ref rp, .int (iI rc), .ref sh1, .int (iI tc), .int (iI ft)])), (s1, .inl (X.2.1.2.1, 8, .inr (.inr (.inr (.inr sf))))), ((sa 0), .inr (3, [.int (iI (Wt 0)), .int (iI (Wd 0)), .int (iI (Rg 0)), .int (iI (Ly 0)), .int (iI (Wo 0))])), ((sa 1), .inr (3, [.int (iI (Wt 1)), .int (iI (Wd 1)), .int (iI (Rg 1)), .int (iI (Ly 1)), .int (iI (Wo 1))])), ((sa 2), .inr (3, [.int (iI (Wt 2)), .int (iI (Wd 2)), .int (iI (Rg 2)), .int (iI (Ly 2)), .int (iI (Wo 2))])), ((sa 3), .inr (3, [.int (iI (Wt 3)), .int (iI (Wd 3)), .int (iI (Rg 3)), .int (iI (Ly 3)), .int (iI (Wo 3))])), ((sa 4), .inr (3, [.int (iI (Wt 4)), .int (iI (Wd 4)), .int (iI (Rg 4)), .int (iI (Ly 4)), .int (iI (Wo 4))])), ((sa 5), .inr (3, [.int (iI (Wt 5)), .int (iI (Wd 5)), .int (iI (Rg 5)), .int (iI (Ly 5)), .int (iI (Wo 5))])), ((sa 6), .inr (3, [.int (iI (Wt 6)), .int (iI (Wd 6)), .int (iI (Rg 6)), .int (iI (Ly 6)), .int (iI (Wo 6))])), ((sa 7), .inr (3, [.int (iI (Wt 7)), .int (iI (Wd 7)), .int (iI (Rg 7)), .int (iI (Ly 7)), .int (iI (Wo 7))]))])) (As := [.int (iI c1)]) C (c_X5_bestWorths_8 l X h0 s1 w0 t0 k0 r0 rp sh1 gf gs rc tc ft sf sa Wt Wd Rg Ly Wo c1 hsf hLy hWo (by first | assumption | omega)) gX5_hours_X5_bestWorths rfl rfl rfl hd_V_X5_bestWorths_X5_hours (by decide) dX5_hours_56 [0, 1, 2, 3, 4, 5, 6, 7, 8, 9] [] [0, 1, 2, 3, 4, 5, 6, 7, 8, 9] rfl rfl rfl rfl (by decide) rfl 0 5 rfl rfl rfl rfl (Nat.le_of_ble_eq_true rfl) (by decide) (fun _ => rfl) (fun _ hy_ => ?_)
            clear hy_
            refine r_lload_n C dX5_hours_59 1 rfl ?_
            refine r_bipush C dX5_hours_60 (by decide) ?_
            refine r_iload C dX5_hours_62 6 rfl ?_
            refine r_isub C dX5_hours_64 ?_
            refine g_S_l (ws2 := (fun _ => [(h0, .inr (5, [.ref s1, .int (iI 8), .ref w0, .ref t0, .ref k0, .ref r0, .int (iI gf), .int (iI gs), .ref rp, .int (iI rc), .ref sh1, .int (iI tc), .int (iI ft)])), (s1, .inl (X.2.1.2.1, 8, .inr (.inr (.inr (.inr sf))))), ((sa 0), .inr (3, [.int (iI (Wt 0)), .int (iI (Wd 0)), .int (iI (Rg 0)), .int (iI (Ly 0)), .int (iI (Wo 0))])), ((sa 1), .inr (3, [.int (iI (Wt 1)), .int (iI (Wd 1)), .int (iI (Rg 1)), .int (iI (Ly 1)), .int (iI (Wo 1))])), ((sa 2), .inr (3, [.int (iI (Wt 2)), .int (iI (Wd 2)), .int (iI (Rg 2)), .int (iI (Ly 2)), .int (iI (Wo 2))])), ((sa 3), .inr (3, [.int (iI (Wt 3)), .int (iI (Wd 3)), .int (iI (Rg 3)), .int (iI (Ly 3)), .int (iI (Wo 3))])), ((sa 4), .inr (3, [.int (iI (Wt 4)), .int (iI (Wd 4)), .int (iI (Rg 4)), .int (iI (Ly 4)), .int (iI (Wo 4))])), ((sa 5), .inr (3, [.int (iI (Wt 5)), .int (iI (Wd 5)), .int (iI (Rg 5)), .int (iI (Ly 5)), .int (iI (Wo 5))])), ((sa 6), .inr (3, [.int (iI (Wt 6)), .int (iI (Wd 6)), .int (iI (Rg 6)), .int (iI (Ly 6)), .int (iI (Wo 6))])), ((sa 7), .inr (3, [.int (iI (Wt 7)), .int (iI (Wd 7)), .int (iI (Rg 7)), .int (iI (Ly 7)), .int (iI (Wo 7))]))])) (As := [.long (lI (lbL Ly Wo 100 8)), .int (iI (6 - c1))]) C (c_X5_power l X (lbL Ly Wo 100 8) (6 - c1) (by first | assumption | omega)) gX5_hours_X5_power rfl rfl rfl hd_S_X5_power_X5_hours (by decide) dX5_hours_65 [] [0, 1, 2, 3, 4, 5, 6, 7, 8, 9] [0, 1, 2, 3, 4, 5, 6, 7, 8, 9] rfl rfl rfl rfl (by decide) rfl rfl rfl (Nat.le_of_ble_eq_true rfl) (by decide) (fun _ => rfl) (fun _ hy_ => ?_)
            clear hy_
            refine r_lmul C dX5_hours_68 ?_
            refine r_iload C dX5_hours_69 6 rfl ?_
            refine r_iload_n C dX5_hours_71 3 rfl ?_
            refine r_imul C dX5_hours_72 ?_
            refine r_i2l C dX5_hours_73 (by omega) ?_
            refine r_lload C dX5_hours_74 0 rfl ?_
            refine r_lmul C dX5_hours_76 ?_
            refine r_lsub C dX5_hours_77 ?_
            refine r_lstore (lo2 := [(10, .long (lI (((bwV Ly Wo 8 c1) * (pwI (lbL Ly Wo 100 8) (6 - c1))) - ((c1 * cost) * (pwI (lbL Ly Wo 100 8) 6))))), (4, .long (lI (pwI (lbL Ly Wo 100 8) 6))), (2, .long (lI (lbL Ly Wo 100 8))), (0, .ref h0), (1, .int (iI cost)), (6, .int (iI a2)), (7, .long (lI a1)), (9, .int (iI c1))]) C dX5_hours_78 (by decide) rfl ?_
            refine r_iload C dX5_hours_80 7 rfl ?_
            refine r_iconst C dX5_hours_82 ?_
            refine r_icmp_eq (tgt := 94) C dX5_hours_83 (by decide) (by omega) (by decide) (fun h_7 => ?_) (fun h_7 => ?_)
            · skip
              refine r_lload C dX5_hours_94 0 rfl ?_
              refine r_lstore (lo2 := [(7, .long (lI (((bwV Ly Wo 8 c1) * (pwI (lbL Ly Wo 100 8) (6 - c1))) - ((c1 * cost) * (pwI (lbL Ly Wo 100 8) 6))))), (10, .long (lI (((bwV Ly Wo 8 c1) * (pwI (lbL Ly Wo 100 8) (6 - c1))) - ((c1 * cost) * (pwI (lbL Ly Wo 100 8) 6))))), (4, .long (lI (pwI (lbL Ly Wo 100 8) 6))), (2, .long (lI (lbL Ly Wo 100 8))), (0, .ref h0), (1, .int (iI cost)), (6, .int (iI a2)), (9, .int (iI c1))]) C dX5_hours_96 (by decide) rfl ?_
              refine r_iload C dX5_hours_98 7 rfl ?_
              refine r_istore (lo2 := [(6, .int (iI c1)), (7, .long (lI (((bwV Ly Wo 8 c1) * (pwI (lbL Ly Wo 100 8) (6 - c1))) - ((c1 * cost) * (pwI (lbL Ly Wo 100 8) 6))))), (10, .long (lI (((bwV Ly Wo 8 c1) * (pwI (lbL Ly Wo 100 8) (6 - c1))) - ((c1 * cost) * (pwI (lbL Ly Wo 100 8) 6))))), (4, .long (lI (pwI (lbL Ly Wo 100 8) 6))), (2, .long (lI (lbL Ly Wo 100 8))), (0, .ref h0), (1, .int (iI cost)), (9, .int (iI c1))]) C dX5_hours_100 (by decide) rfl ?_
              refine r_iinc (lo2 := [(9, .int (iI (c1 + 1))), (6, .int (iI c1)), (7, .long (lI (((bwV Ly Wo 8 c1) * (pwI (lbL Ly Wo 100 8) (6 - c1))) - ((c1 * cost) * (pwI (lbL Ly Wo 100 8) 6))))), (10, .long (lI (((bwV Ly Wo 8 c1) * (pwI (lbL Ly Wo 100 8) (6 - c1))) - ((c1 * cost) * (pwI (lbL Ly Wo 100 8) 6))))), (4, .long (lI (pwI (lbL Ly Wo 100 8) 6))), (2, .long (lI (lbL Ly Wo 100 8))), (0, .ref h0), (1, .int (iI cost))]) C dX5_hours_102 7 rfl (by decide) rfl ?_
              refine r_goto (tgt := 46) C dX5_hours_105 (by decide) ?_
              refine r_lo [4, 5, 6, 7, 1, 2, 0] (lo2 := [(4, .long (lI (pwI (lbL Ly Wo 100 8) 6))), (2, .long (lI (lbL Ly Wo 100 8))), (0, .ref h0), (1, .int (iI cost)), (6, .int (iI c1)), (7, .long (lI (((bwV Ly Wo 8 c1) * (pwI (lbL Ly Wo 100 8) (6 - c1))) - ((c1 * cost) * (pwI (lbL Ly Wo 100 8) 6))))), (9, .int (iI (c1 + 1)))]) rfl ?_
              exact ih46 c1 (((bwV Ly Wo 8 c1) * (pwI (lbL Ly Wo 100 8) (6 - c1))) - ((c1 * cost) * (pwI (lbL Ly Wo 100 8) 6))) (c1 + 1) (by omega) (by omega) (by rw [iL, gIn_goW (by omega)]; first | (rw [hrF_t (by first | exact Or.inl (by omega) | exact Or.inr (by omega))]; done) | (rw [hrF_f (by intro q; rcases q with q | q <;> first | omega | (dsimp only at q; omega))]; done)) (by omega)
            · skip
              refine r_lload C dX5_hours_86 0 rfl ?_
              refine r_lload C dX5_hours_88 6 rfl ?_
              refine r_lcmp_le (tgt := 102) C dX5_hours_90 dX5_hours_91 (by decide) (by omega) (by omega) (fun h_8 => ?_) (fun h_8 => ?_)
              · skip
                refine r_iinc (lo2 := [(9, .int (iI (c1 + 1))), (10, .long (lI (((bwV Ly Wo 8 c1) * (pwI (lbL Ly Wo 100 8) (6 - c1))) - ((c1 * cost) * (pwI (lbL Ly Wo 100 8) 6))))), (4, .long (lI (pwI (lbL Ly Wo 100 8) 6))), (2, .long (lI (lbL Ly Wo 100 8))), (0, .ref h0), (1, .int (iI cost)), (6, .int (iI a2)), (7, .long (lI a1))]) C dX5_hours_102 7 rfl (by decide) rfl ?_
                refine r_goto (tgt := 46) C dX5_hours_105 (by decide) ?_
                refine r_lo [2, 3, 4, 5, 6, 7, 0] (lo2 := [(4, .long (lI (pwI (lbL Ly Wo 100 8) 6))), (2, .long (lI (lbL Ly Wo 100 8))), (0, .ref h0), (1, .int (iI cost)), (6, .int (iI a2)), (7, .long (lI a1)), (9, .int (iI (c1 + 1)))]) rfl ?_
                exact ih46 a2 a1 (c1 + 1) (by omega) (by omega) (by rw [iL, gIn_goW (by omega)]; first | (rw [hrF_t (by first | exact Or.inl (by omega) | exact Or.inr (by omega))]; done) | (rw [hrF_f (by intro q; rcases q with q | q <;> first | omega | (dsimp only at q; omega))]; done)) (by omega)
              · skip
                refine r_lload C dX5_hours_94 0 rfl ?_
                refine r_lstore (lo2 := [(7, .long (lI (((bwV Ly Wo 8 c1) * (pwI (lbL Ly Wo 100 8) (6 - c1))) - ((c1 * cost) * (pwI (lbL Ly Wo 100 8) 6))))), (10, .long (lI (((bwV Ly Wo 8 c1) * (pwI (lbL Ly Wo 100 8) (6 - c1))) - ((c1 * cost) * (pwI (lbL Ly Wo 100 8) 6))))), (4, .long (lI (pwI (lbL Ly Wo 100 8) 6))), (2, .long (lI (lbL Ly Wo 100 8))), (0, .ref h0), (1, .int (iI cost)), (6, .int (iI a2)), (9, .int (iI c1))]) C dX5_hours_96 (by decide) rfl ?_
                refine r_iload C dX5_hours_98 7 rfl ?_
                refine r_istore (lo2 := [(6, .int (iI c1)), (7, .long (lI (((bwV Ly Wo 8 c1) * (pwI (lbL Ly Wo 100 8) (6 - c1))) - ((c1 * cost) * (pwI (lbL Ly Wo 100 8) 6))))), (10, .long (lI (((bwV Ly Wo 8 c1) * (pwI (lbL Ly Wo 100 8) (6 - c1))) - ((c1 * cost) * (pwI (lbL Ly Wo 100 8) 6))))), (4, .long (lI (pwI (lbL Ly Wo 100 8) 6))), (2, .long (lI (lbL Ly Wo 100 8))), (0, .ref h0), (1, .int (iI cost)), (9, .int (iI c1))]) C dX5_hours_100 (by decide) rfl ?_
                refine r_iinc (lo2 := [(9, .int (iI (c1 + 1))), (6, .int (iI c1)), (7, .long (lI (((bwV Ly Wo 8 c1) * (pwI (lbL Ly Wo 100 8) (6 - c1))) - ((c1 * cost) * (pwI (lbL Ly Wo 100 8) 6))))), (10, .long (lI (((bwV Ly Wo 8 c1) * (pwI (lbL Ly Wo 100 8) (6 - c1))) - ((c1 * cost) * (pwI (lbL Ly Wo 100 8) 6))))), (4, .long (lI (pwI (lbL Ly Wo 100 8) 6))), (2, .long (lI (lbL Ly Wo 100 8))), (0, .ref h0), (1, .int (iI cost))]) C dX5_hours_102 7 rfl (by decide) rfl ?_
                refine r_goto (tgt := 46) C dX5_hours_105 (by decide) ?_
                refine r_lo [4, 5, 6, 7, 1, 2, 0] (lo2 := [(4, .long (lI (pwI (lbL Ly Wo 100 8) 6))), (2, .long (lI (lbL Ly Wo 100 8))), (0, .ref h0), (1, .int (iI cost)), (6, .int (iI c1)), (7, .long (lI (((bwV Ly Wo 8 c1) * (pwI (lbL Ly Wo 100 8) (6 - c1))) - ((c1 * cost) * (pwI (lbL Ly Wo 100 8) 6))))), (9, .int (iI (c1 + 1)))]) rfl ?_
                exact ih46 c1 (((bwV Ly Wo 8 c1) * (pwI (lbL Ly Wo 100 8) (6 - c1))) - ((c1 * cost) * (pwI (lbL Ly Wo 100 8) 6))) (c1 + 1) (by omega) (by omega) (by rw [iL, gIn_goW (by omega)]; first | (rw [hrF_t (by first | exact Or.inl (by omega) | exact Or.inr (by omega))]; done) | (rw [hrF_f (by intro q; rcases q with q | q <;> first | omega | (dsimp only at q; omega))]; done)) (by omega)
      refine r_lo [3, 4, 5, 6, 2, 1, 0] (lo2 := [(4, .long (lI (pwI (lbL Ly Wo 100 8) 6))), (2, .long (lI (lbL Ly Wo 100 8))), (0, .ref h0), (1, .int (iI cost)), (6, .int (iI 1)), (7, .long (lI 0)), (9, .int (iI 1))]) rfl ?_
      exact L46 ((7 - (1 : Int)).toNat + 1) 1 0 1 (by omega) (by omega) rfl (Nat.lt_succ_self _)
    · skip
      refine r_bipush C dX5_hours_26 (by decide) ?_
      exact g_ret_i C rfl dX5_hours_28 () trivial (by (repeat' split) <;> first | rfl | omega) [0, 1, 2, 3, 4, 5, 6, 7, 8, 9] rfl (by (repeat' split) <;> first | rfl | omega)
  · skip
    refine r_if_ne (tgt := 13) C dX5_hours_7 (by decide) (by decide) (fun h_9 => absurd h_9 (by decide)) (fun h_9 => ?_)
    refine r_bipush C dX5_hours_10 (by decide) ?_
    exact g_ret_i C rfl dX5_hours_12 () trivial (by (repeat' split) <;> first | rfl | omega) [0, 1, 2, 3, 4, 5, 6, 7, 8, 9] rfl (by (repeat' split) <;> first | rfl | omega)
end M10
