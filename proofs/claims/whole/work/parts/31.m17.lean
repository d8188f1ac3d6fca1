section M17
theorem c_X6_ruleBy_no (l : Launch) (X : gX) (k : Int) (hb_k : inB k) (hrb : ltr k < 0) : gM l yX6_ruleBy wsX6_ruleBy (gr 0 0 0) X [] [.int (iI k)] (gQi X (Y := Unit) (fun _ => True) (fun _ => (-9)) (fun _ => [])) 0 0 := by
  have q := c_X6_ruleBy l X k hb_k
  simp only [if_pos hrb] at q
  exact q

theorem c_X6_ruleBy_ok (l : Launch) (X : gX) (k : Int) (hb_k : inB k) (hrb : ¬ ltr k < 0) : gM l yX6_ruleBy wsX6_ruleBy (gr 0 0 0) X [] [.int (iI k)] (gQi X (Y := Unit) (fun _ => True) (fun _ => (ltr k)) (fun _ => [])) 0 0 := by
  have q := c_X6_ruleBy l X k hb_k
  simp only [if_neg hrb] at q
  exact q

set_option maxRecDepth 20000 in
theorem kw_X6_readRules_1 : Cond.fieldLink RX6 108 "SkipStonesModel" "readMany" "I" ∈ wsX6_readRules := List.mem_of_getElem? (i := 2) rfl
set_option maxRecDepth 20000 in
theorem kw_X6_readRules_2 : Cond.fieldLink RX6 49 "SkipStonesModel" "sheet" "[I" ∈ wsX6_readRules := List.mem_of_getElem? (i := 3) rfl
set_option maxRecDepth 20000 in
theorem hd_S_X6_ruleBy_X6_readRules : yX6_ruleBy.cls ≠ "java/lang/invoke/MethodHandle" ∧ yX6_ruleBy.cls ≠ "java/lang/invoke/VarHandle" ∧ (parseMethodDescriptor yX6_ruleBy.desc).map (fun d => d.parameters.length) = some 1 := by decide +kernel
set_option maxRecDepth 20000 in
theorem kw_X6_readRules_0 : Cond.fieldLink RX6 28 "SkipStonesModel" "readRule" "[I" ∈ wsX6_readRules := List.mem_of_getElem? (i := 1) rfl
set_option maxRecDepth 20000 in
theorem kw_X6_readRules_3 : Cond.constantLong RX6 114 (48) ∈ wsX6_readRules := List.mem_of_getElem? (i := 4) rfl
set_option maxRecDepth 20000 in
theorem kw_X6_readRules_4 : Cond.constantLong RX6 116 (57) ∈ wsX6_readRules := List.mem_of_getElem? (i := 5) rfl
set_option maxRecDepth 20000 in
theorem hd_S_X6_in_X6_readRules : yX6_in.cls ≠ "java/lang/invoke/MethodHandle" ∧ yX6_in.cls ≠ "java/lang/invoke/VarHandle" ∧ (parseMethodDescriptor yX6_in.desc).map (fun d => d.parameters.length) = some 3 := by decide +kernel
set_option maxRecDepth 20000 in
theorem hd_S_X6_isRule_X6_readRules : yX6_isRule.cls ≠ "java/lang/invoke/MethodHandle" ∧ yX6_isRule.cls ≠ "java/lang/invoke/VarHandle" ∧ (parseMethodDescriptor yX6_isRule.desc).map (fun d => d.parameters.length) = some 2 := by decide +kernel
set_option maxRecDepth 20000 in
theorem hi_X6_readRules_6 : ∀ w ∈ wsX60, w ∈ wsX6_readRules := fun _ h => List.mem_cons_of_mem _ (List.mem_append_right _ h)
set_option maxHeartbeats 4000000 in
set_option maxRecDepth 100000 in
theorem c_X6_readRules (l : Launch) (X : gX) (h0 : Nat) (u2 : Nat) (u3 : Nat) (u4 : Nat) (u5 : Nat) (u6 : Nat) (u7 : Nat) (u8 : Nat) (u11 : Nat) (u14 : Nat) (u16 : Nat) (u20 : Nat) (u21 : Nat) (u22 : Nat) (u23 : Nat) (u24 : Nat) (ft : Int) (sc : Int) (rm : Int) (wc : Int) (sh : Int) (tq : Int) (cnt : Int) (gf : Int) (gs : Int) (rc : Int) (tc : Int) (Rr : Nat → Int) (Sh : Nat → Int) (f0 : Int) (m1 : Int) (hf0 : 0 ≤ f0 ∧ 0 ≤ m1 ∧ m1 ≤ 60 ∧ f0 + m1 ≤ 240) (hSh : ∀ i, inB (Sh i)) : gM l yX6_readRules wsX6_readRules (gr 2 0 0) X [(h0, .inr (6, [.int (iI ft), .int (iI sc), .ref u2, .ref u3, .ref u4, .ref u5, .ref u6, .ref u7, .ref u8, .int (iI rm), .int (iI wc), .ref u11, .int (iI sh), .int (iI tq), .ref u14, .int (iI cnt), .ref u16, .int (iI gf), .int (iI gs), .int (iI rc), .ref u20, .ref u21, .ref u22, .ref u23, .ref u24, .int (iI tc)])), (u8, .inl (X.2.1.1, 6, .inl (iF Rr))), (u23, .inl (X.2.1.1, 240, .inl (iF Sh)))] [.ref h0, .int (iI f0), .int (iI m1)] (gQi X (Y := Nat → Int) (fun y => (∀ j : Nat, j < 6 → vrR y (txV Sh f0 m1).2.2.1 (txV Sh f0 m1).2.2.2 j)) (fun y => (if (txV Sh f0 m1).1 < 0 then -9 else (txV Sh f0 m1).1)) (fun y => [(h0, .inr (6, [.int (iI ft), .int (iI sc), .ref u2, .ref u3, .ref u4, .ref u5, .ref u6, .ref u7, .ref u8, .int (iI ((txV Sh f0 m1).2.1)), .int (iI wc), .ref u11, .int (iI sh), .int (iI tq), .ref u14, .int (iI cnt), .ref u16, .int (iI gf), .int (iI gs), .int (iI rc), .ref u20, .ref u21, .ref u22, .ref u23, .ref u24, .int (iI tc)])), (u8, .inl (X.2.1.1, 6, .inl (iF y))), (u23, .inl (X.2.1.1, 240, .inl (iF Sh)))])) 0 0 := by
  refine g_start2 (lo := [(0, .ref h0), (1, .int (iI f0)), (2, .int (iI m1))]) (by decide +kernel) rfl rfl (Nat.le_of_ble_eq_true rfl) (fun p e s m args below meth c A C => ?_)
  refine r_iconst C dX6_readRules_0 ?_
  refine r_istore_n (lo2 := [(3, .int (iI 0)), (0, .ref h0), (1, .int (iI f0)), (2, .int (iI m1))]) C dX6_readRules_1 rfl (by decide) rfl ?_
  have L2 : ∀ (fu2 : Nat) (j1 : Int) (G : Nat → Int), (0 ≤ j1 ∧ j1 ≤ 6) → (G = fillI Rr j1 (-9)) → (6 - j1).toNat < fu2 → gW p l e (gr 2 0 0) s m args below meth c X A 8 (MQ below ((gQi X (Y := Nat → Int) (fun y => (∀ j : Nat, j < 6 → vrR y (txV Sh f0 m1).2.2.1 (txV Sh f0 m1).2.2.2 j)) (fun y => (if (txV Sh f0 m1).1 < 0 then -9 else (txV Sh f0 m1).1)) (fun y => [(h0, .inr (6, [.int (iI ft), .int (iI sc), .ref u2, .ref u3, .ref u4, .ref u5, .ref u6, .ref u7, .ref u8, .int (iI ((txV Sh f0 m1).2.1)), .int (iI wc), .ref u11, .int (iI sh), .int (iI tq), .ref u14, .int (iI cnt), .ref u16, .int (iI gf), .int (iI gs), .int (iI rc), .ref u20, .ref u21, .ref u22, .ref u23, .ref u24, .int (iI tc)])), (u8, .inl (X.2.1.1, 6, .inl (iF y))), (u23, .inl (X.2.1.1, 240, .inl (iF Sh)))])) A) args s 0 0 A) 0 0 [(h0, .inr (6, [.int (iI ft), .int (iI sc), .ref u2, .ref u3, .ref u4, .ref u5, .ref u6, .ref u7, .ref u8, .int (iI rm), .int (iI wc), .ref u11, .int (iI sh), .int (iI tq), .ref u14, .int (iI cnt), .ref u16, .int (iI gf), .int (iI gs), .int (iI rc), .ref u20, .ref u21, .ref u22, .ref u23, .ref u24, .int (iI tc)])), (u8, .inl (X.2.1.1, 6, .inl (iF G))), (u23, .inl (X.2.1.1, 240, .inl (iF Sh)))] 2 [(0, .ref h0), (1, .int (iI f0)), (2, .int (iI m1)), (3, .int (iI j1))] [] := by
    intro fu2
    induction fu2 with
    | zero => intro j1 G ij iG hm2; exact absurd hm2 (Nat.not_lt_zero _)
    | succ fu2 ih2 =>
      intro j1 G ij iG hm2
      refine r_iload_n C dX6_readRules_2 3 rfl ?_
      refine r_bipush C dX6_readRules_3 (by decide) ?_
      refine r_icmp_ge (tgt := 22) C dX6_readRules_5 (by decide) (by omega) (by decide) (fun h_1 => ?_) (fun h_1 => ?_)
      · skip
        refine r_aload_n C dX6_readRules_22 0 rfl ?_
        refine r_iconst C dX6_readRules_23 ?_
        refine pf_6_9 (ws2 := [(h0, .inr (6, [.int (iI ft), .int (iI sc), .ref u2, .ref u3, .ref u4, .ref u5, .ref u6, .ref u7, .ref u8, .int (iI 0), .int (iI wc), .ref u11, .int (iI sh), .int (iI tq), .ref u14, .int (iI cnt), .ref u16, .int (iI gf), .int (iI gs), .int (iI rc), .ref u20, .ref u21, .ref u22, .ref u23, .ref u24, .int (iI tc)])), (u8, .inl (X.2.1.1, 6, .inl (iF G))), (u23, .inl (X.2.1.1, 240, .inl (iF Sh)))]) C hi_X6_readRules_6 kw_X6_readRules_1 dX6_readRules_24 0 rfl rfl rfl (Nat.le_of_ble_eq_true rfl) rfl ?_
        refine r_iconst C dX6_readRules_27 ?_
        refine r_istore_n (lo2 := [(3, .int (iI 0)), (0, .ref h0), (1, .int (iI f0)), (2, .int (iI m1))]) C dX6_readRules_28 rfl (by decide) rfl ?_
        refine r_iconst C dX6_readRules_29 ?_
        refine r_istore (lo2 := [(4, .int (iI 1)), (3, .int (iI 0)), (0, .ref h0), (1, .int (iI f0)), (2, .int (iI m1))]) C dX6_readRules_30 (by decide) rfl ?_
        have L32 : ∀ (fu32 : Nat) (ap : Int) (it : Int) (V : Nat → Int) (Nq : Nat → Int) (Tq : Nat → Int), (0 ≤ ap ∧ ap ≤ 4 * it) → (0 ≤ it ∧ it < 6) → (∀ j : Nat, j < 6 → vrR V Nq Tq j) → ((txV Sh f0 m1) = prs (lcd Sh f0 m1) m1 (6 - it).toNat ap it Nq Tq) → (6 - it).toNat < fu32 → gW p l e (gr 2 0 0) s m args below meth c X A 8 (MQ below ((gQi X (Y := Nat → Int) (fun y => (∀ j : Nat, j < 6 → vrR y (txV Sh f0 m1).2.2.1 (txV Sh f0 m1).2.2.2 j)) (fun y => (if (txV Sh f0 m1).1 < 0 then -9 else (txV Sh f0 m1).1)) (fun y => [(h0, .inr (6, [.int (iI ft), .int (iI sc), .ref u2, .ref u3, .ref u4, .ref u5, .ref u6, .ref u7, .ref u8, .int (iI ((txV Sh f0 m1).2.1)), .int (iI wc), .ref u11, .int (iI sh), .int (iI tq), .ref u14, .int (iI cnt), .ref u16, .int (iI gf), .int (iI gs), .int (iI rc), .ref u20, .ref u21, .ref u22, .ref u23, .ref u24, .int (iI tc)])), (u8, .inl (X.2.1.1, 6, .inl (iF y))), (u23, .inl (X.2.1.1, 240, .inl (iF Sh)))])) A) args s 0 0 A) 0 0 [(h0, .inr (6, [.int (iI ft), .int (iI sc), .ref u2, .ref u3, .ref u4, .ref u5, .ref u6, .ref u7, .ref u8, .int (iI it), .int (iI wc), .ref u11, .int (iI sh), .int (iI tq), .ref u14, .int (iI cnt), .ref u16, .int (iI gf), .int (iI gs), .int (iI rc), .ref u20, .ref u21, .ref u22, .ref u23, .ref u24, .int (iI tc)])), (u8, .inl (X.2.1.1, 6, .inl (iF V))), (u23, .inl (X.2.1.1, 240, .inl (iF Sh)))] 32 [(4, .int (iI 1)), (0, .ref h0), (1, .int (iI f0)), (2, .int (iI m1)), (3, .int (iI ap))] [] := by
          intro fu32
          induction fu32 with
          | zero => intro ap it V Nq Tq ia ii hV iL hm32; exact absurd hm32 (Nat.not_lt_zero _)
          | succ fu32 ih32 =>
            intro ap it V Nq Tq ia ii hV iL hm32
            refine r_iload C dX6_readRules_32 0 rfl ?_
            refine r_if_eq (tgt := 240) C dX6_readRules_34 (by decide) (by decide) (fun h_2 => absurd h_2 (by decide)) (fun h_2 => ?_)
            refine r_iload_n C dX6_readRules_37 4 rfl ?_
            refine r_iload_n C dX6_readRules_38 3 rfl ?_
            refine r_icmp_ge (tgt := 56) C dX6_readRules_39 (by decide) (by omega) (by omega) (fun h_3 => ?_) (fun h_3 => ?_)
            · skip
              have c0 : (lcd Sh f0 m1 ap) = -1 := if_neg (by omega)
              have lt0 : ltr (lcd Sh f0 m1 ap) = -1 := by rw [c0]; rfl
              refine r_bipush C dX6_readRules_56 (by decide) ?_
              refine r_istore (lo2 := [(5, .int (iI (-9))), (4, .int (iI 1)), (0, .ref h0), (1, .int (iI f0)), (2, .int (iI m1)), (3, .int (iI ap))]) C dX6_readRules_58 (by decide) rfl ?_
              refine r_iload C dX6_readRules_60 0 rfl ?_
              refine r_if_lt (tgt := 75) C dX6_readRules_62 (by decide) (by decide) (fun h_4 => ?_) (fun h_4 => absurd h_4 (by decide))
              have K0 : itm (lcd Sh f0 m1) ap Nq Tq = (0, ap, Nq, Tq) := itm_c1 (by first | exact Or.inl (by omega) | exact Or.inr (by omega))
              have hX : (txV Sh f0 m1) = (ap, it, Nq, Tq) := by rw [iL, prs_f (by omega) (by rw [K0]), K0]
              refine r_iload_n C dX6_readRules_75 5 rfl ?_
              exact g_ret_i C rfl dX6_readRules_76 V (by rw [hX]; first | exact hV2 | exact hV) (by rw [hX]; dsimp only; first | (rw [if_pos (by omega)]; done) | (rw [if_neg (by omega)]; done)) [0, 1, 2] rfl (by rw [hX] <;> rfl)
            · skip
              have lb0 := lcd_B hSh f0 m1 ap
              have lt0 := ltr_B (lcd Sh f0 m1 ap)
              refine r_aload_n C dX6_readRules_42 1 rfl ?_
              refine gf_6_23 C hi_X6_readRules_6 kw_X6_readRules_2 dX6_readRules_43 0 rfl rfl ?_
              refine r_iload_n C dX6_readRules_46 2 rfl ?_
              refine r_iload_n C dX6_readRules_47 4 rfl ?_
              refine r_iadd C dX6_readRules_48 ?_
              refine r_iald C dX6_readRules_49 2 rfl (by omega) (by decide) ?_
              refine r_topi (z := (lcd Sh f0 m1 ap)) (by unfold lcd; rw [if_pos (by omega)]) ?_
              by_cases k_5 : ltr (lcd Sh f0 m1 ap) < 0
              · skip
                refine g_S_i (ws2 := (fun _ => [(h0, .inr (6, [.int (iI ft), .int (iI sc), .ref u2, .ref u3, .ref u4, .ref u5, .ref u6, .ref u7, .ref u8, .int (iI it), .int (iI wc), .ref u11, .int (iI sh), .int (iI tq), .ref u14, .int (iI cnt), .ref u16, .int (iI gf), .int (iI gs), .int (iI rc), .ref u20, .ref u21, .ref u22, .ref u23, .ref u24, .int (iI tc)])), (u8, .inl (X.2.1.1, 6, .inl (iF V))), (u23, .inl (X.2.1.1, 240, .inl (iF Sh)))])) (As := [.int (iI (lcd Sh f0 m1 ap))]) C (c_X6_ruleBy_no l X (lcd Sh f0 m1 ap) (by first | assumption | omega) (by first | assumption | omega)) gX6_readRules_X6_ruleBy rfl rfl rfl hd_S_X6_ruleBy_X6_readRules (by decide) dX6_readRules_50 [] [0, 1, 2] [0, 1, 2] rfl rfl rfl rfl (by decide) rfl rfl rfl (Nat.le_of_ble_eq_true rfl) (by decide) (fun _ => rfl) (fun _ hy_ => ?_)
                clear hy_
                refine r_goto (tgt := 58) C dX6_readRules_53 (by decide) ?_
                refine r_istore (lo2 := [(5, .int (iI (-9))), (4, .int (iI 1)), (0, .ref h0), (1, .int (iI f0)), (2, .int (iI m1)), (3, .int (iI ap))]) C dX6_readRules_58 (by decide) rfl ?_
                refine r_iload C dX6_readRules_60 0 rfl ?_
                refine r_if_lt (tgt := 75) C dX6_readRules_62 (by decide) (by omega) (fun h_6 => ?_) (fun h_6 => absurd h_6 (by omega))
                have K0 : itm (lcd Sh f0 m1) ap Nq Tq = (0, ap, Nq, Tq) := itm_c1 (by first | exact Or.inl (by omega) | exact Or.inr (by omega))
                have hX : (txV Sh f0 m1) = (ap, it, Nq, Tq) := by rw [iL, prs_f (by omega) (by rw [K0]), K0]
                refine r_iload_n C dX6_readRules_75 5 rfl ?_
                exact g_ret_i C rfl dX6_readRules_76 V (by rw [hX]; first | exact hV2 | exact hV) (by rw [hX]; dsimp only; first | (rw [if_pos (by omega)]; done) | (rw [if_neg (by omega)]; done)) [0, 1, 2] rfl (by rw [hX] <;> rfl)
              refine g_S_i (ws2 := (fun _ => [(h0, .inr (6, [.int (iI ft), .int (iI sc), .ref u2, .ref u3, .ref u4, .ref u5, .ref u6, .ref u7, .ref u8, .int (iI it), .int (iI wc), .ref u11, .int (iI sh), .int (iI tq), .ref u14, .int (iI cnt), .ref u16, .int (iI gf), .int (iI gs), .int (iI rc), .ref u20, .ref u21, .ref u22, .ref u23, .ref u24, .int (iI tc)])), (u8, .inl (X.2.1.1, 6, .inl (iF V))), (u23, .inl (X.2.1.1, 240, .inl (iF Sh)))])) (As := [.int (iI (lcd Sh f0 m1 ap))]) C (c_X6_ruleBy_ok l X (lcd Sh f0 m1 ap) (by first | assumption | omega) (by first | assumption | omega)) gX6_readRules_X6_ruleBy rfl rfl rfl hd_S_X6_ruleBy_X6_readRules (by decide) dX6_readRules_50 [] [0, 1, 2] [0, 1, 2] rfl rfl rfl rfl (by decide) rfl rfl rfl (Nat.le_of_ble_eq_true rfl) (by decide) (fun _ => rfl) (fun _ hy_ => ?_)
              clear hy_
              refine r_goto (tgt := 58) C dX6_readRules_53 (by decide) ?_
              refine r_istore (lo2 := [(5, .int (iI (ltr (lcd Sh f0 m1 ap)))), (4, .int (iI 1)), (0, .ref h0), (1, .int (iI f0)), (2, .int (iI m1)), (3, .int (iI ap))]) C dX6_readRules_58 (by decide) rfl ?_
              refine r_iload C dX6_readRules_60 0 rfl ?_
              refine r_if_lt (tgt := 75) C dX6_readRules_62 (by decide) (by omega) (fun h_7 => absurd h_7 (by omega)) (fun h_7 => ?_)
              have hv := hV (Int.toNat (ltr (lcd Sh f0 m1 ap))) (by omega)
              simp only [vrR] at hv
              refine r_aload_n C dX6_readRules_65 2 rfl ?_
              refine gf_6_8 C hi_X6_readRules_6 kw_X6_readRules_0 dX6_readRules_66 0 rfl rfl ?_
              refine r_iload C dX6_readRules_69 0 rfl ?_
              refine r_iald C dX6_readRules_71 1 rfl (by omega) (by decide) ?_
              refine r_if_lt (tgt := 77) C dX6_readRules_72 (by decide) (by omega) (fun h_8 => ?_) (fun h_8 => ?_)
              · skip
                have K1 : ¬ (ltr (lcd Sh f0 m1 ap) < 0 ∨ ¬ Tq (Int.toNat (ltr (lcd Sh f0 m1 ap))) = 0) := by omega
                have g1 := dig_c (lcd Sh f0 m1 (ap + 1))
                have g2 := dig_c (lcd Sh f0 m1 (ap + 1 + 1))
                have ne1 : ¬ ap + 1 < m1 → (lcd Sh f0 m1 (ap + 1)) = -1 := fun h => if_neg (by omega)
                have ne2 : ¬ ap + 1 + 1 < m1 → (lcd Sh f0 m1 (ap + 1 + 1)) = -1 := fun h => if_neg (by omega)
                have ht : (tld (dig (lcd Sh f0 m1 (ap + 1))) (dig (lcd Sh f0 m1 (ap + 1 + 1)))) = (dig (lcd Sh f0 m1 (ap + 1))) ∨ (tld (dig (lcd Sh f0 m1 (ap + 1))) (dig (lcd Sh f0 m1 (ap + 1 + 1)))) = 10 * (dig (lcd Sh f0 m1 (ap + 1))) + (dig (lcd Sh f0 m1 (ap + 1 + 1))) := by unfold tld; split <;> omega
                have lb1 := lcd_B hSh f0 m1 (ap + 1)
                have lb2 := lcd_B hSh f0 m1 (ap + 1 + 1)
                refine r_iinc (lo2 := [(3, .int (iI (ap + 1))), (5, .int (iI (ltr (lcd Sh f0 m1 ap)))), (4, .int (iI 1)), (0, .ref h0), (1, .int (iI f0)), (2, .int (iI m1))]) C dX6_readRules_77 5 rfl (by decide) rfl ?_
                refine r_iload_n C dX6_readRules_80 0 rfl ?_
                refine r_istore (lo2 := [(6, .int (iI (ap + 1))), (3, .int (iI (ap + 1))), (5, .int (iI (ltr (lcd Sh f0 m1 ap)))), (4, .int (iI 1)), (0, .ref h0), (1, .int (iI f0)), (2, .int (iI m1))]) C dX6_readRules_81 (by decide) rfl ?_
                refine r_iconst C dX6_readRules_83 ?_
                refine r_istore (lo2 := [(7, .int (iI 0)), (6, .int (iI (ap + 1))), (3, .int (iI (ap + 1))), (5, .int (iI (ltr (lcd Sh f0 m1 ap)))), (4, .int (iI 1)), (0, .ref h0), (1, .int (iI f0)), (2, .int (iI m1))]) C dX6_readRules_84 (by decide) rfl ?_
                refine r_iload_n C dX6_readRules_86 2 rfl ?_
                refine r_iload_n C dX6_readRules_87 7 rfl ?_
                refine r_icmp_ge (tgt := 145) C dX6_readRules_88 (by decide) (by omega) (by omega) (fun h_9 => ?_) (fun h_9 => ?_)
                · skip
                  refine r_iload_n C dX6_readRules_145 2 rfl ?_
                  refine r_iload C dX6_readRules_146 1 rfl ?_
                  refine r_icmp_eq (tgt := 161) C dX6_readRules_148 (by decide) (by omega) (by omega) (fun h_10 => ?_) (fun h_10 => absurd h_10 (by omega))
                  have hX : (txV Sh f0 m1) = (ap + 1, it, Nq, Tq) := by first | (rw [iL, prs_f (by omega) (by rw [itm_c2 K1 (by omega)]), itm_c2 K1 (by omega)]; done) | (rw [iL, prs_f (by omega) (by rw [itm_c3 K1 (by omega) KR]), itm_c3 K1 (by omega) KR]; done)
                  refine r_iload C dX6_readRules_161 1 rfl ?_
                  exact g_ret_i C rfl dX6_readRules_163 V (by rw [hX]; first | exact hV2 | exact hV) (by rw [hX]; dsimp only; first | (rw [if_pos (by omega)]; done) | (rw [if_neg (by omega)]; done)) [0, 1, 2] rfl (by rw [hX] <;> rfl)
                · skip
                  refine r_iload_n C dX6_readRules_91 2 rfl ?_
                  refine r_iload C dX6_readRules_92 1 rfl ?_
                  refine r_iconst C dX6_readRules_94 ?_
                  refine r_iadd C dX6_readRules_95 ?_
                  refine r_icmp_ge (tgt := 145) C dX6_readRules_96 (by decide) (by omega) (by omega) (fun h_11 => absurd h_11 (by omega)) (fun h_11 => ?_)
                  refine r_aload_n C dX6_readRules_99 5 rfl ?_
                  refine gf_6_23 C hi_X6_readRules_6 kw_X6_readRules_2 dX6_readRules_100 0 rfl rfl ?_
                  refine r_iload_n C dX6_readRules_103 6 rfl ?_
                  refine r_iload_n C dX6_readRules_104 2 rfl ?_
                  refine r_iadd C dX6_readRules_105 ?_
                  refine r_iald C dX6_readRules_106 2 rfl (by omega) (by decide) ?_
                  refine r_topi (z := (lcd Sh f0 m1 (ap + 1))) (by unfold lcd; rw [if_pos (by omega)]) ?_
                  refine r_i2l C dX6_readRules_107 (by omega) ?_
                  refine r_ldc2 (z := 48) C dX6_readRules_108 kw_X6_readRules_3 rfl ?_
                  refine r_ldc2 (z := 57) C dX6_readRules_111 kw_X6_readRules_4 rfl ?_
                  refine g_S_i (ws2 := (fun _ => [(h0, .inr (6, [.int (iI ft), .int (iI sc), .ref u2, .ref u3, .ref u4, .ref u5, .ref u6, .ref u7, .ref u8, .int (iI it), .int (iI wc), .ref u11, .int (iI sh), .int (iI tq), .ref u14, .int (iI cnt), .ref u16, .int (iI gf), .int (iI gs), .int (iI rc), .ref u20, .ref u21, .ref u22, .ref u23, .ref u24, .int (iI tc)])), (u8, .inl (X.2.1.1, 6, .inl (iF V))), (u23, .inl (X.2.1.1, 240, .inl (iF Sh)))])) (As := [.long (lI (lcd Sh f0 m1 (ap + 1))), .long (lI 48), .long (lI 57)]) C (c_X6_in l X (lcd Sh f0 m1 (ap + 1)) 48 57 (by first | assumption | omega) (by first | assumption | omega) (by first | assumption | omega)) gX6_readRules_X6_in rfl rfl rfl hd_S_X6_in_X6_readRules (by decide) dX6_readRules_114 [] [0, 1, 2] [0, 1, 2] rfl rfl rfl rfl (by decide) rfl rfl rfl (Nat.le_of_ble_eq_true rfl) (by decide) (fun _ => rfl) (fun _ hy_ => ?_)
                  clear hy_
                  refine r_ite (fun h_12 => ?_) (fun h_12 => ?_)
                  · skip
                    refine r_if_eq (tgt := 145) C dX6_readRules_117 (by decide) (by decide) (fun h_13 => absurd h_13 (by decide)) (fun h_13 => ?_)
                    refine r_bipush C dX6_readRules_120 (by decide) ?_
                    refine r_iload C dX6_readRules_122 0 rfl ?_
                    refine r_imul C dX6_readRules_124 ?_
                    refine r_aload_n C dX6_readRules_125 5 rfl ?_
                    refine gf_6_23 C hi_X6_readRules_6 kw_X6_readRules_2 dX6_readRules_126 0 rfl rfl ?_
                    refine r_iload_n C dX6_readRules_129 6 rfl ?_
                    refine r_iload_n C dX6_readRules_130 2 rfl ?_
                    refine r_iadd C dX6_readRules_131 ?_
                    refine r_iald C dX6_readRules_132 2 rfl (by omega) (by decide) ?_
                    refine r_topi (z := (lcd Sh f0 m1 (ap + 1))) (by unfold lcd; rw [if_pos (by omega)]) ?_
                    refine r_iadd C dX6_readRules_133 ?_
                    refine r_bipush C dX6_readRules_134 (by decide) ?_
                    refine r_isub C dX6_readRules_136 ?_
                    refine r_topi (z := (dig (lcd Sh f0 m1 (ap + 1)))) (by omega) ?_
                    refine r_istore (lo2 := [(7, .int (iI (dig (lcd Sh f0 m1 (ap + 1))))), (6, .int (iI (ap + 1))), (3, .int (iI (ap + 1))), (5, .int (iI (ltr (lcd Sh f0 m1 ap)))), (4, .int (iI 1)), (0, .ref h0), (1, .int (iI f0)), (2, .int (iI m1))]) C dX6_readRules_137 (by decide) rfl ?_
                    refine r_iinc (lo2 := [(3, .int (iI ((ap + 1) + 1))), (7, .int (iI (dig (lcd Sh f0 m1 (ap + 1))))), (6, .int (iI (ap + 1))), (5, .int (iI (ltr (lcd Sh f0 m1 ap)))), (4, .int (iI 1)), (0, .ref h0), (1, .int (iI f0)), (2, .int (iI m1))]) C dX6_readRules_139 2 rfl (by decide) rfl ?_
                    refine r_goto (tgt := 86) C dX6_readRules_142 (by decide) ?_
                    refine r_iload_n C dX6_readRules_86 0 rfl ?_
                    refine r_iload_n C dX6_readRules_87 7 rfl ?_
                    refine r_icmp_ge (tgt := 145) C dX6_readRules_88 (by decide) (by omega) (by omega) (fun h_14 => ?_) (fun h_14 => ?_)
                    · skip
                      refine r_iload_n C dX6_readRules_145 0 rfl ?_
                      refine r_iload C dX6_readRules_146 2 rfl ?_
                      refine r_icmp_eq (tgt := 161) C dX6_readRules_148 (by decide) (by omega) (by omega) (fun h_15 => absurd h_15 (by omega)) (fun h_15 => ?_)
                      refine r_iload C dX6_readRules_151 3 rfl ?_
                      refine r_iload C dX6_readRules_153 1 rfl ?_
                      refine r_topi (z := (tld (dig (lcd Sh f0 m1 (ap + 1))) (dig (lcd Sh f0 m1 (ap + 1 + 1))))) (by unfold tld; rw [if_pos (by omega)]) ?_
                      refine g_S_i (ws2 := (fun _ => [(h0, .inr (6, [.int (iI ft), .int (iI sc), .ref u2, .ref u3, .ref u4, .ref u5, .ref u6, .ref u7, .ref u8, .int (iI it), .int (iI wc), .ref u11, .int (iI sh), .int (iI tq), .ref u14, .int (iI cnt), .ref u16, .int (iI gf), .int (iI gs), .int (iI rc), .ref u20, .ref u21, .ref u22, .ref u23, .ref u24, .int (iI tc)])), (u8, .inl (X.2.1.1, 6, .inl (iF V))), (u23, .inl (X.2.1.1, 240, .inl (iF Sh)))])) (As := [.int (iI (ltr (lcd Sh f0 m1 ap))), .int (iI (tld (dig (lcd Sh f0 m1 (ap + 1))) (dig (lcd Sh f0 m1 ((ap + 1) + 1)))))]) C (c_X6_isRule l X (ltr (lcd Sh f0 m1 ap)) (tld (dig (lcd Sh f0 m1 (ap + 1))) (dig (lcd Sh f0 m1 ((ap + 1) + 1)))) (by first | assumption | omega) (by first | assumption | omega)) gX6_readRules_X6_isRule rfl rfl rfl hd_S_X6_isRule_X6_readRules (by decide) dX6_readRules_155 [] [0, 1, 2] [0, 1, 2] rfl rfl rfl rfl (by decide) rfl rfl rfl (Nat.le_of_ble_eq_true rfl) (by decide) (fun _ => rfl) (fun _ hy_ => ?_)
                      clear hy_
                      refine r_ite (fun KR => ?_) (fun KR => ?_)
                      · skip
                        refine r_if_ne (tgt := 164) C dX6_readRules_158 (by decide) (by decide) (fun h_16 => ?_) (fun h_16 => absurd h_16 (by decide))
                        refine r_aload_n C dX6_readRules_164 5 rfl ?_
                        refine gf_6_8 C hi_X6_readRules_6 kw_X6_readRules_0 dX6_readRules_165 0 rfl rfl ?_
                        refine r_iload C dX6_readRules_168 3 rfl ?_
                        refine r_iload C dX6_readRules_170 1 rfl ?_
                        refine r_iast (ws2 := [(h0, .inr (6, [.int (iI ft), .int (iI sc), .ref u2, .ref u3, .ref u4, .ref u5, .ref u6, .ref u7, .ref u8, .int (iI it), .int (iI wc), .ref u11, .int (iI sh), .int (iI tq), .ref u14, .int (iI cnt), .ref u16, .int (iI gf), .int (iI gs), .int (iI rc), .ref u20, .ref u21, .ref u22, .ref u23, .ref u24, .int (iI tc)])), (u8, .inl (X.2.1.1, 6, .inl (iF (updI V (Int.toNat (ltr (lcd Sh f0 m1 ap))) (dig (lcd Sh f0 m1 (ap + 1))))))), (u23, .inl (X.2.1.1, 240, .inl (iF Sh)))]) C dX6_readRules_172 1 rfl (by omega) (by decide) rfl ?_
                        have hV2 := vr_go (V := V) (N := Nq) (T := Tq) (A := Int.toNat (ltr (lcd Sh f0 m1 ap))) (v := (dig (lcd Sh f0 m1 (ap + 1)))) (w := (tld (dig (lcd Sh f0 m1 (ap + 1))) (dig (lcd Sh f0 m1 (ap + 1 + 1))))) (by first | rfl | (unfold tld; rw [if_pos (by omega)])) (by omega) (by omega) hV
                        refine r_aload_n C dX6_readRules_173 5 rfl ?_
                        refine r_dup C dX6_readRules_174 rfl ?_
                        refine gf_6_9 C hi_X6_readRules_6 kw_X6_readRules_1 dX6_readRules_175 0 rfl rfl ?_
                        refine r_iconst C dX6_readRules_178 ?_
                        refine r_iadd C dX6_readRules_179 ?_
                        refine pf_6_9 (ws2 := [(h0, .inr (6, [.int (iI ft), .int (iI sc), .ref u2, .ref u3, .ref u4, .ref u5, .ref u6, .ref u7, .ref u8, .int (iI (it + 1)), .int (iI wc), .ref u11, .int (iI sh), .int (iI tq), .ref u14, .int (iI cnt), .ref u16, .int (iI gf), .int (iI gs), .int (iI rc), .ref u20, .ref u21, .ref u22, .ref u23, .ref u24, .int (iI tc)])), (u8, .inl (X.2.1.1, 6, .inl (iF (updI V (Int.toNat (ltr (lcd Sh f0 m1 ap))) (dig (lcd Sh f0 m1 (ap + 1))))))), (u23, .inl (X.2.1.1, 240, .inl (iF Sh)))]) C hi_X6_readRules_6 kw_X6_readRules_1 dX6_readRules_180 0 rfl rfl rfl (Nat.le_of_ble_eq_true rfl) rfl ?_
                        have I4 : itm (lcd Sh f0 m1) ap Nq Tq = (1, (ap + 1) + 1, (updI Nq (Int.toNat (ltr (lcd Sh f0 m1 ap))) (tld (dig (lcd Sh f0 m1 (ap + 1))) (dig (lcd Sh f0 m1 (ap + 1 + 1))))), (updI Tq (Int.toNat (ltr (lcd Sh f0 m1 ap))) (Tq (Int.toNat (ltr (lcd Sh f0 m1 ap))) + 1))) := by rw [itm_c4 K1 (by omega) KR]; first | (rw [if_pos (by omega)]; done) | (rw [if_neg (by omega), show ap + 1 + 2 = (ap + 1) + 1 by omega]; done)
                        refine r_iload_n C dX6_readRules_183 0 rfl ?_
                        refine r_iload_n C dX6_readRules_184 7 rfl ?_
                        refine r_icmp_ge (tgt := 192) C dX6_readRules_185 (by decide) (by omega) (by omega) (fun h_17 => ?_) (fun h_17 => absurd h_17 (by omega))
                        refine r_iconst C dX6_readRules_192 ?_
                        refine r_istore (lo2 := [(4, .int (iI 0)), (3, .int (iI ((ap + 1) + 1))), (7, .int (iI (dig (lcd Sh f0 m1 (ap + 1))))), (6, .int (iI (ap + 1))), (5, .int (iI (ltr (lcd Sh f0 m1 ap)))), (0, .ref h0), (1, .int (iI f0)), (2, .int (iI m1))]) C dX6_readRules_193 (by decide) rfl ?_
                        refine r_iload C dX6_readRules_195 0 rfl ?_
                        refine r_if_eq (tgt := 224) C dX6_readRules_197 (by decide) (by decide) (fun h_18 => ?_) (fun h_18 => absurd h_18 (by decide))
                        refine r_iload_n C dX6_readRules_224 1 rfl ?_
                        refine r_iload C dX6_readRules_225 0 rfl ?_
                        refine r_if_eq (tgt := 234) C dX6_readRules_227 (by decide) (by decide) (fun h_19 => ?_) (fun h_19 => absurd h_19 (by decide))
                        refine r_iconst C dX6_readRules_234 ?_
                        refine r_iadd C dX6_readRules_235 ?_
                        refine r_istore_n (lo2 := [(3, .int (iI (((ap + 1) + 1) + 0))), (4, .int (iI 0)), (7, .int (iI (dig (lcd Sh f0 m1 (ap + 1))))), (6, .int (iI (ap + 1))), (5, .int (iI (ltr (lcd Sh f0 m1 ap)))), (0, .ref h0), (1, .int (iI f0)), (2, .int (iI m1))]) C dX6_readRules_236 rfl (by decide) rfl ?_
                        refine r_goto (tgt := 32) C dX6_readRules_237 (by decide) ?_
                        refine r_iload C dX6_readRules_32 1 rfl ?_
                        refine r_if_eq (tgt := 240) C dX6_readRules_34 (by decide) (by decide) (fun h_20 => ?_) (fun h_20 => absurd h_20 (by decide))
                        have hX : (txV Sh f0 m1) = (-1, it + 1, (updI Nq (Int.toNat (ltr (lcd Sh f0 m1 ap))) (tld (dig (lcd Sh f0 m1 (ap + 1))) (dig (lcd Sh f0 m1 (ap + 1 + 1))))), (updI Tq (Int.toNat (ltr (lcd Sh f0 m1 ap))) (Tq (Int.toNat (ltr (lcd Sh f0 m1 ap))) + 1))) := by rw [iL, prs_e (by omega) (by rw [I4]; exact (by decide : ¬ (1 : Int) = 0)) (by rw [I4]; dsimp only; omega), I4]
                        refine r_bipush C dX6_readRules_240 (by decide) ?_
                        exact g_ret_i C rfl dX6_readRules_242 (updI V (Int.toNat (ltr (lcd Sh f0 m1 ap))) (dig (lcd Sh f0 m1 (ap + 1)))) (by rw [hX]; first | exact hV2 | exact hV) (by rw [hX]; dsimp only; first | (rw [if_pos (by omega)]; done) | (rw [if_neg (by omega)]; done)) [0, 1, 2] rfl (by rw [hX] <;> rfl)
                      · skip
                        refine r_if_ne (tgt := 164) C dX6_readRules_158 (by decide) (by decide) (fun h_21 => absurd h_21 (by decide)) (fun h_21 => ?_)
                        have hX : (txV Sh f0 m1) = (ap + 1, it, Nq, Tq) := by first | (rw [iL, prs_f (by omega) (by rw [itm_c2 K1 (by omega)]), itm_c2 K1 (by omega)]; done) | (rw [iL, prs_f (by omega) (by rw [itm_c3 K1 (by omega) KR]), itm_c3 K1 (by omega) KR]; done)
                        refine r_iload C dX6_readRules_161 2 rfl ?_
                        exact g_ret_i C rfl dX6_readRules_163 V (by rw [hX]; first | exact hV2 | exact hV) (by rw [hX]; dsimp only; first | (rw [if_pos (by omega)]; done) | (rw [if_neg (by omega)]; done)) [0, 1, 2] rfl (by rw [hX] <;> rfl)
                    · skip
                      refine r_iload_n C dX6_readRules_91 0 rfl ?_
                      refine r_iload C dX6_readRules_92 2 rfl ?_
                      refine r_iconst C dX6_readRules_94 ?_
                      refine r_iadd C dX6_readRules_95 ?_
                      refine r_icmp_ge (tgt := 145) C dX6_readRules_96 (by decide) (by omega) (by omega) (fun h_22 => absurd h_22 (by omega)) (fun h_22 => ?_)
                      refine r_aload_n C dX6_readRules_99 5 rfl ?_
                      refine gf_6_23 C hi_X6_readRules_6 kw_X6_readRules_2 dX6_readRules_100 0 rfl rfl ?_
                      refine r_iload_n C dX6_readRules_103 6 rfl ?_
                      refine r_iload_n C dX6_readRules_104 0 rfl ?_
                      refine r_iadd C dX6_readRules_105 ?_
                      refine r_iald C dX6_readRules_106 2 rfl (by omega) (by decide) ?_
                      refine r_topi (z := (lcd Sh f0 m1 ((ap + 1) + 1))) (by unfold lcd; rw [if_pos (by omega)]) ?_
                      refine r_i2l C dX6_readRules_107 (by omega) ?_
                      refine r_ldc2 (z := 48) C dX6_readRules_108 kw_X6_readRules_3 rfl ?_
                      refine r_ldc2 (z := 57) C dX6_readRules_111 kw_X6_readRules_4 rfl ?_
                      refine g_S_i (ws2 := (fun _ => [(h0, .inr (6, [.int (iI ft), .int (iI sc), .ref u2, .ref u3, .ref u4, .ref u5, .ref u6, .ref u7, .ref u8, .int (iI it), .int (iI wc), .ref u11, .int (iI sh), .int (iI tq), .ref u14, .int (iI cnt), .ref u16, .int (iI gf), .int (iI gs), .int (iI rc), .ref u20, .ref u21, .ref u22, .ref u23, .ref u24, .int (iI tc)])), (u8, .inl (X.2.1.1, 6, .inl (iF V))), (u23, .inl (X.2.1.1, 240, .inl (iF Sh)))])) (As := [.long (lI (lcd Sh f0 m1 ((ap + 1) + 1))), .long (lI 48), .long (lI 57)]) C (c_X6_in l X (lcd Sh f0 m1 ((ap + 1) + 1)) 48 57 (by first | assumption | omega) (by first | assumption | omega) (by first | assumption | omega)) gX6_readRules_X6_in rfl rfl rfl hd_S_X6_in_X6_readRules (by decide) dX6_readRules_114 [] [0, 1, 2] [0, 1, 2] rfl rfl rfl rfl (by decide) rfl rfl rfl (Nat.le_of_ble_eq_true rfl) (by decide) (fun _ => rfl) (fun _ hy_ => ?_)
                      clear hy_
                      refine r_ite (fun h_23 => ?_) (fun h_23 => ?_)
                      · skip
                        refine r_if_eq (tgt := 145) C dX6_readRules_117 (by decide) (by decide) (fun h_24 => absurd h_24 (by decide)) (fun h_24 => ?_)
                        refine r_bipush C dX6_readRules_120 (by decide) ?_
                        refine r_iload C dX6_readRules_122 1 rfl ?_
                        refine r_imul C dX6_readRules_124 ?_
                        refine r_aload_n C dX6_readRules_125 5 rfl ?_
                        refine gf_6_23 C hi_X6_readRules_6 kw_X6_readRules_2 dX6_readRules_126 0 rfl rfl ?_
                        refine r_iload_n C dX6_readRules_129 6 rfl ?_
                        refine r_iload_n C dX6_readRules_130 0 rfl ?_
                        refine r_iadd C dX6_readRules_131 ?_
                        refine r_iald C dX6_readRules_132 2 rfl (by omega) (by decide) ?_
                        refine r_topi (z := (lcd Sh f0 m1 ((ap + 1) + 1))) (by unfold lcd; rw [if_pos (by omega)]) ?_
                        refine r_iadd C dX6_readRules_133 ?_
                        refine r_bipush C dX6_readRules_134 (by decide) ?_
                        refine r_isub C dX6_readRules_136 ?_
                        refine r_topi (z := (tld (dig (lcd Sh f0 m1 (ap + 1))) (dig (lcd Sh f0 m1 (ap + 1 + 1))))) (by unfold tld; rw [if_neg (by omega)]; omega) ?_
                        refine r_istore (lo2 := [(7, .int (iI (tld (dig (lcd Sh f0 m1 (ap + 1))) (dig (lcd Sh f0 m1 ((ap + 1) + 1)))))), (3, .int (iI ((ap + 1) + 1))), (6, .int (iI (ap + 1))), (5, .int (iI (ltr (lcd Sh f0 m1 ap)))), (4, .int (iI 1)), (0, .ref h0), (1, .int (iI f0)), (2, .int (iI m1))]) C dX6_readRules_137 (by decide) rfl ?_
                        refine r_iinc (lo2 := [(3, .int (iI (((ap + 1) + 1) + 1))), (7, .int (iI (tld (dig (lcd Sh f0 m1 (ap + 1))) (dig (lcd Sh f0 m1 ((ap + 1) + 1)))))), (6, .int (iI (ap + 1))), (5, .int (iI (ltr (lcd Sh f0 m1 ap)))), (4, .int (iI 1)), (0, .ref h0), (1, .int (iI f0)), (2, .int (iI m1))]) C dX6_readRules_139 1 rfl (by decide) rfl ?_
                        refine r_goto (tgt := 86) C dX6_readRules_142 (by decide) ?_
                        refine r_iload_n C dX6_readRules_86 0 rfl ?_
                        refine r_iload_n C dX6_readRules_87 7 rfl ?_
                        refine r_icmp_ge (tgt := 145) C dX6_readRules_88 (by decide) (by omega) (by omega) (fun h_25 => ?_) (fun h_25 => ?_)
                        · skip
                          refine r_iload_n C dX6_readRules_145 0 rfl ?_
                          refine r_iload C dX6_readRules_146 2 rfl ?_
                          refine r_icmp_eq (tgt := 161) C dX6_readRules_148 (by decide) (by omega) (by omega) (fun h_26 => absurd h_26 (by omega)) (fun h_26 => ?_)
                          refine r_iload C dX6_readRules_151 3 rfl ?_
                          refine r_iload C dX6_readRules_153 1 rfl ?_
                          refine g_S_i (ws2 := (fun _ => [(h0, .inr (6, [.int (iI ft), .int (iI sc), .ref u2, .ref u3, .ref u4, .ref u5, .ref u6, .ref u7, .ref u8, .int (iI it), .int (iI wc), .ref u11, .int (iI sh), .int (iI tq), .ref u14, .int (iI cnt), .ref u16, .int (iI gf), .int (iI gs), .int (iI rc), .ref u20, .ref u21, .ref u22, .ref u23, .ref u24, .int (iI tc)])), (u8, .inl (X.2.1.1, 6, .inl (iF V))), (u23, .inl (X.2.1.1, 240, .inl (iF Sh)))])) (As := [.int (iI (ltr (lcd Sh f0 m1 ap))), .int (iI (tld (dig (lcd Sh f0 m1 (ap + 1))) (dig (lcd Sh f0 m1 ((ap + 1) + 1)))))]) C (c_X6_isRule l X (ltr (lcd Sh f0 m1 ap)) (tld (dig (lcd Sh f0 m1 (ap + 1))) (dig (lcd Sh f0 m1 ((ap + 1) + 1)))) (by first | assumption | omega) (by first | assumption | omega)) gX6_readRules_X6_isRule rfl rfl rfl hd_S_X6_isRule_X6_readRules (by decide) dX6_readRules_155 [] [0, 1, 2] [0, 1, 2] rfl rfl rfl rfl (by decide) rfl rfl rfl (Nat.le_of_ble_eq_true rfl) (by decide) (fun _ => rfl) (fun _ hy_ => ?_)
                          clear hy_
                          refine r_ite (fun KR => ?_) (fun KR => ?_)
                          · skip
                            refine r_if_ne (tgt := 164) C dX6_readRules_158 (by decide) (by decide) (fun h_27 => ?_) (fun h_27 => absurd h_27 (by decide))
                            refine r_aload_n C dX6_readRules_164 5 rfl ?_
                            refine gf_6_8 C hi_X6_readRules_6 kw_X6_readRules_0 dX6_readRules_165 0 rfl rfl ?_
                            refine r_iload C dX6_readRules_168 3 rfl ?_
                            refine r_iload C dX6_readRules_170 1 rfl ?_
                            refine r_iast (ws2 := [(h0, .inr (6, [.int (iI ft), .int (iI sc), .ref u2, .ref u3, .ref u4, .ref u5, .ref u6, .ref u7, .ref u8, .int (iI it), .int (iI wc), .ref u11, .int (iI sh), .int (iI tq), .ref u14, .int (iI cnt), .ref u16, .int (iI gf), .int (iI gs), .int (iI rc), .ref u20, .ref u21, .ref u22, .ref u23, .ref u24, .int (iI tc)])), (u8, .inl (X.2.1.1, 6, .inl (iF (updI V (Int.toNat (ltr (lcd Sh f0 m1 ap))) (tld (dig (lcd Sh f0 m1 (ap + 1))) (dig (lcd Sh f0 m1 ((ap + 1) + 1)))))))), (u23, .inl (X.2.1.1, 240, .inl (iF Sh)))]) C dX6_readRules_172 1 rfl (by omega) (by decide) rfl ?_
                            have hV2 := vr_go (V := V) (N := Nq) (T := Tq) (A := Int.toNat (ltr (lcd Sh f0 m1 ap))) (v := (tld (dig (lcd Sh f0 m1 (ap + 1))) (dig (lcd Sh f0 m1 ((ap + 1) + 1))))) (w := (tld (dig (lcd Sh f0 m1 (ap + 1))) (dig (lcd Sh f0 m1 (ap + 1 + 1))))) (by first | rfl | (unfold tld; rw [if_pos (by omega)])) (by omega) (by omega) hV
                            refine r_aload_n C dX6_readRules_173 5 rfl ?_
                            refine r_dup C dX6_readRules_174 rfl ?_
                            refine gf_6_9 C hi_X6_readRules_6 kw_X6_readRules_1 dX6_readRules_175 0 rfl rfl ?_
                            refine r_iconst C dX6_readRules_178 ?_
                            refine r_iadd C dX6_readRules_179 ?_
                            refine pf_6_9 (ws2 := [(h0, .inr (6, [.int (iI ft), .int (iI sc), .ref u2, .ref u3, .ref u4, .ref u5, .ref u6, .ref u7, .ref u8, .int (iI (it + 1)), .int (iI wc), .ref u11, .int (iI sh), .int (iI tq), .ref u14, .int (iI cnt), .ref u16, .int (iI gf), .int (iI gs), .int (iI rc), .ref u20, .ref u21, .ref u22, .ref u23, .ref u24, .int (iI tc)])), (u8, .inl (X.2.1.1, 6, .inl (iF (updI V (Int.toNat (ltr (lcd Sh f0 m1 ap))) (tld (dig (lcd Sh f0 m1 (ap + 1))) (dig (lcd Sh f0 m1 ((ap + 1) + 1)))))))), (u23, .inl (X.2.1.1, 240, .inl (iF Sh)))]) C hi_X6_readRules_6 kw_X6_readRules_1 dX6_readRules_180 0 rfl rfl rfl (Nat.le_of_ble_eq_true rfl) rfl ?_
                            have I4 : itm (lcd Sh f0 m1) ap Nq Tq = (1, ((ap + 1) + 1) + 1, (updI Nq (Int.toNat (ltr (lcd Sh f0 m1 ap))) (tld (dig (lcd Sh f0 m1 (ap + 1))) (dig (lcd Sh f0 m1 (ap + 1 + 1))))), (updI Tq (Int.toNat (ltr (lcd Sh f0 m1 ap))) (Tq (Int.toNat (ltr (lcd Sh f0 m1 ap))) + 1))) := by rw [itm_c4 K1 (by omega) KR]; first | (rw [if_pos (by omega)]; done) | (rw [if_neg (by omega), show ap + 1 + 2 = ((ap + 1) + 1) + 1 by omega]; done)
                            refine r_iload_n C dX6_readRules_183 0 rfl ?_
                            refine r_iload_n C dX6_readRules_184 7 rfl ?_
                            refine r_icmp_ge (tgt := 192) C dX6_readRules_185 (by decide) (by omega) (by omega) (fun h_28 => ?_) (fun h_28 => absurd h_28 (by omega))
                            refine r_iconst C dX6_readRules_192 ?_
                            refine r_istore (lo2 := [(4, .int (iI 0)), (3, .int (iI (((ap + 1) + 1) + 1))), (7, .int (iI (tld (dig (lcd Sh f0 m1 (ap + 1))) (dig (lcd Sh f0 m1 ((ap + 1) + 1)))))), (6, .int (iI (ap + 1))), (5, .int (iI (ltr (lcd Sh f0 m1 ap)))), (0, .ref h0), (1, .int (iI f0)), (2, .int (iI m1))]) C dX6_readRules_193 (by decide) rfl ?_
                            refine r_iload C dX6_readRules_195 0 rfl ?_
                            refine r_if_eq (tgt := 224) C dX6_readRules_197 (by decide) (by decide) (fun h_29 => ?_) (fun h_29 => absurd h_29 (by decide))
                            refine r_iload_n C dX6_readRules_224 1 rfl ?_
                            refine r_iload C dX6_readRules_225 0 rfl ?_
                            refine r_if_eq (tgt := 234) C dX6_readRules_227 (by decide) (by decide) (fun h_30 => ?_) (fun h_30 => absurd h_30 (by decide))
                            refine r_iconst C dX6_readRules_234 ?_
                            refine r_iadd C dX6_readRules_235 ?_
                            refine r_istore_n (lo2 := [(3, .int (iI ((((ap + 1) + 1) + 1) + 0))), (4, .int (iI 0)), (7, .int (iI (tld (dig (lcd Sh f0 m1 (ap + 1))) (dig (lcd Sh f0 m1 ((ap + 1) + 1)))))), (6, .int (iI (ap + 1))), (5, .int (iI (ltr (lcd Sh f0 m1 ap)))), (0, .ref h0), (1, .int (iI f0)), (2, .int (iI m1))]) C dX6_readRules_236 rfl (by decide) rfl ?_
                            refine r_goto (tgt := 32) C dX6_readRules_237 (by decide) ?_
                            refine r_iload C dX6_readRules_32 1 rfl ?_
                            refine r_if_eq (tgt := 240) C dX6_readRules_34 (by decide) (by decide) (fun h_31 => ?_) (fun h_31 => absurd h_31 (by decide))
                            have hX : (txV Sh f0 m1) = (-1, it + 1, (updI Nq (Int.toNat (ltr (lcd Sh f0 m1 ap))) (tld (dig (lcd Sh f0 m1 (ap + 1))) (dig (lcd Sh f0 m1 (ap + 1 + 1))))), (updI Tq (Int.toNat (ltr (lcd Sh f0 m1 ap))) (Tq (Int.toNat (ltr (lcd Sh f0 m1 ap))) + 1))) := by rw [iL, prs_e (by omega) (by rw [I4]; exact (by decide : ¬ (1 : Int) = 0)) (by rw [I4]; dsimp only; omega), I4]
                            refine r_bipush C dX6_readRules_240 (by decide) ?_
                            exact g_ret_i C rfl dX6_readRules_242 (updI V (Int.toNat (ltr (lcd Sh f0 m1 ap))) (tld (dig (lcd Sh f0 m1 (ap + 1))) (dig (lcd Sh f0 m1 ((ap + 1) + 1))))) (by rw [hX]; first | exact hV2 | exact hV) (by rw [hX]; dsimp only; first | (rw [if_pos (by omega)]; done) | (rw [if_neg (by omega)]; done)) [0, 1, 2] rfl (by rw [hX] <;> rfl)
                          · skip
                            refine r_if_ne (tgt := 164) C dX6_readRules_158 (by decide) (by decide) (fun h_32 => absurd h_32 (by decide)) (fun h_32 => ?_)
                            have hX : (txV Sh f0 m1) = (ap + 1, it, Nq, Tq) := by first | (rw [iL, prs_f (by omega) (by rw [itm_c2 K1 (by omega)]), itm_c2 K1 (by omega)]; done) | (rw [iL, prs_f (by omega) (by rw [itm_c3 K1 (by omega) KR]), itm_c3 K1 (by omega) KR]; done)
                            refine r_iload C dX6_readRules_161 2 rfl ?_
                            exact g_ret_i C rfl dX6_readRules_163 V (by rw [hX]; first | exact hV2 | exact hV) (by rw [hX]; dsimp only; first | (rw [if_pos (by omega)]; done) | (rw [if_neg (by omega)]; done)) [0, 1, 2] rfl (by rw [hX] <;> rfl)
                        · skip
                          refine r_iload_n C dX6_readRules_91 0 rfl ?_
                          refine r_iload C dX6_readRules_92 2 rfl ?_
                          refine r_iconst C dX6_readRules_94 ?_
                          refine r_iadd C dX6_readRules_95 ?_
                          refine r_icmp_ge (tgt := 145) C dX6_readRules_96 (by decide) (by omega) (by omega) (fun h_33 => ?_) (fun h_33 => absurd h_33 (by omega))
                          refine r_iload_n C dX6_readRules_145 0 rfl ?_
                          refine r_iload C dX6_readRules_146 2 rfl ?_
                          refine r_icmp_eq (tgt := 161) C dX6_readRules_148 (by decide) (by omega) (by omega) (fun h_34 => absurd h_34 (by omega)) (fun h_34 => ?_)
                          refine r_iload C dX6_readRules_151 3 rfl ?_
                          refine r_iload C dX6_readRules_153 1 rfl ?_
                          refine g_S_i (ws2 := (fun _ => [(h0, .inr (6, [.int (iI ft), .int (iI sc), .ref u2, .ref u3, .ref u4, .ref u5, .ref u6, .ref u7, .ref u8, .int (iI it), .int (iI wc), .ref u11, .int (iI sh), .int (iI tq), .ref u14, .int (iI cnt), .ref u16, .int (iI gf), .int (iI gs), .int (iI rc), .ref u20, .ref u21, .ref u22, .ref u23, .ref u24, .int (iI tc)])), (u8, .inl (X.2.1.1, 6, .inl (iF V))), (u23, .inl (X.2.1.1, 240, .inl (iF Sh)))])) (As := [.int (iI (ltr (lcd Sh f0 m1 ap))), .int (iI (tld (dig (lcd Sh f0 m1 (ap + 1))) (dig (lcd Sh f0 m1 ((ap + 1) + 1)))))]) C (c_X6_isRule l X (ltr (lcd Sh f0 m1 ap)) (tld (dig (lcd Sh f0 m1 (ap + 1))) (dig (lcd Sh f0 m1 ((ap + 1) + 1)))) (by first | assumption | omega) (by first | assumption | omega)) gX6_readRules_X6_isRule rfl rfl rfl hd_S_X6_isRule_X6_readRules (by decide) dX6_readRules_155 [] [0, 1, 2] [0, 1, 2] rfl rfl rfl rfl (by decide) rfl rfl rfl (Nat.le_of_ble_eq_true rfl) (by decide) (fun _ => rfl) (fun _ hy_ => ?_)
                          clear hy_
                          refine r_ite (fun KR => ?_) (fun KR => ?_)
                          · skip
                            refine r_if_ne (tgt := 164) C dX6_readRules_158 (by decide) (by decide) (fun h_35 => ?_) (fun h_35 => absurd h_35 (by decide))
                            refine r_aload_n C dX6_readRules_164 5 rfl ?_
                            refine gf_6_8 C hi_X6_readRules_6 kw_X6_readRules_0 dX6_readRules_165 0 rfl rfl ?_
                            refine r_iload C dX6_readRules_168 3 rfl ?_
                            refine r_iload C dX6_readRules_170 1 rfl ?_
                            refine r_iast (ws2 := [(h0, .inr (6, [.int (iI ft), .int (iI sc), .ref u2, .ref u3, .ref u4, .ref u5, .ref u6, .ref u7, .ref u8, .int (iI it), .int (iI wc), .ref u11, .int (iI sh), .int (iI tq), .ref u14, .int (iI cnt), .ref u16, .int (iI gf), .int (iI gs), .int (iI rc), .ref u20, .ref u21, .ref u22, .ref u23, .ref u24, .int (iI tc)])), (u8, .inl (X.2.1.1, 6, .inl (iF (updI V (Int.toNat (ltr (lcd Sh f0 m1 ap))) (tld (dig (lcd Sh f0 m1 (ap + 1))) (dig (lcd Sh f0 m1 ((ap + 1) + 1)))))))), (u23, .inl (X.2.1.1, 240, .inl (iF Sh)))]) C dX6_readRules_172 1 rfl (by omega) (by decide) rfl ?_
                            have hV2 := vr_go (V := V) (N := Nq) (T := Tq) (A := Int.toNat (ltr (lcd Sh f0 m1 ap))) (v := (tld (dig (lcd Sh f0 m1 (ap + 1))) (dig (lcd Sh f0 m1 ((ap + 1) + 1))))) (w := (tld (dig (lcd Sh f0 m1 (ap + 1))) (dig (lcd Sh f0 m1 (ap + 1 + 1))))) (by first | rfl | (unfold tld; rw [if_pos (by omega)])) (by omega) (by omega) hV
                            refine r_aload_n C dX6_readRules_173 5 rfl ?_
                            refine r_dup C dX6_readRules_174 rfl ?_
                            refine gf_6_9 C hi_X6_readRules_6 kw_X6_readRules_1 dX6_readRules_175 0 rfl rfl ?_
                            refine r_iconst C dX6_readRules_178 ?_
                            refine r_iadd C dX6_readRules_179 ?_
                            refine pf_6_9 (ws2 := [(h0, .inr (6, [.int (iI ft), .int (iI sc), .ref u2, .ref u3, .ref u4, .ref u5, .ref u6, .ref u7, .ref u8, .int (iI (it + 1)), .int (iI wc), .ref u11, .int (iI sh), .int (iI tq), .ref u14, .int (iI cnt), .ref u16, .int (iI gf), .int (iI gs), .int (iI rc), .ref u20, .ref u21, .ref u22, .ref u23, .ref u24, .int (iI tc)])), (u8, .inl (X.2.1.1, 6, .inl (iF (updI V (Int.toNat (ltr (lcd Sh f0 m1 ap))) (tld (dig (lcd Sh f0 m1 (ap + 1))) (dig (lcd Sh f0 m1 ((ap + 1) + 1)))))))), (u23, .inl (X.2.1.1, 240, .inl (iF Sh)))]) C hi_X6_readRules_6 kw_X6_readRules_1 dX6_readRules_180 0 rfl rfl rfl (Nat.le_of_ble_eq_true rfl) rfl ?_
                            have I4 : itm (lcd Sh f0 m1) ap Nq Tq = (1, ((ap + 1) + 1) + 1, (updI Nq (Int.toNat (ltr (lcd Sh f0 m1 ap))) (tld (dig (lcd Sh f0 m1 (ap + 1))) (dig (lcd Sh f0 m1 (ap + 1 + 1))))), (updI Tq (Int.toNat (ltr (lcd Sh f0 m1 ap))) (Tq (Int.toNat (ltr (lcd Sh f0 m1 ap))) + 1))) := by rw [itm_c4 K1 (by omega) KR]; first | (rw [if_pos (by omega)]; done) | (rw [if_neg (by omega), show ap + 1 + 2 = ((ap + 1) + 1) + 1 by omega]; done)
                            refine r_iload_n C dX6_readRules_183 0 rfl ?_
                            refine r_iload_n C dX6_readRules_184 7 rfl ?_
                            refine r_icmp_ge (tgt := 192) C dX6_readRules_185 (by decide) (by omega) (by omega) (fun h_36 => absurd h_36 (by omega)) (fun h_36 => ?_)
                            refine r_iconst C dX6_readRules_188 ?_
                            refine r_goto (tgt := 193) C dX6_readRules_189 (by decide) ?_
                            refine r_istore (lo2 := [(4, .int (iI 1)), (3, .int (iI (((ap + 1) + 1) + 1))), (7, .int (iI (tld (dig (lcd Sh f0 m1 (ap + 1))) (dig (lcd Sh f0 m1 ((ap + 1) + 1)))))), (6, .int (iI (ap + 1))), (5, .int (iI (ltr (lcd Sh f0 m1 ap)))), (0, .ref h0), (1, .int (iI f0)), (2, .int (iI m1))]) C dX6_readRules_193 (by decide) rfl ?_
                            refine r_iload C dX6_readRules_195 0 rfl ?_
                            refine r_if_eq (tgt := 224) C dX6_readRules_197 (by decide) (by decide) (fun h_37 => absurd h_37 (by decide)) (fun h_37 => ?_)
                            have lb3 := lcd_B hSh f0 m1 ((((ap + 1) + 1) + 1))
                            refine r_aload_n C dX6_readRules_200 5 rfl ?_
                            refine gf_6_23 C hi_X6_readRules_6 kw_X6_readRules_2 dX6_readRules_201 0 rfl rfl ?_
                            refine r_iload_n C dX6_readRules_204 6 rfl ?_
                            refine r_iload_n C dX6_readRules_205 1 rfl ?_
                            refine r_iadd C dX6_readRules_206 ?_
                            refine r_iald C dX6_readRules_207 2 rfl (by omega) (by decide) ?_
                            refine r_topi (z := (lcd Sh f0 m1 (((ap + 1) + 1) + 1))) (by unfold lcd; rw [if_pos (by omega)]) ?_
                            refine r_bipush C dX6_readRules_208 (by decide) ?_
                            refine r_icmp_ne (tgt := 222) C dX6_readRules_210 (by decide) (by omega) (by decide) (fun h_38 => ?_) (fun h_38 => ?_)
                            · skip
                              have hX : (txV Sh f0 m1) = (((ap + 1) + 1) + 1, it + 1, (updI Nq (Int.toNat (ltr (lcd Sh f0 m1 ap))) (tld (dig (lcd Sh f0 m1 (ap + 1))) (dig (lcd Sh f0 m1 (ap + 1 + 1))))), (updI Tq (Int.toNat (ltr (lcd Sh f0 m1 ap))) (Tq (Int.toNat (ltr (lcd Sh f0 m1 ap))) + 1))) := by rw [iL, prs_s (by omega) (by rw [I4]; exact (by decide : ¬ (1 : Int) = 0)) (by rw [I4]; dsimp only; omega) (by rw [I4]; dsimp only; first | exact Or.inl (by omega) | exact Or.inr (by omega)), I4]
                              refine r_iload_n C dX6_readRules_222 1 rfl ?_
                              exact g_ret_i C rfl dX6_readRules_223 (updI V (Int.toNat (ltr (lcd Sh f0 m1 ap))) (tld (dig (lcd Sh f0 m1 (ap + 1))) (dig (lcd Sh f0 m1 ((ap + 1) + 1))))) (by rw [hX]; first | exact hV2 | exact hV) (by rw [hX]; dsimp only; first | (rw [if_pos (by omega)]; done) | (rw [if_neg (by omega)]; done)) [0, 1, 2] rfl (by rw [hX] <;> rfl)
                            · skip
                              refine r_aload_n C dX6_readRules_213 5 rfl ?_
                              refine gf_6_9 C hi_X6_readRules_6 kw_X6_readRules_1 dX6_readRules_214 0 rfl rfl ?_
                              refine r_bipush C dX6_readRules_217 (by decide) ?_
                              refine r_icmp_ne (tgt := 224) C dX6_readRules_219 (by decide) (by omega) (by decide) (fun h_39 => ?_) (fun h_39 => ?_)
                              · skip
                                refine r_iload_n C dX6_readRules_224 1 rfl ?_
                                refine r_iload C dX6_readRules_225 0 rfl ?_
                                refine r_if_eq (tgt := 234) C dX6_readRules_227 (by decide) (by decide) (fun h_40 => absurd h_40 (by decide)) (fun h_40 => ?_)
                                refine r_iconst C dX6_readRules_230 ?_
                                refine r_goto (tgt := 235) C dX6_readRules_231 (by decide) ?_
                                refine r_iadd C dX6_readRules_235 ?_
                                refine r_istore_n (lo2 := [(3, .int (iI ((((ap + 1) + 1) + 1) + 1))), (4, .int (iI 1)), (7, .int (iI (tld (dig (lcd Sh f0 m1 (ap + 1))) (dig (lcd Sh f0 m1 ((ap + 1) + 1)))))), (6, .int (iI (ap + 1))), (5, .int (iI (ltr (lcd Sh f0 m1 ap)))), (0, .ref h0), (1, .int (iI f0)), (2, .int (iI m1))]) C dX6_readRules_236 rfl (by decide) rfl ?_
                                refine r_goto (tgt := 32) C dX6_readRules_237 (by decide) ?_
                                refine r_lo [1, 5, 6, 7, 0] (lo2 := [(4, .int (iI 1)), (0, .ref h0), (1, .int (iI f0)), (2, .int (iI m1)), (3, .int (iI ((((ap + 1) + 1) + 1) + 1)))]) rfl ?_
                                exact ih32 ((((ap + 1) + 1) + 1) + 1) (it + 1) (updI V (Int.toNat (ltr (lcd Sh f0 m1 ap))) (tld (dig (lcd Sh f0 m1 (ap + 1))) (dig (lcd Sh f0 m1 ((ap + 1) + 1))))) (updI Nq (Int.toNat (ltr (lcd Sh f0 m1 ap))) (tld (dig (lcd Sh f0 m1 (ap + 1))) (dig (lcd Sh f0 m1 (ap + 1 + 1))))) (updI Tq (Int.toNat (ltr (lcd Sh f0 m1 ap))) (Tq (Int.toNat (ltr (lcd Sh f0 m1 ap))) + 1)) (by omega) (by omega) hV2 (by rw [iL, prs_go (by omega) (by rw [I4]; exact (by decide : ¬ (1 : Int) = 0)) (by rw [I4]; dsimp only; omega) (by rw [I4]; dsimp only; omega), I4]) (by omega)
                              · skip
                                have hX : (txV Sh f0 m1) = (((ap + 1) + 1) + 1, it + 1, (updI Nq (Int.toNat (ltr (lcd Sh f0 m1 ap))) (tld (dig (lcd Sh f0 m1 (ap + 1))) (dig (lcd Sh f0 m1 (ap + 1 + 1))))), (updI Tq (Int.toNat (ltr (lcd Sh f0 m1 ap))) (Tq (Int.toNat (ltr (lcd Sh f0 m1 ap))) + 1))) := by rw [iL, prs_s (by omega) (by rw [I4]; exact (by decide : ¬ (1 : Int) = 0)) (by rw [I4]; dsimp only; omega) (by rw [I4]; dsimp only; first | exact Or.inl (by omega) | exact Or.inr (by omega)), I4]
                                refine r_iload_n C dX6_readRules_222 1 rfl ?_
                                exact g_ret_i C rfl dX6_readRules_223 (updI V (Int.toNat (ltr (lcd Sh f0 m1 ap))) (tld (dig (lcd Sh f0 m1 (ap + 1))) (dig (lcd Sh f0 m1 ((ap + 1) + 1))))) (by rw [hX]; first | exact hV2 | exact hV) (by rw [hX]; dsimp only; first | (rw [if_pos (by omega)]; done) | (rw [if_neg (by omega)]; done)) [0, 1, 2] rfl (by rw [hX] <;> rfl)
                          · skip
                            refine r_if_ne (tgt := 164) C dX6_readRules_158 (by decide) (by decide) (fun h_41 => absurd h_41 (by decide)) (fun h_41 => ?_)
                            have hX : (txV Sh f0 m1) = (ap + 1, it, Nq, Tq) := by first | (rw [iL, prs_f (by omega) (by rw [itm_c2 K1 (by omega)]), itm_c2 K1 (by omega)]; done) | (rw [iL, prs_f (by omega) (by rw [itm_c3 K1 (by omega) KR]), itm_c3 K1 (by omega) KR]; done)
                            refine r_iload C dX6_readRules_161 2 rfl ?_
                            exact g_ret_i C rfl dX6_readRules_163 V (by rw [hX]; first | exact hV2 | exact hV) (by rw [hX]; dsimp only; first | (rw [if_pos (by omega)]; done) | (rw [if_neg (by omega)]; done)) [0, 1, 2] rfl (by rw [hX] <;> rfl)
                      · skip
                        refine r_if_eq (tgt := 145) C dX6_readRules_117 (by decide) (by decide) (fun h_42 => ?_) (fun h_42 => absurd h_42 (by decide))
                        refine r_iload_n C dX6_readRules_145 0 rfl ?_
                        refine r_iload C dX6_readRules_146 2 rfl ?_
                        refine r_icmp_eq (tgt := 161) C dX6_readRules_148 (by decide) (by omega) (by omega) (fun h_43 => absurd h_43 (by omega)) (fun h_43 => ?_)
                        refine r_iload C dX6_readRules_151 3 rfl ?_
                        refine r_iload C dX6_readRules_153 1 rfl ?_
                        refine r_topi (z := (tld (dig (lcd Sh f0 m1 (ap + 1))) (dig (lcd Sh f0 m1 (ap + 1 + 1))))) (by unfold tld; rw [if_pos (by omega)]) ?_
                        refine g_S_i (ws2 := (fun _ => [(h0, .inr (6, [.int (iI ft), .int (iI sc), .ref u2, .ref u3, .ref u4, .ref u5, .ref u6, .ref u7, .ref u8, .int (iI it), .int (iI wc), .ref u11, .int (iI sh), .int (iI tq), .ref u14, .int (iI cnt), .ref u16, .int (iI gf), .int (iI gs), .int (iI rc), .ref u20, .ref u21, .ref u22, .ref u23, .ref u24, .int (iI tc)])), (u8, .inl (X.2.1.1, 6, .inl (iF V))), (u23, .inl (X.2.1.1, 240, .inl (iF Sh)))])) (As := [.int (iI (ltr (lcd Sh f0 m1 ap))), .int (iI (tld (dig (lcd Sh f0 m1 (ap + 1))) (dig (lcd Sh f0 m1 ((ap + 1) + 1)))))]) C (c_X6_isRule l X (ltr (lcd Sh f0 m1 ap)) (tld (dig (lcd Sh f0 m1 (ap + 1))) (dig (lcd Sh f0 m1 ((ap + 1) + 1)))) (by first | assumption | omega) (by first | assumption | omega)) gX6_readRules_X6_isRule rfl rfl rfl hd_S_X6_isRule_X6_readRules (by decide) dX6_readRules_155 [] [0, 1, 2] [0, 1, 2] rfl rfl rfl rfl (by decide) rfl rfl rfl (Nat.le_of_ble_eq_true rfl) (by decide) (fun _ => rfl) (fun _ hy_ => ?_)
                        clear hy_
                        refine r_ite (fun KR => ?_) (fun KR => ?_)
                        · skip
                          refine r_if_ne (tgt := 164) C dX6_readRules_158 (by decide) (by decide) (fun h_44 => ?_) (fun h_44 => absurd h_44 (by decide))
                          refine r_aload_n C dX6_readRules_164 5 rfl ?_
                          refine gf_6_8 C hi_X6_readRules_6 kw_X6_readRules_0 dX6_readRules_165 0 rfl rfl ?_
                          refine r_iload C dX6_readRules_168 3 rfl ?_
                          refine r_iload C dX6_readRules_170 1 rfl ?_
                          refine r_iast (ws2 := [(h0, .inr (6, [.int (iI ft), .int (iI sc), .ref u2, .ref u3, .ref u4, .ref u5, .ref u6, .ref u7, .ref u8, .int (iI it), .int (iI wc), .ref u11, .int (iI sh), .int (iI tq), .ref u14, .int (iI cnt), .ref u16, .int (iI gf), .int (iI gs), .int (iI rc), .ref u20, .ref u21, .ref u22, .ref u23, .ref u24, .int (iI tc)])), (u8, .inl (X.2.1.1, 6, .inl (iF (updI V (Int.toNat (ltr (lcd Sh f0 m1 ap))) (dig (lcd Sh f0 m1 (ap + 1))))))), (u23, .inl (X.2.1.1, 240, .inl (iF Sh)))]) C dX6_readRules_172 1 rfl (by omega) (by decide) rfl ?_
                          have hV2 := vr_go (V := V) (N := Nq) (T := Tq) (A := Int.toNat (ltr (lcd Sh f0 m1 ap))) (v := (dig (lcd Sh f0 m1 (ap + 1)))) (w := (tld (dig (lcd Sh f0 m1 (ap + 1))) (dig (lcd Sh f0 m1 (ap + 1 + 1))))) (by first | rfl | (unfold tld; rw [if_pos (by omega)])) (by omega) (by omega) hV
                          refine r_aload_n C dX6_readRules_173 5 rfl ?_
                          refine r_dup C dX6_readRules_174 rfl ?_
                          refine gf_6_9 C hi_X6_readRules_6 kw_X6_readRules_1 dX6_readRules_175 0 rfl rfl ?_
                          refine r_iconst C dX6_readRules_178 ?_
                          refine r_iadd C dX6_readRules_179 ?_
                          refine pf_6_9 (ws2 := [(h0, .inr (6, [.int (iI ft), .int (iI sc), .ref u2, .ref u3, .ref u4, .ref u5, .ref u6, .ref u7, .ref u8, .int (iI (it + 1)), .int (iI wc), .ref u11, .int (iI sh), .int (iI tq), .ref u14, .int (iI cnt), .ref u16, .int (iI gf), .int (iI gs), .int (iI rc), .ref u20, .ref u21, .ref u22, .ref u23, .ref u24, .int (iI tc)])), (u8, .inl (X.2.1.1, 6, .inl (iF (updI V (Int.toNat (ltr (lcd Sh f0 m1 ap))) (dig (lcd Sh f0 m1 (ap + 1))))))), (u23, .inl (X.2.1.1, 240, .inl (iF Sh)))]) C hi_X6_readRules_6 kw_X6_readRules_1 dX6_readRules_180 0 rfl rfl rfl (Nat.le_of_ble_eq_true rfl) rfl ?_
                          have I4 : itm (lcd Sh f0 m1) ap Nq Tq = (1, (ap + 1) + 1, (updI Nq (Int.toNat (ltr (lcd Sh f0 m1 ap))) (tld (dig (lcd Sh f0 m1 (ap + 1))) (dig (lcd Sh f0 m1 (ap + 1 + 1))))), (updI Tq (Int.toNat (ltr (lcd Sh f0 m1 ap))) (Tq (Int.toNat (ltr (lcd Sh f0 m1 ap))) + 1))) := by rw [itm_c4 K1 (by omega) KR]; first | (rw [if_pos (by omega)]; done) | (rw [if_neg (by omega), show ap + 1 + 2 = (ap + 1) + 1 by omega]; done)
                          refine r_iload_n C dX6_readRules_183 0 rfl ?_
                          refine r_iload_n C dX6_readRules_184 7 rfl ?_
                          refine r_icmp_ge (tgt := 192) C dX6_readRules_185 (by decide) (by omega) (by omega) (fun h_45 => absurd h_45 (by omega)) (fun h_45 => ?_)
                          refine r_iconst C dX6_readRules_188 ?_
                          refine r_goto (tgt := 193) C dX6_readRules_189 (by decide) ?_
                          refine r_istore (lo2 := [(4, .int (iI 1)), (3, .int (iI ((ap + 1) + 1))), (7, .int (iI (dig (lcd Sh f0 m1 (ap + 1))))), (6, .int (iI (ap + 1))), (5, .int (iI (ltr (lcd Sh f0 m1 ap)))), (0, .ref h0), (1, .int (iI f0)), (2, .int (iI m1))]) C dX6_readRules_193 (by decide) rfl ?_
                          refine r_iload C dX6_readRules_195 0 rfl ?_
                          refine r_if_eq (tgt := 224) C dX6_readRules_197 (by decide) (by decide) (fun h_46 => absurd h_46 (by decide)) (fun h_46 => ?_)
                          have lb3 := lcd_B hSh f0 m1 (((ap + 1) + 1))
                          refine r_aload_n C dX6_readRules_200 5 rfl ?_
                          refine gf_6_23 C hi_X6_readRules_6 kw_X6_readRules_2 dX6_readRules_201 0 rfl rfl ?_
                          refine r_iload_n C dX6_readRules_204 6 rfl ?_
                          refine r_iload_n C dX6_readRules_205 1 rfl ?_
                          refine r_iadd C dX6_readRules_206 ?_
                          refine r_iald C dX6_readRules_207 2 rfl (by omega) (by decide) ?_
                          refine r_topi (z := (lcd Sh f0 m1 ((ap + 1) + 1))) (by unfold lcd; rw [if_pos (by omega)]) ?_
                          refine r_bipush C dX6_readRules_208 (by decide) ?_
                          refine r_icmp_ne (tgt := 222) C dX6_readRules_210 (by decide) (by omega) (by decide) (fun h_47 => ?_) (fun h_47 => ?_)
                          · skip
                            have hX : (txV Sh f0 m1) = ((ap + 1) + 1, it + 1, (updI Nq (Int.toNat (ltr (lcd Sh f0 m1 ap))) (tld (dig (lcd Sh f0 m1 (ap + 1))) (dig (lcd Sh f0 m1 (ap + 1 + 1))))), (updI Tq (Int.toNat (ltr (lcd Sh f0 m1 ap))) (Tq (Int.toNat (ltr (lcd Sh f0 m1 ap))) + 1))) := by rw [iL, prs_s (by omega) (by rw [I4]; exact (by decide : ¬ (1 : Int) = 0)) (by rw [I4]; dsimp only; omega) (by rw [I4]; dsimp only; first | exact Or.inl (by omega) | exact Or.inr (by omega)), I4]
                            refine r_iload_n C dX6_readRules_222 1 rfl ?_
                            exact g_ret_i C rfl dX6_readRules_223 (updI V (Int.toNat (ltr (lcd Sh f0 m1 ap))) (dig (lcd Sh f0 m1 (ap + 1)))) (by rw [hX]; first | exact hV2 | exact hV) (by rw [hX]; dsimp only; first | (rw [if_pos (by omega)]; done) | (rw [if_neg (by omega)]; done)) [0, 1, 2] rfl (by rw [hX] <;> rfl)
                          · skip
                            refine r_aload_n C dX6_readRules_213 5 rfl ?_
                            refine gf_6_9 C hi_X6_readRules_6 kw_X6_readRules_1 dX6_readRules_214 0 rfl rfl ?_
                            refine r_bipush C dX6_readRules_217 (by decide) ?_
                            refine r_icmp_ne (tgt := 224) C dX6_readRules_219 (by decide) (by omega) (by decide) (fun h_48 => ?_) (fun h_48 => ?_)
                            · skip
                              refine r_iload_n C dX6_readRules_224 1 rfl ?_
                              refine r_iload C dX6_readRules_225 0 rfl ?_
                              refine r_if_eq (tgt := 234) C dX6_readRules_227 (by decide) (by decide) (fun h_49 => absurd h_49 (by decide)) (fun h_49 => ?_)
                              refine r_iconst C dX6_readRules_230 ?_
                              refine r_goto (tgt := 235) C dX6_readRules_231 (by decide) ?_
                              refine r_iadd C dX6_readRules_235 ?_
                              refine r_istore_n (lo2 := [(3, .int (iI (((ap + 1) + 1) + 1))), (4, .int (iI 1)), (7, .int (iI (dig (lcd Sh f0 m1 (ap + 1))))), (6, .int (iI (ap + 1))), (5, .int (iI (ltr (lcd Sh f0 m1 ap)))), (0, .ref h0), (1, .int (iI f0)), (2, .int (iI m1))]) C dX6_readRules_236 rfl (by decide) rfl ?_
                              refine r_goto (tgt := 32) C dX6_readRules_237 (by decide) ?_
                              refine r_lo [1, 5, 6, 7, 0] (lo2 := [(4, .int (iI 1)), (0, .ref h0), (1, .int (iI f0)), (2, .int (iI m1)), (3, .int (iI (((ap + 1) + 1) + 1)))]) rfl ?_
                              exact ih32 (((ap + 1) + 1) + 1) (it + 1) (updI V (Int.toNat (ltr (lcd Sh f0 m1 ap))) (dig (lcd Sh f0 m1 (ap + 1)))) (updI Nq (Int.toNat (ltr (lcd Sh f0 m1 ap))) (tld (dig (lcd Sh f0 m1 (ap + 1))) (dig (lcd Sh f0 m1 (ap + 1 + 1))))) (updI Tq (Int.toNat (ltr (lcd Sh f0 m1 ap))) (Tq (Int.toNat (ltr (lcd Sh f0 m1 ap))) + 1)) (by omega) (by omega) hV2 (by rw [iL, prs_go (by omega) (by rw [I4]; exact (by decide : ¬ (1 : Int) = 0)) (by rw [I4]; dsimp only; omega) (by rw [I4]; dsimp only; omega), I4]) (by omega)
                            · skip
                              have hX : (txV Sh f0 m1) = ((ap + 1) + 1, it + 1, (updI Nq (Int.toNat (ltr (lcd Sh f0 m1 ap))) (tld (dig (lcd Sh f0 m1 (ap + 1))) (dig (lcd Sh f0 m1 (ap + 1 + 1))))), (updI Tq (Int.toNat (ltr (lcd Sh f0 m1 ap))) (Tq (Int.toNat (ltr (lcd Sh f0 m1 ap))) + 1))) := by rw [iL, prs_s (by omega) (by rw [I4]; exact (by decide : ¬ (1 : Int) = 0)) (by rw [I4]; dsimp only; omega) (by rw [I4]; dsimp only; first | exact Or.inl (by omega) | exact Or.inr (by omega)), I4]
                              refine r_iload_n C dX6_readRules_222 1 rfl ?_
                              exact g_ret_i C rfl dX6_readRules_223 (updI V (Int.toNat (ltr (lcd Sh f0 m1 ap))) (dig (lcd Sh f0 m1 (ap + 1)))) (by rw [hX]; first | exact hV2 | exact hV) (by rw [hX]; dsimp only; first | (rw [if_pos (by omega)]; done) | (rw [if_neg (by omega)]; done)) [0, 1, 2] rfl (by rw [hX] <;> rfl)
                        · skip
                          refine r_if_ne (tgt := 164) C dX6_readRules_158 (by decide) (by decide) (fun h_50 => absurd h_50 (by decide)) (fun h_50 => ?_)
                          have hX : (txV Sh f0 m1) = (ap + 1, it, Nq, Tq) := by first | (rw [iL, prs_f (by omega) (by rw [itm_c2 K1 (by omega)]), itm_c2 K1 (by omega)]; done) | (rw [iL, prs_f (by omega) (by rw [itm_c3 K1 (by omega) KR]), itm_c3 K1 (by omega) KR]; done)
                          refine r_iload C dX6_readRules_161 2 rfl ?_
                          exact g_ret_i C rfl dX6_readRules_163 V (by rw [hX]; first | exact hV2 | exact hV) (by rw [hX]; dsimp only; first | (rw [if_pos (by omega)]; done) | (rw [if_neg (by omega)]; done)) [0, 1, 2] rfl (by rw [hX] <;> rfl)
                  · skip
                    refine r_if_eq (tgt := 145) C dX6_readRules_117 (by decide) (by decide) (fun h_51 => ?_) (fun h_51 => absurd h_51 (by decide))
                    refine r_iload_n C dX6_readRules_145 2 rfl ?_
                    refine r_iload C dX6_readRules_146 1 rfl ?_
                    refine r_icmp_eq (tgt := 161) C dX6_readRules_148 (by decide) (by omega) (by omega) (fun h_52 => ?_) (fun h_52 => absurd h_52 (by omega))
                    have hX : (txV Sh f0 m1) = (ap + 1, it, Nq, Tq) := by first | (rw [iL, prs_f (by omega) (by rw [itm_c2 K1 (by omega)]), itm_c2 K1 (by omega)]; done) | (rw [iL, prs_f (by omega) (by rw [itm_c3 K1 (by omega) KR]), itm_c3 K1 (by omega) KR]; done)
                    refine r_iload C dX6_readRules_161 1 rfl ?_
                    exact g_ret_i C rfl dX6_readRules_163 V (by rw [hX]; first | exact hV2 | exact hV) (by rw [hX]; dsimp only; first | (rw [if_pos (by omega)]; done) | (rw [if_neg (by omega)]; done)) [0, 1, 2] rfl (by rw [hX] <;> rfl)
              · skip
                have K0 : itm (lcd Sh f0 m1) ap Nq Tq = (0, ap, Nq, Tq) := itm_c1 (by first | exact Or.inl (by omega) | exact Or.inr (by omega))
                have hX : (txV Sh f0 m1) = (ap, it, Nq, Tq) := by rw [iL, prs_f (by omega) (by rw [K0]), K0]
                refine r_iload_n C dX6_readRules_75 5 rfl ?_
                exact g_ret_i C rfl dX6_readRules_76 V (by rw [hX]; first | exact hV2 | exact hV) (by rw [hX]; dsimp only; first | (rw [if_pos (by omega)]; done) | (rw [if_neg (by omega)]; done)) [0, 1, 2] rfl (by rw [hX] <;> rfl)
        refine r_lo [0, 2, 3, 4, 1] (lo2 := [(4, .int (iI 1)), (0, .ref h0), (1, .int (iI f0)), (2, .int (iI m1)), (3, .int (iI 0))]) rfl ?_
        exact L32 ((6 - (0 : Int)).toNat + 1) 0 0 G gAF (fun _ => 0) (by omega) (by omega) (fun j hj => Or.inl ⟨by rw [iG, show j1 = 6 by omega]; unfold fillI; rw [if_pos (by omega)], rfl, rfl⟩) rfl (Nat.lt_succ_self _)
      · skip
        refine r_aload_n C dX6_readRules_8 0 rfl ?_
        refine gf_6_8 C hi_X6_readRules_6 kw_X6_readRules_0 dX6_readRules_9 0 rfl rfl ?_
        refine r_iload_n C dX6_readRules_12 3 rfl ?_
        refine r_bipush C dX6_readRules_13 (by decide) ?_
        refine r_iast (ws2 := [(h0, .inr (6, [.int (iI ft), .int (iI sc), .ref u2, .ref u3, .ref u4, .ref u5, .ref u6, .ref u7, .ref u8, .int (iI rm), .int (iI wc), .ref u11, .int (iI sh), .int (iI tq), .ref u14, .int (iI cnt), .ref u16, .int (iI gf), .int (iI gs), .int (iI rc), .ref u20, .ref u21, .ref u22, .ref u23, .ref u24, .int (iI tc)])), (u8, .inl (X.2.1.1, 6, .inl (iF (updI G (Int.toNat j1) (-9))))), (u23, .inl (X.2.1.1, 240, .inl (iF Sh)))]) C dX6_readRules_15 1 rfl (by omega) (by decide) rfl ?_
        refine r_iinc (lo2 := [(3, .int (iI (j1 + 1))), (0, .ref h0), (1, .int (iI f0)), (2, .int (iI m1))]) C dX6_readRules_16 3 rfl (by decide) rfl ?_
        refine r_goto (tgt := 2) C dX6_readRules_19 (by decide) ?_
        refine r_lo [1, 2, 3, 0] (lo2 := [(0, .ref h0), (1, .int (iI f0)), (2, .int (iI m1)), (3, .int (iI (j1 + 1)))]) rfl ?_
        exact ih2 (j1 + 1) (updI G (Int.toNat j1) (-9)) (by omega) (by rw [iG]; exact fillI_step (by omega)) (by omega)
  refine r_lo [1, 2, 3, 0] (lo2 := [(0, .ref h0), (1, .int (iI f0)), (2, .int (iI m1)), (3, .int (iI 0))]) rfl ?_
  exact L2 ((6 - (0 : Int)).toNat + 1) 0 Rr (by omega) (fillI_0 _ _).symm (Nat.lt_succ_self _)

set_option maxRecDepth 20000 in
theorem hd_V_X6_barred_X6_law : yX6_barred.cls = yX6_barred.cls ∧ yX6_barred.cls ≠ "java/lang/invoke/MethodHandle" ∧ yX6_barred.cls ≠ "java/lang/invoke/VarHandle" ∧ (parseMethodDescriptor yX6_barred.desc).map (fun d => d.parameters.length) = some 4 := by decide +kernel
set_option maxHeartbeats 4000000 in
set_option maxRecDepth 100000 in
theorem c_X6_law_no (l : Launch) (X : gX) (h0 : Nat) (u2 : Nat) (u3 : Nat) (u4 : Nat) (u5 : Nat) (u6 : Nat) (u7 : Nat) (u8 : Nat) (u11 : Nat) (u14 : Nat) (u16 : Nat) (u20 : Nat) (u21 : Nat) (u22 : Nat) (u23 : Nat) (u24 : Nat) (ft : Int) (sc : Int) (rm : Int) (wc : Int) (sh : Int) (tq : Int) (cnt : Int) (gf : Int) (gs : Int) (rc : Int) (tc : Int) (Ss : Nat → Int) (Sl : Nat → Int) (Sh : Nat → Int) (Ru : Nat → Int) (Rr : Nat → Int) (k : Int) (w : Int) (i1 : Int) (m1 : Int) (hx : 0 ≤ k ∧ k < 4) (hb_w : inB w) (hb_i1 : inB i1) (hb_m1 : inB m1) (hSs : ∀ i, -1 ≤ Ss i ∧ Ss i ≤ 60) (hSl : ∀ i, 0 ≤ Sl i ∧ Sl i ≤ 2) (hSh : ∀ i, inB (Sh i)) (hok : ¬ (0 ≤ w ∧ w ≤ 2 ∧ 0 ≤ (Ss (Int.toNat k)) ∧ (Sl (Int.toNat k)) = w ∧ 0 ≤ i1 ∧ 0 ≤ m1 ∧ i1 + m1 ≤ (Ss (Int.toNat k)))) : gM l yX6_law wsX6_law (gr 3 0 0) X [(h0, .inr (6, [.int (iI ft), .int (iI sc), .ref u2, .ref u3, .ref u4, .ref u5, .ref u6, .ref u7, .ref u8, .int (iI rm), .int (iI wc), .ref u11, .int (iI sh), .int (iI tq), .ref u14, .int (iI cnt), .ref u16, .int (iI gf), .int (iI gs), .int (iI rc), .ref u20, .ref u21, .ref u22, .ref u23, .ref u24, .int (iI tc)])), (u21, .inl (X.2.1.1, 4, .inl (iF Ss))), (u22, .inl (X.2.1.1, 4, .inl (iF Sl))), (u23, .inl (X.2.1.1, 240, .inl (iF Sh))), (u7, .inl (X.2.1.1, 6, .inl (iF Ru))), (u8, .inl (X.2.1.1, 6, .inl (iF Rr)))] [.ref h0, .int (iI k), .int (iI w), .int (iI i1), .int (iI m1)] (gQi X (Y := Unit) (fun _ => True) (fun _ => (if ¬ (0 ≤ w ∧ w ≤ 2) then -2 else if (Ss (Int.toNat k)) < 0 then -11 else if ¬ (Sl (Int.toNat k)) = w then -12 else if m1 < 0 then -14 else -13)) (fun _ => [(h0, .inr (6, [.int (iI (if ¬ (0 ≤ w ∧ w ≤ 2) then 0 else if (Ss (Int.toNat k)) < 0 then 1 else if ¬ (Sl (Int.toNat k)) = w then 2 else if m1 < 0 then 4 else 3)), .int (iI sc), .ref u2, .ref u3, .ref u4, .ref u5, .ref u6, .ref u7, .ref u8, .int (iI rm), .int (iI wc), .ref u11, .int (iI sh), .int (iI tq), .ref u14, .int (iI cnt), .ref u16, .int (iI gf), .int (iI gs), .int (iI rc), .ref u20, .ref u21, .ref u22, .ref u23, .ref u24, .int (iI tc)])), (u21, .inl (X.2.1.1, 4, .inl (iF Ss))), (u22, .inl (X.2.1.1, 4, .inl (iF Sl))), (u23, .inl (X.2.1.1, 240, .inl (iF Sh))), (u7, .inl (X.2.1.1, 6, .inl (iF Ru))), (u8, .inl (X.2.1.1, 6, .inl (iF Rr)))])) 0 0 := by
  refine g_start2 (lo := [(0, .ref h0), (1, .int (iI k)), (2, .int (iI w)), (3, .int (iI i1)), (4, .int (iI m1))]) (by decide +kernel) rfl rfl (Nat.le_of_ble_eq_true rfl) (fun p e s m args below meth c A C => ?_)
  have qs1 := hSs (Int.toNat k)
  have ql1 := hSl (Int.toNat k)
  refine r_aload_n C dX6_law_0 0 rfl ?_
  refine r_iload_n C dX6_law_1 1 rfl ?_
  refine r_iload_n C dX6_law_2 2 rfl ?_
  refine r_iload_n C dX6_law_3 3 rfl ?_
  refine r_iload C dX6_law_4 4 rfl ?_
  refine r_i2l C dX6_law_6 (by omega) ?_
  refine g_V_i (ws2 := (fun y_1 => [(h0, .inr (6, [.int (iI (if ¬ (0 ≤ w ∧ w ≤ 2) then 0 else if (Ss (Int.toNat k)) < 0 then 1 else if ¬ (Sl (Int.toNat k)) = w then 2 else if m1 < 0 then 4 else 3)), .int (iI sc), .ref u2, .ref u3, .ref u4, .ref u5, .ref u6, .ref u7, .ref u8, .int (iI rm), .int (iI wc), .ref u11, .int (iI sh), .int (iI tq), .ref u14, .int (iI cnt), .ref u16, .int (iI gf), .int (iI gs), .int (iI rc), .ref u20, .ref u21, .ref u22, .ref u23, .ref u24, .int (iI tc)])), (u21, .inl (X.2.1.1, 4, .inl (iF Ss))), (u22, .inl (X.2.1.1, 4, .inl (iF Sl))), (u23, .inl (X.2.1.1, 240, .inl (iF Sh))), (u7, .inl (X.2.1.1, 6, .inl (iF Ru))), (u8, .inl (X.2.1.1, 6, .inl (iF Rr)))])) (As := [.int (iI k), .int (iI w), .int (iI i1), .long (lI m1)]) C (c_X6_barred_no l X h0 u2 u3 u4 u5 u6 u7 u8 u11 u14 u16 u20 u21 u22 u23 u24 ft sc rm wc sh tq cnt gf gs rc tc Ss Sl k w i1 m1 (by first | assumption | omega) (by first | assumption | omega) (by first | assumption | omega) (by first | assumption | omega) (by assumption) (by assumption) (by first | assumption | have := hSs (Int.toNat k); have := hSl (Int.toNat k); omega)) gX6_law_X6_barred rfl rfl rfl hd_V_X6_barred_X6_law (by decide) dX6_law_7 [0, 1, 2] [3, 4, 5] [3, 4, 5, 0, 1, 2] rfl rfl rfl rfl (by decide) rfl 0 6 rfl rfl rfl rfl (Nat.le_of_ble_eq_true rfl) (by decide) (fun _ => rfl) (fun y_1 hy_ => ?_)
  have y_2 := hy_
  obtain ⟨y_3, y_4⟩ := y_2
  clear hy_
  refine r_istore (lo2 := [(5, .int (iI y_1)), (0, .ref h0), (1, .int (iI k)), (2, .int (iI w)), (3, .int (iI i1)), (4, .int (iI m1))]) C dX6_law_10 (by decide) rfl ?_
  refine r_iload C dX6_law_12 0 rfl ?_
  refine r_if_ge (tgt := 20) C dX6_law_14 (by decide) (by omega) (fun h_5 => absurd h_5 (by omega)) (fun h_5 => ?_)
  refine r_iload C dX6_law_17 0 rfl ?_
  exact g_ret_i C rfl dX6_law_19 () trivial (by (repeat' split) <;> first | rfl | omega) [0, 1, 2, 3, 4, 5] rfl (by (repeat' split) <;> first | rfl | omega)

set_option maxRecDepth 20000 in
theorem hd_V_X6_readRules_X6_law : yX6_readRules.cls = yX6_readRules.cls ∧ yX6_readRules.cls ≠ "java/lang/invoke/MethodHandle" ∧ yX6_readRules.cls ≠ "java/lang/invoke/VarHandle" ∧ (parseMethodDescriptor yX6_readRules.desc).map (fun d => d.parameters.length) = some 2 := by decide +kernel
set_option maxRecDepth 20000 in
theorem hd_V_X6_refused_X6_law : yX6_refused.cls = yX6_refused.cls ∧ yX6_refused.cls ≠ "java/lang/invoke/MethodHandle" ∧ yX6_refused.cls ≠ "java/lang/invoke/VarHandle" ∧ (parseMethodDescriptor yX6_refused.desc).map (fun d => d.parameters.length) = some 1 := by decide +kernel
set_option maxHeartbeats 4000000 in
set_option maxRecDepth 100000 in
theorem c_X6_law_bad (l : Launch) (X : gX) (h0 : Nat) (u2 : Nat) (u3 : Nat) (u4 : Nat) (u5 : Nat) (u6 : Nat) (u7 : Nat) (u8 : Nat) (u11 : Nat) (u14 : Nat) (u16 : Nat) (u20 : Nat) (u21 : Nat) (u22 : Nat) (u23 : Nat) (u24 : Nat) (ft : Int) (sc : Int) (rm : Int) (wc : Int) (sh : Int) (tq : Int) (cnt : Int) (gf : Int) (gs : Int) (rc : Int) (tc : Int) (Ss : Nat → Int) (Sl : Nat → Int) (Sh : Nat → Int) (Ru : Nat → Int) (Rr : Nat → Int) (k : Int) (w : Int) (i1 : Int) (m1 : Int) (hx : 0 ≤ k ∧ k < 4) (hb_w : inB w) (hb_i1 : inB i1) (hb_m1 : inB m1) (hSs : ∀ i, -1 ≤ Ss i ∧ Ss i ≤ 60) (hSl : ∀ i, 0 ≤ Sl i ∧ Sl i ≤ 2) (hSh : ∀ i, inB (Sh i)) (hok : (0 ≤ w ∧ w ≤ 2 ∧ 0 ≤ (Ss (Int.toNat k)) ∧ (Sl (Int.toNat k)) = w ∧ 0 ≤ i1 ∧ 0 ≤ m1 ∧ i1 + m1 ≤ (Ss (Int.toNat k)))) (hbad : 0 ≤ (txV Sh (60 * k + i1) m1).1) : gM l yX6_law wsX6_law (gr 3 0 0) X [(h0, .inr (6, [.int (iI ft), .int (iI sc), .ref u2, .ref u3, .ref u4, .ref u5, .ref u6, .ref u7, .ref u8, .int (iI rm), .int (iI wc), .ref u11, .int (iI sh), .int (iI tq), .ref u14, .int (iI cnt), .ref u16, .int (iI gf), .int (iI gs), .int (iI rc), .ref u20, .ref u21, .ref u22, .ref u23, .ref u24, .int (iI tc)])), (u21, .inl (X.2.1.1, 4, .inl (iF Ss))), (u22, .inl (X.2.1.1, 4, .inl (iF Sl))), (u23, .inl (X.2.1.1, 240, .inl (iF Sh))), (u7, .inl (X.2.1.1, 6, .inl (iF Ru))), (u8, .inl (X.2.1.1, 6, .inl (iF Rr)))] [.ref h0, .int (iI k), .int (iI w), .int (iI i1), .int (iI m1)] (gQi X (Y := Int × (Nat → Int)) (fun y => True) (fun y => (-100 - (txV Sh (60 * k + i1) m1).1)) (fun y => [(h0, .inr (6, [.int (iI 0), .int (iI sc), .ref u2, .ref u3, .ref u4, .ref u5, .ref u6, .ref u7, .ref u8, .int (iI y.1), .int (iI wc), .ref u11, .int (iI sh), .int (iI tq), .ref u14, .int (iI cnt), .ref u16, .int (iI gf), .int (iI gs), .int (iI rc), .ref u20, .ref u21, .ref u22, .ref u23, .ref u24, .int (iI tc)])), (u21, .inl (X.2.1.1, 4, .inl (iF Ss))), (u22, .inl (X.2.1.1, 4, .inl (iF Sl))), (u23, .inl (X.2.1.1, 240, .inl (iF Sh))), (u7, .inl (X.2.1.1, 6, .inl (iF Ru))), (u8, .inl (X.2.1.1, 6, .inl (iF (y.2))))])) 0 0 := by
  refine g_start2 (lo := [(0, .ref h0), (1, .int (iI k)), (2, .int (iI w)), (3, .int (iI i1)), (4, .int (iI m1))]) (by decide +kernel) rfl rfl (Nat.le_of_ble_eq_true rfl) (fun p e s m args below meth c A C => ?_)
  have qs1 := hSs (Int.toNat k)
  have tb := txV_1B Sh (60 * k + i1) m1
  refine r_aload_n C dX6_law_0 0 rfl ?_
  refine r_iload_n C dX6_law_1 1 rfl ?_
  refine r_iload_n C dX6_law_2 2 rfl ?_
  refine r_iload_n C dX6_law_3 3 rfl ?_
  refine r_iload C dX6_law_4 4 rfl ?_
  refine r_i2l C dX6_law_6 (by omega) ?_
  refine g_V_i (ws2 := (fun _ => [(h0, .inr (6, [.int (iI ft), .int (iI sc), .ref u2, .ref u3, .ref u4, .ref u5, .ref u6, .ref u7, .ref u8, .int (iI rm), .int (iI wc), .ref u11, .int (iI sh), .int (iI tq), .ref u14, .int (iI cnt), .ref u16, .int (iI gf), .int (iI gs), .int (iI rc), .ref u20, .ref u21, .ref u22, .ref u23, .ref u24, .int (iI tc)])), (u21, .inl (X.2.1.1, 4, .inl (iF Ss))), (u22, .inl (X.2.1.1, 4, .inl (iF Sl))), (u23, .inl (X.2.1.1, 240, .inl (iF Sh))), (u7, .inl (X.2.1.1, 6, .inl (iF Ru))), (u8, .inl (X.2.1.1, 6, .inl (iF Rr)))])) (As := [.int (iI k), .int (iI w), .int (iI i1), .long (lI m1)]) C (c_X6_barred_ok l X h0 u2 u3 u4 u5 u6 u7 u8 u11 u14 u16 u20 u21 u22 u23 u24 ft sc rm wc sh tq cnt gf gs rc tc Ss Sl k w i1 m1 (by first | assumption | omega) (by first | assumption | omega) (by first | assumption | omega) (by first | assumption | omega) (by assumption) (by assumption) (by first | assumption | have := hSs (Int.toNat k); have := hSl (Int.toNat k); omega)) gX6_law_X6_barred rfl rfl rfl hd_V_X6_barred_X6_law (by decide) dX6_law_7 [0, 1, 2] [3, 4, 5] [3, 4, 5, 0, 1, 2] rfl rfl rfl rfl (by decide) rfl 0 6 rfl rfl rfl rfl (Nat.le_of_ble_eq_true rfl) (by decide) (fun _ => rfl) (fun _ hy_ => ?_)
  clear hy_
  refine r_istore (lo2 := [(5, .int (iI 0)), (0, .ref h0), (1, .int (iI k)), (2, .int (iI w)), (3, .int (iI i1)), (4, .int (iI m1))]) C dX6_law_10 (by decide) rfl ?_
  refine r_iload C dX6_law_12 0 rfl ?_
  refine r_if_ge (tgt := 20) C dX6_law_14 (by decide) (by decide) (fun h_1 => ?_) (fun h_1 => absurd h_1 (by decide))
  refine r_aload_n C dX6_law_20 1 rfl ?_
  refine r_bipush C dX6_law_21 (by decide) ?_
  refine r_iload_n C dX6_law_23 2 rfl ?_
  refine r_imul C dX6_law_24 ?_
  refine r_iload_n C dX6_law_25 4 rfl ?_
  refine r_iadd C dX6_law_26 ?_
  refine r_iload C dX6_law_27 5 rfl ?_
  refine g_V_i (ws2 := (fun y_2 => [(h0, .inr (6, [.int (iI ft), .int (iI sc), .ref u2, .ref u3, .ref u4, .ref u5, .ref u6, .ref u7, .ref u8, .int (iI ((txV Sh ((60 * k) + i1) m1).2.1)), .int (iI wc), .ref u11, .int (iI sh), .int (iI tq), .ref u14, .int (iI cnt), .ref u16, .int (iI gf), .int (iI gs), .int (iI rc), .ref u20, .ref u21, .ref u22, .ref u23, .ref u24, .int (iI tc)])), (u21, .inl (X.2.1.1, 4, .inl (iF Ss))), (u22, .inl (X.2.1.1, 4, .inl (iF Sl))), (u23, .inl (X.2.1.1, 240, .inl (iF Sh))), (u7, .inl (X.2.1.1, 6, .inl (iF Ru))), (u8, .inl (X.2.1.1, 6, .inl (iF y_2)))])) (As := [.int (iI ((60 * k) + i1)), .int (iI m1)]) C (c_X6_readRules l X h0 u2 u3 u4 u5 u6 u7 u8 u11 u14 u16 u20 u21 u22 u23 u24 ft sc rm wc sh tq cnt gf gs rc tc Rr Sh ((60 * k) + i1) m1 (by first | assumption | omega) (by assumption)) gX6_law_X6_readRules rfl rfl rfl hd_V_X6_readRules_X6_law (by decide) dX6_law_29 [0, 5, 3] [1, 2, 4] [3, 0, 1, 5, 2, 4] rfl rfl rfl rfl (by decide) rfl 0 6 rfl rfl rfl rfl (Nat.le_of_ble_eq_true rfl) (by decide) (fun _ => rfl) (fun y_2 hy_ => ?_)
  have y_3 : ∀ j : Nat, j < 6 → vrR y_2 (txV Sh ((60 * k) + i1) m1).2.2.1 (txV Sh ((60 * k) + i1) m1).2.2.2 j := hy_
  clear hy_
  refine r_topi (z := ((txV Sh (60 * k + i1) m1).1)) (if_neg (by omega)) ?_
  refine r_istore (lo2 := [(6, .int (iI ((txV Sh (60 * k + i1) m1).1))), (5, .int (iI 0)), (0, .ref h0), (1, .int (iI k)), (2, .int (iI w)), (3, .int (iI i1)), (4, .int (iI m1))]) C dX6_law_32 (by decide) rfl ?_
  refine r_iload C dX6_law_34 0 rfl ?_
  refine r_if_lt (tgt := 49) C dX6_law_36 (by decide) (by omega) (fun h_5 => absurd h_5 (by omega)) (fun h_5 => ?_)
  refine r_aload_n C dX6_law_39 2 rfl ?_
  refine r_bipush C dX6_law_40 (by decide) ?_
  refine r_iload C dX6_law_42 0 rfl ?_
  refine r_isub C dX6_law_44 ?_
  refine g_V_i (ws2 := (fun _ => [(h0, .inr (6, [.int (iI 0), .int (iI sc), .ref u2, .ref u3, .ref u4, .ref u5, .ref u6, .ref u7, .ref u8, .int (iI ((txV Sh ((60 * k) + i1) m1).2.1)), .int (iI wc), .ref u11, .int (iI sh), .int (iI tq), .ref u14, .int (iI cnt), .ref u16, .int (iI gf), .int (iI gs), .int (iI rc), .ref u20, .ref u21, .ref u22, .ref u23, .ref u24, .int (iI tc)])), (u21, .inl (X.2.1.1, 4, .inl (iF Ss))), (u22, .inl (X.2.1.1, 4, .inl (iF Sl))), (u23, .inl (X.2.1.1, 240, .inl (iF Sh))), (u7, .inl (X.2.1.1, 6, .inl (iF Ru))), (u8, .inl (X.2.1.1, 6, .inl (iF y_2)))])) (As := [.int (iI ((-100) - ((txV Sh (60 * k + i1) m1).1)))]) C (c_X6_refused l X h0 u2 u3 u4 u5 u6 u7 u8 u11 u14 u16 u20 u21 u22 u23 u24 ft sc ((txV Sh ((60 * k) + i1) m1).2.1) wc sh tq cnt gf gs rc tc ((-100) - ((txV Sh (60 * k + i1) m1).1)) ) gX6_law_X6_refused rfl rfl rfl hd_V_X6_refused_X6_law (by decide) dX6_law_45 [0] [1, 2, 3, 4, 5] [5, 0, 1, 2, 3, 4] rfl rfl rfl rfl (by decide) rfl 0 6 rfl rfl rfl rfl (Nat.le_of_ble_eq_true rfl) (by decide) (fun _ => rfl) (fun _ hy_ => ?_)
  clear hy_
  exact g_ret_i C rfl dX6_law_48 (((txV Sh ((60 * k) + i1) m1).2.1), y_2) trivial rfl [0, 1, 2, 3, 4, 5] rfl rfl

set_option maxRecDepth 20000 in
theorem kw_X6_law_2 : Cond.fieldLink RX6 108 "SkipStonesModel" "readMany" "I" ∈ wsX6_law := List.mem_of_getElem? (i := 3) rfl
set_option maxRecDepth 20000 in
theorem kw_X6_law_0 : Cond.fieldLink RX6 25 "SkipStonesModel" "rules" "[I" ∈ wsX6_law := List.mem_of_getElem? (i := 1) rfl
set_option maxRecDepth 20000 in
theorem kw_X6_law_1 : Cond.fieldLink RX6 28 "SkipStonesModel" "readRule" "[I" ∈ wsX6_law := List.mem_of_getElem? (i := 2) rfl
set_option maxRecDepth 20000 in
theorem hd_S_X6_firstOf_X6_law : yX6_firstOf.cls ≠ "java/lang/invoke/MethodHandle" ∧ yX6_firstOf.cls ≠ "java/lang/invoke/VarHandle" ∧ (parseMethodDescriptor yX6_firstOf.desc).map (fun d => d.parameters.length) = some 1 := by decide +kernel
set_option maxRecDepth 20000 in
theorem hi_X6_law_6 : ∀ w ∈ wsX60, w ∈ wsX6_law := fun _ h => List.mem_cons_of_mem _ (List.mem_append_right _ h)
set_option maxHeartbeats 4000000 in
set_option maxRecDepth 100000 in
theorem c_X6_law_ok (l : Launch) (X : gX) (h0 : Nat) (u2 : Nat) (u3 : Nat) (u4 : Nat) (u5 : Nat) (u6 : Nat) (u7 : Nat) (u8 : Nat) (u11 : Nat) (u14 : Nat) (u16 : Nat) (u20 : Nat) (u21 : Nat) (u22 : Nat) (u23 : Nat) (u24 : Nat) (ft : Int) (sc : Int) (rm : Int) (wc : Int) (sh : Int) (tq : Int) (cnt : Int) (gf : Int) (gs : Int) (rc : Int) (tc : Int) (Ss : Nat → Int) (Sl : Nat → Int) (Sh : Nat → Int) (Ru : Nat → Int) (Rr : Nat → Int) (k : Int) (w : Int) (i1 : Int) (m1 : Int) (hx : 0 ≤ k ∧ k < 4) (hb_w : inB w) (hb_i1 : inB i1) (hb_m1 : inB m1) (hSs : ∀ i, -1 ≤ Ss i ∧ Ss i ≤ 60) (hSl : ∀ i, 0 ≤ Sl i ∧ Sl i ≤ 2) (hSh : ∀ i, inB (Sh i)) (hok : (0 ≤ w ∧ w ≤ 2 ∧ 0 ≤ (Ss (Int.toNat k)) ∧ (Sl (Int.toNat k)) = w ∧ 0 ≤ i1 ∧ 0 ≤ m1 ∧ i1 + m1 ≤ (Ss (Int.toNat k)))) (hgood : (txV Sh (60 * k + i1) m1).1 < 0) : gM l yX6_law wsX6_law (gr 3 0 0) X [(h0, .inr (6, [.int (iI ft), .int (iI sc), .ref u2, .ref u3, .ref u4, .ref u5, .ref u6, .ref u7, .ref u8, .int (iI rm), .int (iI wc), .ref u11, .int (iI sh), .int (iI tq), .ref u14, .int (iI cnt), .ref u16, .int (iI gf), .int (iI gs), .int (iI rc), .ref u20, .ref u21, .ref u22, .ref u23, .ref u24, .int (iI tc)])), (u21, .inl (X.2.1.1, 4, .inl (iF Ss))), (u22, .inl (X.2.1.1, 4, .inl (iF Sl))), (u23, .inl (X.2.1.1, 240, .inl (iF Sh))), (u7, .inl (X.2.1.1, 6, .inl (iF Ru))), (u8, .inl (X.2.1.1, 6, .inl (iF Rr)))] [.ref h0, .int (iI k), .int (iI w), .int (iI i1), .int (iI m1)] (gQi X (Y := Int × (Nat → Int)) (fun y => True) (fun y => (txV Sh (60 * k + i1) m1).2.1) (fun y => [(h0, .inr (6, [.int (iI 0), .int (iI sc), .ref u2, .ref u3, .ref u4, .ref u5, .ref u6, .ref u7, .ref u8, .int (iI y.1), .int (iI wc), .ref u11, .int (iI sh), .int (iI tq), .ref u14, .int (iI cnt), .ref u16, .int (iI gf), .int (iI gs), .int (iI rc), .ref u20, .ref u21, .ref u22, .ref u23, .ref u24, .int (iI tc)])), (u21, .inl (X.2.1.1, 4, .inl (iF Ss))), (u22, .inl (X.2.1.1, 4, .inl (iF Sl))), (u23, .inl (X.2.1.1, 240, .inl (iF Sh))), (u7, .inl (X.2.1.1, 6, .inl (iF (cpT (txV Sh (60 * k + i1) m1).2.2.1 Ru 6)))), (u8, .inl (X.2.1.1, 6, .inl (iF (y.2))))])) 0 0 := by
  refine g_start2 (lo := [(0, .ref h0), (1, .int (iI k)), (2, .int (iI w)), (3, .int (iI i1)), (4, .int (iI m1))]) (by decide +kernel) rfl rfl (Nat.le_of_ble_eq_true rfl) (fun p e s m args below meth c A C => ?_)
  have qs1 := hSs (Int.toNat k)
  refine r_aload_n C dX6_law_0 0 rfl ?_
  refine r_iload_n C dX6_law_1 1 rfl ?_
  refine r_iload_n C dX6_law_2 2 rfl ?_
  refine r_iload_n C dX6_law_3 3 rfl ?_
  refine r_iload C dX6_law_4 4 rfl ?_
  refine r_i2l C dX6_law_6 (by omega) ?_
  refine g_V_i (ws2 := (fun _ => [(h0, .inr (6, [.int (iI ft), .int (iI sc), .ref u2, .ref u3, .ref u4, .ref u5, .ref u6, .ref u7, .ref u8, .int (iI rm), .int (iI wc), .ref u11, .int (iI sh), .int (iI tq), .ref u14, .int (iI cnt), .ref u16, .int (iI gf), .int (iI gs), .int (iI rc), .ref u20, .ref u21, .ref u22, .ref u23, .ref u24, .int (iI tc)])), (u21, .inl (X.2.1.1, 4, .inl (iF Ss))), (u22, .inl (X.2.1.1, 4, .inl (iF Sl))), (u23, .inl (X.2.1.1, 240, .inl (iF Sh))), (u7, .inl (X.2.1.1, 6, .inl (iF Ru))), (u8, .inl (X.2.1.1, 6, .inl (iF Rr)))])) (As := [.int (iI k), .int (iI w), .int (iI i1), .long (lI m1)]) C (c_X6_barred_ok l X h0 u2 u3 u4 u5 u6 u7 u8 u11 u14 u16 u20 u21 u22 u23 u24 ft sc rm wc sh tq cnt gf gs rc tc Ss Sl k w i1 m1 (by first | assumption | omega) (by first | assumption | omega) (by first | assumption | omega) (by first | assumption | omega) (by assumption) (by assumption) (by first | assumption | have := hSs (Int.toNat k); have := hSl (Int.toNat k); omega)) gX6_law_X6_barred rfl rfl rfl hd_V_X6_barred_X6_law (by decide) dX6_law_7 [0, 1, 2] [3, 4, 5] [3, 4, 5, 0, 1, 2] rfl rfl rfl rfl (by decide) rfl 0 6 rfl rfl rfl rfl (Nat.le_of_ble_eq_true rfl) (by decide) (fun _ => rfl) (fun _ hy_ => ?_)
  clear hy_
  refine r_istore (lo2 := [(5, .int (iI 0)), (0, .ref h0), (1, .int (iI k)), (2, .int (iI w)), (3, .int (iI i1)), (4, .int (iI m1))]) C dX6_law_10 (by decide) rfl ?_
  refine r_iload C dX6_law_12 0 rfl ?_
  refine r_if_ge (tgt := 20) C dX6_law_14 (by decide) (by decide) (fun h_1 => ?_) (fun h_1 => absurd h_1 (by decide))
  refine r_aload_n C dX6_law_20 1 rfl ?_
  refine r_bipush C dX6_law_21 (by decide) ?_
  refine r_iload_n C dX6_law_23 2 rfl ?_
  refine r_imul C dX6_law_24 ?_
  refine r_iload_n C dX6_law_25 4 rfl ?_
  refine r_iadd C dX6_law_26 ?_
  refine r_iload C dX6_law_27 5 rfl ?_
  refine g_V_i (ws2 := (fun y_2 => [(h0, .inr (6, [.int (iI ft), .int (iI sc), .ref u2, .ref u3, .ref u4, .ref u5, .ref u6, .ref u7, .ref u8, .int (iI ((txV Sh ((60 * k) + i1) m1).2.1)), .int (iI wc), .ref u11, .int (iI sh), .int (iI tq), .ref u14, .int (iI cnt), .ref u16, .int (iI gf), .int (iI gs), .int (iI rc), .ref u20, .ref u21, .ref u22, .ref u23, .ref u24, .int (iI tc)])), (u21, .inl (X.2.1.1, 4, .inl (iF Ss))), (u22, .inl (X.2.1.1, 4, .inl (iF Sl))), (u23, .inl (X.2.1.1, 240, .inl (iF Sh))), (u7, .inl (X.2.1.1, 6, .inl (iF Ru))), (u8, .inl (X.2.1.1, 6, .inl (iF y_2)))])) (As := [.int (iI ((60 * k) + i1)), .int (iI m1)]) C (c_X6_readRules l X h0 u2 u3 u4 u5 u6 u7 u8 u11 u14 u16 u20 u21 u22 u23 u24 ft sc rm wc sh tq cnt gf gs rc tc Rr Sh ((60 * k) + i1) m1 (by first | assumption | omega) (by assumption)) gX6_law_X6_readRules rfl rfl rfl hd_V_X6_readRules_X6_law (by decide) dX6_law_29 [0, 5, 3] [1, 2, 4] [3, 0, 1, 5, 2, 4] rfl rfl rfl rfl (by decide) rfl 0 6 rfl rfl rfl rfl (Nat.le_of_ble_eq_true rfl) (by decide) (fun _ => rfl) (fun y_2 hy_ => ?_)
  have y_3 : ∀ j : Nat, j < 6 → vrR y_2 (txV Sh ((60 * k) + i1) m1).2.2.1 (txV Sh ((60 * k) + i1) m1).2.2.2 j := hy_
  clear hy_
  refine r_topi (z := (-9)) (if_pos (by omega)) ?_
  refine r_istore (lo2 := [(6, .int (iI (-9))), (5, .int (iI 0)), (0, .ref h0), (1, .int (iI k)), (2, .int (iI w)), (3, .int (iI i1)), (4, .int (iI m1))]) C dX6_law_32 (by decide) rfl ?_
  refine r_iload C dX6_law_34 0 rfl ?_
  refine r_if_lt (tgt := 49) C dX6_law_36 (by decide) (by omega) (fun h_5 => ?_) (fun h_5 => absurd h_5 (by omega))
  have hVy : ∀ j : Nat, j < 6 → vrR y_2 (txV Sh (60 * k + i1) m1).2.2.1 (txV Sh (60 * k + i1) m1).2.2.2 j := by assumption
  refine r_iconst C dX6_law_49 ?_
  refine r_istore (lo2 := [(7, .int (iI 0)), (6, .int (iI (-9))), (5, .int (iI 0)), (0, .ref h0), (1, .int (iI k)), (2, .int (iI w)), (3, .int (iI i1)), (4, .int (iI m1))]) C dX6_law_50 (by decide) rfl ?_
  have L52 : ∀ (fu52 : Nat) (c1 : Int) (G : Nat → Int), (0 ≤ c1 ∧ c1 ≤ 6) → (G = cpT (txV Sh (60 * k + i1) m1).2.2.1 Ru c1) → (6 - c1).toNat < fu52 → gW p l e (gr 3 0 0) s m args below meth c X A 8 (MQ below ((gQi X (Y := Int × (Nat → Int)) (fun y => True) (fun y => (txV Sh (60 * k + i1) m1).2.1) (fun y => [(h0, .inr (6, [.int (iI 0), .int (iI sc), .ref u2, .ref u3, .ref u4, .ref u5, .ref u6, .ref u7, .ref u8, .int (iI y.1), .int (iI wc), .ref u11, .int (iI sh), .int (iI tq), .ref u14, .int (iI cnt), .ref u16, .int (iI gf), .int (iI gs), .int (iI rc), .ref u20, .ref u21, .ref u22, .ref u23, .ref u24, .int (iI tc)])), (u21, .inl (X.2.1.1, 4, .inl (iF Ss))), (u22, .inl (X.2.1.1, 4, .inl (iF Sl))), (u23, .inl (X.2.1.1, 240, .inl (iF Sh))), (u7, .inl (X.2.1.1, 6, .inl (iF (cpT (txV Sh (60 * k + i1) m1).2.2.1 Ru 6)))), (u8, .inl (X.2.1.1, 6, .inl (iF (y.2))))])) A) args s 0 0 A) 0 0 [(h0, .inr (6, [.int (iI ft), .int (iI sc), .ref u2, .ref u3, .ref u4, .ref u5, .ref u6, .ref u7, .ref u8, .int (iI ((txV Sh ((60 * k) + i1) m1).2.1)), .int (iI wc), .ref u11, .int (iI sh), .int (iI tq), .ref u14, .int (iI cnt), .ref u16, .int (iI gf), .int (iI gs), .int (iI rc), .ref u20, .ref u21, .ref u22, .ref u23, .ref u24, .int (iI tc)])), (u21, .inl (X.2.1.1, 4, .inl (iF Ss))), (u22, .inl (X.2.1.1, 4, .inl (iF Sl))), (u23, .inl (X.2.1.1, 240, .inl (iF Sh))), (u7, .inl (X.2.1.1, 6, .inl (iF G))), (u8, .inl (X.2.1.1, 6, .inl (iF y_2)))] 52 [(6, .int (iI (-9))), (5, .int (iI 0)), (0, .ref h0), (1, .int (iI k)), (2, .int (iI w)), (3, .int (iI i1)), (4, .int (iI m1)), (7, .int (iI c1))] [] := by
    intro fu52
    induction fu52 with
    | zero => intro c1 G ic iG hm52; exact absurd hm52 (Nat.not_lt_zero _)
    | succ fu52 ih52 =>
      intro c1 G ic iG hm52
      refine r_iload C dX6_law_52 7 rfl ?_
      refine r_bipush C dX6_law_54 (by decide) ?_
      refine r_icmp_ge (tgt := 97) C dX6_law_56 (by decide) (by omega) (by decide) (fun h_6 => ?_) (fun h_6 => ?_)
      · skip
        refine r_aload_n C dX6_law_97 2 rfl ?_
        refine r_aload_n C dX6_law_98 2 rfl ?_
        refine gf_6_9 C hi_X6_law_6 kw_X6_law_2 dX6_law_99 0 rfl rfl ?_
        refine g_V_i (ws2 := (fun _ => [(h0, .inr (6, [.int (iI 0), .int (iI sc), .ref u2, .ref u3, .ref u4, .ref u5, .ref u6, .ref u7, .ref u8, .int (iI ((txV Sh ((60 * k) + i1) m1).2.1)), .int (iI wc), .ref u11, .int (iI sh), .int (iI tq), .ref u14, .int (iI cnt), .ref u16, .int (iI gf), .int (iI gs), .int (iI rc), .ref u20, .ref u21, .ref u22, .ref u23, .ref u24, .int (iI tc)])), (u21, .inl (X.2.1.1, 4, .inl (iF Ss))), (u22, .inl (X.2.1.1, 4, .inl (iF Sl))), (u23, .inl (X.2.1.1, 240, .inl (iF Sh))), (u7, .inl (X.2.1.1, 6, .inl (iF G))), (u8, .inl (X.2.1.1, 6, .inl (iF y_2)))])) (As := [.int (iI ((txV Sh ((60 * k) + i1) m1).2.1))]) C (c_X6_refused l X h0 u2 u3 u4 u5 u6 u7 u8 u11 u14 u16 u20 u21 u22 u23 u24 ft sc ((txV Sh ((60 * k) + i1) m1).2.1) wc sh tq cnt gf gs rc tc ((txV Sh ((60 * k) + i1) m1).2.1) ) gX6_law_X6_refused rfl rfl rfl hd_V_X6_refused_X6_law (by decide) dX6_law_102 [0] [1, 2, 3, 4, 5] [5, 0, 1, 2, 3, 4] rfl rfl rfl rfl (by decide) rfl 0 6 rfl rfl rfl rfl (Nat.le_of_ble_eq_true rfl) (by decide) (fun _ => rfl) (fun _ hy_ => ?_)
        clear hy_
        exact g_ret_i C rfl dX6_law_105 (((txV Sh ((60 * k) + i1) m1).2.1), y_2) trivial rfl [0, 1, 2, 3, 4, 5] rfl (by rw [iG, show c1 = 6 by omega] <;> rfl)
      · skip
        have hvr := hVy (Int.toNat c1) (by omega)
        simp only [vrR] at hvr
        refine r_aload_n C dX6_law_59 2 rfl ?_
        refine gf_6_7 C hi_X6_law_6 kw_X6_law_0 dX6_law_60 0 rfl rfl ?_
        refine r_iload C dX6_law_63 7 rfl ?_
        refine r_aload_n C dX6_law_65 2 rfl ?_
        refine gf_6_8 C hi_X6_law_6 kw_X6_law_1 dX6_law_66 0 rfl rfl ?_
        refine r_iload C dX6_law_69 7 rfl ?_
        refine r_iald C dX6_law_71 5 rfl (by omega) (by decide) ?_
        refine r_if_ge (tgt := 83) C dX6_law_72 (by decide) (by omega) (fun h_7 => ?_) (fun h_7 => ?_)
        · skip
          refine r_aload_n C dX6_law_83 2 rfl ?_
          refine gf_6_8 C hi_X6_law_6 kw_X6_law_1 dX6_law_84 0 rfl rfl ?_
          refine r_iload C dX6_law_87 7 rfl ?_
          refine r_iald C dX6_law_89 5 rfl (by omega) (by decide) ?_
          refine r_topi (z := ((txV Sh (60 * k + i1) m1).2.2.1 (Int.toNat c1))) (by omega) ?_
          refine r_iast (ws2 := [(h0, .inr (6, [.int (iI ft), .int (iI sc), .ref u2, .ref u3, .ref u4, .ref u5, .ref u6, .ref u7, .ref u8, .int (iI ((txV Sh ((60 * k) + i1) m1).2.1)), .int (iI wc), .ref u11, .int (iI sh), .int (iI tq), .ref u14, .int (iI cnt), .ref u16, .int (iI gf), .int (iI gs), .int (iI rc), .ref u20, .ref u21, .ref u22, .ref u23, .ref u24, .int (iI tc)])), (u21, .inl (X.2.1.1, 4, .inl (iF Ss))), (u22, .inl (X.2.1.1, 4, .inl (iF Sl))), (u23, .inl (X.2.1.1, 240, .inl (iF Sh))), (u7, .inl (X.2.1.1, 6, .inl (iF (updI G (Int.toNat c1) ((txV Sh (60 * k + i1) m1).2.2.1 (Int.toNat c1)))))), (u8, .inl (X.2.1.1, 6, .inl (iF y_2)))]) C dX6_law_90 4 rfl (by omega) (by decide) rfl ?_
          refine r_iinc (lo2 := [(7, .int (iI (c1 + 1))), (6, .int (iI (-9))), (5, .int (iI 0)), (0, .ref h0), (1, .int (iI k)), (2, .int (iI w)), (3, .int (iI i1)), (4, .int (iI m1))]) C dX6_law_91 7 rfl (by decide) rfl ?_
          refine r_goto (tgt := 52) C dX6_law_94 (by decide) ?_
          refine r_lo [1, 2, 3, 4, 5, 6, 7, 0] (lo2 := [(6, .int (iI (-9))), (5, .int (iI 0)), (0, .ref h0), (1, .int (iI k)), (2, .int (iI w)), (3, .int (iI i1)), (4, .int (iI m1)), (7, .int (iI (c1 + 1)))]) rfl ?_
          exact ih52 (c1 + 1) (updI G (Int.toNat c1) ((txV Sh (60 * k + i1) m1).2.2.1 (Int.toNat c1))) (by omega) (by rw [iG]; exact cpT_go (by omega)) (by omega)
        · skip
          refine r_iload C dX6_law_75 7 rfl ?_
          refine g_S_i (ws2 := (fun _ => [(h0, .inr (6, [.int (iI ft), .int (iI sc), .ref u2, .ref u3, .ref u4, .ref u5, .ref u6, .ref u7, .ref u8, .int (iI ((txV Sh ((60 * k) + i1) m1).2.1)), .int (iI wc), .ref u11, .int (iI sh), .int (iI tq), .ref u14, .int (iI cnt), .ref u16, .int (iI gf), .int (iI gs), .int (iI rc), .ref u20, .ref u21, .ref u22, .ref u23, .ref u24, .int (iI tc)])), (u21, .inl (X.2.1.1, 4, .inl (iF Ss))), (u22, .inl (X.2.1.1, 4, .inl (iF Sl))), (u23, .inl (X.2.1.1, 240, .inl (iF Sh))), (u7, .inl (X.2.1.1, 6, .inl (iF G))), (u8, .inl (X.2.1.1, 6, .inl (iF y_2)))])) (As := [.int (iI c1)]) C (c_X6_firstOf l X c1 (by first | assumption | omega)) gX6_law_X6_firstOf rfl rfl rfl hd_S_X6_firstOf_X6_law (by decide) dX6_law_77 [] [0, 1, 2, 3, 4, 5] [0, 1, 2, 3, 4, 5] rfl rfl rfl rfl (by decide) rfl rfl rfl (Nat.le_of_ble_eq_true rfl) (by decide) (fun _ => rfl) (fun _ hy_ => ?_)
          clear hy_
          refine r_goto (tgt := 90) C dX6_law_80 (by decide) ?_
          refine r_topi (z := ((txV Sh (60 * k + i1) m1).2.2.1 (Int.toNat c1))) (by omega) ?_
          refine r_iast (ws2 := [(h0, .inr (6, [.int (iI ft), .int (iI sc), .ref u2, .ref u3, .ref u4, .ref u5, .ref u6, .ref u7, .ref u8, .int (iI ((txV Sh ((60 * k) + i1) m1).2.1)), .int (iI wc), .ref u11, .int (iI sh), .int (iI tq), .ref u14, .int (iI cnt), .ref u16, .int (iI gf), .int (iI gs), .int (iI rc), .ref u20, .ref u21, .ref u22, .ref u23, .ref u24, .int (iI tc)])), (u21, .inl (X.2.1.1, 4, .inl (iF Ss))), (u22, .inl (X.2.1.1, 4, .inl (iF Sl))), (u23, .inl (X.2.1.1, 240, .inl (iF Sh))), (u7, .inl (X.2.1.1, 6, .inl (iF (updI G (Int.toNat c1) ((txV Sh (60 * k + i1) m1).2.2.1 (Int.toNat c1)))))), (u8, .inl (X.2.1.1, 6, .inl (iF y_2)))]) C dX6_law_90 4 rfl (by omega) (by decide) rfl ?_
          refine r_iinc (lo2 := [(7, .int (iI (c1 + 1))), (6, .int (iI (-9))), (5, .int (iI 0)), (0, .ref h0), (1, .int (iI k)), (2, .int (iI w)), (3, .int (iI i1)), (4, .int (iI m1))]) C dX6_law_91 7 rfl (by decide) rfl ?_
          refine r_goto (tgt := 52) C dX6_law_94 (by decide) ?_
          refine r_lo [1, 2, 3, 4, 5, 6, 7, 0] (lo2 := [(6, .int (iI (-9))), (5, .int (iI 0)), (0, .ref h0), (1, .int (iI k)), (2, .int (iI w)), (3, .int (iI i1)), (4, .int (iI m1)), (7, .int (iI (c1 + 1)))]) rfl ?_
          exact ih52 (c1 + 1) (updI G (Int.toNat c1) ((txV Sh (60 * k + i1) m1).2.2.1 (Int.toNat c1))) (by omega) (by rw [iG]; exact cpT_go (by omega)) (by omega)
  refine r_lo [1, 2, 3, 4, 5, 6, 7, 0] (lo2 := [(6, .int (iI (-9))), (5, .int (iI 0)), (0, .ref h0), (1, .int (iI k)), (2, .int (iI w)), (3, .int (iI i1)), (4, .int (iI m1)), (7, .int (iI 0))]) rfl ?_
  exact L52 ((6 - (0 : Int)).toNat + 1) 0 Ru (by omega) (cpT_0 _ _) (Nat.lt_succ_self _)

set_option maxHeartbeats 4000000 in
set_option maxRecDepth 100000 in
theorem c_X6_law_out (l : Launch) (X : gX) (h0 : Nat) (u2 : Nat) (u3 : Nat) (u4 : Nat) (u5 : Nat) (u6 : Nat) (u7 : Nat) (u8 : Nat) (u11 : Nat) (u14 : Nat) (u16 : Nat) (u20 : Nat) (u21 : Nat) (u22 : Nat) (u23 : Nat) (u24 : Nat) (ft : Int) (sc : Int) (rm : Int) (wc : Int) (sh : Int) (tq : Int) (cnt : Int) (gf : Int) (gs : Int) (rc : Int) (tc : Int) (k : Int) (w : Int) (i1 : Int) (m1 : Int) (hx : ¬ (0 ≤ k ∧ k < 4)) (hbk : inB k) (hb_m1 : inB m1) : gM l yX6_law wsX6_law (gr 3 0 0) X [(h0, .inr (6, [.int (iI ft), .int (iI sc), .ref u2, .ref u3, .ref u4, .ref u5, .ref u6, .ref u7, .ref u8, .int (iI rm), .int (iI wc), .ref u11, .int (iI sh), .int (iI tq), .ref u14, .int (iI cnt), .ref u16, .int (iI gf), .int (iI gs), .int (iI rc), .ref u20, .ref u21, .ref u22, .ref u23, .ref u24, .int (iI tc)]))] [.ref h0, .int (iI k), .int (iI w), .int (iI i1), .int (iI m1)] (gQi X (Y := Unit) (fun _ => True) (fun _ => -1) (fun _ => [(h0, .inr (6, [.int (iI 0), .int (iI sc), .ref u2, .ref u3, .ref u4, .ref u5, .ref u6, .ref u7, .ref u8, .int (iI rm), .int (iI wc), .ref u11, .int (iI sh), .int (iI tq), .ref u14, .int (iI cnt), .ref u16, .int (iI gf), .int (iI gs), .int (iI rc), .ref u20, .ref u21, .ref u22, .ref u23, .ref u24, .int (iI tc)]))])) 0 0 := by
  refine g_start2 (lo := [(0, .ref h0), (1, .int (iI k)), (2, .int (iI w)), (3, .int (iI i1)), (4, .int (iI m1))]) (by decide +kernel) rfl rfl (Nat.le_of_ble_eq_true rfl) (fun p e s m args below meth c A C => ?_)
  refine r_aload_n C dX6_law_0 0 rfl ?_
  refine r_iload_n C dX6_law_1 1 rfl ?_
  refine r_iload_n C dX6_law_2 2 rfl ?_
  refine r_iload_n C dX6_law_3 3 rfl ?_
  refine r_iload C dX6_law_4 4 rfl ?_
  refine r_i2l C dX6_law_6 (by omega) ?_
  refine g_V_i (ws2 := (fun _ => [(h0, .inr (6, [.int (iI 0), .int (iI sc), .ref u2, .ref u3, .ref u4, .ref u5, .ref u6, .ref u7, .ref u8, .int (iI rm), .int (iI wc), .ref u11, .int (iI sh), .int (iI tq), .ref u14, .int (iI cnt), .ref u16, .int (iI gf), .int (iI gs), .int (iI rc), .ref u20, .ref u21, .ref u22, .ref u23, .ref u24, .int (iI tc)]))])) (As := [.int (iI k), .int (iI w), .int (iI i1), .long (lI m1)]) C (c_X6_barred_out l X h0 u2 u3 u4 u5 u6 u7 u8 u11 u14 u16 u20 u21 u22 u23 u24 ft sc rm wc sh tq cnt gf gs rc tc k w i1 m1 (by first | assumption | omega) (by first | assumption | omega)) gX6_law_X6_barred rfl rfl rfl hd_V_X6_barred_X6_law (by decide) dX6_law_7 [0] [] [0] rfl rfl rfl rfl (by decide) rfl 0 6 rfl rfl rfl rfl (Nat.le_of_ble_eq_true rfl) (by decide) (fun _ => rfl) (fun _ hy_ => ?_)
  clear hy_
  refine r_istore (lo2 := [(5, .int (iI (-1))), (0, .ref h0), (1, .int (iI k)), (2, .int (iI w)), (3, .int (iI i1)), (4, .int (iI m1))]) C dX6_law_10 (by decide) rfl ?_
  refine r_iload C dX6_law_12 0 rfl ?_
  refine r_if_ge (tgt := 20) C dX6_law_14 (by decide) (by omega) (fun h_1 => absurd h_1 (by omega)) (fun h_1 => ?_)
  refine r_iload C dX6_law_17 0 rfl ?_
  exact g_ret_i C rfl dX6_law_19 () trivial (by (repeat' split) <;> first | rfl | omega) [0] rfl (by (repeat' split) <;> first | rfl | omega)
end M17
