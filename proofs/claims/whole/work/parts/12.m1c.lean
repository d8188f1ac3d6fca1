section M1c
set_option maxRecDepth 20000 in
theorem kw_X0_goOn_0 : Cond.fieldLink RX0 28 "SkipStones$Flight" "slant" "I" ∈ wsX0_goOn := List.mem_of_getElem? (i := 1) rfl
set_option maxRecDepth 20000 in
theorem kw_X0_goOn_1 : Cond.fieldLink RX0 19 "SkipStones$Flight" "x" "I" ∈ wsX0_goOn := List.mem_of_getElem? (i := 2) rfl
set_option maxRecDepth 20000 in
theorem hd_V_X4_waveAt_X0_goOn : yX4_waveAt.cls = yX4_waveAt.cls ∧ yX4_waveAt.cls ≠ "java/lang/invoke/MethodHandle" ∧ yX4_waveAt.cls ≠ "java/lang/invoke/VarHandle" ∧ (parseMethodDescriptor yX4_waveAt.desc).map (fun d => d.parameters.length) = some 2 := by decide +kernel
set_option maxRecDepth 20000 in
theorem hd_V_X0_goesOffAgain_X0_goOn : yX0_goesOffAgain.cls = yX0_goesOffAgain.cls ∧ yX0_goesOffAgain.cls ≠ "java/lang/invoke/MethodHandle" ∧ yX0_goesOffAgain.cls ≠ "java/lang/invoke/VarHandle" ∧ (parseMethodDescriptor yX0_goesOffAgain.desc).map (fun d => d.parameters.length) = some 3 := by decide +kernel
set_option maxRecDepth 20000 in
theorem hi_X0_goOn_0 : ∀ w ∈ wsX00, w ∈ wsX0_goOn := fun _ h => List.mem_cons_of_mem _ (List.mem_append_left _ (List.mem_append_left _ (List.mem_append_right _ h)))
set_option maxHeartbeats 4000000 in
set_option maxRecDepth 100000 in
/-- goOn -/
theorem c_X0_goOn (l : Launch) (X : gX) (h0 : Nat) (h1 : Nat) (sp : Int) (fa : Int) (sl : Int) (sn : Int) (F : Nat → Int) (s0 : Nat) (wt : Int) (wd : Int) (rg : Int) (ly : Int) (wo : Int) (a0 : Nat) (a1 : Nat) (l1 : Int) (l2 : Int) (l3 : Int) (l4 : Int) (l5 : Int) (l6 : Int) (wc : Int) (sh : Int) (Fw : Nat → Int) (by1 : Int) (hs1 : 1 ≤ wt ∧ wt ≤ 99) (hs2 : 1 ≤ wd ∧ wd ≤ 99) (hs3 : 0 ≤ rg ∧ rg ≤ 9) (hl1 : 1 ≤ l1 ∧ l1 ≤ 99) (hl2 : 0 ≤ l2 ∧ l2 ≤ 50) (hl3 : 1 ≤ l3 ∧ l3 ≤ 99) (hl4 : 0 ≤ l4 ∧ l4 ≤ 99) (hl5 : 0 ≤ l5 ∧ l5 ≤ 50) (hl6 : 1 ≤ l6 ∧ l6 ≤ 45) (hp : 1 ≤ sp ∧ sp ≤ 300) (hf : 1 ≤ fa ∧ fa ≤ 99) (hsl : 0 ≤ sl ∧ sl ≤ 45) (hsn : 0 ≤ sn ∧ sn ≤ 99) (hby : 0 ≤ by1 ∧ by1 < 20) (hwc : 1 ≤ wc ∧ wc ≤ 20) (hFw : ∀ j, -9 ≤ Fw j ∧ Fw j ≤ 9) : gM l yX0_goOn wsX0_goOn (gr 3 0 0) X [(h0, .inr (0, [.ref h1, .int (iI 0), .int (iI 0), .int (iI sp), .int (iI fa), .int (iI sl), .int (iI sn), .int (iI 0)])), (h1, .inl (X.2.1.1, 810, .inl (iF F))), (s0, .inr (3, [.int (iI wt), .int (iI wd), .int (iI rg), .int (iI ly), .int (iI wo)])), (a0, .inr (4, [.int (iI l1), .int (iI l2), .int (iI l3), .int (iI l4), .int (iI l5), .int (iI l6), .ref a1, .int (iI wc), .int (iI sh)])), (a1, .inl (X.2.1.1, 20, .inl (iF Fw)))] [.ref h0, .ref s0, .ref a0, .int (iI by1)] (gQv X (Y := Int × Int × Int × Int × Int × Int) (fun y => True) (fun y => [(h0, .inr (0, [.ref h1, .int (iI (fNum (((l1, l2, l3, l4, l5, l6), (wt, wd, rg), (by1, wc, Fw)) : fEn) 90 0 ((0, sp, fa, sl, sn, 0) : fS))), .int (iI y.1), .int (iI y.2.1), .int (iI y.2.2.1), .int (iI y.2.2.2.1), .int (iI y.2.2.2.2.1), .int (iI y.2.2.2.2.2)])), (h1, .inl (X.2.1.1, 810, .inl (iF (fRes (((l1, l2, l3, l4, l5, l6), (wt, wd, rg), (by1, wc, Fw)) : fEn) 90 F 0 ((0, sp, fa, sl, sn, 0) : fS))))), (s0, .inr (3, [.int (iI wt), .int (iI wd), .int (iI rg), .int (iI ly), .int (iI wo)])), (a0, .inr (4, [.int (iI l1), .int (iI l2), .int (iI l3), .int (iI l4), .int (iI l5), .int (iI l6), .ref a1, .int (iI wc), .int (iI sh)])), (a1, .inl (X.2.1.1, 20, .inl (iF Fw)))])) 0 0 := by
  refine g_start2 (lo := [(0, .ref h0), (1, .ref s0), (2, .ref a0), (3, .int (iI by1))]) (by decide +kernel) rfl rfl (Nat.le_of_ble_eq_true rfl) (fun p e s m args below meth c A C => ?_)
  refine r_iconst C dX0_goOn_0 ?_
  refine r_istore (lo2 := [(4, .int (iI 1)), (0, .ref h0), (1, .ref s0), (2, .ref a0), (3, .int (iI by1))]) C dX0_goOn_1 (by decide) rfl ?_
  refine r_iconst C dX0_goOn_3 ?_
  refine r_istore (lo2 := [(5, .int (iI 0)), (4, .int (iI 1)), (0, .ref h0), (1, .ref s0), (2, .ref a0), (3, .int (iI by1))]) C dX0_goOn_4 (by decide) rfl ?_
  have L6 : ∀ (fu6 : Nat) (k : Int) (xq : Int) (sq : Int) (fq : Int) (lq : Int) (nq : Int) (bq : Int) (G : Nat → Int), (0 ≤ k ∧ k ≤ 90) → (0 ≤ xq ∧ xq ≤ 1485 * k) → (1 ≤ sq ∧ sq ≤ 300) → (1 ≤ fq ∧ fq ≤ 99) → (0 ≤ lq ∧ lq ≤ 45 + 20 * k) → (0 ≤ nq ∧ nq ≤ 99) → (0 ≤ bq ∧ bq ≤ 20 * k) → (fNum (((l1, l2, l3, l4, l5, l6), (wt, wd, rg), (by1, wc, Fw)) : fEn) 90 0 ((0, sp, fa, sl, sn, 0) : fS) = fNum (((l1, l2, l3, l4, l5, l6), (wt, wd, rg), (by1, wc, Fw)) : fEn) (90 - k).toNat k ((xq, sq, fq, lq, nq, bq) : fS)) → (fRes (((l1, l2, l3, l4, l5, l6), (wt, wd, rg), (by1, wc, Fw)) : fEn) 90 F 0 ((0, sp, fa, sl, sn, 0) : fS) = fRes (((l1, l2, l3, l4, l5, l6), (wt, wd, rg), (by1, wc, Fw)) : fEn) (90 - k).toNat G k ((xq, sq, fq, lq, nq, bq) : fS)) → (90 - k).toNat < fu6 → gW p l e (gr 3 0 0) s m args below meth c X A 6 (MQ below ((gQv X (Y := Int × Int × Int × Int × Int × Int) (fun y => True) (fun y => [(h0, .inr (0, [.ref h1, .int (iI (fNum (((l1, l2, l3, l4, l5, l6), (wt, wd, rg), (by1, wc, Fw)) : fEn) 90 0 ((0, sp, fa, sl, sn, 0) : fS))), .int (iI y.1), .int (iI y.2.1), .int (iI y.2.2.1), .int (iI y.2.2.2.1), .int (iI y.2.2.2.2.1), .int (iI y.2.2.2.2.2)])), (h1, .inl (X.2.1.1, 810, .inl (iF (fRes (((l1, l2, l3, l4, l5, l6), (wt, wd, rg), (by1, wc, Fw)) : fEn) 90 F 0 ((0, sp, fa, sl, sn, 0) : fS))))), (s0, .inr (3, [.int (iI wt), .int (iI wd), .int (iI rg), .int (iI ly), .int (iI wo)])), (a0, .inr (4, [.int (iI l1), .int (iI l2), .int (iI l3), .int (iI l4), .int (iI l5), .int (iI l6), .ref a1, .int (iI wc), .int (iI sh)])), (a1, .inl (X.2.1.1, 20, .inl (iF Fw)))])) A) args s 0 0 A) 0 0 [(h0, .inr (0, [.ref h1, .int (iI k), .int (iI xq), .int (iI sq), .int (iI fq), .int (iI lq), .int (iI nq), .int (iI bq)])), (h1, .inl (X.2.1.1, 810, .inl (iF G))), (s0, .inr (3, [.int (iI wt), .int (iI wd), .int (iI rg), .int (iI ly), .int (iI wo)])), (a0, .inr (4, [.int (iI l1), .int (iI l2), .int (iI l3), .int (iI l4), .int (iI l5), .int (iI l6), .ref a1, .int (iI wc), .int (iI sh)])), (a1, .inl (X.2.1.1, 20, .inl (iF Fw)))] 6 [(4, .int (iI 1)), (0, .ref h0), (1, .ref s0), (2, .ref a0), (3, .int (iI by1)), (5, .int (iI k))] [] := by
    intro fu6
    induction fu6 with
    | zero => intro k xq sq fq lq nq bq G ik ix isp ifa isl isn ibt iN iR hm6; exact absurd hm6 (Nat.not_lt_zero _)
    | succ fu6 ih6 =>
      intro k xq sq fq lq nq bq G ik ix isp ifa isl isn ibt iN iR hm6
      refine r_iload C dX0_goOn_6 5 rfl ?_
      refine r_bipush C dX0_goOn_8 (by decide) ?_
      refine r_icmp_ge (tgt := 46) C dX0_goOn_10 (by decide) (by omega) (by decide) (fun h_1 => ?_) (fun h_1 => ?_)
      · skip
        exact g_ret_v C rfl dX0_goOn_46 (xq, sq, fq, lq, nq, bq) trivial [0, 1, 2, 3, 4] rfl (by first | (rw [iN, iR, fNum_stop (E := (((l1, l2, l3, l4, l5, l6), (wt, wd, rg), (by1, wc, Fw)) : fEn)) (t := ((xq, sq, fq, lq, nq, bq) : fS)) (by omega) (Or.inl KSK), fRes_sunk (E := (((l1, l2, l3, l4, l5, l6), (wt, wd, rg), (by1, wc, Fw)) : fEn)) (t := ((xq, sq, fq, lq, nq, bq) : fS)) (by omega) KSK] <;> rfl) | (rw [iN, iR, fNum_stop (E := (((l1, l2, l3, l4, l5, l6), (wt, wd, rg), (by1, wc, Fw)) : fEn)) (t := ((xq, sq, fq, lq, nq, bq) : fS)) (by omega) (Or.inr KSZ), fRes_zero (E := (((l1, l2, l3, l4, l5, l6), (wt, wd, rg), (by1, wc, Fw)) : fEn)) (t := ((xq, sq, fq, lq, nq, bq) : fS)) (by omega) KSK KSZ] <;> rfl) | (rw [iN, iR, show (90 - k).toNat = 0 by omega] <;> rfl))
      · skip
        refine r_iload C dX0_goOn_13 0 rfl ?_
        refine r_if_eq (tgt := 46) C dX0_goOn_15 (by decide) (by decide) (fun h_2 => absurd h_2 (by decide)) (fun h_2 => ?_)
        refine r_aload_n C dX0_goOn_18 1 rfl ?_
        refine r_aload_n C dX0_goOn_19 2 rfl ?_
        refine r_aload_n C dX0_goOn_20 3 rfl ?_
        refine r_aload_n C dX0_goOn_21 1 rfl ?_
        refine gf_0_5 C hi_X0_goOn_0 kw_X0_goOn_0 dX0_goOn_22 0 rfl rfl ?_
        refine r_aload_n C dX0_goOn_25 3 rfl ?_
        refine r_aload_n C dX0_goOn_26 1 rfl ?_
        refine gf_0_2 C hi_X0_goOn_0 kw_X0_goOn_1 dX0_goOn_27 0 rfl rfl ?_
        refine r_iload_n C dX0_goOn_30 4 rfl ?_
        refine g_V_i (ws2 := (fun _ => [(h0, .inr (0, [.ref h1, .int (iI k), .int (iI xq), .int (iI sq), .int (iI fq), .int (iI lq), .int (iI nq), .int (iI bq)])), (h1, .inl (X.2.1.1, 810, .inl (iF G))), (s0, .inr (3, [.int (iI wt), .int (iI wd), .int (iI rg), .int (iI ly), .int (iI wo)])), (a0, .inr (4, [.int (iI l1), .int (iI l2), .int (iI l3), .int (iI l4), .int (iI l5), .int (iI l6), .ref a1, .int (iI wc), .int (iI sh)])), (a1, .inl (X.2.1.1, 20, .inl (iF Fw)))])) (As := [.int (iI xq), .int (iI by1)]) C (c_X4_waveAt l X a0 a1 l1 l2 l3 l4 l5 l6 wc sh Fw xq by1 (by first | assumption | omega) (by first | assumption | omega) (by first | assumption | omega)) gX0_goOn_X4_waveAt rfl rfl rfl hd_V_X4_waveAt_X0_goOn (by decide) dX0_goOn_31 [3, 4] [0, 1, 2] [0, 1, 2, 3, 4] rfl rfl rfl rfl (by decide) rfl 3 4 rfl rfl rfl rfl (Nat.le_of_ble_eq_true rfl) (by decide) (fun _ => rfl) (fun _ hy_ => ?_)
        clear hy_
        refine r_iadd C dX0_goOn_34 ?_
        by_cases KSK : ((lq + Fw (Int.toNat ((xq + by1) % wc))) < 1 ∨ 45 < (lq + Fw (Int.toNat ((xq + by1) % wc))) ∨ sq * wd * (lq + Fw (Int.toNat ((xq + by1) % wc))) / (10 * l1) < wt * (fq + 10))
        · skip
          refine g_V_i (ws2 := (fun _ => [(h0, .inr (0, [.ref h1, .int (iI (k + 1)), .int (iI xq), .int (iI sq), .int (iI fq), .int (iI lq), .int (iI nq), .int (iI bq)])), (h1, .inl (X.2.1.1, 810, .inl (iF (kpF G k 0 xq sq fq lq nq (lq + (Fw (Int.toNat ((xq + by1) % wc)))) 0 bq)))), (s0, .inr (3, [.int (iI wt), .int (iI wd), .int (iI rg), .int (iI ly), .int (iI wo)])), (a0, .inr (4, [.int (iI l1), .int (iI l2), .int (iI l3), .int (iI l4), .int (iI l5), .int (iI l6), .ref a1, .int (iI wc), .int (iI sh)])), (a1, .inl (X.2.1.1, 20, .inl (iF Fw)))])) (As := [.ref s0, .ref a0, .int (iI (lq + (Fw (Int.toNat ((xq + by1) % wc)))))]) C (c_X0_goesOffAgain_s l X h0 h1 k xq sq fq lq nq bq G s0 wt wd rg ly wo a0 a1 l1 l2 l3 l4 l5 l6 wc sh Fw (lq + (Fw (Int.toNat ((xq + by1) % wc)))) (by first | assumption | omega) (by first | assumption | omega) (by first | assumption | omega) (by first | assumption | omega) (by first | assumption | omega) (by first | assumption | omega) (by first | assumption | omega) (by first | assumption | omega) (by first | assumption | omega) (by first | assumption | omega) (by first | assumption | omega) (by first | assumption | omega) (by first | assumption | omega) (by first | assumption | omega) (by first | assumption | omega) (by first | assumption | omega) (by first | assumption | have := hFw (Int.toNat ((xq + by1) % wc)); omega) (by first | assumption | have := hFw (Int.toNat ((xq + by1) % wc)); omega)) gX0_goOn_X0_goesOffAgain rfl rfl rfl hd_V_X0_goesOffAgain_X0_goOn (by decide) dX0_goOn_35 [0, 1, 2, 3, 4] [] [0, 1, 2, 3, 4] rfl rfl rfl rfl (by decide) rfl 0 0 rfl rfl rfl rfl (Nat.le_of_ble_eq_true rfl) (by decide) (fun _ => rfl) (fun _ hy_ => ?_)
          clear hy_
          refine r_istore (lo2 := [(4, .int (iI 0)), (0, .ref h0), (1, .ref s0), (2, .ref a0), (3, .int (iI by1)), (5, .int (iI k))]) C dX0_goOn_38 (by decide) rfl ?_
          refine r_iinc (lo2 := [(5, .int (iI (k + 1))), (4, .int (iI 0)), (0, .ref h0), (1, .ref s0), (2, .ref a0), (3, .int (iI by1))]) C dX0_goOn_40 5 rfl (by decide) rfl ?_
          refine r_goto (tgt := 6) C dX0_goOn_43 (by decide) ?_
          refine r_iload C dX0_goOn_6 0 rfl ?_
          refine r_bipush C dX0_goOn_8 (by decide) ?_
          refine r_icmp_ge (tgt := 46) C dX0_goOn_10 (by decide) (by omega) (by decide) (fun h_3 => ?_) (fun h_3 => ?_)
          · skip
            exact g_ret_v C rfl dX0_goOn_46 (xq, sq, fq, lq, nq, bq) trivial [0, 1, 2, 3, 4] rfl (by first | (rw [iN, iR, fNum_stop (E := (((l1, l2, l3, l4, l5, l6), (wt, wd, rg), (by1, wc, Fw)) : fEn)) (t := ((xq, sq, fq, lq, nq, bq) : fS)) (by omega) (Or.inl KSK), fRes_sunk (E := (((l1, l2, l3, l4, l5, l6), (wt, wd, rg), (by1, wc, Fw)) : fEn)) (t := ((xq, sq, fq, lq, nq, bq) : fS)) (by omega) KSK] <;> rfl) | (rw [iN, iR, fNum_stop (E := (((l1, l2, l3, l4, l5, l6), (wt, wd, rg), (by1, wc, Fw)) : fEn)) (t := ((xq, sq, fq, lq, nq, bq) : fS)) (by omega) (Or.inr KSZ), fRes_zero (E := (((l1, l2, l3, l4, l5, l6), (wt, wd, rg), (by1, wc, Fw)) : fEn)) (t := ((xq, sq, fq, lq, nq, bq) : fS)) (by omega) KSK KSZ] <;> rfl) | (rw [iN, iR, show (90 - k).toNat = 0 by omega] <;> rfl))
          · skip
            refine r_iload C dX0_goOn_13 1 rfl ?_
            refine r_if_eq (tgt := 46) C dX0_goOn_15 (by decide) (by decide) (fun h_4 => ?_) (fun h_4 => absurd h_4 (by decide))
            exact g_ret_v C rfl dX0_goOn_46 (xq, sq, fq, lq, nq, bq) trivial [0, 1, 2, 3, 4] rfl (by first | (rw [iN, iR, fNum_stop (E := (((l1, l2, l3, l4, l5, l6), (wt, wd, rg), (by1, wc, Fw)) : fEn)) (t := ((xq, sq, fq, lq, nq, bq) : fS)) (by omega) (Or.inl KSK), fRes_sunk (E := (((l1, l2, l3, l4, l5, l6), (wt, wd, rg), (by1, wc, Fw)) : fEn)) (t := ((xq, sq, fq, lq, nq, bq) : fS)) (by omega) KSK] <;> rfl) | (rw [iN, iR, fNum_stop (E := (((l1, l2, l3, l4, l5, l6), (wt, wd, rg), (by1, wc, Fw)) : fEn)) (t := ((xq, sq, fq, lq, nq, bq) : fS)) (by omega) (Or.inr KSZ), fRes_zero (E := (((l1, l2, l3, l4, l5, l6), (wt, wd, rg), (by1, wc, Fw)) : fEn)) (t := ((xq, sq, fq, lq, nq, bq) : fS)) (by omega) KSK KSZ] <;> rfl) | (rw [iN, iR, show (90 - k).toNat = 0 by omega] <;> rfl))
        by_cases KSZ : (max 0 (sq - (fTk l2 l6 rg sq (lq + Fw (Int.toNat ((xq + by1) % wc)))))) = 0
        · skip
          refine g_V_i (ws2 := (fun _ => [(h0, .inr (0, [.ref h1, .int (iI (k + 1)), .int (iI xq), .int (iI (max 0 (sq - (fTk l2 l6 rg sq (lq + (Fw (Int.toNat ((xq + by1) % wc)))))))), .int (iI (fFl l3 l6 fq (lq + (Fw (Int.toNat ((xq + by1) % wc)))))), .int (iI (fSl l4 lq (fSn nq))), .int (iI (fSn nq)), .int (iI bq)])), (h1, .inl (X.2.1.1, 810, .inl (iF (kpF G k (fKd l5 l6 (lq + (Fw (Int.toNat ((xq + by1) % wc)))) (fFl l3 l6 fq (lq + (Fw (Int.toNat ((xq + by1) % wc)))))) xq sq fq lq nq (lq + (Fw (Int.toNat ((xq + by1) % wc)))) (fTk l2 l6 rg sq (lq + (Fw (Int.toNat ((xq + by1) % wc))))) bq)))), (s0, .inr (3, [.int (iI wt), .int (iI wd), .int (iI rg), .int (iI ly), .int (iI wo)])), (a0, .inr (4, [.int (iI l1), .int (iI l2), .int (iI l3), .int (iI l4), .int (iI l5), .int (iI l6), .ref a1, .int (iI wc), .int (iI sh)])), (a1, .inl (X.2.1.1, 20, .inl (iF Fw)))])) (As := [.ref s0, .ref a0, .int (iI (lq + (Fw (Int.toNat ((xq + by1) % wc)))))]) C (c_X0_goesOffAgain_z l X h0 h1 k xq sq fq lq nq bq G s0 wt wd rg ly wo a0 a1 l1 l2 l3 l4 l5 l6 wc sh Fw (lq + (Fw (Int.toNat ((xq + by1) % wc)))) (by first | assumption | omega) (by first | assumption | omega) (by first | assumption | omega) (by first | assumption | omega) (by first | assumption | omega) (by first | assumption | omega) (by first | assumption | omega) (by first | assumption | omega) (by first | assumption | omega) (by first | assumption | omega) (by first | assumption | omega) (by first | assumption | omega) (by first | assumption | omega) (by first | assumption | omega) (by first | assumption | omega) (by first | assumption | omega) (by first | assumption | have := hFw (Int.toNat ((xq + by1) % wc)); omega) (by first | assumption | have := hFw (Int.toNat ((xq + by1) % wc)); omega) (by first | assumption | have := hFw (Int.toNat ((xq + by1) % wc)); omega)) gX0_goOn_X0_goesOffAgain rfl rfl rfl hd_V_X0_goesOffAgain_X0_goOn (by decide) dX0_goOn_35 [0, 1, 2, 3, 4] [] [0, 1, 2, 3, 4] rfl rfl rfl rfl (by decide) rfl 0 0 rfl rfl rfl rfl (Nat.le_of_ble_eq_true rfl) (by decide) (fun _ => rfl) (fun _ hy_ => ?_)
          clear hy_
          refine r_istore (lo2 := [(4, .int (iI 0)), (0, .ref h0), (1, .ref s0), (2, .ref a0), (3, .int (iI by1)), (5, .int (iI k))]) C dX0_goOn_38 (by decide) rfl ?_
          refine r_iinc (lo2 := [(5, .int (iI (k + 1))), (4, .int (iI 0)), (0, .ref h0), (1, .ref s0), (2, .ref a0), (3, .int (iI by1))]) C dX0_goOn_40 5 rfl (by decide) rfl ?_
          refine r_goto (tgt := 6) C dX0_goOn_43 (by decide) ?_
          refine r_iload C dX0_goOn_6 0 rfl ?_
          refine r_bipush C dX0_goOn_8 (by decide) ?_
          refine r_icmp_ge (tgt := 46) C dX0_goOn_10 (by decide) (by omega) (by decide) (fun h_5 => ?_) (fun h_5 => ?_)
          · skip
            exact g_ret_v C rfl dX0_goOn_46 (xq, (max 0 (sq - (fTk l2 l6 rg sq (lq + (Fw (Int.toNat ((xq + by1) % wc))))))), (fFl l3 l6 fq (lq + (Fw (Int.toNat ((xq + by1) % wc))))), (fSl l4 lq (fSn nq)), (fSn nq), bq) trivial [0, 1, 2, 3, 4] rfl (by first | (rw [iN, iR, fNum_stop (E := (((l1, l2, l3, l4, l5, l6), (wt, wd, rg), (by1, wc, Fw)) : fEn)) (t := ((xq, sq, fq, lq, nq, bq) : fS)) (by omega) (Or.inl KSK), fRes_sunk (E := (((l1, l2, l3, l4, l5, l6), (wt, wd, rg), (by1, wc, Fw)) : fEn)) (t := ((xq, sq, fq, lq, nq, bq) : fS)) (by omega) KSK] <;> rfl) | (rw [iN, iR, fNum_stop (E := (((l1, l2, l3, l4, l5, l6), (wt, wd, rg), (by1, wc, Fw)) : fEn)) (t := ((xq, sq, fq, lq, nq, bq) : fS)) (by omega) (Or.inr KSZ), fRes_zero (E := (((l1, l2, l3, l4, l5, l6), (wt, wd, rg), (by1, wc, Fw)) : fEn)) (t := ((xq, sq, fq, lq, nq, bq) : fS)) (by omega) KSK KSZ] <;> rfl) | (rw [iN, iR, show (90 - k).toNat = 0 by omega] <;> rfl))
          · skip
            refine r_iload C dX0_goOn_13 1 rfl ?_
            refine r_if_eq (tgt := 46) C dX0_goOn_15 (by decide) (by decide) (fun h_6 => ?_) (fun h_6 => absurd h_6 (by decide))
            exact g_ret_v C rfl dX0_goOn_46 (xq, (max 0 (sq - (fTk l2 l6 rg sq (lq + (Fw (Int.toNat ((xq + by1) % wc))))))), (fFl l3 l6 fq (lq + (Fw (Int.toNat ((xq + by1) % wc))))), (fSl l4 lq (fSn nq)), (fSn nq), bq) trivial [0, 1, 2, 3, 4] rfl (by first | (rw [iN, iR, fNum_stop (E := (((l1, l2, l3, l4, l5, l6), (wt, wd, rg), (by1, wc, Fw)) : fEn)) (t := ((xq, sq, fq, lq, nq, bq) : fS)) (by omega) (Or.inl KSK), fRes_sunk (E := (((l1, l2, l3, l4, l5, l6), (wt, wd, rg), (by1, wc, Fw)) : fEn)) (t := ((xq, sq, fq, lq, nq, bq) : fS)) (by omega) KSK] <;> rfl) | (rw [iN, iR, fNum_stop (E := (((l1, l2, l3, l4, l5, l6), (wt, wd, rg), (by1, wc, Fw)) : fEn)) (t := ((xq, sq, fq, lq, nq, bq) : fS)) (by omega) (Or.inr KSZ), fRes_zero (E := (((l1, l2, l3, l4, l5, l6), (wt, wd, rg), (by1, wc, Fw)) : fEn)) (t := ((xq, sq, fq, lq, nq, bq) : fS)) (by omega) KSK KSZ] <;> rfl) | (rw [iN, iR, show (90 - k).toNat = 0 by omega] <;> rfl))
        refine g_V_i (ws2 := (fun _ => [(h0, .inr (0, [.ref h1, .int (iI (k + 1)), .int (iI (xq + (((max 0 (sq - (fTk l2 l6 rg sq (lq + (Fw (Int.toNat ((xq + by1) % wc))))))) * (fFl l3 l6 fq (lq + (Fw (Int.toNat ((xq + by1) % wc)))))) / 20))), .int (iI (max 0 (sq - (fTk l2 l6 rg sq (lq + (Fw (Int.toNat ((xq + by1) % wc)))))))), .int (iI (fFl l3 l6 fq (lq + (Fw (Int.toNat ((xq + by1) % wc)))))), .int (iI (fSl l4 lq (fSn nq))), .int (iI (fSn nq)), .int (iI (bq + ((fFl l3 l6 fq (lq + (Fw (Int.toNat ((xq + by1) % wc))))) / 5)))])), (h1, .inl (X.2.1.1, 810, .inl (iF (kpF G k (fKd l5 l6 (lq + (Fw (Int.toNat ((xq + by1) % wc)))) (fFl l3 l6 fq (lq + (Fw (Int.toNat ((xq + by1) % wc)))))) xq sq fq lq nq (lq + (Fw (Int.toNat ((xq + by1) % wc)))) (fTk l2 l6 rg sq (lq + (Fw (Int.toNat ((xq + by1) % wc))))) bq)))), (s0, .inr (3, [.int (iI wt), .int (iI wd), .int (iI rg), .int (iI ly), .int (iI wo)])), (a0, .inr (4, [.int (iI l1), .int (iI l2), .int (iI l3), .int (iI l4), .int (iI l5), .int (iI l6), .ref a1, .int (iI wc), .int (iI sh)])), (a1, .inl (X.2.1.1, 20, .inl (iF Fw)))])) (As := [.ref s0, .ref a0, .int (iI (lq + (Fw (Int.toNat ((xq + by1) % wc)))))]) C (c_X0_goesOffAgain_f l X h0 h1 k xq sq fq lq nq bq G s0 wt wd rg ly wo a0 a1 l1 l2 l3 l4 l5 l6 wc sh Fw (lq + (Fw (Int.toNat ((xq + by1) % wc)))) (by first | assumption | omega) (by first | assumption | omega) (by first | assumption | omega) (by first | assumption | omega) (by first | assumption | omega) (by first | assumption | omega) (by first | assumption | omega) (by first | assumption | omega) (by first | assumption | omega) (by first | assumption | omega) (by first | assumption | omega) (by first | assumption | omega) (by first | assumption | omega) (by first | assumption | omega) (by first | assumption | omega) (by first | assumption | omega) (by first | assumption | have := hFw (Int.toNat ((xq + by1) % wc)); omega) (by first | assumption | have := hFw (Int.toNat ((xq + by1) % wc)); omega) (by first | assumption | have := hFw (Int.toNat ((xq + by1) % wc)); omega)) gX0_goOn_X0_goesOffAgain rfl rfl rfl hd_V_X0_goesOffAgain_X0_goOn (by decide) dX0_goOn_35 [0, 1, 2, 3, 4] [] [0, 1, 2, 3, 4] rfl rfl rfl rfl (by decide) rfl 0 0 rfl rfl rfl rfl (Nat.le_of_ble_eq_true rfl) (by decide) (fun _ => rfl) (fun _ hy_ => ?_)
        clear hy_
        have q7 := fTk_B (l2 := l2) (l6 := l6) (rg := rg) (sp := sq) (ti := (lq + Fw (Int.toNat ((xq + by1) % wc)))) (by omega) (by have := hFw (Int.toNat ((xq + by1) % wc)); omega)
        have q8 := fFl_B (l3 := l3) (l6 := l6) (fa := fq) (ti := (lq + Fw (Int.toNat ((xq + by1) % wc)))) (by omega) (by omega)
        have q9 := mulB (a := (max 0 (sq - (fTk l2 l6 rg sq (lq + Fw (Int.toNat ((xq + by1) % wc))))))) (b := (fFl l3 l6 fq (lq + Fw (Int.toNat ((xq + by1) % wc))))) (A := 300) (B := 99) (by omega) (by omega)
        have q10 := fSn_B (sn := nq) (by omega)
        have q11 := fSl_B (nd := l4) (sl := lq) (sn := fSn nq) (by omega) (by omega) (by omega)
        refine r_istore (lo2 := [(4, .int (iI 1)), (0, .ref h0), (1, .ref s0), (2, .ref a0), (3, .int (iI by1)), (5, .int (iI k))]) C dX0_goOn_38 (by decide) rfl ?_
        refine r_iinc (lo2 := [(5, .int (iI (k + 1))), (4, .int (iI 1)), (0, .ref h0), (1, .ref s0), (2, .ref a0), (3, .int (iI by1))]) C dX0_goOn_40 5 rfl (by decide) rfl ?_
        refine r_goto (tgt := 6) C dX0_goOn_43 (by decide) ?_
        refine r_lo [1, 2, 3, 4, 5, 0] (lo2 := [(4, .int (iI 1)), (0, .ref h0), (1, .ref s0), (2, .ref a0), (3, .int (iI by1)), (5, .int (iI (k + 1)))]) rfl ?_
        exact ih6 (k + 1) (xq + (((max 0 (sq - (fTk l2 l6 rg sq (lq + (Fw (Int.toNat ((xq + by1) % wc))))))) * (fFl l3 l6 fq (lq + (Fw (Int.toNat ((xq + by1) % wc)))))) / 20)) (max 0 (sq - (fTk l2 l6 rg sq (lq + (Fw (Int.toNat ((xq + by1) % wc))))))) (fFl l3 l6 fq (lq + (Fw (Int.toNat ((xq + by1) % wc))))) (fSl l4 lq (fSn nq)) (fSn nq) (bq + ((fFl l3 l6 fq (lq + (Fw (Int.toNat ((xq + by1) % wc))))) / 5)) (kpF G k (fKd l5 l6 (lq + (Fw (Int.toNat ((xq + by1) % wc)))) (fFl l3 l6 fq (lq + (Fw (Int.toNat ((xq + by1) % wc)))))) xq sq fq lq nq (lq + (Fw (Int.toNat ((xq + by1) % wc)))) (fTk l2 l6 rg sq (lq + (Fw (Int.toNat ((xq + by1) % wc))))) bq) (by omega) (by omega) (by omega) (by omega) (by omega) (by omega) (by omega) (by rw [iN, fNum_go (E := (((l1, l2, l3, l4, l5, l6), (wt, wd, rg), (by1, wc, Fw)) : fEn)) (t := ((xq, sq, fq, lq, nq, bq) : fS)) (by omega) (fun q => q.elim KSK KSZ)] <;> rfl) (by rw [iR, fRes_go (E := (((l1, l2, l3, l4, l5, l6), (wt, wd, rg), (by1, wc, Fw)) : fEn)) (t := ((xq, sq, fq, lq, nq, bq) : fS)) (by omega) KSK KSZ] <;> rfl) (by omega)
  refine r_lo [1, 2, 3, 4, 5, 0] (lo2 := [(4, .int (iI 1)), (0, .ref h0), (1, .ref s0), (2, .ref a0), (3, .int (iI by1)), (5, .int (iI 0))]) rfl ?_
  exact L6 ((90 - (0 : Int)).toNat + 1) 0 0 sp fa sl sn 0 F (by omega) (by omega) (by omega) (by omega) (by omega) (by omega) (by omega) rfl rfl (Nat.lt_succ_self _)

set_option maxRecDepth 20000 in
theorem hd_V_X0_value_X0_counts : yX0_value.cls = yX0_value.cls ∧ yX0_value.cls ≠ "java/lang/invoke/MethodHandle" ∧ yX0_value.cls ≠ "java/lang/invoke/VarHandle" ∧ (parseMethodDescriptor yX0_value.desc).map (fun d => d.parameters.length) = some 2 := by decide +kernel
set_option maxHeartbeats 4000000 in
set_option maxRecDepth 100000 in
/-- counts -/
theorem c_X0_counts (l : Launch) (X : gX) (h0 : Nat) (h1 : Nat) (cnt : Int) (xx : Int) (sp : Int) (fa : Int) (sl : Int) (sn : Int) (bt : Int) (F : Nat → Int) (k : Int) (j : Int) (la : Int) (hk : 0 ≤ k ∧ k < cnt ∧ cnt ≤ 90) (hj : 0 ≤ j ∧ j ≤ 4) (hl : -1000000 ≤ la ∧ la ≤ 1000000) (hF : ∀ i, -1000000 ≤ F i ∧ F i ≤ 1000000) : gM l yX0_counts wsX0_counts (gr 1 0 0) X [(h0, .inr (0, [.ref h1, .int (iI cnt), .int (iI xx), .int (iI sp), .int (iI fa), .int (iI sl), .int (iI sn), .int (iI bt)])), (h1, .inl (X.2.1.1, 810, .inl (iF F)))] [.ref h0, .int (iI k), .int (iI j), .int (iI la)] (gQi X (Y := Unit) (fun _ => True) (fun _ => (if (ctP F j k la) then 1 else 0)) (fun _ => [(h0, .inr (0, [.ref h1, .int (iI cnt), .int (iI xx), .int (iI sp), .int (iI fa), .int (iI sl), .int (iI sn), .int (iI bt)])), (h1, .inl (X.2.1.1, 810, .inl (iF F)))])) 0 0 := by
  refine g_start2 (lo := [(0, .ref h0), (1, .int (iI k)), (2, .int (iI j)), (3, .int (iI la))]) (by decide +kernel) rfl rfl (Nat.le_of_ble_eq_true rfl) (fun p e s m args below meth c A C => ?_)
  refine r_aload_n C dX0_counts_0 0 rfl ?_
  refine r_iload_n C dX0_counts_1 1 rfl ?_
  refine r_iconst C dX0_counts_2 ?_
  refine g_V_i (ws2 := (fun _ => [(h0, .inr (0, [.ref h1, .int (iI cnt), .int (iI xx), .int (iI sp), .int (iI fa), .int (iI sl), .int (iI sn), .int (iI bt)])), (h1, .inl (X.2.1.1, 810, .inl (iF F)))])) (As := [.int (iI k), .int (iI 0)]) C (c_X0_value l X h0 h1 cnt xx sp fa sl sn bt F k 0 (by first | assumption | omega) (by first | assumption | omega)) gX0_counts_X0_value rfl rfl rfl hd_V_X0_value_X0_counts (by decide) dX0_counts_3 [0, 1] [] [0, 1] rfl rfl rfl rfl (by decide) rfl 0 0 rfl rfl rfl rfl (Nat.le_of_ble_eq_true rfl) (by decide) (fun _ => rfl) (fun _ hy_ => ?_)
  clear hy_
  refine r_istore (lo2 := [(4, .int (iI (F (Int.toNat ((k * 9) + 0))))), (0, .ref h0), (1, .int (iI k)), (2, .int (iI j)), (3, .int (iI la))]) C dX0_counts_6 (by decide) rfl ?_
  refine r_iload_n C dX0_counts_8 3 rfl ?_
  by_cases h_1 : j = 1
  · refine r_tabIn (tgt := 36) C dX0_counts_9 1 h_1 (by decide) rfl (by decide) ?_
    refine r_iload C dX0_counts_36 0 rfl ?_
    refine r_iconst C dX0_counts_38 ?_
    refine r_icmp_eq (tgt := 48) C dX0_counts_39 (by decide) (by have := hF (Int.toNat ((k * 9) + 0)); omega) (by decide) (fun h_2 => ?_) (fun h_2 => ?_)
    · skip
      refine r_iconst C dX0_counts_48 ?_
      refine r_goto (tgt := 53) C dX0_counts_49 (by decide) ?_
      exact g_ret_z C rfl (by decide) dX0_counts_53 () trivial (by first | rfl | omega | ((repeat' split) <;> first | rfl | omega)) [0, 1] rfl rfl
    · skip
      refine r_iload C dX0_counts_42 0 rfl ?_
      refine r_iconst C dX0_counts_44 ?_
      refine r_icmp_ne (tgt := 52) C dX0_counts_45 (by decide) (by have := hF (Int.toNat ((k * 9) + 0)); omega) (by decide) (fun h_3 => ?_) (fun h_3 => ?_)
      · skip
        refine r_iconst C dX0_counts_52 ?_
        exact g_ret_z C rfl (by decide) dX0_counts_53 () trivial (by first | rfl | omega | ((repeat' split) <;> first | rfl | omega)) [0, 1] rfl rfl
      · skip
        refine r_iconst C dX0_counts_48 ?_
        refine r_goto (tgt := 53) C dX0_counts_49 (by decide) ?_
        exact g_ret_z C rfl (by decide) dX0_counts_53 () trivial (by first | rfl | omega | ((repeat' split) <;> first | rfl | omega)) [0, 1] rfl rfl
  by_cases h_4 : j = 2
  · refine r_tabIn (tgt := 54) C dX0_counts_9 2 h_4 (by decide) rfl (by decide) ?_
    refine r_iload C dX0_counts_54 0 rfl ?_
    refine r_if_eq (tgt := 75) C dX0_counts_56 (by decide) (by have := hF (Int.toNat ((k * 9) + 0)); omega) (fun h_5 => ?_) (fun h_5 => ?_)
    · skip
      refine r_iconst C dX0_counts_75 ?_
      exact g_ret_z C rfl (by decide) dX0_counts_76 () trivial (by first | rfl | omega | ((repeat' split) <;> first | rfl | omega)) [0, 1] rfl rfl
    · skip
      refine r_aload_n C dX0_counts_59 1 rfl ?_
      refine r_iload_n C dX0_counts_60 2 rfl ?_
      refine r_iconst C dX0_counts_61 ?_
      refine g_V_i (ws2 := (fun _ => [(h0, .inr (0, [.ref h1, .int (iI cnt), .int (iI xx), .int (iI sp), .int (iI fa), .int (iI sl), .int (iI sn), .int (iI bt)])), (h1, .inl (X.2.1.1, 810, .inl (iF F)))])) (As := [.int (iI k), .int (iI 1)]) C (c_X0_value l X h0 h1 cnt xx sp fa sl sn bt F k 1 (by first | assumption | omega) (by first | assumption | omega)) gX0_counts_X0_value rfl rfl rfl hd_V_X0_value_X0_counts (by decide) dX0_counts_62 [0, 1] [] [0, 1] rfl rfl rfl rfl (by decide) rfl 0 0 rfl rfl rfl rfl (Nat.le_of_ble_eq_true rfl) (by decide) (fun _ => rfl) (fun _ hy_ => ?_)
      clear hy_
      refine r_iload_n C dX0_counts_65 4 rfl ?_
      refine r_isub C dX0_counts_66 ?_
      refine r_iconst C dX0_counts_67 ?_
      refine r_icmp_lt (tgt := 75) C dX0_counts_68 (by decide) (by have := hF (Int.toNat ((k * 9) + 1)); omega) (by decide) (fun h_6 => ?_) (fun h_6 => ?_)
      · skip
        refine r_iconst C dX0_counts_75 ?_
        exact g_ret_z C rfl (by decide) dX0_counts_76 () trivial (by first | rfl | omega | ((repeat' split) <;> first | rfl | omega)) [0, 1] rfl rfl
      · skip
        refine r_iconst C dX0_counts_71 ?_
        refine r_goto (tgt := 76) C dX0_counts_72 (by decide) ?_
        exact g_ret_z C rfl (by decide) dX0_counts_76 () trivial (by first | rfl | omega | ((repeat' split) <;> first | rfl | omega)) [0, 1] rfl rfl
  by_cases h_7 : j = 3
  · refine r_tabIn (tgt := 77) C dX0_counts_9 3 h_7 (by decide) rfl (by decide) ?_
    refine r_iload_n C dX0_counts_77 2 rfl ?_
    refine r_if_eq (tgt := 102) C dX0_counts_78 (by decide) (by omega) (fun h_8 => ?_) (fun h_8 => ?_)
    · skip
      refine r_iconst C dX0_counts_102 ?_
      refine r_goto (tgt := 107) C dX0_counts_103 (by decide) ?_
      exact g_ret_z C rfl (by decide) dX0_counts_107 () trivial (by first | rfl | omega | ((repeat' split) <;> first | rfl | omega)) [0, 1] rfl rfl
    · skip
      refine r_aload_n C dX0_counts_81 1 rfl ?_
      refine r_iload_n C dX0_counts_82 2 rfl ?_
      refine r_bipush C dX0_counts_83 (by decide) ?_
      refine g_V_i (ws2 := (fun _ => [(h0, .inr (0, [.ref h1, .int (iI cnt), .int (iI xx), .int (iI sp), .int (iI fa), .int (iI sl), .int (iI sn), .int (iI bt)])), (h1, .inl (X.2.1.1, 810, .inl (iF F)))])) (As := [.int (iI k), .int (iI 8)]) C (c_X0_value l X h0 h1 cnt xx sp fa sl sn bt F k 8 (by first | assumption | omega) (by first | assumption | omega)) gX0_counts_X0_value rfl rfl rfl hd_V_X0_value_X0_counts (by decide) dX0_counts_85 [0, 1] [] [0, 1] rfl rfl rfl rfl (by decide) rfl 0 0 rfl rfl rfl rfl (Nat.le_of_ble_eq_true rfl) (by decide) (fun _ => rfl) (fun _ hy_ => ?_)
      clear hy_
      refine r_aload_n C dX0_counts_88 1 rfl ?_
      refine r_iload_n C dX0_counts_89 2 rfl ?_
      refine r_iconst C dX0_counts_90 ?_
      refine r_isub C dX0_counts_91 ?_
      refine r_bipush C dX0_counts_92 (by decide) ?_
      refine g_V_i (ws2 := (fun _ => [(h0, .inr (0, [.ref h1, .int (iI cnt), .int (iI xx), .int (iI sp), .int (iI fa), .int (iI sl), .int (iI sn), .int (iI bt)])), (h1, .inl (X.2.1.1, 810, .inl (iF F)))])) (As := [.int (iI (k - 1)), .int (iI 8)]) C (c_X0_value l X h0 h1 cnt xx sp fa sl sn bt F (k - 1) 8 (by first | assumption | omega) (by first | assumption | omega)) gX0_counts_X0_value rfl rfl rfl hd_V_X0_value_X0_counts (by decide) dX0_counts_94 [0, 1] [] [0, 1] rfl rfl rfl rfl (by decide) rfl 0 0 rfl rfl rfl rfl (Nat.le_of_ble_eq_true rfl) (by decide) (fun _ => rfl) (fun _ hy_ => ?_)
      clear hy_
      refine r_isub C dX0_counts_97 ?_
      refine r_iconst C dX0_counts_98 ?_
      refine r_icmp_lt (tgt := 106) C dX0_counts_99 (by decide) (by have := hF (Int.toNat ((k * 9) + 8)); have := hF (Int.toNat (((k - 1) * 9) + 8)); omega) (by decide) (fun h_9 => ?_) (fun h_9 => ?_)
      · skip
        refine r_iconst C dX0_counts_106 ?_
        exact g_ret_z C rfl (by decide) dX0_counts_107 () trivial (by first | rfl | omega | ((repeat' split) <;> first | rfl | omega)) [0, 1] rfl rfl
      · skip
        refine r_iconst C dX0_counts_102 ?_
        refine r_goto (tgt := 107) C dX0_counts_103 (by decide) ?_
        exact g_ret_z C rfl (by decide) dX0_counts_107 () trivial (by first | rfl | omega | ((repeat' split) <;> first | rfl | omega)) [0, 1] rfl rfl
  refine r_tabOut (tgt := 108) C dX0_counts_9 (by omega) (by omega) (by decide) ?_
  refine r_iload C dX0_counts_108 0 rfl ?_
  refine r_if_eq (tgt := 117) C dX0_counts_110 (by decide) (by have := hF (Int.toNat ((k * 9) + 0)); omega) (fun h_10 => ?_) (fun h_10 => ?_)
  · skip
    refine r_iconst C dX0_counts_117 ?_
    exact g_ret_z C rfl (by decide) dX0_counts_118 () trivial (by first | rfl | omega | ((repeat' split) <;> first | rfl | omega)) [0, 1] rfl rfl
  · skip
    refine r_iconst C dX0_counts_113 ?_
    refine r_goto (tgt := 118) C dX0_counts_114 (by decide) ?_
    exact g_ret_z C rfl (by decide) dX0_counts_118 () trivial (by first | rfl | omega | ((repeat' split) <;> first | rfl | omega)) [0, 1] rfl rfl

set_option maxRecDepth 20000 in
theorem kw_X0_counted_0 : Cond.fieldLink RX0 15 "SkipStones$Flight" "count" "I" ∈ wsX0_counted := List.mem_of_getElem? (i := 1) rfl
set_option maxRecDepth 20000 in
theorem hd_V_X0_counts_X0_counted : yX0_counts.cls = yX0_counts.cls ∧ yX0_counts.cls ≠ "java/lang/invoke/MethodHandle" ∧ yX0_counts.cls ≠ "java/lang/invoke/VarHandle" ∧ (parseMethodDescriptor yX0_counts.desc).map (fun d => d.parameters.length) = some 3 := by decide +kernel
set_option maxRecDepth 20000 in
theorem hd_V_X0_value_X0_counted : yX0_value.cls = yX0_value.cls ∧ yX0_value.cls ≠ "java/lang/invoke/MethodHandle" ∧ yX0_value.cls ≠ "java/lang/invoke/VarHandle" ∧ (parseMethodDescriptor yX0_value.desc).map (fun d => d.parameters.length) = some 2 := by decide +kernel
set_option maxRecDepth 20000 in
theorem hi_X0_counted_0 : ∀ w ∈ wsX00, w ∈ wsX0_counted := fun _ h => List.mem_cons_of_mem _ (List.mem_append_right _ h)
set_option maxHeartbeats 4000000 in
set_option maxRecDepth 100000 in
/-- counted -/
theorem c_X0_counted (l : Launch) (X : gX) (h0 : Nat) (h1 : Nat) (cnt : Int) (xx : Int) (sp : Int) (fa : Int) (sl : Int) (sn : Int) (bt : Int) (F : Nat → Int) (j : Int) (hc : 1 ≤ cnt ∧ cnt ≤ 90) (hj : 0 ≤ j ∧ j ≤ 4) (hF : ∀ i, -1000000 ≤ F i ∧ F i ≤ 1000000) : gM l yX0_counted wsX0_counted (gr 2 0 0) X [(h0, .inr (0, [.ref h1, .int (iI cnt), .int (iI xx), .int (iI sp), .int (iI fa), .int (iI sl), .int (iI sn), .int (iI bt)])), (h1, .inl (X.2.1.1, 810, .inl (iF F)))] [.ref h0, .int (iI j)] (gQi X (Y := Unit) (fun _ => True) (fun _ => (ctV F cnt j)) (fun _ => [(h0, .inr (0, [.ref h1, .int (iI cnt), .int (iI xx), .int (iI sp), .int (iI fa), .int (iI sl), .int (iI sn), .int (iI bt)])), (h1, .inl (X.2.1.1, 810, .inl (iF F)))])) 0 0 := by
  refine g_start2 (lo := [(0, .ref h0), (1, .int (iI j))]) (by decide +kernel) rfl rfl (Nat.le_of_ble_eq_true rfl) (fun p e s m args below meth c A C => ?_)
  refine r_iload_n C dX0_counted_0 1 rfl ?_
  refine r_iconst C dX0_counted_1 ?_
  refine r_icmp_ne (tgt := 17) C dX0_counted_2 (by decide) (by omega) (by decide) (fun h_1 => ?_) (fun h_1 => ?_)
  · skip
    refine r_iconst C dX0_counted_17 ?_
    refine r_istore_n (lo2 := [(2, .int (iI 0)), (0, .ref h0), (1, .int (iI j))]) C dX0_counted_18 rfl (by decide) rfl ?_
    refine r_bipush C dX0_counted_19 (by decide) ?_
    refine r_istore_n (lo2 := [(3, .int (iI (-3))), (2, .int (iI 0)), (0, .ref h0), (1, .int (iI j))]) C dX0_counted_21 rfl (by decide) rfl ?_
    refine r_iconst C dX0_counted_22 ?_
    refine r_istore (lo2 := [(4, .int (iI 0)), (3, .int (iI (-3))), (2, .int (iI 0)), (0, .ref h0), (1, .int (iI j))]) C dX0_counted_23 (by decide) rfl ?_
    have L25 : ∀ (fu25 : Nat) (n : Int) (la : Int) (k : Int), (0 ≤ k ∧ k ≤ cnt) → (-1000000 ≤ la ∧ la ≤ 1000000) → (0 ≤ n ∧ n ≤ k) → (ctL F j cnt.toNat 0 (-3) 0 = ctL F j (cnt - k).toNat k la n) → (cnt - k).toNat < fu25 → gW p l e (gr 2 0 0) s m args below meth c X A 5 (MQ below ((gQi X (Y := Unit) (fun _ => True) (fun _ => (ctV F cnt j)) (fun _ => [(h0, .inr (0, [.ref h1, .int (iI cnt), .int (iI xx), .int (iI sp), .int (iI fa), .int (iI sl), .int (iI sn), .int (iI bt)])), (h1, .inl (X.2.1.1, 810, .inl (iF F)))])) A) args s 0 0 A) 0 0 [(h0, .inr (0, [.ref h1, .int (iI cnt), .int (iI xx), .int (iI sp), .int (iI fa), .int (iI sl), .int (iI sn), .int (iI bt)])), (h1, .inl (X.2.1.1, 810, .inl (iF F)))] 25 [(0, .ref h0), (1, .int (iI j)), (2, .int (iI n)), (3, .int (iI la)), (4, .int (iI k))] [] := by
      intro fu25
      induction fu25 with
      | zero => intro n la k ik il in_ iL hm25; exact absurd hm25 (Nat.not_lt_zero _)
      | succ fu25 ih25 =>
        intro n la k ik il in_ iL hm25
        refine r_iload C dX0_counted_25 4 rfl ?_
        refine r_aload_n C dX0_counted_27 0 rfl ?_
        refine gf_0_1 C hi_X0_counted_0 kw_X0_counted_0 dX0_counted_28 0 rfl rfl ?_
        refine r_icmp_ge (tgt := 62) C dX0_counted_31 (by decide) (by omega) (by omega) (fun h_2 => ?_) (fun h_2 => ?_)
        · skip
          refine r_iload_n C dX0_counted_62 2 rfl ?_
          exact g_ret_i C rfl dX0_counted_63 () trivial (by first | (unfold ctV; rw [if_pos (by omega)]; done) | (unfold ctV; rw [if_neg (by omega), iL, show (cnt - k).toNat = 0 by omega]; rfl)) [0, 1] rfl rfl
        · skip
          refine r_aload_n C dX0_counted_34 0 rfl ?_
          refine r_iload C dX0_counted_35 4 rfl ?_
          refine r_iload_n C dX0_counted_37 1 rfl ?_
          refine r_iload_n C dX0_counted_38 3 rfl ?_
          refine g_V_i (ws2 := (fun _ => [(h0, .inr (0, [.ref h1, .int (iI cnt), .int (iI xx), .int (iI sp), .int (iI fa), .int (iI sl), .int (iI sn), .int (iI bt)])), (h1, .inl (X.2.1.1, 810, .inl (iF F)))])) (As := [.int (iI k), .int (iI j), .int (iI la)]) C (c_X0_counts l X h0 h1 cnt xx sp fa sl sn bt F k j la (by first | assumption | omega) (by first | assumption | omega) (by first | assumption | omega) (by assumption)) gX0_counted_X0_counts rfl rfl rfl hd_V_X0_counts_X0_counted (by decide) dX0_counted_39 [0, 1] [] [0, 1] rfl rfl rfl rfl (by decide) rfl 0 0 rfl rfl rfl rfl (Nat.le_of_ble_eq_true rfl) (by decide) (fun _ => rfl) (fun _ hy_ => ?_)
          clear hy_
          refine r_ite (fun KC => ?_) (fun KC => ?_)
          · skip
            refine r_if_eq (tgt := 56) C dX0_counted_42 (by decide) (by decide) (fun h_3 => absurd h_3 (by decide)) (fun h_3 => ?_)
            refine r_iinc (lo2 := [(2, .int (iI (n + 1))), (0, .ref h0), (1, .int (iI j)), (3, .int (iI la)), (4, .int (iI k))]) C dX0_counted_45 2 rfl (by decide) rfl ?_
            refine r_aload_n C dX0_counted_48 1 rfl ?_
            refine r_iload C dX0_counted_49 4 rfl ?_
            refine r_iconst C dX0_counted_51 ?_
            refine g_V_i (ws2 := (fun _ => [(h0, .inr (0, [.ref h1, .int (iI cnt), .int (iI xx), .int (iI sp), .int (iI fa), .int (iI sl), .int (iI sn), .int (iI bt)])), (h1, .inl (X.2.1.1, 810, .inl (iF F)))])) (As := [.int (iI k), .int (iI 1)]) C (c_X0_value l X h0 h1 cnt xx sp fa sl sn bt F k 1 (by first | assumption | omega) (by first | assumption | omega)) gX0_counted_X0_value rfl rfl rfl hd_V_X0_value_X0_counted (by decide) dX0_counted_52 [0, 1] [] [0, 1] rfl rfl rfl rfl (by decide) rfl 0 0 rfl rfl rfl rfl (Nat.le_of_ble_eq_true rfl) (by decide) (fun _ => rfl) (fun _ hy_ => ?_)
            clear hy_
            refine r_istore_n (lo2 := [(3, .int (iI (F (Int.toNat ((k * 9) + 1))))), (2, .int (iI (n + 1))), (0, .ref h0), (1, .int (iI j)), (4, .int (iI k))]) C dX0_counted_55 rfl (by decide) rfl ?_
            refine r_iinc (lo2 := [(4, .int (iI (k + 1))), (3, .int (iI (F (Int.toNat ((k * 9) + 1))))), (2, .int (iI (n + 1))), (0, .ref h0), (1, .int (iI j))]) C dX0_counted_56 4 rfl (by decide) rfl ?_
            refine r_goto (tgt := 25) C dX0_counted_59 (by decide) ?_
            refine r_lo [3, 4, 2, 1, 0] (lo2 := [(0, .ref h0), (1, .int (iI j)), (2, .int (iI (n + 1))), (3, .int (iI (F (Int.toNat ((k * 9) + 1))))), (4, .int (iI (k + 1)))]) rfl ?_
            exact ih25 (n + 1) (F (Int.toNat ((k * 9) + 1))) (k + 1) (by omega) (by first | omega | exact hF _) (by omega) (by rw [iL, ctL_go (by omega)]; first | (rw [if_pos KC]; done) | (rw [if_neg KC]; done)) (by omega)
          · skip
            refine r_if_eq (tgt := 56) C dX0_counted_42 (by decide) (by decide) (fun h_4 => ?_) (fun h_4 => absurd h_4 (by decide))
            refine r_iinc (lo2 := [(4, .int (iI (k + 1))), (0, .ref h0), (1, .int (iI j)), (2, .int (iI n)), (3, .int (iI la))]) C dX0_counted_56 4 rfl (by decide) rfl ?_
            refine r_goto (tgt := 25) C dX0_counted_59 (by decide) ?_
            refine r_lo [1, 2, 3, 4, 0] (lo2 := [(0, .ref h0), (1, .int (iI j)), (2, .int (iI n)), (3, .int (iI la)), (4, .int (iI (k + 1)))]) rfl ?_
            exact ih25 n la (k + 1) (by omega) (by first | omega | exact hF _) (by omega) (by rw [iL, ctL_go (by omega)]; first | (rw [if_pos KC]; done) | (rw [if_neg KC]; done)) (by omega)
    refine r_lo [3, 4, 2, 1, 0] (lo2 := [(0, .ref h0), (1, .int (iI j)), (2, .int (iI 0)), (3, .int (iI (-3))), (4, .int (iI 0))]) rfl ?_
    exact L25 ((cnt - (0 : Int)).toNat + 1) 0 (-3) 0 (by omega) (by omega) (by omega) (by rw [show (cnt - 0).toNat = cnt.toNat by omega]) (Nat.lt_succ_self _)
  · skip
    refine r_aload_n C dX0_counted_5 0 rfl ?_
    refine r_aload_n C dX0_counted_6 0 rfl ?_
    refine gf_0_1 C hi_X0_counted_0 kw_X0_counted_0 dX0_counted_7 0 rfl rfl ?_
    refine r_iconst C dX0_counted_10 ?_
    refine r_isub C dX0_counted_11 ?_
    refine r_iconst C dX0_counted_12 ?_
    refine g_V_i (ws2 := (fun _ => [(h0, .inr (0, [.ref h1, .int (iI cnt), .int (iI xx), .int (iI sp), .int (iI fa), .int (iI sl), .int (iI sn), .int (iI bt)])), (h1, .inl (X.2.1.1, 810, .inl (iF F)))])) (As := [.int (iI (cnt - 1)), .int (iI 1)]) C (c_X0_value l X h0 h1 cnt xx sp fa sl sn bt F (cnt - 1) 1 (by first | assumption | omega) (by first | assumption | omega)) gX0_counted_X0_value rfl rfl rfl hd_V_X0_value_X0_counted (by decide) dX0_counted_13 [0, 1] [] [0, 1] rfl rfl rfl rfl (by decide) rfl 0 0 rfl rfl rfl rfl (Nat.le_of_ble_eq_true rfl) (by decide) (fun _ => rfl) (fun _ hy_ => ?_)
    clear hy_
    exact g_ret_i C rfl dX0_counted_16 () trivial (by first | (unfold ctV; rw [if_pos (by omega)]; done) | (unfold ctV; rw [if_neg (by omega), iL, show (cnt - k).toNat = 0 by omega]; rfl)) [0, 1] rfl rfl

set_option maxRecDepth 20000 in
theorem kw_X0_ringsAt_0 : Cond.fieldLink RX0 15 "SkipStones$Flight" "count" "I" ∈ wsX0_ringsAt := List.mem_of_getElem? (i := 1) rfl
set_option maxRecDepth 20000 in
theorem hd_V_X0_value_X0_ringsAt : yX0_value.cls = yX0_value.cls ∧ yX0_value.cls ≠ "java/lang/invoke/MethodHandle" ∧ yX0_value.cls ≠ "java/lang/invoke/VarHandle" ∧ (parseMethodDescriptor yX0_value.desc).map (fun d => d.parameters.length) = some 2 := by decide +kernel
set_option maxRecDepth 20000 in
theorem hi_X0_ringsAt_0 : ∀ w ∈ wsX00, w ∈ wsX0_ringsAt := fun _ h => List.mem_cons_of_mem _ (List.mem_append_right _ h)
set_option maxHeartbeats 4000000 in
set_option maxRecDepth 100000 in
/-- ringsAt -/
theorem c_X0_ringsAt (l : Launch) (X : gX) (h0 : Nat) (h1 : Nat) (cnt : Int) (xx : Int) (sp : Int) (fa : Int) (sl : Int) (sn : Int) (bt : Int) (F : Nat → Int) (r1 : Nat) (m1 : Int) (P : Nat → Int) (hc : 0 ≤ cnt ∧ cnt ≤ 90) (hm : 1 ≤ m1 ∧ m1 ≤ 20) (hF : ∀ i, -1000000 ≤ F i ∧ F i ≤ 1000000) (hP : ∀ i, inB (P i)) : gM l yX0_ringsAt wsX0_ringsAt (gr 1 0 0) X [(h0, .inr (0, [.ref h1, .int (iI cnt), .int (iI xx), .int (iI sp), .int (iI fa), .int (iI sl), .int (iI sn), .int (iI bt)])), (h1, .inl (X.2.1.1, 810, .inl (iF F))), (r1, .inl (X.2.1.1, 20, .inl (iF P)))] [.ref h0, .ref r1, .int (iI m1)] (gQi X (Y := Unit) (fun _ => (rgV F P cnt m1 = 0 ∨ rgV F P cnt m1 = 1)) (fun _ => (rgV F P cnt m1)) (fun _ => [(h0, .inr (0, [.ref h1, .int (iI cnt), .int (iI xx), .int (iI sp), .int (iI fa), .int (iI sl), .int (iI sn), .int (iI bt)])), (h1, .inl (X.2.1.1, 810, .inl (iF F))), (r1, .inl (X.2.1.1, 20, .inl (iF P)))])) 0 0 := by
  refine g_start2 (lo := [(0, .ref h0), (1, .ref r1), (2, .int (iI m1))]) (by decide +kernel) rfl rfl (Nat.le_of_ble_eq_true rfl) (fun p e s m args below meth c A C => ?_)
  refine r_aload_n C dX0_ringsAt_0 0 rfl ?_
  refine gf_0_1 C hi_X0_ringsAt_0 kw_X0_ringsAt_0 dX0_ringsAt_1 0 rfl rfl ?_
  refine r_iload_n C dX0_ringsAt_4 2 rfl ?_
  refine r_icmp_gt (tgt := 10) C dX0_ringsAt_5 (by decide) (by omega) (by omega) (fun h_1 => ?_) (fun h_1 => ?_)
  · skip
    refine r_iconst C dX0_ringsAt_10 ?_
    refine r_istore_n (lo2 := [(3, .int (iI 0)), (0, .ref h0), (1, .ref r1), (2, .int (iI m1))]) C dX0_ringsAt_11 rfl (by decide) rfl ?_
    have L12 : ∀ (fu12 : Nat) (k : Int), (0 ≤ k ∧ k ≤ m1) → (rgL F P m1.toNat 0 = rgL F P (m1 - k).toNat k) → (m1 - k).toNat < fu12 → gW p l e (gr 1 0 0) s m args below meth c X A 4 (MQ below ((gQi X (Y := Unit) (fun _ => (rgV F P cnt m1 = 0 ∨ rgV F P cnt m1 = 1)) (fun _ => (rgV F P cnt m1)) (fun _ => [(h0, .inr (0, [.ref h1, .int (iI cnt), .int (iI xx), .int (iI sp), .int (iI fa), .int (iI sl), .int (iI sn), .int (iI bt)])), (h1, .inl (X.2.1.1, 810, .inl (iF F))), (r1, .inl (X.2.1.1, 20, .inl (iF P)))])) A) args s 0 0 A) 0 0 [(h0, .inr (0, [.ref h1, .int (iI cnt), .int (iI xx), .int (iI sp), .int (iI fa), .int (iI sl), .int (iI sn), .int (iI bt)])), (h1, .inl (X.2.1.1, 810, .inl (iF F))), (r1, .inl (X.2.1.1, 20, .inl (iF P)))] 12 [(0, .ref h0), (1, .ref r1), (2, .int (iI m1)), (3, .int (iI k))] [] := by
      intro fu12
      induction fu12 with
      | zero => intro k ik iL hm12; exact absurd hm12 (Nat.not_lt_zero _)
      | succ fu12 ih12 =>
        intro k ik iL hm12
        refine r_iload_n C dX0_ringsAt_12 3 rfl ?_
        refine r_iload_n C dX0_ringsAt_13 2 rfl ?_
        refine r_icmp_ge (tgt := 45) C dX0_ringsAt_14 (by decide) (by omega) (by omega) (fun h_2 => ?_) (fun h_2 => ?_)
        · skip
          refine r_iconst C dX0_ringsAt_45 ?_
          exact g_ret_z C rfl (by decide) dX0_ringsAt_46 () (rgV_B _ _ _ _) (by unfold rgV; first | (rw [if_pos (by omega)]; done) | (rw [if_neg (by omega), iL, rgL_go (by omega), if_neg (by omega)]; done) | (rw [if_neg (by omega), iL, show (m1 - k).toNat = 0 by omega]; rfl)) [0, 1, 2] rfl rfl
        · skip
          refine r_iload_n C dX0_ringsAt_17 3 rfl ?_
          refine r_aload_n C dX0_ringsAt_18 1 rfl ?_
          refine r_alen (z := 20) C dX0_ringsAt_19 2 0 rfl rfl rfl ?_
          refine r_icmp_ge (tgt := 45) C dX0_ringsAt_20 (by decide) (by omega) (by decide) (fun h_3 => absurd h_3 (by omega)) (fun h_3 => ?_)
          refine r_aload_n C dX0_ringsAt_23 0 rfl ?_
          refine r_iload_n C dX0_ringsAt_24 3 rfl ?_
          refine r_iconst C dX0_ringsAt_25 ?_
          refine r_iadd C dX0_ringsAt_26 ?_
          refine r_iconst C dX0_ringsAt_27 ?_
          refine g_V_i (ws2 := (fun _ => [(h0, .inr (0, [.ref h1, .int (iI cnt), .int (iI xx), .int (iI sp), .int (iI fa), .int (iI sl), .int (iI sn), .int (iI bt)])), (h1, .inl (X.2.1.1, 810, .inl (iF F))), (r1, .inl (X.2.1.1, 20, .inl (iF P)))])) (As := [.int (iI (k + 1)), .int (iI 1)]) C (c_X0_value l X h0 h1 cnt xx sp fa sl sn bt F (k + 1) 1 (by first | assumption | omega) (by first | assumption | omega)) gX0_ringsAt_X0_value rfl rfl rfl hd_V_X0_value_X0_ringsAt (by decide) dX0_ringsAt_28 [0, 1] [2] [1, 2, 0] rfl rfl rfl rfl (by decide) rfl 0 0 rfl rfl rfl rfl (Nat.le_of_ble_eq_true rfl) (by decide) (fun _ => rfl) (fun _ hy_ => ?_)
          clear hy_
          refine r_aload_n C dX0_ringsAt_31 1 rfl ?_
          refine r_iload_n C dX0_ringsAt_32 3 rfl ?_
          refine r_iald C dX0_ringsAt_33 2 rfl (by omega) (by decide) ?_
          refine r_icmp_eq (tgt := 39) C dX0_ringsAt_34 (by decide) (by have := hF (Int.toNat (((k + 1) * 9) + 1)); omega) (by have := hP (Int.toNat k); omega) (fun h_4 => ?_) (fun h_4 => ?_)
          · skip
            refine r_iinc (lo2 := [(3, .int (iI (k + 1))), (0, .ref h0), (1, .ref r1), (2, .int (iI m1))]) C dX0_ringsAt_39 3 rfl (by decide) rfl ?_
            refine r_goto (tgt := 12) C dX0_ringsAt_42 (by decide) ?_
            refine r_lo [1, 2, 3, 0] (lo2 := [(0, .ref h0), (1, .ref r1), (2, .int (iI m1)), (3, .int (iI (k + 1)))]) rfl ?_
            exact ih12 (k + 1) (by omega) (by rw [iL, rgL_go (by omega), if_pos (by omega)]) (by omega)
          · skip
            refine r_iconst C dX0_ringsAt_37 ?_
            exact g_ret_z C rfl (by decide) dX0_ringsAt_38 () (rgV_B _ _ _ _) (by unfold rgV; first | (rw [if_pos (by omega)]; done) | (rw [if_neg (by omega), iL, rgL_go (by omega), if_neg (by omega)]; done) | (rw [if_neg (by omega), iL, show (m1 - k).toNat = 0 by omega]; rfl)) [0, 1, 2] rfl rfl
    refine r_lo [1, 2, 3, 0] (lo2 := [(0, .ref h0), (1, .ref r1), (2, .int (iI m1)), (3, .int (iI 0))]) rfl ?_
    exact L12 ((m1 - (0 : Int)).toNat + 1) 0 (by omega) (by rw [show (m1 - 0).toNat = m1.toNat by omega]) (Nat.lt_succ_self _)
  · skip
    refine r_iconst C dX0_ringsAt_8 ?_
    exact g_ret_z C rfl (by decide) dX0_ringsAt_9 () (rgV_B _ _ _ _) (by unfold rgV; first | (rw [if_pos (by omega)]; done) | (rw [if_neg (by omega), iL, rgL_go (by omega), if_neg (by omega)]; done) | (rw [if_neg (by omega), iL, show (m1 - k).toNat = 0 by omega]; rfl)) [0, 1, 2] rfl rfl
end M1c
