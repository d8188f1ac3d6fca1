section M3
set_option maxRecDepth 20000 in
theorem kw_X1_code_0 : Cond.fieldLink RX1 26 "SkipStones$LawText" "from" "LSkipStones$Sheet;" ∈ wsX1_code := List.mem_of_getElem? (i := 1) rfl
set_option maxRecDepth 20000 in
theorem kw_X1_code_1 : Cond.fieldLink RX1 34 "SkipStones$LawText" "length" "I" ∈ wsX1_code := List.mem_of_getElem? (i := 2) rfl
set_option maxRecDepth 20000 in
theorem kw_X1_code_2 : Cond.fieldLink RX1 30 "SkipStones$LawText" "start" "I" ∈ wsX1_code := List.mem_of_getElem? (i := 3) rfl
set_option maxRecDepth 20000 in
theorem hd_V_X2_number_X1_code : yX2_number.cls = yX2_number.cls ∧ yX2_number.cls ≠ "java/lang/invoke/MethodHandle" ∧ yX2_number.cls ≠ "java/lang/invoke/VarHandle" ∧ (parseMethodDescriptor yX2_number.desc).map (fun d => d.parameters.length) = some 1 := by decide +kernel
set_option maxRecDepth 20000 in
theorem hi_X1_code_1 : ∀ w ∈ wsX10, w ∈ wsX1_code := fun _ h => List.mem_cons_of_mem _ (List.mem_append_left _ (List.mem_append_right _ h))
set_option maxHeartbeats 4000000 in
set_option maxRecDepth 100000 in
/-- code -/
theorem c_X1_code (l : Launch) (X : gX) (h0 : Nat) (n1 : Nat) (n2 : Nat) (f0 : Nat) (f1 : Nat) (st : Int) (le : Int) (at1 : Int) (it : Int) (so : Int) (la : Int) (ln : Int) (Nf : Nat → Int) (Tf : Nat → Int) (Fs : Nat → Int) (k : Int) (hl : 0 ≤ le ∧ 0 ≤ st ∧ st + le ≤ ln ∧ ln ≤ 60) (hF : ∀ i, inB (Fs i)) (hk : inB k) : gM l yX1_code wsX1_code (gr 2 0 0) X [(h0, .inr (1, [.ref n1, .ref n2, .ref f0, .int (iI st), .int (iI le), .int (iI at1), .int (iI it)])), (n1, .inl (X.2.1.1, 6, .inl (iF Nf))), (n2, .inl (X.2.1.1, 6, .inl (iF Tf))), (f0, .inr (2, [.ref f1, .int (iI so), .int (iI la), .int (iI ln)])), (f1, .inl (X.2.1.1, 60, .inl (iF Fs)))] [.ref h0, .int (iI k)] (gQi X (Y := Unit) (fun _ => True) (fun _ => (lcd Fs st le k)) (fun _ => [(h0, .inr (1, [.ref n1, .ref n2, .ref f0, .int (iI st), .int (iI le), .int (iI at1), .int (iI it)])), (n1, .inl (X.2.1.1, 6, .inl (iF Nf))), (n2, .inl (X.2.1.1, 6, .inl (iF Tf))), (f0, .inr (2, [.ref f1, .int (iI so), .int (iI la), .int (iI ln)])), (f1, .inl (X.2.1.1, 60, .inl (iF Fs)))])) 0 0 := by
  refine g_start2 (lo := [(0, .ref h0), (1, .int (iI k))]) (by decide +kernel) rfl rfl (Nat.le_of_ble_eq_true rfl) (fun p e s m args below meth c A C => ?_)
  refine r_aload_n C dX1_code_0 0 rfl ?_
  refine gf_1_2 C hi_X1_code_1 kw_X1_code_0 dX1_code_1 0 rfl rfl ?_
  refine r_ifnull C dX1_code_4 ?_
  refine r_iload_n C dX1_code_7 1 rfl ?_
  refine r_if_lt (tgt := 19) C dX1_code_8 (by decide) (by omega) (fun h_1 => ?_) (fun h_1 => ?_)
  · skip
    refine r_iconst C dX1_code_19 ?_
    refine r_goto (tgt := 36) C dX1_code_20 (by decide) ?_
    exact g_ret_i C rfl dX1_code_36 () trivial (by unfold lcd; first | (rw [if_pos (by omega), if_pos (by omega)]; done) | (rw [if_neg (by omega)]; done)) [0, 1, 2, 3, 4] rfl rfl
  · skip
    refine r_iload_n C dX1_code_11 1 rfl ?_
    refine r_aload_n C dX1_code_12 0 rfl ?_
    refine gf_1_4 C hi_X1_code_1 kw_X1_code_1 dX1_code_13 0 rfl rfl ?_
    refine r_icmp_lt (tgt := 23) C dX1_code_16 (by decide) (by omega) (by omega) (fun h_2 => ?_) (fun h_2 => ?_)
    · skip
      refine r_aload_n C dX1_code_23 0 rfl ?_
      refine gf_1_2 C hi_X1_code_1 kw_X1_code_0 dX1_code_24 0 rfl rfl ?_
      refine r_aload_n C dX1_code_27 0 rfl ?_
      refine gf_1_3 C hi_X1_code_1 kw_X1_code_2 dX1_code_28 0 rfl rfl ?_
      refine r_iload_n C dX1_code_31 1 rfl ?_
      refine r_iadd C dX1_code_32 ?_
      refine g_V_i (ws2 := (fun _ => [(h0, .inr (1, [.ref n1, .ref n2, .ref f0, .int (iI st), .int (iI le), .int (iI at1), .int (iI it)])), (n1, .inl (X.2.1.1, 6, .inl (iF Nf))), (n2, .inl (X.2.1.1, 6, .inl (iF Tf))), (f0, .inr (2, [.ref f1, .int (iI so), .int (iI la), .int (iI ln)])), (f1, .inl (X.2.1.1, 60, .inl (iF Fs)))])) (As := [.int (iI (st + k))]) C (c_X2_number l X f0 f1 so la ln Fs (st + k) (by first | assumption | omega) (by first | assumption | omega)) gX1_code_X2_number rfl rfl rfl hd_V_X2_number_X1_code (by decide) dX1_code_33 [3, 4] [0, 1, 2] [0, 1, 2, 3, 4] rfl rfl rfl rfl (by decide) rfl 3 2 rfl rfl rfl rfl (Nat.le_of_ble_eq_true rfl) (by decide) (fun _ => rfl) (fun _ hy_ => ?_)
      clear hy_
      exact g_ret_i C rfl dX1_code_36 () trivial (by unfold lcd; first | (rw [if_pos (by omega), if_pos (by omega)]; done) | (rw [if_neg (by omega)]; done)) [0, 1, 2, 3, 4] rfl rfl
    · skip
      refine r_iconst C dX1_code_19 ?_
      refine r_goto (tgt := 36) C dX1_code_20 (by decide) ?_
      exact g_ret_i C rfl dX1_code_36 () trivial (by unfold lcd; first | (rw [if_pos (by omega), if_pos (by omega)]; done) | (rw [if_neg (by omega)]; done)) [0, 1, 2, 3, 4] rfl rfl

set_option maxRecDepth 20000 in
theorem hd_V_X1_code_X1_letterAt : yX1_code.cls = yX1_code.cls ∧ yX1_code.cls ≠ "java/lang/invoke/MethodHandle" ∧ yX1_code.cls ≠ "java/lang/invoke/VarHandle" ∧ (parseMethodDescriptor yX1_code.desc).map (fun d => d.parameters.length) = some 1 := by decide +kernel
set_option maxHeartbeats 4000000 in
set_option maxRecDepth 100000 in
/-- letterAt -/
theorem c_X1_letterAt (l : Launch) (X : gX) (h0 : Nat) (n1 : Nat) (n2 : Nat) (f0 : Nat) (f1 : Nat) (st : Int) (le : Int) (at1 : Int) (it : Int) (so : Int) (la : Int) (ln : Int) (Nf : Nat → Int) (Tf : Nat → Int) (Fs : Nat → Int) (k : Int) (hl : 0 ≤ le ∧ 0 ≤ st ∧ st + le ≤ ln ∧ ln ≤ 60) (hF : ∀ i, inB (Fs i)) (hk : inB k) : gM l yX1_letterAt wsX1_letterAt (gr 3 0 0) X [(h0, .inr (1, [.ref n1, .ref n2, .ref f0, .int (iI st), .int (iI le), .int (iI at1), .int (iI it)])), (n1, .inl (X.2.1.1, 6, .inl (iF Nf))), (n2, .inl (X.2.1.1, 6, .inl (iF Tf))), (f0, .inr (2, [.ref f1, .int (iI so), .int (iI la), .int (iI ln)])), (f1, .inl (X.2.1.1, 60, .inl (iF Fs)))] [.ref h0, .int (iI k)] (gQi X (Y := Unit) (fun _ => True) (fun _ => (ltr (lcd Fs st le k))) (fun _ => [(h0, .inr (1, [.ref n1, .ref n2, .ref f0, .int (iI st), .int (iI le), .int (iI at1), .int (iI it)])), (n1, .inl (X.2.1.1, 6, .inl (iF Nf))), (n2, .inl (X.2.1.1, 6, .inl (iF Tf))), (f0, .inr (2, [.ref f1, .int (iI so), .int (iI la), .int (iI ln)])), (f1, .inl (X.2.1.1, 60, .inl (iF Fs)))])) 0 0 := by
  refine g_start2 (lo := [(0, .ref h0), (1, .int (iI k))]) (by decide +kernel) rfl rfl (Nat.le_of_ble_eq_true rfl) (fun p e s m args below meth c A C => ?_)
  refine r_iconst C dX1_letterAt_0 ?_
  refine r_istore_n (lo2 := [(2, .int (iI 0)), (0, .ref h0), (1, .int (iI k))]) C dX1_letterAt_1 rfl (by decide) rfl ?_
  refine r_iload_n C dX1_letterAt_2 0 rfl ?_
  refine r_gets_LETTERS C dX1_letterAt_3 ?_
  refine r_slen_LETTERS C dX1_letterAt_6 ?_
  refine r_icmp_ge (tgt := 31) C dX1_letterAt_7 (by decide) (by decide) (by decide) (fun h_1 => absurd h_1 (by decide)) (fun h_1 => ?_)
  refine r_aload_n C dX1_letterAt_10 1 rfl ?_
  refine r_iload_n C dX1_letterAt_11 2 rfl ?_
  refine g_V_i (ws2 := (fun _ => [(h0, .inr (1, [.ref n1, .ref n2, .ref f0, .int (iI st), .int (iI le), .int (iI at1), .int (iI it)])), (n1, .inl (X.2.1.1, 6, .inl (iF Nf))), (n2, .inl (X.2.1.1, 6, .inl (iF Tf))), (f0, .inr (2, [.ref f1, .int (iI so), .int (iI la), .int (iI ln)])), (f1, .inl (X.2.1.1, 60, .inl (iF Fs)))])) (As := [.int (iI k)]) C (c_X1_code l X h0 n1 n2 f0 f1 st le at1 it so la ln Nf Tf Fs k (by first | assumption | omega) (by assumption) (by first | assumption | omega)) gX1_letterAt_X1_code rfl rfl rfl hd_V_X1_code_X1_letterAt (by decide) dX1_letterAt_12 [0, 1, 2, 3, 4] [] [0, 1, 2, 3, 4] rfl rfl rfl rfl (by decide) rfl 0 1 rfl rfl rfl rfl (Nat.le_of_ble_eq_true rfl) (by decide) (fun _ => rfl) (fun _ hy_ => ?_)
  clear hy_
  have hc := lcd_B hF st le k
  refine r_gets_LETTERS C dX1_letterAt_15 ?_
  refine r_iload_n C dX1_letterAt_18 0 rfl ?_
  refine r_sld_LETTERS C dX1_letterAt_19 (by omega) ?_
  refine r_topi (z := 108) rfl ?_
  refine r_icmp_ne (tgt := 25) C dX1_letterAt_20 (by decide) (by omega) (by decide) (fun h_2 => ?_) (fun h_2 => ?_)
  · skip
    refine r_iinc (lo2 := [(2, .int (iI 1)), (0, .ref h0), (1, .int (iI k))]) C dX1_letterAt_25 0 rfl (by decide) rfl ?_
    refine r_goto (tgt := 2) C dX1_letterAt_28 (by decide) ?_
    refine r_iload_n C dX1_letterAt_2 0 rfl ?_
    refine r_gets_LETTERS C dX1_letterAt_3 ?_
    refine r_slen_LETTERS C dX1_letterAt_6 ?_
    refine r_icmp_ge (tgt := 31) C dX1_letterAt_7 (by decide) (by decide) (by decide) (fun h_3 => absurd h_3 (by decide)) (fun h_3 => ?_)
    refine r_aload_n C dX1_letterAt_10 1 rfl ?_
    refine r_iload_n C dX1_letterAt_11 2 rfl ?_
    refine g_V_i (ws2 := (fun _ => [(h0, .inr (1, [.ref n1, .ref n2, .ref f0, .int (iI st), .int (iI le), .int (iI at1), .int (iI it)])), (n1, .inl (X.2.1.1, 6, .inl (iF Nf))), (n2, .inl (X.2.1.1, 6, .inl (iF Tf))), (f0, .inr (2, [.ref f1, .int (iI so), .int (iI la), .int (iI ln)])), (f1, .inl (X.2.1.1, 60, .inl (iF Fs)))])) (As := [.int (iI k)]) C (c_X1_code l X h0 n1 n2 f0 f1 st le at1 it so la ln Nf Tf Fs k (by first | assumption | omega) (by assumption) (by first | assumption | omega)) gX1_letterAt_X1_code rfl rfl rfl hd_V_X1_code_X1_letterAt (by decide) dX1_letterAt_12 [0, 1, 2, 3, 4] [] [0, 1, 2, 3, 4] rfl rfl rfl rfl (by decide) rfl 0 1 rfl rfl rfl rfl (Nat.le_of_ble_eq_true rfl) (by decide) (fun _ => rfl) (fun _ hy_ => ?_)
    clear hy_
    have hc := lcd_B hF st le k
    refine r_gets_LETTERS C dX1_letterAt_15 ?_
    refine r_iload_n C dX1_letterAt_18 0 rfl ?_
    refine r_sld_LETTERS C dX1_letterAt_19 (by omega) ?_
    refine r_topi (z := 114) rfl ?_
    refine r_icmp_ne (tgt := 25) C dX1_letterAt_20 (by decide) (by omega) (by decide) (fun h_4 => ?_) (fun h_4 => ?_)
    · skip
      refine r_iinc (lo2 := [(2, .int (iI 2)), (0, .ref h0), (1, .int (iI k))]) C dX1_letterAt_25 0 rfl (by decide) rfl ?_
      refine r_goto (tgt := 2) C dX1_letterAt_28 (by decide) ?_
      refine r_iload_n C dX1_letterAt_2 0 rfl ?_
      refine r_gets_LETTERS C dX1_letterAt_3 ?_
      refine r_slen_LETTERS C dX1_letterAt_6 ?_
      refine r_icmp_ge (tgt := 31) C dX1_letterAt_7 (by decide) (by decide) (by decide) (fun h_5 => absurd h_5 (by decide)) (fun h_5 => ?_)
      refine r_aload_n C dX1_letterAt_10 1 rfl ?_
      refine r_iload_n C dX1_letterAt_11 2 rfl ?_
      refine g_V_i (ws2 := (fun _ => [(h0, .inr (1, [.ref n1, .ref n2, .ref f0, .int (iI st), .int (iI le), .int (iI at1), .int (iI it)])), (n1, .inl (X.2.1.1, 6, .inl (iF Nf))), (n2, .inl (X.2.1.1, 6, .inl (iF Tf))), (f0, .inr (2, [.ref f1, .int (iI so), .int (iI la), .int (iI ln)])), (f1, .inl (X.2.1.1, 60, .inl (iF Fs)))])) (As := [.int (iI k)]) C (c_X1_code l X h0 n1 n2 f0 f1 st le at1 it so la ln Nf Tf Fs k (by first | assumption | omega) (by assumption) (by first | assumption | omega)) gX1_letterAt_X1_code rfl rfl rfl hd_V_X1_code_X1_letterAt (by decide) dX1_letterAt_12 [0, 1, 2, 3, 4] [] [0, 1, 2, 3, 4] rfl rfl rfl rfl (by decide) rfl 0 1 rfl rfl rfl rfl (Nat.le_of_ble_eq_true rfl) (by decide) (fun _ => rfl) (fun _ hy_ => ?_)
      clear hy_
      have hc := lcd_B hF st le k
      refine r_gets_LETTERS C dX1_letterAt_15 ?_
      refine r_iload_n C dX1_letterAt_18 0 rfl ?_
      refine r_sld_LETTERS C dX1_letterAt_19 (by omega) ?_
      refine r_topi (z := 117) rfl ?_
      refine r_icmp_ne (tgt := 25) C dX1_letterAt_20 (by decide) (by omega) (by decide) (fun h_6 => ?_) (fun h_6 => ?_)
      · skip
        refine r_iinc (lo2 := [(2, .int (iI 3)), (0, .ref h0), (1, .int (iI k))]) C dX1_letterAt_25 0 rfl (by decide) rfl ?_
        refine r_goto (tgt := 2) C dX1_letterAt_28 (by decide) ?_
        refine r_iload_n C dX1_letterAt_2 0 rfl ?_
        refine r_gets_LETTERS C dX1_letterAt_3 ?_
        refine r_slen_LETTERS C dX1_letterAt_6 ?_
        refine r_icmp_ge (tgt := 31) C dX1_letterAt_7 (by decide) (by decide) (by decide) (fun h_7 => absurd h_7 (by decide)) (fun h_7 => ?_)
        refine r_aload_n C dX1_letterAt_10 1 rfl ?_
        refine r_iload_n C dX1_letterAt_11 2 rfl ?_
        refine g_V_i (ws2 := (fun _ => [(h0, .inr (1, [.ref n1, .ref n2, .ref f0, .int (iI st), .int (iI le), .int (iI at1), .int (iI it)])), (n1, .inl (X.2.1.1, 6, .inl (iF Nf))), (n2, .inl (X.2.1.1, 6, .inl (iF Tf))), (f0, .inr (2, [.ref f1, .int (iI so), .int (iI la), .int (iI ln)])), (f1, .inl (X.2.1.1, 60, .inl (iF Fs)))])) (As := [.int (iI k)]) C (c_X1_code l X h0 n1 n2 f0 f1 st le at1 it so la ln Nf Tf Fs k (by first | assumption | omega) (by assumption) (by first | assumption | omega)) gX1_letterAt_X1_code rfl rfl rfl hd_V_X1_code_X1_letterAt (by decide) dX1_letterAt_12 [0, 1, 2, 3, 4] [] [0, 1, 2, 3, 4] rfl rfl rfl rfl (by decide) rfl 0 1 rfl rfl rfl rfl (Nat.le_of_ble_eq_true rfl) (by decide) (fun _ => rfl) (fun _ hy_ => ?_)
        clear hy_
        have hc := lcd_B hF st le k
        refine r_gets_LETTERS C dX1_letterAt_15 ?_
        refine r_iload_n C dX1_letterAt_18 0 rfl ?_
        refine r_sld_LETTERS C dX1_letterAt_19 (by omega) ?_
        refine r_topi (z := 115) rfl ?_
        refine r_icmp_ne (tgt := 25) C dX1_letterAt_20 (by decide) (by omega) (by decide) (fun h_8 => ?_) (fun h_8 => ?_)
        · skip
          refine r_iinc (lo2 := [(2, .int (iI 4)), (0, .ref h0), (1, .int (iI k))]) C dX1_letterAt_25 0 rfl (by decide) rfl ?_
          refine r_goto (tgt := 2) C dX1_letterAt_28 (by decide) ?_
          refine r_iload_n C dX1_letterAt_2 0 rfl ?_
          refine r_gets_LETTERS C dX1_letterAt_3 ?_
          refine r_slen_LETTERS C dX1_letterAt_6 ?_
          refine r_icmp_ge (tgt := 31) C dX1_letterAt_7 (by decide) (by decide) (by decide) (fun h_9 => absurd h_9 (by decide)) (fun h_9 => ?_)
          refine r_aload_n C dX1_letterAt_10 1 rfl ?_
          refine r_iload_n C dX1_letterAt_11 2 rfl ?_
          refine g_V_i (ws2 := (fun _ => [(h0, .inr (1, [.ref n1, .ref n2, .ref f0, .int (iI st), .int (iI le), .int (iI at1), .int (iI it)])), (n1, .inl (X.2.1.1, 6, .inl (iF Nf))), (n2, .inl (X.2.1.1, 6, .inl (iF Tf))), (f0, .inr (2, [.ref f1, .int (iI so), .int (iI la), .int (iI ln)])), (f1, .inl (X.2.1.1, 60, .inl (iF Fs)))])) (As := [.int (iI k)]) C (c_X1_code l X h0 n1 n2 f0 f1 st le at1 it so la ln Nf Tf Fs k (by first | assumption | omega) (by assumption) (by first | assumption | omega)) gX1_letterAt_X1_code rfl rfl rfl hd_V_X1_code_X1_letterAt (by decide) dX1_letterAt_12 [0, 1, 2, 3, 4] [] [0, 1, 2, 3, 4] rfl rfl rfl rfl (by decide) rfl 0 1 rfl rfl rfl rfl (Nat.le_of_ble_eq_true rfl) (by decide) (fun _ => rfl) (fun _ hy_ => ?_)
          clear hy_
          have hc := lcd_B hF st le k
          refine r_gets_LETTERS C dX1_letterAt_15 ?_
          refine r_iload_n C dX1_letterAt_18 0 rfl ?_
          refine r_sld_LETTERS C dX1_letterAt_19 (by omega) ?_
          refine r_topi (z := 107) rfl ?_
          refine r_icmp_ne (tgt := 25) C dX1_letterAt_20 (by decide) (by omega) (by decide) (fun h_10 => ?_) (fun h_10 => ?_)
          · skip
            refine r_iinc (lo2 := [(2, .int (iI 5)), (0, .ref h0), (1, .int (iI k))]) C dX1_letterAt_25 0 rfl (by decide) rfl ?_
            refine r_goto (tgt := 2) C dX1_letterAt_28 (by decide) ?_
            refine r_iload_n C dX1_letterAt_2 0 rfl ?_
            refine r_gets_LETTERS C dX1_letterAt_3 ?_
            refine r_slen_LETTERS C dX1_letterAt_6 ?_
            refine r_icmp_ge (tgt := 31) C dX1_letterAt_7 (by decide) (by decide) (by decide) (fun h_11 => absurd h_11 (by decide)) (fun h_11 => ?_)
            refine r_aload_n C dX1_letterAt_10 1 rfl ?_
            refine r_iload_n C dX1_letterAt_11 2 rfl ?_
            refine g_V_i (ws2 := (fun _ => [(h0, .inr (1, [.ref n1, .ref n2, .ref f0, .int (iI st), .int (iI le), .int (iI at1), .int (iI it)])), (n1, .inl (X.2.1.1, 6, .inl (iF Nf))), (n2, .inl (X.2.1.1, 6, .inl (iF Tf))), (f0, .inr (2, [.ref f1, .int (iI so), .int (iI la), .int (iI ln)])), (f1, .inl (X.2.1.1, 60, .inl (iF Fs)))])) (As := [.int (iI k)]) C (c_X1_code l X h0 n1 n2 f0 f1 st le at1 it so la ln Nf Tf Fs k (by first | assumption | omega) (by assumption) (by first | assumption | omega)) gX1_letterAt_X1_code rfl rfl rfl hd_V_X1_code_X1_letterAt (by decide) dX1_letterAt_12 [0, 1, 2, 3, 4] [] [0, 1, 2, 3, 4] rfl rfl rfl rfl (by decide) rfl 0 1 rfl rfl rfl rfl (Nat.le_of_ble_eq_true rfl) (by decide) (fun _ => rfl) (fun _ hy_ => ?_)
            clear hy_
            have hc := lcd_B hF st le k
            refine r_gets_LETTERS C dX1_letterAt_15 ?_
            refine r_iload_n C dX1_letterAt_18 0 rfl ?_
            refine r_sld_LETTERS C dX1_letterAt_19 (by omega) ?_
            refine r_topi (z := 104) rfl ?_
            refine r_icmp_ne (tgt := 25) C dX1_letterAt_20 (by decide) (by omega) (by decide) (fun h_12 => ?_) (fun h_12 => ?_)
            · skip
              refine r_iinc (lo2 := [(2, .int (iI 6)), (0, .ref h0), (1, .int (iI k))]) C dX1_letterAt_25 0 rfl (by decide) rfl ?_
              refine r_goto (tgt := 2) C dX1_letterAt_28 (by decide) ?_
              refine r_iload_n C dX1_letterAt_2 0 rfl ?_
              refine r_gets_LETTERS C dX1_letterAt_3 ?_
              refine r_slen_LETTERS C dX1_letterAt_6 ?_
              refine r_icmp_ge (tgt := 31) C dX1_letterAt_7 (by decide) (by decide) (by decide) (fun h_13 => ?_) (fun h_13 => absurd h_13 (by decide))
              refine r_iconst C dX1_letterAt_31 ?_
              exact g_ret_i C rfl dX1_letterAt_32 () trivial (by unfold ltr; (repeat' split) <;> omega) [0, 1, 2, 3, 4] rfl rfl
            · skip
              refine r_iload_n C dX1_letterAt_23 0 rfl ?_
              exact g_ret_i C rfl dX1_letterAt_24 () trivial (by unfold ltr; (repeat' split) <;> omega) [0, 1, 2, 3, 4] rfl rfl
          · skip
            refine r_iload_n C dX1_letterAt_23 0 rfl ?_
            exact g_ret_i C rfl dX1_letterAt_24 () trivial (by unfold ltr; (repeat' split) <;> omega) [0, 1, 2, 3, 4] rfl rfl
        · skip
          refine r_iload_n C dX1_letterAt_23 0 rfl ?_
          exact g_ret_i C rfl dX1_letterAt_24 () trivial (by unfold ltr; (repeat' split) <;> omega) [0, 1, 2, 3, 4] rfl rfl
      · skip
        refine r_iload_n C dX1_letterAt_23 0 rfl ?_
        exact g_ret_i C rfl dX1_letterAt_24 () trivial (by unfold ltr; (repeat' split) <;> omega) [0, 1, 2, 3, 4] rfl rfl
    · skip
      refine r_iload_n C dX1_letterAt_23 0 rfl ?_
      exact g_ret_i C rfl dX1_letterAt_24 () trivial (by unfold ltr; (repeat' split) <;> omega) [0, 1, 2, 3, 4] rfl rfl
  · skip
    refine r_iload_n C dX1_letterAt_23 0 rfl ?_
    exact g_ret_i C rfl dX1_letterAt_24 () trivial (by unfold ltr; (repeat' split) <;> omega) [0, 1, 2, 3, 4] rfl rfl

set_option maxRecDepth 20000 in
theorem hd_V_X1_code_X1_digitAt : yX1_code.cls = yX1_code.cls ∧ yX1_code.cls ≠ "java/lang/invoke/MethodHandle" ∧ yX1_code.cls ≠ "java/lang/invoke/VarHandle" ∧ (parseMethodDescriptor yX1_code.desc).map (fun d => d.parameters.length) = some 1 := by decide +kernel
set_option maxRecDepth 20000 in
theorem kw_X1_digitAt_20 : Cond.initialized RX5 ∈ wsX1_digitAt := List.mem_of_getElem? (i := 21) rfl
set_option maxRecDepth 20000 in
theorem kw_X1_digitAt_19 : Cond.static yX5_within ∈ wsX1_digitAt := List.mem_of_getElem? (i := 20) rfl
set_option maxRecDepth 20000 in
theorem hd_SN_X5_within_X1_digitAt : yX5_within.cls ≠ "java/lang/invoke/MethodHandle" ∧ yX5_within.cls ≠ "java/lang/invoke/VarHandle" ∧ (parseMethodDescriptor yX5_within.desc).map (fun d => d.parameters.length) = some 3 := by decide +kernel
set_option maxHeartbeats 4000000 in
set_option maxRecDepth 100000 in
/-- digitAt -/
theorem c_X1_digitAt (l : Launch) (X : gX) (h0 : Nat) (n1 : Nat) (n2 : Nat) (f0 : Nat) (f1 : Nat) (st : Int) (le : Int) (at1 : Int) (it : Int) (so : Int) (la : Int) (ln : Int) (Nf : Nat → Int) (Tf : Nat → Int) (Fs : Nat → Int) (k : Int) (hl : 0 ≤ le ∧ 0 ≤ st ∧ st + le ≤ ln ∧ ln ≤ 60) (hF : ∀ i, inB (Fs i)) (hk : inB k) : gM l yX1_digitAt wsX1_digitAt (gr 3 0 0) X [(h0, .inr (1, [.ref n1, .ref n2, .ref f0, .int (iI st), .int (iI le), .int (iI at1), .int (iI it)])), (n1, .inl (X.2.1.1, 6, .inl (iF Nf))), (n2, .inl (X.2.1.1, 6, .inl (iF Tf))), (f0, .inr (2, [.ref f1, .int (iI so), .int (iI la), .int (iI ln)])), (f1, .inl (X.2.1.1, 60, .inl (iF Fs)))] [.ref h0, .int (iI k)] (gQi X (Y := Unit) (fun _ => True) (fun _ => (dig (lcd Fs st le k))) (fun _ => [(h0, .inr (1, [.ref n1, .ref n2, .ref f0, .int (iI st), .int (iI le), .int (iI at1), .int (iI it)])), (n1, .inl (X.2.1.1, 6, .inl (iF Nf))), (n2, .inl (X.2.1.1, 6, .inl (iF Tf))), (f0, .inr (2, [.ref f1, .int (iI so), .int (iI la), .int (iI ln)])), (f1, .inl (X.2.1.1, 60, .inl (iF Fs)))])) 0 0 := by
  refine g_start2 (lo := [(0, .ref h0), (1, .int (iI k))]) (by decide +kernel) rfl rfl (Nat.le_of_ble_eq_true rfl) (fun p e s m args below meth c A C => ?_)
  refine r_aload_n C dX1_digitAt_0 0 rfl ?_
  refine r_iload_n C dX1_digitAt_1 1 rfl ?_
  refine g_V_i (ws2 := (fun _ => [(h0, .inr (1, [.ref n1, .ref n2, .ref f0, .int (iI st), .int (iI le), .int (iI at1), .int (iI it)])), (n1, .inl (X.2.1.1, 6, .inl (iF Nf))), (n2, .inl (X.2.1.1, 6, .inl (iF Tf))), (f0, .inr (2, [.ref f1, .int (iI so), .int (iI la), .int (iI ln)])), (f1, .inl (X.2.1.1, 60, .inl (iF Fs)))])) (As := [.int (iI k)]) C (c_X1_code l X h0 n1 n2 f0 f1 st le at1 it so la ln Nf Tf Fs k (by first | assumption | omega) (by assumption) (by first | assumption | omega)) gX1_digitAt_X1_code rfl rfl rfl hd_V_X1_code_X1_digitAt (by decide) dX1_digitAt_2 [0, 1, 2, 3, 4] [] [0, 1, 2, 3, 4] rfl rfl rfl rfl (by decide) rfl 0 1 rfl rfl rfl rfl (Nat.le_of_ble_eq_true rfl) (by decide) (fun _ => rfl) (fun _ hy_ => ?_)
  clear hy_
  have hc := lcd_B hF st le k
  refine r_istore_n (lo2 := [(2, .int (iI (lcd Fs st le k))), (0, .ref h0), (1, .int (iI k))]) C dX1_digitAt_5 rfl (by decide) rfl ?_
  refine r_iload_n C dX1_digitAt_6 0 rfl ?_
  refine r_bipush C dX1_digitAt_7 (by decide) ?_
  refine r_bipush C dX1_digitAt_9 (by decide) ?_
  refine g_SN_i (ws2 := (fun _ => [(h0, .inr (1, [.ref n1, .ref n2, .ref f0, .int (iI st), .int (iI le), .int (iI at1), .int (iI it)])), (n1, .inl (X.2.1.1, 6, .inl (iF Nf))), (n2, .inl (X.2.1.1, 6, .inl (iF Tf))), (f0, .inr (2, [.ref f1, .int (iI so), .int (iI la), .int (iI ln)])), (f1, .inl (X.2.1.1, 60, .inl (iF Fs)))])) (As := [.int (iI (lcd Fs st le k)), .int (iI 48), .int (iI 57)]) C (c_X5_within l X (lcd Fs st le k) 48 57 (by first | assumption | omega) (by first | assumption | omega) (by first | assumption | omega)) gX1_digitAt_X5_within_n83 rfl rfl rfl (host := "SkipStones") (List.mem_of_getElem? (i := 4) rfl) kw_X1_digitAt_20 kw_X1_digitAt_19 hd_SN_X5_within_X1_digitAt (by decide) dX1_digitAt_11 [] [0, 1, 2, 3, 4] [0, 1, 2, 3, 4] rfl rfl rfl rfl (by decide) rfl rfl rfl (Nat.le_of_ble_eq_true rfl) (by decide) (fun _ => rfl) (fun _ hy_ => ?_)
  clear hy_
  refine r_ite (fun h_1 => ?_) (fun h_1 => ?_)
  · skip
    refine r_if_eq (tgt := 24) C dX1_digitAt_14 (by decide) (by decide) (fun h_2 => absurd h_2 (by decide)) (fun h_2 => ?_)
    refine r_iload_n C dX1_digitAt_17 0 rfl ?_
    refine r_bipush C dX1_digitAt_18 (by decide) ?_
    refine r_isub C dX1_digitAt_20 ?_
    refine r_goto (tgt := 25) C dX1_digitAt_21 (by decide) ?_
    exact g_ret_i C rfl dX1_digitAt_25 () trivial (by unfold dig; (repeat' split) <;> omega) [0, 1, 2, 3, 4] rfl rfl
  · skip
    refine r_if_eq (tgt := 24) C dX1_digitAt_14 (by decide) (by decide) (fun h_3 => ?_) (fun h_3 => absurd h_3 (by decide))
    refine r_iconst C dX1_digitAt_24 ?_
    exact g_ret_i C rfl dX1_digitAt_25 () trivial (by unfold dig; (repeat' split) <;> omega) [0, 1, 2, 3, 4] rfl rfl

set_option maxRecDepth 20000 in
theorem kw_X1_isUntold_0 : Cond.fieldLink RX1 23 "SkipStones$LawText" "timesTold" "[I" ∈ wsX1_isUntold := List.mem_of_getElem? (i := 1) rfl
set_option maxRecDepth 20000 in
theorem hi_X1_isUntold_1 : ∀ w ∈ wsX10, w ∈ wsX1_isUntold := fun _ h => List.mem_cons_of_mem _ (List.mem_append_right _ h)
set_option maxHeartbeats 4000000 in
set_option maxRecDepth 100000 in
/-- isUntold -/
theorem c_X1_isUntold (l : Launch) (X : gX) (h0 : Nat) (n1 : Nat) (n2 : Nat) (f0 : Nat) (st : Int) (le : Int) (at1 : Int) (it : Int) (Nf : Nat → Int) (Tf : Nat → Int) (k : Int) (hk : inB k) (hT : ∀ i, 0 ≤ Tf i ∧ Tf i ≤ 1) : gM l yX1_isUntold wsX1_isUntold (gr 0 0 0) X [(h0, .inr (1, [.ref n1, .ref n2, .ref f0, .int (iI st), .int (iI le), .int (iI at1), .int (iI it)])), (n1, .inl (X.2.1.1, 6, .inl (iF Nf))), (n2, .inl (X.2.1.1, 6, .inl (iF Tf)))] [.ref h0, .int (iI k)] (gQi X (Y := Unit) (fun _ => True) (fun _ => (if (0 ≤ k ∧ k < 6 ∧ Tf (Int.toNat k) = 0) then 1 else 0)) (fun _ => [(h0, .inr (1, [.ref n1, .ref n2, .ref f0, .int (iI st), .int (iI le), .int (iI at1), .int (iI it)])), (n1, .inl (X.2.1.1, 6, .inl (iF Nf))), (n2, .inl (X.2.1.1, 6, .inl (iF Tf)))])) 0 0 := by
  refine g_start2 (lo := [(0, .ref h0), (1, .int (iI k))]) (by decide +kernel) rfl rfl (Nat.le_of_ble_eq_true rfl) (fun p e s m args below meth c A C => ?_)
  refine r_iload_n C dX1_isUntold_0 1 rfl ?_
  refine r_if_lt (tgt := 26) C dX1_isUntold_1 (by decide) (by omega) (fun h_1 => ?_) (fun h_1 => ?_)
  · skip
    refine r_iconst C dX1_isUntold_26 ?_
    exact g_ret_z C rfl (by decide) dX1_isUntold_27 () trivial (by first | rfl | omega | ((repeat' split) <;> first | rfl | omega)) [0, 1, 2] rfl rfl
  · skip
    refine r_iload_n C dX1_isUntold_4 1 rfl ?_
    refine r_aload_n C dX1_isUntold_5 0 rfl ?_
    refine gf_1_1 C hi_X1_isUntold_1 kw_X1_isUntold_0 dX1_isUntold_6 0 rfl rfl ?_
    refine r_alen (z := 6) C dX1_isUntold_9 2 0 rfl rfl rfl ?_
    refine r_icmp_ge (tgt := 26) C dX1_isUntold_10 (by decide) (by omega) (by decide) (fun h_2 => ?_) (fun h_2 => ?_)
    · skip
      refine r_iconst C dX1_isUntold_26 ?_
      exact g_ret_z C rfl (by decide) dX1_isUntold_27 () trivial (by first | rfl | omega | ((repeat' split) <;> first | rfl | omega)) [0, 1, 2] rfl rfl
    · skip
      refine r_aload_n C dX1_isUntold_13 0 rfl ?_
      refine gf_1_1 C hi_X1_isUntold_1 kw_X1_isUntold_0 dX1_isUntold_14 0 rfl rfl ?_
      refine r_iload_n C dX1_isUntold_17 1 rfl ?_
      refine r_iald C dX1_isUntold_18 2 rfl (by omega) (by decide) ?_
      refine r_if_ne (tgt := 26) C dX1_isUntold_19 (by decide) (by have := hT (Int.toNat k); omega) (fun h_3 => ?_) (fun h_3 => ?_)
      · skip
        refine r_iconst C dX1_isUntold_26 ?_
        exact g_ret_z C rfl (by decide) dX1_isUntold_27 () trivial (by first | rfl | omega | ((repeat' split) <;> first | rfl | omega)) [0, 1, 2] rfl rfl
      · skip
        refine r_iconst C dX1_isUntold_22 ?_
        refine r_goto (tgt := 27) C dX1_isUntold_23 (by decide) ?_
        exact g_ret_z C rfl (by decide) dX1_isUntold_27 () trivial (by first | rfl | omega | ((repeat' split) <;> first | rfl | omega)) [0, 1, 2] rfl rfl

set_option maxRecDepth 20000 in
theorem kw_X1_isLawful_0 : Cond.fieldLink RX1 18 "SkipStones$LawText" "numbers" "[I" ∈ wsX1_isLawful := List.mem_of_getElem? (i := 1) rfl
set_option maxRecDepth 20000 in
theorem kw_X1_isLawful_2 : Cond.initialized RX5 ∈ wsX1_isLawful := List.mem_of_getElem? (i := 3) rfl
set_option maxRecDepth 20000 in
theorem kw_X1_isLawful_1 : Cond.static yX5_within ∈ wsX1_isLawful := List.mem_of_getElem? (i := 2) rfl
set_option maxRecDepth 20000 in
theorem hd_SN_X5_within_X1_isLawful : yX5_within.cls ≠ "java/lang/invoke/MethodHandle" ∧ yX5_within.cls ≠ "java/lang/invoke/VarHandle" ∧ (parseMethodDescriptor yX5_within.desc).map (fun d => d.parameters.length) = some 3 := by decide +kernel
set_option maxRecDepth 20000 in
theorem hi_X1_isLawful_1 : ∀ w ∈ wsX10, w ∈ wsX1_isLawful := fun _ h => List.mem_cons_of_mem _ (List.mem_append_right _ h)
set_option maxHeartbeats 4000000 in
set_option maxRecDepth 100000 in
/-- isLawful -/
theorem c_X1_isLawful (l : Launch) (X : gX) (h0 : Nat) (n1 : Nat) (n2 : Nat) (f0 : Nat) (st : Int) (le : Int) (at1 : Int) (it : Int) (Nf : Nat → Int) (Tf : Nat → Int) (k : Int) (v : Int) (hk : 0 ≤ k ∧ k < 6) (hv : inB v) : gM l yX1_isLawful wsX1_isLawful (gr 1 0 0) X [(h0, .inr (1, [.ref n1, .ref n2, .ref f0, .int (iI st), .int (iI le), .int (iI at1), .int (iI it)])), (n1, .inl (X.2.1.1, 6, .inl (iF Nf))), (n2, .inl (X.2.1.1, 6, .inl (iF Tf)))] [.ref h0, .int (iI k), .int (iI v)] (gQi X (Y := Unit) (fun _ => True) (fun _ => (if (lwf k v) then 1 else 0)) (fun _ => [(h0, .inr (1, [.ref n1, .ref n2, .ref f0, .int (iI st), .int (iI le), .int (iI at1), .int (iI it)])), (n1, .inl (X.2.1.1, 6, .inl (iF Nf))), (n2, .inl (X.2.1.1, 6, .inl (iF Tf)))])) 0 0 := by
  refine g_start2 (lo := [(0, .ref h0), (1, .int (iI k)), (2, .int (iI v))]) (by decide +kernel) rfl rfl (Nat.le_of_ble_eq_true rfl) (fun p e s m args below meth c A C => ?_)
  refine r_iload_n C dX1_isLawful_0 1 rfl ?_
  refine r_if_lt (tgt := 50) C dX1_isLawful_1 (by decide) (by omega) (fun h_1 => absurd h_1 (by omega)) (fun h_1 => ?_)
  refine r_iload_n C dX1_isLawful_4 1 rfl ?_
  refine r_gets_LEAST C dX1_isLawful_5 ?_
  refine r_slen_LEAST C dX1_isLawful_8 ?_
  refine r_icmp_ge (tgt := 50) C dX1_isLawful_9 (by decide) (by omega) (by decide) (fun h_2 => absurd h_2 (by omega)) (fun h_2 => ?_)
  refine r_iload_n C dX1_isLawful_12 1 rfl ?_
  refine r_gets_GREATEST C dX1_isLawful_13 ?_
  refine r_slen_GREATEST C dX1_isLawful_16 ?_
  refine r_icmp_ge (tgt := 50) C dX1_isLawful_17 (by decide) (by omega) (by decide) (fun h_3 => absurd h_3 (by omega)) (fun h_3 => ?_)
  refine r_iload_n C dX1_isLawful_20 1 rfl ?_
  refine r_aload_n C dX1_isLawful_21 0 rfl ?_
  refine gf_1_0 C hi_X1_isLawful_1 kw_X1_isLawful_0 dX1_isLawful_22 0 rfl rfl ?_
  refine r_alen (z := 6) C dX1_isLawful_25 1 0 rfl rfl rfl ?_
  refine r_icmp_ge (tgt := 50) C dX1_isLawful_26 (by decide) (by omega) (by decide) (fun h_4 => absurd h_4 (by omega)) (fun h_4 => ?_)
  refine r_iload_n C dX1_isLawful_29 2 rfl ?_
  refine r_gets_LEAST C dX1_isLawful_30 ?_
  refine r_iload_n C dX1_isLawful_33 1 rfl ?_
  refine r_sld_LEAST C dX1_isLawful_34 (by omega) ?_
  refine r_gets_GREATEST C dX1_isLawful_35 ?_
  refine r_iload_n C dX1_isLawful_38 1 rfl ?_
  refine r_sld_GREATEST C dX1_isLawful_39 (by omega) ?_
  refine g_SN_i (ws2 := (fun _ => [(h0, .inr (1, [.ref n1, .ref n2, .ref f0, .int (iI st), .int (iI le), .int (iI at1), .int (iI it)])), (n1, .inl (X.2.1.1, 6, .inl (iF Nf))), (n2, .inl (X.2.1.1, 6, .inl (iF Tf)))])) (As := [.int (iI v), .int (iI (gLE (Int.toNat k))), .int (iI (gGR (Int.toNat k)))]) C (c_X5_within l X v (gLE (Int.toNat k)) (gGR (Int.toNat k)) (by first | assumption | omega) (by first | assumption | have := gLE_B (Int.toNat k); omega) (by first | assumption | have := gGR_B (Int.toNat k); omega)) gX1_isLawful_X5_within_n83 rfl rfl rfl (host := "SkipStones") (List.mem_of_getElem? (i := 4) rfl) kw_X1_isLawful_2 kw_X1_isLawful_1 hd_SN_X5_within_X1_isLawful (by decide) dX1_isLawful_40 [] [0, 1, 2] [0, 1, 2] rfl rfl rfl rfl (by decide) rfl rfl rfl (Nat.le_of_ble_eq_true rfl) (by decide) (fun _ => rfl) (fun _ hy_ => ?_)
  clear hy_
  refine r_ite (fun h_5 => ?_) (fun h_5 => ?_)
  · skip
    refine r_if_eq (tgt := 50) C dX1_isLawful_43 (by decide) (by decide) (fun h_6 => absurd h_6 (by decide)) (fun h_6 => ?_)
    refine r_iconst C dX1_isLawful_46 ?_
    refine r_goto (tgt := 51) C dX1_isLawful_47 (by decide) ?_
    exact g_ret_z C rfl (by decide) dX1_isLawful_51 () trivial (by first | rfl | omega | ((repeat' split) <;> first | rfl | omega)) [0, 1, 2] rfl rfl
  · skip
    refine r_if_eq (tgt := 50) C dX1_isLawful_43 (by decide) (by decide) (fun h_7 => ?_) (fun h_7 => absurd h_7 (by decide))
    refine r_iconst C dX1_isLawful_50 ?_
    exact g_ret_z C rfl (by decide) dX1_isLawful_51 () trivial (by first | rfl | omega | ((repeat' split) <;> first | rfl | omega)) [0, 1, 2] rfl rfl

set_option maxRecDepth 20000 in
theorem kw_X1_number_0 : Cond.fieldLink RX1 18 "SkipStones$LawText" "numbers" "[I" ∈ wsX1_number := List.mem_of_getElem? (i := 1) rfl
set_option maxRecDepth 20000 in
theorem hi_X1_number_1 : ∀ w ∈ wsX10, w ∈ wsX1_number := fun _ h => List.mem_cons_of_mem _ (List.mem_append_right _ h)
set_option maxHeartbeats 4000000 in
set_option maxRecDepth 100000 in
/-- number -/
theorem c_X1_number (l : Launch) (X : gX) (h0 : Nat) (n1 : Nat) (st : Int) (le : Int) (at1 : Int) (it : Int) (Nf : Nat → Int) (k : Int) (fv : Value) (n2v : Value) (hk : 0 ≤ k ∧ k < 6) : gM l yX1_number wsX1_number (gr 0 0 0) X [(h0, .inr (1, [.ref n1, n2v, fv, .int (iI st), .int (iI le), .int (iI at1), .int (iI it)])), (n1, .inl (X.2.1.1, 6, .inl (iF Nf)))] [.ref h0, .int (iI k)] (gQi X (Y := Unit) (fun _ => True) (fun _ => (Nf (Int.toNat k))) (fun _ => [(h0, .inr (1, [.ref n1, n2v, fv, .int (iI st), .int (iI le), .int (iI at1), .int (iI it)])), (n1, .inl (X.2.1.1, 6, .inl (iF Nf)))])) 0 0 := by
  refine g_start2 (lo := [(0, .ref h0), (1, .int (iI k))]) (by decide +kernel) rfl rfl (Nat.le_of_ble_eq_true rfl) (fun p e s m args below meth c A C => ?_)
  refine r_iload_n C dX1_number_0 1 rfl ?_
  refine r_if_lt (tgt := 13) C dX1_number_1 (by decide) (by omega) (fun h_1 => absurd h_1 (by omega)) (fun h_1 => ?_)
  refine r_iload_n C dX1_number_4 1 rfl ?_
  refine r_aload_n C dX1_number_5 0 rfl ?_
  refine gf_1_0 C hi_X1_number_1 kw_X1_number_0 dX1_number_6 0 rfl rfl ?_
  refine r_alen (z := 6) C dX1_number_9 1 0 rfl rfl rfl ?_
  refine r_icmp_lt (tgt := 17) C dX1_number_10 (by decide) (by omega) (by decide) (fun h_2 => ?_) (fun h_2 => absurd h_2 (by omega))
  refine r_aload_n C dX1_number_17 0 rfl ?_
  refine gf_1_0 C hi_X1_number_1 kw_X1_number_0 dX1_number_18 0 rfl rfl ?_
  refine r_iload_n C dX1_number_21 1 rfl ?_
  refine r_iald C dX1_number_22 1 rfl (by omega) (by decide) ?_
  exact g_ret_i C rfl dX1_number_23 () trivial (by first | rfl | omega | ((repeat' split) <;> first | rfl | omega)) [0, 1] rfl rfl

set_option maxRecDepth 20000 in
theorem kw_X1_readsItem_0 : Cond.fieldLink RX1 37 "SkipStones$LawText" "at" "I" ∈ wsX1_readsItem := List.mem_of_getElem? (i := 1) rfl
set_option maxRecDepth 20000 in
theorem hd_V_X1_letterAt_X1_readsItem : yX1_letterAt.cls = yX1_letterAt.cls ∧ yX1_letterAt.cls ≠ "java/lang/invoke/MethodHandle" ∧ yX1_letterAt.cls ≠ "java/lang/invoke/VarHandle" ∧ (parseMethodDescriptor yX1_letterAt.desc).map (fun d => d.parameters.length) = some 1 := by decide +kernel
set_option maxRecDepth 20000 in
theorem hd_V_X1_isUntold_X1_readsItem : yX1_isUntold.cls = yX1_isUntold.cls ∧ yX1_isUntold.cls ≠ "java/lang/invoke/MethodHandle" ∧ yX1_isUntold.cls ≠ "java/lang/invoke/VarHandle" ∧ (parseMethodDescriptor yX1_isUntold.desc).map (fun d => d.parameters.length) = some 1 := by decide +kernel
set_option maxRecDepth 20000 in
theorem hd_V_X1_digitAt_X1_readsItem : yX1_digitAt.cls = yX1_digitAt.cls ∧ yX1_digitAt.cls ≠ "java/lang/invoke/MethodHandle" ∧ yX1_digitAt.cls ≠ "java/lang/invoke/VarHandle" ∧ (parseMethodDescriptor yX1_digitAt.desc).map (fun d => d.parameters.length) = some 1 := by decide +kernel
set_option maxRecDepth 20000 in
theorem hd_V_X1_isLawful_X1_readsItem : yX1_isLawful.cls = yX1_isLawful.cls ∧ yX1_isLawful.cls ≠ "java/lang/invoke/MethodHandle" ∧ yX1_isLawful.cls ≠ "java/lang/invoke/VarHandle" ∧ (parseMethodDescriptor yX1_isLawful.desc).map (fun d => d.parameters.length) = some 2 := by decide +kernel
set_option maxRecDepth 20000 in
theorem kw_X1_readsItem_1 : Cond.fieldLink RX1 18 "SkipStones$LawText" "numbers" "[I" ∈ wsX1_readsItem := List.mem_of_getElem? (i := 2) rfl
set_option maxRecDepth 20000 in
theorem kw_X1_readsItem_2 : Cond.fieldLink RX1 23 "SkipStones$LawText" "timesTold" "[I" ∈ wsX1_readsItem := List.mem_of_getElem? (i := 3) rfl
set_option maxRecDepth 20000 in
theorem hi_X1_readsItem_1 : ∀ w ∈ wsX10, w ∈ wsX1_readsItem := fun _ h => List.mem_cons_of_mem _ (List.mem_append_left _ (List.mem_append_right _ h))
set_option maxHeartbeats 4000000 in
set_option maxRecDepth 100000 in
/-- readsItem -/
theorem c_X1_readsItem (l : Launch) (X : gX) (h0 : Nat) (n1 : Nat) (n2 : Nat) (f0 : Nat) (f1 : Nat) (st : Int) (le : Int) (at1 : Int) (it : Int) (so : Int) (la : Int) (ln : Int) (Nf : Nat → Int) (Tf : Nat → Int) (Fs : Nat → Int) (hl : 0 ≤ le ∧ 0 ≤ st ∧ st + le ≤ ln ∧ ln ≤ 60) (hF : ∀ i, inB (Fs i)) (ha : 0 ≤ at1 ∧ at1 ≤ 60) (hT : ∀ i, 0 ≤ Tf i ∧ Tf i ≤ 1) : gM l yX1_readsItem wsX1_readsItem (gr 4 0 0) X [(h0, .inr (1, [.ref n1, .ref n2, .ref f0, .int (iI st), .int (iI le), .int (iI at1), .int (iI it)])), (n1, .inl (X.2.1.1, 6, .inl (iF Nf))), (n2, .inl (X.2.1.1, 6, .inl (iF Tf))), (f0, .inr (2, [.ref f1, .int (iI so), .int (iI la), .int (iI ln)])), (f1, .inl (X.2.1.1, 60, .inl (iF Fs)))] [.ref h0] (gQi X (Y := Unit) (fun _ => True) (fun _ => (itm (lcd Fs st le) at1 Nf Tf).1) (fun _ => [(h0, .inr (1, [.ref n1, .ref n2, .ref f0, .int (iI st), .int (iI le), .int (iI ((itm (lcd Fs st le) at1 Nf Tf).2.1)), .int (iI it)])), (n1, .inl (X.2.1.1, 6, .inl (iF ((itm (lcd Fs st le) at1 Nf Tf).2.2.1)))), (n2, .inl (X.2.1.1, 6, .inl (iF ((itm (lcd Fs st le) at1 Nf Tf).2.2.2)))), (f0, .inr (2, [.ref f1, .int (iI so), .int (iI la), .int (iI ln)])), (f1, .inl (X.2.1.1, 60, .inl (iF Fs)))])) 0 0 := by
  refine g_start2 (lo := [(0, .ref h0)]) (by decide +kernel) rfl rfl (Nat.le_of_ble_eq_true rfl) (fun p e s m args below meth c A C => ?_)
  refine r_aload_n C dX1_readsItem_0 0 rfl ?_
  refine r_aload_n C dX1_readsItem_1 0 rfl ?_
  refine gf_1_5 C hi_X1_readsItem_1 kw_X1_readsItem_0 dX1_readsItem_2 0 rfl rfl ?_
  refine g_V_i (ws2 := (fun _ => [(h0, .inr (1, [.ref n1, .ref n2, .ref f0, .int (iI st), .int (iI le), .int (iI at1), .int (iI it)])), (n1, .inl (X.2.1.1, 6, .inl (iF Nf))), (n2, .inl (X.2.1.1, 6, .inl (iF Tf))), (f0, .inr (2, [.ref f1, .int (iI so), .int (iI la), .int (iI ln)])), (f1, .inl (X.2.1.1, 60, .inl (iF Fs)))])) (As := [.int (iI at1)]) C (c_X1_letterAt l X h0 n1 n2 f0 f1 st le at1 it so la ln Nf Tf Fs at1 (by first | assumption | omega) (by assumption) (by first | assumption | omega)) gX1_readsItem_X1_letterAt rfl rfl rfl hd_V_X1_letterAt_X1_readsItem (by decide) dX1_readsItem_5 [0, 1, 2, 3, 4] [] [0, 1, 2, 3, 4] rfl rfl rfl rfl (by decide) rfl 0 1 rfl rfl rfl rfl (Nat.le_of_ble_eq_true rfl) (by decide) (fun _ => rfl) (fun _ hy_ => ?_)
  clear hy_
  have ba := ltr_B (lcd Fs st le at1)
  refine r_istore_n (lo2 := [(1, .int (iI (ltr (lcd Fs st le at1)))), (0, .ref h0)]) C dX1_readsItem_8 rfl (by decide) rfl ?_
  refine r_aload_n C dX1_readsItem_9 1 rfl ?_
  refine r_iload_n C dX1_readsItem_10 0 rfl ?_
  refine g_V_i (ws2 := (fun _ => [(h0, .inr (1, [.ref n1, .ref n2, .ref f0, .int (iI st), .int (iI le), .int (iI at1), .int (iI it)])), (n1, .inl (X.2.1.1, 6, .inl (iF Nf))), (n2, .inl (X.2.1.1, 6, .inl (iF Tf))), (f0, .inr (2, [.ref f1, .int (iI so), .int (iI la), .int (iI ln)])), (f1, .inl (X.2.1.1, 60, .inl (iF Fs)))])) (As := [.int (iI (ltr (lcd Fs st le at1)))]) C (c_X1_isUntold l X h0 n1 n2 f0 st le at1 it Nf Tf (ltr (lcd Fs st le at1)) (by first | assumption | omega) (by assumption)) gX1_readsItem_X1_isUntold rfl rfl rfl hd_V_X1_isUntold_X1_readsItem (by decide) dX1_readsItem_11 [0, 1, 2] [3, 4] [2, 3, 4, 0, 1] rfl rfl rfl rfl (by decide) rfl 0 1 rfl rfl rfl rfl (Nat.le_of_ble_eq_true rfl) (by decide) (fun _ => rfl) (fun _ hy_ => ?_)
  clear hy_
  refine r_ite (fun h_1 => ?_) (fun h_1 => ?_)
  · skip
    refine r_if_ne (tgt := 19) C dX1_readsItem_14 (by decide) (by decide) (fun h_2 => ?_) (fun h_2 => absurd h_2 (by decide))
    refine r_aload_n C dX1_readsItem_19 1 rfl ?_
    refine r_dup C dX1_readsItem_20 rfl ?_
    refine gf_1_5 C hi_X1_readsItem_1 kw_X1_readsItem_0 dX1_readsItem_21 0 rfl rfl ?_
    refine r_iconst C dX1_readsItem_24 ?_
    refine r_iadd C dX1_readsItem_25 ?_
    refine pf_1_5 (ws2 := [(h0, .inr (1, [.ref n1, .ref n2, .ref f0, .int (iI st), .int (iI le), .int (iI (at1 + 1)), .int (iI it)])), (n1, .inl (X.2.1.1, 6, .inl (iF Nf))), (n2, .inl (X.2.1.1, 6, .inl (iF Tf))), (f0, .inr (2, [.ref f1, .int (iI so), .int (iI la), .int (iI ln)])), (f1, .inl (X.2.1.1, 60, .inl (iF Fs)))]) C hi_X1_readsItem_1 kw_X1_readsItem_0 dX1_readsItem_26 0 rfl rfl rfl (Nat.le_of_ble_eq_true rfl) rfl ?_
    refine r_aload_n C dX1_readsItem_29 1 rfl ?_
    refine r_aload_n C dX1_readsItem_30 1 rfl ?_
    refine gf_1_5 C hi_X1_readsItem_1 kw_X1_readsItem_0 dX1_readsItem_31 0 rfl rfl ?_
    refine g_V_i (ws2 := (fun _ => [(h0, .inr (1, [.ref n1, .ref n2, .ref f0, .int (iI st), .int (iI le), .int (iI (at1 + 1)), .int (iI it)])), (n1, .inl (X.2.1.1, 6, .inl (iF Nf))), (n2, .inl (X.2.1.1, 6, .inl (iF Tf))), (f0, .inr (2, [.ref f1, .int (iI so), .int (iI la), .int (iI ln)])), (f1, .inl (X.2.1.1, 60, .inl (iF Fs)))])) (As := [.int (iI (at1 + 1))]) C (c_X1_digitAt l X h0 n1 n2 f0 f1 st le (at1 + 1) it so la ln Nf Tf Fs (at1 + 1) (by first | assumption | omega) (by assumption) (by first | assumption | omega)) gX1_readsItem_X1_digitAt rfl rfl rfl hd_V_X1_digitAt_X1_readsItem (by decide) dX1_readsItem_34 [0, 1, 2, 3, 4] [] [0, 1, 2, 3, 4] rfl rfl rfl rfl (by decide) rfl 0 1 rfl rfl rfl rfl (Nat.le_of_ble_eq_true rfl) (by decide) (fun _ => rfl) (fun _ hy_ => ?_)
    clear hy_
    have bd := dig_B (lcd Fs st le (at1 + 1))
    refine r_istore_n (lo2 := [(2, .int (iI (dig (lcd Fs st le (at1 + 1))))), (1, .int (iI (ltr (lcd Fs st le at1)))), (0, .ref h0)]) C dX1_readsItem_37 rfl (by decide) rfl ?_
    refine r_iload_n C dX1_readsItem_38 0 rfl ?_
    refine r_iconst C dX1_readsItem_39 ?_
    refine r_icmp_ne (tgt := 45) C dX1_readsItem_40 (by decide) (by omega) (by decide) (fun h_3 => ?_) (fun h_3 => ?_)
    · skip
      refine r_aload_n C dX1_readsItem_45 2 rfl ?_
      refine r_aload_n C dX1_readsItem_46 2 rfl ?_
      refine gf_1_5 C hi_X1_readsItem_1 kw_X1_readsItem_0 dX1_readsItem_47 0 rfl rfl ?_
      refine r_iconst C dX1_readsItem_50 ?_
      refine r_iadd C dX1_readsItem_51 ?_
      refine g_V_i (ws2 := (fun _ => [(h0, .inr (1, [.ref n1, .ref n2, .ref f0, .int (iI st), .int (iI le), .int (iI (at1 + 1)), .int (iI it)])), (n1, .inl (X.2.1.1, 6, .inl (iF Nf))), (n2, .inl (X.2.1.1, 6, .inl (iF Tf))), (f0, .inr (2, [.ref f1, .int (iI so), .int (iI la), .int (iI ln)])), (f1, .inl (X.2.1.1, 60, .inl (iF Fs)))])) (As := [.int (iI ((at1 + 1) + 1))]) C (c_X1_digitAt l X h0 n1 n2 f0 f1 st le (at1 + 1) it so la ln Nf Tf Fs ((at1 + 1) + 1) (by first | assumption | omega) (by assumption) (by first | assumption | omega)) gX1_readsItem_X1_digitAt rfl rfl rfl hd_V_X1_digitAt_X1_readsItem (by decide) dX1_readsItem_52 [0, 1, 2, 3, 4] [] [0, 1, 2, 3, 4] rfl rfl rfl rfl (by decide) rfl 0 1 rfl rfl rfl rfl (Nat.le_of_ble_eq_true rfl) (by decide) (fun _ => rfl) (fun _ hy_ => ?_)
      clear hy_
      have be := dig_B (lcd Fs st le (at1 + 1 + 1))
      refine r_istore_n (lo2 := [(3, .int (iI (dig (lcd Fs st le ((at1 + 1) + 1))))), (2, .int (iI (dig (lcd Fs st le (at1 + 1))))), (1, .int (iI (ltr (lcd Fs st le at1)))), (0, .ref h0)]) C dX1_readsItem_55 rfl (by decide) rfl ?_
      refine r_iload_n C dX1_readsItem_56 0 rfl ?_
      refine r_iconst C dX1_readsItem_57 ?_
      refine r_icmp_ne (tgt := 65) C dX1_readsItem_58 (by decide) (by omega) (by decide) (fun h_4 => ?_) (fun h_4 => ?_)
      · skip
        refine r_bipush C dX1_readsItem_65 (by decide) ?_
        refine r_iload_n C dX1_readsItem_67 1 rfl ?_
        refine r_imul C dX1_readsItem_68 ?_
        refine r_iload_n C dX1_readsItem_69 0 rfl ?_
        refine r_iadd C dX1_readsItem_70 ?_
        refine r_topi (z := (tld (dig (lcd Fs st le (at1 + 1))) (dig (lcd Fs st le (at1 + 1 + 1))))) (by unfold tld; first | (rw [if_pos (by omega)]; done) | (rw [if_neg (by omega)]; done)) ?_
        refine r_istore (lo2 := [(4, .int (iI (tld (dig (lcd Fs st le (at1 + 1))) (dig (lcd Fs st le ((at1 + 1) + 1)))))), (3, .int (iI (dig (lcd Fs st le ((at1 + 1) + 1))))), (2, .int (iI (dig (lcd Fs st le (at1 + 1))))), (1, .int (iI (ltr (lcd Fs st le at1)))), (0, .ref h0)]) C dX1_readsItem_71 (by decide) rfl ?_
        have bt := tld_B (d1 := (dig (lcd Fs st le (at1 + 1)))) (d2 := (dig (lcd Fs st le (at1 + 1 + 1)))) (by omega) (by omega)
        refine r_aload_n C dX1_readsItem_73 4 rfl ?_
        refine r_iload_n C dX1_readsItem_74 3 rfl ?_
        refine r_iload C dX1_readsItem_75 0 rfl ?_
        refine g_V_i (ws2 := (fun _ => [(h0, .inr (1, [.ref n1, .ref n2, .ref f0, .int (iI st), .int (iI le), .int (iI (at1 + 1)), .int (iI it)])), (n1, .inl (X.2.1.1, 6, .inl (iF Nf))), (n2, .inl (X.2.1.1, 6, .inl (iF Tf))), (f0, .inr (2, [.ref f1, .int (iI so), .int (iI la), .int (iI ln)])), (f1, .inl (X.2.1.1, 60, .inl (iF Fs)))])) (As := [.int (iI (ltr (lcd Fs st le at1))), .int (iI (tld (dig (lcd Fs st le (at1 + 1))) (dig (lcd Fs st le ((at1 + 1) + 1)))))]) C (c_X1_isLawful l X h0 n1 n2 f0 st le (at1 + 1) it Nf Tf (ltr (lcd Fs st le at1)) (tld (dig (lcd Fs st le (at1 + 1))) (dig (lcd Fs st le ((at1 + 1) + 1)))) (by first | assumption | omega) (by first | assumption | omega)) gX1_readsItem_X1_isLawful rfl rfl rfl hd_V_X1_isLawful_X1_readsItem (by decide) dX1_readsItem_77 [0, 1, 2] [3, 4] [2, 3, 4, 0, 1] rfl rfl rfl rfl (by decide) rfl 0 1 rfl rfl rfl rfl (Nat.le_of_ble_eq_true rfl) (by decide) (fun _ => rfl) (fun _ hy_ => ?_)
        clear hy_
        refine r_ite (fun h_5 => ?_) (fun h_5 => ?_)
        · skip
          refine r_if_ne (tgt := 85) C dX1_readsItem_80 (by decide) (by decide) (fun h_6 => ?_) (fun h_6 => absurd h_6 (by decide))
          refine r_aload_n C dX1_readsItem_85 4 rfl ?_
          refine gf_1_0 C hi_X1_readsItem_1 kw_X1_readsItem_1 dX1_readsItem_86 0 rfl rfl ?_
          refine r_iload_n C dX1_readsItem_89 3 rfl ?_
          refine r_iload C dX1_readsItem_90 0 rfl ?_
          refine r_iast (ws2 := [(h0, .inr (1, [.ref n1, .ref n2, .ref f0, .int (iI st), .int (iI le), .int (iI (at1 + 1)), .int (iI it)])), (n1, .inl (X.2.1.1, 6, .inl (iF (updI Nf (Int.toNat (ltr (lcd Fs st le at1))) (tld (dig (lcd Fs st le (at1 + 1))) (dig (lcd Fs st le ((at1 + 1) + 1)))))))), (n2, .inl (X.2.1.1, 6, .inl (iF Tf))), (f0, .inr (2, [.ref f1, .int (iI so), .int (iI la), .int (iI ln)])), (f1, .inl (X.2.1.1, 60, .inl (iF Fs)))]) C dX1_readsItem_92 1 rfl (by omega) (by decide) rfl ?_
          refine r_aload_n C dX1_readsItem_93 4 rfl ?_
          refine gf_1_1 C hi_X1_readsItem_1 kw_X1_readsItem_2 dX1_readsItem_94 0 rfl rfl ?_
          refine r_iload_n C dX1_readsItem_97 3 rfl ?_
          refine r_dup2 C dX1_readsItem_98 rfl rfl ?_
          refine r_iald C dX1_readsItem_99 2 rfl (by omega) (by decide) ?_
          refine r_iconst C dX1_readsItem_100 ?_
          refine r_iadd C dX1_readsItem_101 ?_
          refine r_iast (ws2 := [(h0, .inr (1, [.ref n1, .ref n2, .ref f0, .int (iI st), .int (iI le), .int (iI (at1 + 1)), .int (iI it)])), (n1, .inl (X.2.1.1, 6, .inl (iF (updI Nf (Int.toNat (ltr (lcd Fs st le at1))) (tld (dig (lcd Fs st le (at1 + 1))) (dig (lcd Fs st le ((at1 + 1) + 1)))))))), (n2, .inl (X.2.1.1, 6, .inl (iF (updI Tf (Int.toNat (ltr (lcd Fs st le at1))) ((Tf (Int.toNat (ltr (lcd Fs st le at1)))) + 1))))), (f0, .inr (2, [.ref f1, .int (iI so), .int (iI la), .int (iI ln)])), (f1, .inl (X.2.1.1, 60, .inl (iF Fs)))]) C dX1_readsItem_102 2 rfl (by omega) (by decide) rfl ?_
          refine r_aload_n C dX1_readsItem_103 4 rfl ?_
          refine r_dup C dX1_readsItem_104 rfl ?_
          refine gf_1_5 C hi_X1_readsItem_1 kw_X1_readsItem_0 dX1_readsItem_105 0 rfl rfl ?_
          refine r_iload_n C dX1_readsItem_108 1 rfl ?_
          refine r_iconst C dX1_readsItem_109 ?_
          refine r_icmp_ne (tgt := 117) C dX1_readsItem_110 (by decide) (by omega) (by decide) (fun h_7 => ?_) (fun h_7 => absurd h_7 (by omega))
          refine r_iconst C dX1_readsItem_117 ?_
          refine r_iadd C dX1_readsItem_118 ?_
          refine r_topi (z := (if (dig (lcd Fs st le (at1 + 1 + 1))) = -1 then at1 + 1 + 1 else at1 + 1 + 2)) (by first | (rw [if_pos (by omega)]; done) | (rw [if_neg (by omega)]; done)) ?_
          refine pf_1_5 (ws2 := [(h0, .inr (1, [.ref n1, .ref n2, .ref f0, .int (iI st), .int (iI le), .int (iI (if (dig (lcd Fs st le (at1 + 1 + 1))) = -1 then at1 + 1 + 1 else at1 + 1 + 2)), .int (iI it)])), (n1, .inl (X.2.1.1, 6, .inl (iF (updI Nf (Int.toNat (ltr (lcd Fs st le at1))) (tld (dig (lcd Fs st le (at1 + 1))) (dig (lcd Fs st le ((at1 + 1) + 1)))))))), (n2, .inl (X.2.1.1, 6, .inl (iF (updI Tf (Int.toNat (ltr (lcd Fs st le at1))) ((Tf (Int.toNat (ltr (lcd Fs st le at1)))) + 1))))), (f0, .inr (2, [.ref f1, .int (iI so), .int (iI la), .int (iI ln)])), (f1, .inl (X.2.1.1, 60, .inl (iF Fs)))]) C hi_X1_readsItem_1 kw_X1_readsItem_0 dX1_readsItem_119 0 rfl rfl rfl (Nat.le_of_ble_eq_true rfl) rfl ?_
          refine r_iconst C dX1_readsItem_122 ?_
          exact g_ret_z C rfl (by decide) dX1_readsItem_123 () trivial (by rw [itm_c4 (by omega) (by omega) (by omega)] <;> rfl) [0, 1, 2, 3, 4] rfl (by rw [itm_c4 (by omega) (by omega) (by omega)] <;> rfl)
        · skip
          refine r_if_ne (tgt := 85) C dX1_readsItem_80 (by decide) (by decide) (fun h_8 => absurd h_8 (by decide)) (fun h_8 => ?_)
          refine r_iconst C dX1_readsItem_83 ?_
          exact g_ret_z C rfl (by decide) dX1_readsItem_84 () trivial (by rw [itm_c3 (by omega) (by omega) (by omega)] <;> rfl) [0, 1, 2, 3, 4] rfl (by rw [itm_c3 (by omega) (by omega) (by omega)] <;> rfl)
      · skip
        refine r_iload_n C dX1_readsItem_61 1 rfl ?_
        refine r_goto (tgt := 71) C dX1_readsItem_62 (by decide) ?_
        refine r_topi (z := (tld (dig (lcd Fs st le (at1 + 1))) (dig (lcd Fs st le (at1 + 1 + 1))))) (by unfold tld; first | (rw [if_pos (by omega)]; done) | (rw [if_neg (by omega)]; done)) ?_
        refine r_istore (lo2 := [(4, .int (iI (tld (dig (lcd Fs st le (at1 + 1))) (dig (lcd Fs st le ((at1 + 1) + 1)))))), (3, .int (iI (dig (lcd Fs st le ((at1 + 1) + 1))))), (2, .int (iI (dig (lcd Fs st le (at1 + 1))))), (1, .int (iI (ltr (lcd Fs st le at1)))), (0, .ref h0)]) C dX1_readsItem_71 (by decide) rfl ?_
        have bt := tld_B (d1 := (dig (lcd Fs st le (at1 + 1)))) (d2 := (dig (lcd Fs st le (at1 + 1 + 1)))) (by omega) (by omega)
        refine r_aload_n C dX1_readsItem_73 4 rfl ?_
        refine r_iload_n C dX1_readsItem_74 3 rfl ?_
        refine r_iload C dX1_readsItem_75 0 rfl ?_
        refine g_V_i (ws2 := (fun _ => [(h0, .inr (1, [.ref n1, .ref n2, .ref f0, .int (iI st), .int (iI le), .int (iI (at1 + 1)), .int (iI it)])), (n1, .inl (X.2.1.1, 6, .inl (iF Nf))), (n2, .inl (X.2.1.1, 6, .inl (iF Tf))), (f0, .inr (2, [.ref f1, .int (iI so), .int (iI la), .int (iI ln)])), (f1, .inl (X.2.1.1, 60, .inl (iF Fs)))])) (As := [.int (iI (ltr (lcd Fs st le at1))), .int (iI (tld (dig (lcd Fs st le (at1 + 1))) (dig (lcd Fs st le ((at1 + 1) + 1)))))]) C (c_X1_isLawful l X h0 n1 n2 f0 st le (at1 + 1) it Nf Tf (ltr (lcd Fs st le at1)) (tld (dig (lcd Fs st le (at1 + 1))) (dig (lcd Fs st le ((at1 + 1) + 1)))) (by first | assumption | omega) (by first | assumption | omega)) gX1_readsItem_X1_isLawful rfl rfl rfl hd_V_X1_isLawful_X1_readsItem (by decide) dX1_readsItem_77 [0, 1, 2] [3, 4] [2, 3, 4, 0, 1] rfl rfl rfl rfl (by decide) rfl 0 1 rfl rfl rfl rfl (Nat.le_of_ble_eq_true rfl) (by decide) (fun _ => rfl) (fun _ hy_ => ?_)
        clear hy_
        refine r_ite (fun h_9 => ?_) (fun h_9 => ?_)
        · skip
          refine r_if_ne (tgt := 85) C dX1_readsItem_80 (by decide) (by decide) (fun h_10 => ?_) (fun h_10 => absurd h_10 (by decide))
          refine r_aload_n C dX1_readsItem_85 4 rfl ?_
          refine gf_1_0 C hi_X1_readsItem_1 kw_X1_readsItem_1 dX1_readsItem_86 0 rfl rfl ?_
          refine r_iload_n C dX1_readsItem_89 3 rfl ?_
          refine r_iload C dX1_readsItem_90 0 rfl ?_
          refine r_iast (ws2 := [(h0, .inr (1, [.ref n1, .ref n2, .ref f0, .int (iI st), .int (iI le), .int (iI (at1 + 1)), .int (iI it)])), (n1, .inl (X.2.1.1, 6, .inl (iF (updI Nf (Int.toNat (ltr (lcd Fs st le at1))) (tld (dig (lcd Fs st le (at1 + 1))) (dig (lcd Fs st le ((at1 + 1) + 1)))))))), (n2, .inl (X.2.1.1, 6, .inl (iF Tf))), (f0, .inr (2, [.ref f1, .int (iI so), .int (iI la), .int (iI ln)])), (f1, .inl (X.2.1.1, 60, .inl (iF Fs)))]) C dX1_readsItem_92 1 rfl (by omega) (by decide) rfl ?_
          refine r_aload_n C dX1_readsItem_93 4 rfl ?_
          refine gf_1_1 C hi_X1_readsItem_1 kw_X1_readsItem_2 dX1_readsItem_94 0 rfl rfl ?_
          refine r_iload_n C dX1_readsItem_97 3 rfl ?_
          refine r_dup2 C dX1_readsItem_98 rfl rfl ?_
          refine r_iald C dX1_readsItem_99 2 rfl (by omega) (by decide) ?_
          refine r_iconst C dX1_readsItem_100 ?_
          refine r_iadd C dX1_readsItem_101 ?_
          refine r_iast (ws2 := [(h0, .inr (1, [.ref n1, .ref n2, .ref f0, .int (iI st), .int (iI le), .int (iI (at1 + 1)), .int (iI it)])), (n1, .inl (X.2.1.1, 6, .inl (iF (updI Nf (Int.toNat (ltr (lcd Fs st le at1))) (tld (dig (lcd Fs st le (at1 + 1))) (dig (lcd Fs st le ((at1 + 1) + 1)))))))), (n2, .inl (X.2.1.1, 6, .inl (iF (updI Tf (Int.toNat (ltr (lcd Fs st le at1))) ((Tf (Int.toNat (ltr (lcd Fs st le at1)))) + 1))))), (f0, .inr (2, [.ref f1, .int (iI so), .int (iI la), .int (iI ln)])), (f1, .inl (X.2.1.1, 60, .inl (iF Fs)))]) C dX1_readsItem_102 2 rfl (by omega) (by decide) rfl ?_
          refine r_aload_n C dX1_readsItem_103 4 rfl ?_
          refine r_dup C dX1_readsItem_104 rfl ?_
          refine gf_1_5 C hi_X1_readsItem_1 kw_X1_readsItem_0 dX1_readsItem_105 0 rfl rfl ?_
          refine r_iload_n C dX1_readsItem_108 1 rfl ?_
          refine r_iconst C dX1_readsItem_109 ?_
          refine r_icmp_ne (tgt := 117) C dX1_readsItem_110 (by decide) (by omega) (by decide) (fun h_11 => absurd h_11 (by omega)) (fun h_11 => ?_)
          refine r_iconst C dX1_readsItem_113 ?_
          refine r_goto (tgt := 118) C dX1_readsItem_114 (by decide) ?_
          refine r_iadd C dX1_readsItem_118 ?_
          refine r_topi (z := (if (dig (lcd Fs st le (at1 + 1 + 1))) = -1 then at1 + 1 + 1 else at1 + 1 + 2)) (by first | (rw [if_pos (by omega)]; done) | (rw [if_neg (by omega)]; done)) ?_
          refine pf_1_5 (ws2 := [(h0, .inr (1, [.ref n1, .ref n2, .ref f0, .int (iI st), .int (iI le), .int (iI (if (dig (lcd Fs st le (at1 + 1 + 1))) = -1 then at1 + 1 + 1 else at1 + 1 + 2)), .int (iI it)])), (n1, .inl (X.2.1.1, 6, .inl (iF (updI Nf (Int.toNat (ltr (lcd Fs st le at1))) (tld (dig (lcd Fs st le (at1 + 1))) (dig (lcd Fs st le ((at1 + 1) + 1)))))))), (n2, .inl (X.2.1.1, 6, .inl (iF (updI Tf (Int.toNat (ltr (lcd Fs st le at1))) ((Tf (Int.toNat (ltr (lcd Fs st le at1)))) + 1))))), (f0, .inr (2, [.ref f1, .int (iI so), .int (iI la), .int (iI ln)])), (f1, .inl (X.2.1.1, 60, .inl (iF Fs)))]) C hi_X1_readsItem_1 kw_X1_readsItem_0 dX1_readsItem_119 0 rfl rfl rfl (Nat.le_of_ble_eq_true rfl) rfl ?_
          refine r_iconst C dX1_readsItem_122 ?_
          exact g_ret_z C rfl (by decide) dX1_readsItem_123 () trivial (by rw [itm_c4 (by omega) (by omega) (by omega)] <;> rfl) [0, 1, 2, 3, 4] rfl (by rw [itm_c4 (by omega) (by omega) (by omega)] <;> rfl)
        · skip
          refine r_if_ne (tgt := 85) C dX1_readsItem_80 (by decide) (by decide) (fun h_12 => absurd h_12 (by decide)) (fun h_12 => ?_)
          refine r_iconst C dX1_readsItem_83 ?_
          exact g_ret_z C rfl (by decide) dX1_readsItem_84 () trivial (by rw [itm_c3 (by omega) (by omega) (by omega)] <;> rfl) [0, 1, 2, 3, 4] rfl (by rw [itm_c3 (by omega) (by omega) (by omega)] <;> rfl)
    · skip
      refine r_iconst C dX1_readsItem_43 ?_
      exact g_ret_z C rfl (by decide) dX1_readsItem_44 () trivial (by rw [itm_c2 (by omega) (by omega)] <;> rfl) [0, 1, 2, 3, 4] rfl (by rw [itm_c2 (by omega) (by omega)] <;> rfl)
  · skip
    refine r_if_ne (tgt := 19) C dX1_readsItem_14 (by decide) (by decide) (fun h_13 => absurd h_13 (by decide)) (fun h_13 => ?_)
    refine r_iconst C dX1_readsItem_17 ?_
    exact g_ret_z C rfl (by decide) dX1_readsItem_18 () trivial (by rw [itm_c1 (by omega)] <;> rfl) [0, 1, 2, 3, 4] rfl (by rw [itm_c1 (by omega)] <;> rfl)

set_option maxRecDepth 20000 in
theorem kw_X1_firstFault_0 : Cond.fieldLink RX1 26 "SkipStones$LawText" "from" "LSkipStones$Sheet;" ∈ wsX1_firstFault := List.mem_of_getElem? (i := 1) rfl
set_option maxRecDepth 20000 in
theorem kw_X1_firstFault_1 : Cond.fieldLink RX1 30 "SkipStones$LawText" "start" "I" ∈ wsX1_firstFault := List.mem_of_getElem? (i := 2) rfl
set_option maxRecDepth 20000 in
theorem kw_X1_firstFault_2 : Cond.fieldLink RX1 34 "SkipStones$LawText" "length" "I" ∈ wsX1_firstFault := List.mem_of_getElem? (i := 3) rfl
set_option maxRecDepth 20000 in
theorem kw_X1_firstFault_3 : Cond.fieldLink RX1 37 "SkipStones$LawText" "at" "I" ∈ wsX1_firstFault := List.mem_of_getElem? (i := 4) rfl
set_option maxRecDepth 20000 in
theorem kw_X1_firstFault_4 : Cond.fieldLink RX1 40 "SkipStones$LawText" "items" "I" ∈ wsX1_firstFault := List.mem_of_getElem? (i := 5) rfl
set_option maxRecDepth 20000 in
theorem kw_X1_firstFault_5 : Cond.fieldLink RX1 18 "SkipStones$LawText" "numbers" "[I" ∈ wsX1_firstFault := List.mem_of_getElem? (i := 6) rfl
set_option maxRecDepth 20000 in
theorem kw_X1_firstFault_6 : Cond.methodLink RX1 43 arraycopyName ∈ wsX1_firstFault := List.mem_of_getElem? (i := 7) rfl
set_option maxRecDepth 20000 in
theorem kw_X1_firstFault_7 : Cond.native arraycopyName ∈ wsX1_firstFault := List.mem_of_getElem? (i := 8) rfl
set_option maxRecDepth 20000 in
theorem kw_X1_firstFault_8 : Cond.static arraycopyName ∈ wsX1_firstFault := List.mem_of_getElem? (i := 9) rfl
set_option maxRecDepth 20000 in
theorem kw_X1_firstFault_9 : Cond.initialized "java/lang/System" ∈ wsX1_firstFault := List.mem_of_getElem? (i := 10) rfl
set_option maxRecDepth 20000 in
theorem kw_X1_firstFault_10 : Cond.fieldLink RX1 23 "SkipStones$LawText" "timesTold" "[I" ∈ wsX1_firstFault := List.mem_of_getElem? (i := 11) rfl
set_option maxRecDepth 20000 in
theorem hd_S_J7_fill_53178_X1_firstFault : yJ7_fill_53178.cls ≠ "java/lang/invoke/MethodHandle" ∧ yJ7_fill_53178.cls ≠ "java/lang/invoke/VarHandle" ∧ (parseMethodDescriptor yJ7_fill_53178.desc).map (fun d => d.parameters.length) = some 2 := by decide +kernel
set_option maxRecDepth 20000 in
theorem hd_V_X1_readsItem_X1_firstFault : yX1_readsItem.cls = yX1_readsItem.cls ∧ yX1_readsItem.cls ≠ "java/lang/invoke/MethodHandle" ∧ yX1_readsItem.cls ≠ "java/lang/invoke/VarHandle" ∧ (parseMethodDescriptor yX1_readsItem.desc).map (fun d => d.parameters.length) = some 0 := by decide +kernel
set_option maxRecDepth 20000 in
theorem hd_V_X1_code_X1_firstFault : yX1_code.cls = yX1_code.cls ∧ yX1_code.cls ≠ "java/lang/invoke/MethodHandle" ∧ yX1_code.cls ≠ "java/lang/invoke/VarHandle" ∧ (parseMethodDescriptor yX1_code.desc).map (fun d => d.parameters.length) = some 1 := by decide +kernel
set_option maxRecDepth 20000 in
theorem hi_X1_firstFault_1 : ∀ w ∈ wsX10, w ∈ wsX1_firstFault := fun _ h => List.mem_cons_of_mem _ (List.mem_append_left _ (List.mem_append_right _ h))
set_option maxHeartbeats 4000000 in
set_option maxRecDepth 100000 in
/-- firstFault -/
theorem c_X1_firstFault (l : Launch) (X : gX) (h0 : Nat) (n1 : Nat) (n2 : Nat) (f0 : Nat) (f1 : Nat) (st : Int) (le : Int) (at1 : Int) (it : Int) (so : Int) (la : Int) (ln : Int) (Nf : Nat → Int) (Tf : Nat → Int) (Fs : Nat → Int) (fv : Value) (i1 : Int) (m1 : Int) (hl : 0 ≤ m1 ∧ 0 ≤ i1 ∧ i1 + m1 ≤ ln ∧ ln ≤ 60) (hF : ∀ i, inB (Fs i)) (hT : ∀ i, 0 ≤ Tf i ∧ Tf i ≤ 1) : gM l yX1_firstFault wsX1_firstFault (gr 5 0 0) X [(h0, .inr (1, [.ref n1, .ref n2, fv, .int (iI st), .int (iI le), .int (iI at1), .int (iI it)])), (n1, .inl (X.2.1.1, 6, .inl (iF Nf))), (n2, .inl (X.2.1.1, 6, .inl (iF Tf))), (f0, .inr (2, [.ref f1, .int (iI so), .int (iI la), .int (iI ln)])), (f1, .inl (X.2.1.1, 60, .inl (iF Fs)))] [.ref h0, .ref f0, .int (iI i1), .int (iI m1)] (gQi X (Y := Int) (fun y => (-1 ≤ (prs (lcd Fs i1 m1) m1 6 0 0 (cpyI gAF Nf 0 0 6) (fillI Tf 6 0)).1 ∧ (prs (lcd Fs i1 m1) m1 6 0 0 (cpyI gAF Nf 0 0 6) (fillI Tf 6 0)).1 ≤ 63)) (fun y => (prs (lcd Fs i1 m1) m1 6 0 0 (cpyI gAF Nf 0 0 6) (fillI Tf 6 0)).1) (fun y => [(h0, .inr (1, [.ref n1, .ref n2, .ref f0, .int (iI i1), .int (iI m1), .int (iI y), .int (iI ((prs (lcd Fs i1 m1) m1 6 0 0 (cpyI gAF Nf 0 0 6) (fillI Tf 6 0)).2.1))])), (n1, .inl (X.2.1.1, 6, .inl (iF ((prs (lcd Fs i1 m1) m1 6 0 0 (cpyI gAF Nf 0 0 6) (fillI Tf 6 0)).2.2.1)))), (n2, .inl (X.2.1.1, 6, .inl (iF ((prs (lcd Fs i1 m1) m1 6 0 0 (cpyI gAF Nf 0 0 6) (fillI Tf 6 0)).2.2.2)))), (f0, .inr (2, [.ref f1, .int (iI so), .int (iI la), .int (iI ln)])), (f1, .inl (X.2.1.1, 60, .inl (iF Fs)))])) 0 0 := by
  refine g_start2 (lo := [(0, .ref h0), (1, .ref f0), (2, .int (iI i1)), (3, .int (iI m1))]) (by decide +kernel) rfl rfl (Nat.le_of_ble_eq_true rfl) (fun p e s m args below meth c A C => ?_)
  refine r_aload_n C dX1_firstFault_0 0 rfl ?_
  refine r_aload_n C dX1_firstFault_1 1 rfl ?_
  refine pf_1_2 (ws2 := [(h0, .inr (1, [.ref n1, .ref n2, .ref f0, .int (iI st), .int (iI le), .int (iI at1), .int (iI it)])), (n1, .inl (X.2.1.1, 6, .inl (iF Nf))), (n2, .inl (X.2.1.1, 6, .inl (iF Tf))), (f0, .inr (2, [.ref f1, .int (iI so), .int (iI la), .int (iI ln)])), (f1, .inl (X.2.1.1, 60, .inl (iF Fs)))]) C hi_X1_firstFault_1 kw_X1_firstFault_0 dX1_firstFault_2 0 rfl rfl rfl (Nat.le_of_ble_eq_true rfl) rfl ?_
  refine r_aload_n C dX1_firstFault_5 0 rfl ?_
  refine r_iload_n C dX1_firstFault_6 2 rfl ?_
  refine pf_1_3 (ws2 := [(h0, .inr (1, [.ref n1, .ref n2, .ref f0, .int (iI i1), .int (iI le), .int (iI at1), .int (iI it)])), (n1, .inl (X.2.1.1, 6, .inl (iF Nf))), (n2, .inl (X.2.1.1, 6, .inl (iF Tf))), (f0, .inr (2, [.ref f1, .int (iI so), .int (iI la), .int (iI ln)])), (f1, .inl (X.2.1.1, 60, .inl (iF Fs)))]) C hi_X1_firstFault_1 kw_X1_firstFault_1 dX1_firstFault_7 0 rfl rfl rfl (Nat.le_of_ble_eq_true rfl) rfl ?_
  refine r_aload_n C dX1_firstFault_10 0 rfl ?_
  refine r_iload_n C dX1_firstFault_11 3 rfl ?_
  refine pf_1_4 (ws2 := [(h0, .inr (1, [.ref n1, .ref n2, .ref f0, .int (iI i1), .int (iI m1), .int (iI at1), .int (iI it)])), (n1, .inl (X.2.1.1, 6, .inl (iF Nf))), (n2, .inl (X.2.1.1, 6, .inl (iF Tf))), (f0, .inr (2, [.ref f1, .int (iI so), .int (iI la), .int (iI ln)])), (f1, .inl (X.2.1.1, 60, .inl (iF Fs)))]) C hi_X1_firstFault_1 kw_X1_firstFault_2 dX1_firstFault_12 0 rfl rfl rfl (Nat.le_of_ble_eq_true rfl) rfl ?_
  refine r_aload_n C dX1_firstFault_15 0 rfl ?_
  refine r_iconst C dX1_firstFault_16 ?_
  refine pf_1_5 (ws2 := [(h0, .inr (1, [.ref n1, .ref n2, .ref f0, .int (iI i1), .int (iI m1), .int (iI 0), .int (iI it)])), (n1, .inl (X.2.1.1, 6, .inl (iF Nf))), (n2, .inl (X.2.1.1, 6, .inl (iF Tf))), (f0, .inr (2, [.ref f1, .int (iI so), .int (iI la), .int (iI ln)])), (f1, .inl (X.2.1.1, 60, .inl (iF Fs)))]) C hi_X1_firstFault_1 kw_X1_firstFault_3 dX1_firstFault_17 0 rfl rfl rfl (Nat.le_of_ble_eq_true rfl) rfl ?_
  refine r_aload_n C dX1_firstFault_20 0 rfl ?_
  refine r_iconst C dX1_firstFault_21 ?_
  refine pf_1_6 (ws2 := [(h0, .inr (1, [.ref n1, .ref n2, .ref f0, .int (iI i1), .int (iI m1), .int (iI 0), .int (iI 0)])), (n1, .inl (X.2.1.1, 6, .inl (iF Nf))), (n2, .inl (X.2.1.1, 6, .inl (iF Tf))), (f0, .inr (2, [.ref f1, .int (iI so), .int (iI la), .int (iI ln)])), (f1, .inl (X.2.1.1, 60, .inl (iF Fs)))]) C hi_X1_firstFault_1 kw_X1_firstFault_4 dX1_firstFault_22 0 rfl rfl rfl (Nat.le_of_ble_eq_true rfl) rfl ?_
  refine r_gets_AT_FIRST C dX1_firstFault_25 ?_
  refine r_iconst C dX1_firstFault_28 ?_
  refine r_aload_n C dX1_firstFault_29 0 rfl ?_
  refine gf_1_0 C hi_X1_firstFault_1 kw_X1_firstFault_5 dX1_firstFault_30 0 rfl rfl ?_
  refine r_iconst C dX1_firstFault_33 ?_
  refine r_bipush C dX1_firstFault_34 (by decide) ?_
  refine r_copyAF (ws2 := [(h0, .inr (1, [.ref n1, .ref n2, .ref f0, .int (iI i1), .int (iI m1), .int (iI 0), .int (iI 0)])), (n1, .inl (X.2.1.1, 6, .inl (iF (cpyI gAF Nf 0 0 6)))), (n2, .inl (X.2.1.1, 6, .inl (iF Tf))), (f0, .inr (2, [.ref f1, .int (iI so), .int (iI la), .int (iI ln)])), (f1, .inl (X.2.1.1, 60, .inl (iF Fs)))]) C kw_X1_firstFault_6 kw_X1_firstFault_7 kw_X1_firstFault_8 kw_X1_firstFault_9 dX1_firstFault_36 1 rfl (by decide) (Nat.le_of_ble_eq_true rfl) (Nat.le_of_ble_eq_true rfl) rfl ?_
  refine r_aload_n C dX1_firstFault_39 0 rfl ?_
  refine gf_1_1 C hi_X1_firstFault_1 kw_X1_firstFault_10 dX1_firstFault_40 0 rfl rfl ?_
  refine r_iconst C dX1_firstFault_43 ?_
  refine g_S_v (ws2 := (fun _ => [(h0, .inr (1, [.ref n1, .ref n2, .ref f0, .int (iI i1), .int (iI m1), .int (iI 0), .int (iI 0)])), (n1, .inl (X.2.1.1, 6, .inl (iF (cpyI gAF Nf 0 0 6)))), (n2, .inl (X.2.1.1, 6, .inl (iF (fillI Tf 6 0)))), (f0, .inr (2, [.ref f1, .int (iI so), .int (iI la), .int (iI ln)])), (f1, .inl (X.2.1.1, 60, .inl (iF Fs)))])) (As := [.ref n2, .int (iI 0)]) C (c_J7_fill_6 l X n2 Tf 0 ) gX1_firstFault_J7_fill_53178 rfl rfl rfl hd_S_J7_fill_53178_X1_firstFault (by decide) dX1_firstFault_44 [2] [0, 1, 3, 4] [0, 1, 4, 2, 3] rfl rfl rfl rfl (by decide) rfl rfl rfl (Nat.le_of_ble_eq_true rfl) (by decide) (fun _ => rfl) (fun _ hy_ => ?_)
  clear hy_
  refine r_iconst C dX1_firstFault_47 ?_
  refine r_istore (lo2 := [(4, .int (iI 0)), (0, .ref h0), (1, .ref f0), (2, .int (iI i1)), (3, .int (iI m1))]) C dX1_firstFault_48 (by decide) rfl ?_
  have L50 : ∀ (fu50 : Nat) (k : Int) (ap : Int) (N : Nat → Int) (T : Nat → Int), (0 ≤ k ∧ k ≤ 6) → (0 ≤ ap ∧ ap ≤ 60) → (∀ i, 0 ≤ T i ∧ T i ≤ 1) → ((prs (lcd Fs i1 m1) m1 6 0 0 (cpyI gAF Nf 0 0 6) (fillI Tf 6 0)) = prs (lcd Fs i1 m1) m1 (6 - k).toNat ap k N T) → (6 - k).toNat < fu50 → gW p l e (gr 5 0 0) s m args below meth c X A 5 (MQ below ((gQi X (Y := Int) (fun y => (-1 ≤ (prs (lcd Fs i1 m1) m1 6 0 0 (cpyI gAF Nf 0 0 6) (fillI Tf 6 0)).1 ∧ (prs (lcd Fs i1 m1) m1 6 0 0 (cpyI gAF Nf 0 0 6) (fillI Tf 6 0)).1 ≤ 63)) (fun y => (prs (lcd Fs i1 m1) m1 6 0 0 (cpyI gAF Nf 0 0 6) (fillI Tf 6 0)).1) (fun y => [(h0, .inr (1, [.ref n1, .ref n2, .ref f0, .int (iI i1), .int (iI m1), .int (iI y), .int (iI ((prs (lcd Fs i1 m1) m1 6 0 0 (cpyI gAF Nf 0 0 6) (fillI Tf 6 0)).2.1))])), (n1, .inl (X.2.1.1, 6, .inl (iF ((prs (lcd Fs i1 m1) m1 6 0 0 (cpyI gAF Nf 0 0 6) (fillI Tf 6 0)).2.2.1)))), (n2, .inl (X.2.1.1, 6, .inl (iF ((prs (lcd Fs i1 m1) m1 6 0 0 (cpyI gAF Nf 0 0 6) (fillI Tf 6 0)).2.2.2)))), (f0, .inr (2, [.ref f1, .int (iI so), .int (iI la), .int (iI ln)])), (f1, .inl (X.2.1.1, 60, .inl (iF Fs)))])) A) args s 0 0 A) 0 0 [(h0, .inr (1, [.ref n1, .ref n2, .ref f0, .int (iI i1), .int (iI m1), .int (iI ap), .int (iI k)])), (n1, .inl (X.2.1.1, 6, .inl (iF N))), (n2, .inl (X.2.1.1, 6, .inl (iF T))), (f0, .inr (2, [.ref f1, .int (iI so), .int (iI la), .int (iI ln)])), (f1, .inl (X.2.1.1, 60, .inl (iF Fs)))] 50 [(0, .ref h0), (4, .int (iI k))] [] := by
    intro fu50
    induction fu50 with
    | zero => intro k ap N T ik ia iT iL hm50; exact absurd hm50 (Nat.not_lt_zero _)
    | succ fu50 ih50 =>
      intro k ap N T ik ia iT iL hm50
      refine r_iload C dX1_firstFault_50 1 rfl ?_
      refine r_bipush C dX1_firstFault_52 (by decide) ?_
      refine r_icmp_ge (tgt := 135) C dX1_firstFault_54 (by decide) (by omega) (by decide) (fun h_1 => ?_) (fun h_1 => ?_)
      · skip
        refine r_aload_n C dX1_firstFault_135 0 rfl ?_
        refine gf_1_5 C hi_X1_firstFault_1 kw_X1_firstFault_3 dX1_firstFault_136 0 rfl rfl ?_
        exact g_ret_i C rfl dX1_firstFault_139 ap (by rw [iL]; first | (rw [prs_f (by omega) (by omega)]; dsimp only; omega) | (rw [prs_e (by omega) (by omega) (by omega)]; dsimp only; omega) | (rw [prs_s (by omega) (by omega) (by omega) (by omega)]; dsimp only; omega) | (rw [show (6 - k).toNat = 0 by omega, prs]; dsimp only; omega)) (by rw [iL, show (6 - k).toNat = 0 by omega] <;> rfl) [0, 1, 2, 3, 4] rfl (by rw [iL, show (6 - k).toNat = 0 by omega] <;> rfl)
      · skip
        refine r_aload_n C dX1_firstFault_57 0 rfl ?_
        refine g_V_i (ws2 := (fun _ => [(h0, .inr (1, [.ref n1, .ref n2, .ref f0, .int (iI i1), .int (iI m1), .int (iI ((itm (lcd Fs i1 m1) ap N T).2.1)), .int (iI k)])), (n1, .inl (X.2.1.1, 6, .inl (iF ((itm (lcd Fs i1 m1) ap N T).2.2.1)))), (n2, .inl (X.2.1.1, 6, .inl (iF ((itm (lcd Fs i1 m1) ap N T).2.2.2)))), (f0, .inr (2, [.ref f1, .int (iI so), .int (iI la), .int (iI ln)])), (f1, .inl (X.2.1.1, 60, .inl (iF Fs)))])) (As := []) C (c_X1_readsItem l X h0 n1 n2 f0 f1 i1 m1 ap k so la ln N T Fs (by first | assumption | omega) (by assumption) (by first | assumption | omega) iT) gX1_firstFault_X1_readsItem rfl rfl rfl hd_V_X1_readsItem_X1_firstFault (by decide) dX1_firstFault_58 [0, 1, 2, 3, 4] [] [0, 1, 2, 3, 4] rfl rfl rfl rfl (by decide) rfl 0 1 rfl rfl rfl rfl (Nat.le_of_ble_eq_true rfl) (by decide) (fun _ => rfl) (fun _ hy_ => ?_)
        clear hy_
        have bT := itm_T (c := (lcd Fs i1 m1)) (at_ := ap) (N := N) iT
        have bA := itm_A (c := (lcd Fs i1 m1)) (at_ := ap) (N := N) (T := T)
        have bR := itm_R (c := (lcd Fs i1 m1)) (at_ := ap) (N := N) (T := T)
        refine r_if_ne (tgt := 69) C dX1_firstFault_61 (by decide) (by omega) (fun h_2 => ?_) (fun h_2 => ?_)
        · skip
          refine r_aload_n C dX1_firstFault_69 0 rfl ?_
          refine r_dup C dX1_firstFault_70 rfl ?_
          refine gf_1_6 C hi_X1_firstFault_1 kw_X1_firstFault_4 dX1_firstFault_71 0 rfl rfl ?_
          refine r_iconst C dX1_firstFault_74 ?_
          refine r_iadd C dX1_firstFault_75 ?_
          refine pf_1_6 (ws2 := [(h0, .inr (1, [.ref n1, .ref n2, .ref f0, .int (iI i1), .int (iI m1), .int (iI ((itm (lcd Fs i1 m1) ap N T).2.1)), .int (iI (k + 1))])), (n1, .inl (X.2.1.1, 6, .inl (iF ((itm (lcd Fs i1 m1) ap N T).2.2.1)))), (n2, .inl (X.2.1.1, 6, .inl (iF ((itm (lcd Fs i1 m1) ap N T).2.2.2)))), (f0, .inr (2, [.ref f1, .int (iI so), .int (iI la), .int (iI ln)])), (f1, .inl (X.2.1.1, 60, .inl (iF Fs)))]) C hi_X1_firstFault_1 kw_X1_firstFault_4 dX1_firstFault_76 0 rfl rfl rfl (Nat.le_of_ble_eq_true rfl) rfl ?_
          refine r_aload_n C dX1_firstFault_79 0 rfl ?_
          refine gf_1_5 C hi_X1_firstFault_1 kw_X1_firstFault_3 dX1_firstFault_80 0 rfl rfl ?_
          refine r_aload_n C dX1_firstFault_83 0 rfl ?_
          refine gf_1_4 C hi_X1_firstFault_1 kw_X1_firstFault_2 dX1_firstFault_84 0 rfl rfl ?_
          refine r_icmp_lt (tgt := 92) C dX1_firstFault_87 (by decide) (by omega) (by omega) (fun h_3 => ?_) (fun h_3 => ?_)
          · skip
            refine r_aload_n C dX1_firstFault_92 0 rfl ?_
            refine r_aload_n C dX1_firstFault_93 0 rfl ?_
            refine gf_1_5 C hi_X1_firstFault_1 kw_X1_firstFault_3 dX1_firstFault_94 0 rfl rfl ?_
            refine g_V_i (ws2 := (fun _ => [(h0, .inr (1, [.ref n1, .ref n2, .ref f0, .int (iI i1), .int (iI m1), .int (iI ((itm (lcd Fs i1 m1) ap N T).2.1)), .int (iI (k + 1))])), (n1, .inl (X.2.1.1, 6, .inl (iF ((itm (lcd Fs i1 m1) ap N T).2.2.1)))), (n2, .inl (X.2.1.1, 6, .inl (iF ((itm (lcd Fs i1 m1) ap N T).2.2.2)))), (f0, .inr (2, [.ref f1, .int (iI so), .int (iI la), .int (iI ln)])), (f1, .inl (X.2.1.1, 60, .inl (iF Fs)))])) (As := [.int (iI ((itm (lcd Fs i1 m1) ap N T).2.1))]) C (c_X1_code l X h0 n1 n2 f0 f1 i1 m1 ((itm (lcd Fs i1 m1) ap N T).2.1) (k + 1) so la ln ((itm (lcd Fs i1 m1) ap N T).2.2.1) ((itm (lcd Fs i1 m1) ap N T).2.2.2) Fs ((itm (lcd Fs i1 m1) ap N T).2.1) (by first | assumption | omega) (by assumption) (by first | assumption | omega)) gX1_firstFault_X1_code rfl rfl rfl hd_V_X1_code_X1_firstFault (by decide) dX1_firstFault_97 [0, 1, 2, 3, 4] [] [0, 1, 2, 3, 4] rfl rfl rfl rfl (by decide) rfl 0 1 rfl rfl rfl rfl (Nat.le_of_ble_eq_true rfl) (by decide) (fun _ => rfl) (fun _ hy_ => ?_)
            clear hy_
            have bc := lcd_B hF i1 m1 ((itm (lcd Fs i1 m1) ap N T).2.1)
            refine r_bipush C dX1_firstFault_100 (by decide) ?_
            refine r_icmp_ne (tgt := 114) C dX1_firstFault_102 (by decide) (by omega) (by decide) (fun h_4 => ?_) (fun h_4 => ?_)
            · skip
              refine r_aload_n C dX1_firstFault_114 0 rfl ?_
              refine gf_1_5 C hi_X1_firstFault_1 kw_X1_firstFault_3 dX1_firstFault_115 0 rfl rfl ?_
              exact g_ret_i C rfl dX1_firstFault_118 ((itm (lcd Fs i1 m1) ap N T).2.1) (by rw [iL]; first | (rw [prs_f (by omega) (by omega)]; dsimp only; omega) | (rw [prs_e (by omega) (by omega) (by omega)]; dsimp only; omega) | (rw [prs_s (by omega) (by omega) (by omega) (by omega)]; dsimp only; omega) | (rw [show (6 - k).toNat = 0 by omega, prs]; dsimp only; omega)) (by rw [iL, prs_s (by omega) (by omega) (by omega) (by omega)] <;> rfl) [0, 1, 2, 3, 4] rfl (by rw [iL, prs_s (by omega) (by omega) (by omega) (by omega)] <;> rfl)
            · skip
              refine r_aload_n C dX1_firstFault_105 0 rfl ?_
              refine gf_1_6 C hi_X1_firstFault_1 kw_X1_firstFault_4 dX1_firstFault_106 0 rfl rfl ?_
              refine r_bipush C dX1_firstFault_109 (by decide) ?_
              refine r_icmp_ne (tgt := 119) C dX1_firstFault_111 (by decide) (by omega) (by decide) (fun h_5 => ?_) (fun h_5 => ?_)
              · skip
                refine r_aload_n C dX1_firstFault_119 0 rfl ?_
                refine r_dup C dX1_firstFault_120 rfl ?_
                refine gf_1_5 C hi_X1_firstFault_1 kw_X1_firstFault_3 dX1_firstFault_121 0 rfl rfl ?_
                refine r_iconst C dX1_firstFault_124 ?_
                refine r_iadd C dX1_firstFault_125 ?_
                refine pf_1_5 (ws2 := [(h0, .inr (1, [.ref n1, .ref n2, .ref f0, .int (iI i1), .int (iI m1), .int (iI (((itm (lcd Fs i1 m1) ap N T).2.1) + 1)), .int (iI (k + 1))])), (n1, .inl (X.2.1.1, 6, .inl (iF ((itm (lcd Fs i1 m1) ap N T).2.2.1)))), (n2, .inl (X.2.1.1, 6, .inl (iF ((itm (lcd Fs i1 m1) ap N T).2.2.2)))), (f0, .inr (2, [.ref f1, .int (iI so), .int (iI la), .int (iI ln)])), (f1, .inl (X.2.1.1, 60, .inl (iF Fs)))]) C hi_X1_firstFault_1 kw_X1_firstFault_3 dX1_firstFault_126 0 rfl rfl rfl (Nat.le_of_ble_eq_true rfl) rfl ?_
                refine r_iinc (lo2 := [(4, .int (iI (k + 1))), (0, .ref h0)]) C dX1_firstFault_129 1 rfl (by decide) rfl ?_
                refine r_goto (tgt := 50) C dX1_firstFault_132 (by decide) ?_
                refine r_lo [1, 0] (lo2 := [(0, .ref h0), (4, .int (iI (k + 1)))]) rfl ?_
                exact ih50 (k + 1) (((itm (lcd Fs i1 m1) ap N T).2.1) + 1) ((itm (lcd Fs i1 m1) ap N T).2.2.1) ((itm (lcd Fs i1 m1) ap N T).2.2.2) (by omega) (by omega) bT (by rw [iL, prs_go (by omega) (by omega) (by omega) (by omega)]) (by omega)
              · skip
                refine r_aload_n C dX1_firstFault_114 0 rfl ?_
                refine gf_1_5 C hi_X1_firstFault_1 kw_X1_firstFault_3 dX1_firstFault_115 0 rfl rfl ?_
                exact g_ret_i C rfl dX1_firstFault_118 ((itm (lcd Fs i1 m1) ap N T).2.1) (by rw [iL]; first | (rw [prs_f (by omega) (by omega)]; dsimp only; omega) | (rw [prs_e (by omega) (by omega) (by omega)]; dsimp only; omega) | (rw [prs_s (by omega) (by omega) (by omega) (by omega)]; dsimp only; omega) | (rw [show (6 - k).toNat = 0 by omega, prs]; dsimp only; omega)) (by rw [iL, prs_s (by omega) (by omega) (by omega) (by omega)] <;> rfl) [0, 1, 2, 3, 4] rfl (by rw [iL, prs_s (by omega) (by omega) (by omega) (by omega)] <;> rfl)
          · skip
            refine r_iconst C dX1_firstFault_90 ?_
            exact g_ret_i C rfl dX1_firstFault_91 ((itm (lcd Fs i1 m1) ap N T).2.1) (by rw [iL]; first | (rw [prs_f (by omega) (by omega)]; dsimp only; omega) | (rw [prs_e (by omega) (by omega) (by omega)]; dsimp only; omega) | (rw [prs_s (by omega) (by omega) (by omega) (by omega)]; dsimp only; omega) | (rw [show (6 - k).toNat = 0 by omega, prs]; dsimp only; omega)) (by rw [iL, prs_e (by omega) (by omega) (by omega)] <;> rfl) [0, 1, 2, 3, 4] rfl (by rw [iL, prs_e (by omega) (by omega) (by omega)] <;> rfl)
        · skip
          refine r_aload_n C dX1_firstFault_64 0 rfl ?_
          refine gf_1_5 C hi_X1_firstFault_1 kw_X1_firstFault_3 dX1_firstFault_65 0 rfl rfl ?_
          exact g_ret_i C rfl dX1_firstFault_68 ((itm (lcd Fs i1 m1) ap N T).2.1) (by rw [iL]; first | (rw [prs_f (by omega) (by omega)]; dsimp only; omega) | (rw [prs_e (by omega) (by omega) (by omega)]; dsimp only; omega) | (rw [prs_s (by omega) (by omega) (by omega) (by omega)]; dsimp only; omega) | (rw [show (6 - k).toNat = 0 by omega, prs]; dsimp only; omega)) (by rw [iL, prs_f (by omega) (by omega)] <;> rfl) [0, 1, 2, 3, 4] rfl (by rw [iL, prs_f (by omega) (by omega)] <;> rfl)
  refine r_lo [1, 0] (lo2 := [(0, .ref h0), (4, .int (iI 0))]) rfl ?_
  exact L50 ((6 - (0 : Int)).toNat + 1) 0 0 (cpyI gAF Nf 0 0 6) (fillI Tf 6 0) (by omega) (by omega) (fillI_01 hT) rfl (Nat.lt_succ_self _)

set_option maxRecDepth 20000 in
theorem hd_V_X1_number_X4_takeLaw : yX1_number.cls = yX1_number.cls ∧ yX1_number.cls ≠ "java/lang/invoke/MethodHandle" ∧ yX1_number.cls ≠ "java/lang/invoke/VarHandle" ∧ (parseMethodDescriptor yX1_number.desc).map (fun d => d.parameters.length) = some 1 := by decide +kernel
set_option maxRecDepth 20000 in
theorem kw_X4_takeLaw_0 : Cond.fieldLink RX4 9 "SkipStones$Water" "lift" "I" ∈ wsX4_takeLaw := List.mem_of_getElem? (i := 1) rfl
set_option maxRecDepth 20000 in
theorem kw_X4_takeLaw_1 : Cond.fieldLink RX4 15 "SkipStones$Water" "rub" "I" ∈ wsX4_takeLaw := List.mem_of_getElem? (i := 2) rfl
set_option maxRecDepth 20000 in
theorem kw_X4_takeLaw_2 : Cond.fieldLink RX4 18 "SkipStones$Water" "up" "I" ∈ wsX4_takeLaw := List.mem_of_getElem? (i := 3) rfl
set_option maxRecDepth 20000 in
theorem kw_X4_takeLaw_3 : Cond.fieldLink RX4 21 "SkipStones$Water" "needed" "I" ∈ wsX4_takeLaw := List.mem_of_getElem? (i := 4) rfl
set_option maxRecDepth 20000 in
theorem kw_X4_takeLaw_4 : Cond.fieldLink RX4 24 "SkipStones$Water" "near" "I" ∈ wsX4_takeLaw := List.mem_of_getElem? (i := 5) rfl
set_option maxRecDepth 20000 in
theorem kw_X4_takeLaw_5 : Cond.fieldLink RX4 27 "SkipStones$Water" "hard" "I" ∈ wsX4_takeLaw := List.mem_of_getElem? (i := 6) rfl
set_option maxRecDepth 20000 in
theorem hi_X4_takeLaw_4 : ∀ w ∈ wsX40, w ∈ wsX4_takeLaw := fun _ h => List.mem_cons_of_mem _ (List.mem_append_left _ (List.mem_append_right _ h))
set_option maxHeartbeats 4000000 in
set_option maxRecDepth 100000 in
/-- takeLaw -/
theorem c_X4_takeLaw (l : Launch) (X : gX) (h0 : Nat) (h1 : Nat) (l1 : Int) (l2 : Int) (l3 : Int) (l4 : Int) (l5 : Int) (l6 : Int) (wc : Int) (sh : Int) (F : Nat → Int) (n0 : Nat) (n1 : Nat) (n2v : Value) (fv : Value) (st : Int) (le : Int) (at1 : Int) (it : Int) (Nf : Nat → Int) : gM l yX4_takeLaw wsX4_takeLaw (gr 1 0 0) X [(h0, .inr (4, [.int (iI l1), .int (iI l2), .int (iI l3), .int (iI l4), .int (iI l5), .int (iI l6), .ref h1, .int (iI wc), .int (iI sh)])), (h1, .inl (X.2.1.1, 20, .inl (iF F))), (n0, .inr (1, [.ref n1, n2v, fv, .int (iI st), .int (iI le), .int (iI at1), .int (iI it)])), (n1, .inl (X.2.1.1, 6, .inl (iF Nf)))] [.ref h0, .ref n0] (gQv X (Y := Unit) (fun _ => True) (fun _ => [(h0, .inr (4, [.int (iI (Nf (Int.toNat 0))), .int (iI (Nf (Int.toNat 1))), .int (iI (Nf (Int.toNat 2))), .int (iI (Nf (Int.toNat 3))), .int (iI (Nf (Int.toNat 4))), .int (iI (Nf (Int.toNat 5))), .ref h1, .int (iI wc), .int (iI sh)])), (h1, .inl (X.2.1.1, 20, .inl (iF F))), (n0, .inr (1, [.ref n1, n2v, fv, .int (iI st), .int (iI le), .int (iI at1), .int (iI it)])), (n1, .inl (X.2.1.1, 6, .inl (iF Nf)))])) 0 0 := by
  refine g_start2 (lo := [(0, .ref h0), (1, .ref n0)]) (by decide +kernel) rfl rfl (Nat.le_of_ble_eq_true rfl) (fun p e s m args below meth c A C => ?_)
  refine r_aload_n C dX4_takeLaw_0 0 rfl ?_
  refine r_aload_n C dX4_takeLaw_1 1 rfl ?_
  refine r_iconst C dX4_takeLaw_2 ?_
  refine g_V_i (ws2 := (fun _ => [(h0, .inr (4, [.int (iI l1), .int (iI l2), .int (iI l3), .int (iI l4), .int (iI l5), .int (iI l6), .ref h1, .int (iI wc), .int (iI sh)])), (h1, .inl (X.2.1.1, 20, .inl (iF F))), (n0, .inr (1, [.ref n1, (n2v), (fv), .int (iI st), .int (iI le), .int (iI at1), .int (iI it)])), (n1, .inl (X.2.1.1, 6, .inl (iF Nf)))])) (As := [.int (iI 0)]) C (c_X1_number l X n0 n1 st le at1 it Nf 0 (fv) (n2v) (by first | assumption | omega)) gX4_takeLaw_X1_number rfl rfl rfl hd_V_X1_number_X4_takeLaw (by decide) dX4_takeLaw_3 [2, 3] [0, 1] [0, 1, 2, 3] rfl rfl rfl rfl (by decide) rfl 2 1 rfl rfl rfl rfl (Nat.le_of_ble_eq_true rfl) (by decide) (fun _ => rfl) (fun _ hy_ => ?_)
  clear hy_
  refine pf_4_0 (ws2 := [(h0, .inr (4, [.int (iI (Nf (Int.toNat 0))), .int (iI l2), .int (iI l3), .int (iI l4), .int (iI l5), .int (iI l6), .ref h1, .int (iI wc), .int (iI sh)])), (h1, .inl (X.2.1.1, 20, .inl (iF F))), (n0, .inr (1, [.ref n1, (n2v), (fv), .int (iI st), .int (iI le), .int (iI at1), .int (iI it)])), (n1, .inl (X.2.1.1, 6, .inl (iF Nf)))]) C hi_X4_takeLaw_4 kw_X4_takeLaw_0 dX4_takeLaw_6 0 rfl rfl rfl (Nat.le_of_ble_eq_true rfl) rfl ?_
  refine r_aload_n C dX4_takeLaw_9 0 rfl ?_
  refine r_aload_n C dX4_takeLaw_10 1 rfl ?_
  refine r_iconst C dX4_takeLaw_11 ?_
  refine g_V_i (ws2 := (fun _ => [(h0, .inr (4, [.int (iI (Nf (Int.toNat 0))), .int (iI l2), .int (iI l3), .int (iI l4), .int (iI l5), .int (iI l6), .ref h1, .int (iI wc), .int (iI sh)])), (h1, .inl (X.2.1.1, 20, .inl (iF F))), (n0, .inr (1, [.ref n1, ((n2v)), ((fv)), .int (iI st), .int (iI le), .int (iI at1), .int (iI it)])), (n1, .inl (X.2.1.1, 6, .inl (iF Nf)))])) (As := [.int (iI 1)]) C (c_X1_number l X n0 n1 st le at1 it Nf 1 ((fv)) ((n2v)) (by first | assumption | omega)) gX4_takeLaw_X1_number rfl rfl rfl hd_V_X1_number_X4_takeLaw (by decide) dX4_takeLaw_12 [2, 3] [0, 1] [0, 1, 2, 3] rfl rfl rfl rfl (by decide) rfl 2 1 rfl rfl rfl rfl (Nat.le_of_ble_eq_true rfl) (by decide) (fun _ => rfl) (fun _ hy_ => ?_)
  clear hy_
  refine pf_4_1 (ws2 := [(h0, .inr (4, [.int (iI (Nf (Int.toNat 0))), .int (iI (Nf (Int.toNat 1))), .int (iI l3), .int (iI l4), .int (iI l5), .int (iI l6), .ref h1, .int (iI wc), .int (iI sh)])), (h1, .inl (X.2.1.1, 20, .inl (iF F))), (n0, .inr (1, [.ref n1, ((n2v)), ((fv)), .int (iI st), .int (iI le), .int (iI at1), .int (iI it)])), (n1, .inl (X.2.1.1, 6, .inl (iF Nf)))]) C hi_X4_takeLaw_4 kw_X4_takeLaw_1 dX4_takeLaw_15 0 rfl rfl rfl (Nat.le_of_ble_eq_true rfl) rfl ?_
  refine r_aload_n C dX4_takeLaw_18 0 rfl ?_
  refine r_aload_n C dX4_takeLaw_19 1 rfl ?_
  refine r_iconst C dX4_takeLaw_20 ?_
  refine g_V_i (ws2 := (fun _ => [(h0, .inr (4, [.int (iI (Nf (Int.toNat 0))), .int (iI (Nf (Int.toNat 1))), .int (iI l3), .int (iI l4), .int (iI l5), .int (iI l6), .ref h1, .int (iI wc), .int (iI sh)])), (h1, .inl (X.2.1.1, 20, .inl (iF F))), (n0, .inr (1, [.ref n1, (((n2v))), (((fv))), .int (iI st), .int (iI le), .int (iI at1), .int (iI it)])), (n1, .inl (X.2.1.1, 6, .inl (iF Nf)))])) (As := [.int (iI 2)]) C (c_X1_number l X n0 n1 st le at1 it Nf 2 (((fv))) (((n2v))) (by first | assumption | omega)) gX4_takeLaw_X1_number rfl rfl rfl hd_V_X1_number_X4_takeLaw (by decide) dX4_takeLaw_21 [2, 3] [0, 1] [0, 1, 2, 3] rfl rfl rfl rfl (by decide) rfl 2 1 rfl rfl rfl rfl (Nat.le_of_ble_eq_true rfl) (by decide) (fun _ => rfl) (fun _ hy_ => ?_)
  clear hy_
  refine pf_4_2 (ws2 := [(h0, .inr (4, [.int (iI (Nf (Int.toNat 0))), .int (iI (Nf (Int.toNat 1))), .int (iI (Nf (Int.toNat 2))), .int (iI l4), .int (iI l5), .int (iI l6), .ref h1, .int (iI wc), .int (iI sh)])), (h1, .inl (X.2.1.1, 20, .inl (iF F))), (n0, .inr (1, [.ref n1, (((n2v))), (((fv))), .int (iI st), .int (iI le), .int (iI at1), .int (iI it)])), (n1, .inl (X.2.1.1, 6, .inl (iF Nf)))]) C hi_X4_takeLaw_4 kw_X4_takeLaw_2 dX4_takeLaw_24 0 rfl rfl rfl (Nat.le_of_ble_eq_true rfl) rfl ?_
  refine r_aload_n C dX4_takeLaw_27 0 rfl ?_
  refine r_aload_n C dX4_takeLaw_28 1 rfl ?_
  refine r_iconst C dX4_takeLaw_29 ?_
  refine g_V_i (ws2 := (fun _ => [(h0, .inr (4, [.int (iI (Nf (Int.toNat 0))), .int (iI (Nf (Int.toNat 1))), .int (iI (Nf (Int.toNat 2))), .int (iI l4), .int (iI l5), .int (iI l6), .ref h1, .int (iI wc), .int (iI sh)])), (h1, .inl (X.2.1.1, 20, .inl (iF F))), (n0, .inr (1, [.ref n1, ((((n2v)))), ((((fv)))), .int (iI st), .int (iI le), .int (iI at1), .int (iI it)])), (n1, .inl (X.2.1.1, 6, .inl (iF Nf)))])) (As := [.int (iI 3)]) C (c_X1_number l X n0 n1 st le at1 it Nf 3 ((((fv)))) ((((n2v)))) (by first | assumption | omega)) gX4_takeLaw_X1_number rfl rfl rfl hd_V_X1_number_X4_takeLaw (by decide) dX4_takeLaw_30 [2, 3] [0, 1] [0, 1, 2, 3] rfl rfl rfl rfl (by decide) rfl 2 1 rfl rfl rfl rfl (Nat.le_of_ble_eq_true rfl) (by decide) (fun _ => rfl) (fun _ hy_ => ?_)
  clear hy_
  refine pf_4_3 (ws2 := [(h0, .inr (4, [.int (iI (Nf (Int.toNat 0))), .int (iI (Nf (Int.toNat 1))), .int (iI (Nf (Int.toNat 2))), .int (iI (Nf (Int.toNat 3))), .int (iI l5), .int (iI l6), .ref h1, .int (iI wc), .int (iI sh)])), (h1, .inl (X.2.1.1, 20, .inl (iF F))), (n0, .inr (1, [.ref n1, ((((n2v)))), ((((fv)))), .int (iI st), .int (iI le), .int (iI at1), .int (iI it)])), (n1, .inl (X.2.1.1, 6, .inl (iF Nf)))]) C hi_X4_takeLaw_4 kw_X4_takeLaw_3 dX4_takeLaw_33 0 rfl rfl rfl (Nat.le_of_ble_eq_true rfl) rfl ?_
  refine r_aload_n C dX4_takeLaw_36 0 rfl ?_
  refine r_aload_n C dX4_takeLaw_37 1 rfl ?_
  refine r_iconst C dX4_takeLaw_38 ?_
  refine g_V_i (ws2 := (fun _ => [(h0, .inr (4, [.int (iI (Nf (Int.toNat 0))), .int (iI (Nf (Int.toNat 1))), .int (iI (Nf (Int.toNat 2))), .int (iI (Nf (Int.toNat 3))), .int (iI l5), .int (iI l6), .ref h1, .int (iI wc), .int (iI sh)])), (h1, .inl (X.2.1.1, 20, .inl (iF F))), (n0, .inr (1, [.ref n1, (((((n2v))))), (((((fv))))), .int (iI st), .int (iI le), .int (iI at1), .int (iI it)])), (n1, .inl (X.2.1.1, 6, .inl (iF Nf)))])) (As := [.int (iI 4)]) C (c_X1_number l X n0 n1 st le at1 it Nf 4 (((((fv))))) (((((n2v))))) (by first | assumption | omega)) gX4_takeLaw_X1_number rfl rfl rfl hd_V_X1_number_X4_takeLaw (by decide) dX4_takeLaw_39 [2, 3] [0, 1] [0, 1, 2, 3] rfl rfl rfl rfl (by decide) rfl 2 1 rfl rfl rfl rfl (Nat.le_of_ble_eq_true rfl) (by decide) (fun _ => rfl) (fun _ hy_ => ?_)
  clear hy_
  refine pf_4_4 (ws2 := [(h0, .inr (4, [.int (iI (Nf (Int.toNat 0))), .int (iI (Nf (Int.toNat 1))), .int (iI (Nf (Int.toNat 2))), .int (iI (Nf (Int.toNat 3))), .int (iI (Nf (Int.toNat 4))), .int (iI l6), .ref h1, .int (iI wc), .int (iI sh)])), (h1, .inl (X.2.1.1, 20, .inl (iF F))), (n0, .inr (1, [.ref n1, (((((n2v))))), (((((fv))))), .int (iI st), .int (iI le), .int (iI at1), .int (iI it)])), (n1, .inl (X.2.1.1, 6, .inl (iF Nf)))]) C hi_X4_takeLaw_4 kw_X4_takeLaw_4 dX4_takeLaw_42 0 rfl rfl rfl (Nat.le_of_ble_eq_true rfl) rfl ?_
  refine r_aload_n C dX4_takeLaw_45 0 rfl ?_
  refine r_aload_n C dX4_takeLaw_46 1 rfl ?_
  refine r_iconst C dX4_takeLaw_47 ?_
  refine g_V_i (ws2 := (fun _ => [(h0, .inr (4, [.int (iI (Nf (Int.toNat 0))), .int (iI (Nf (Int.toNat 1))), .int (iI (Nf (Int.toNat 2))), .int (iI (Nf (Int.toNat 3))), .int (iI (Nf (Int.toNat 4))), .int (iI l6), .ref h1, .int (iI wc), .int (iI sh)])), (h1, .inl (X.2.1.1, 20, .inl (iF F))), (n0, .inr (1, [.ref n1, ((((((n2v)))))), ((((((fv)))))), .int (iI st), .int (iI le), .int (iI at1), .int (iI it)])), (n1, .inl (X.2.1.1, 6, .inl (iF Nf)))])) (As := [.int (iI 5)]) C (c_X1_number l X n0 n1 st le at1 it Nf 5 ((((((fv)))))) ((((((n2v)))))) (by first | assumption | omega)) gX4_takeLaw_X1_number rfl rfl rfl hd_V_X1_number_X4_takeLaw (by decide) dX4_takeLaw_48 [2, 3] [0, 1] [0, 1, 2, 3] rfl rfl rfl rfl (by decide) rfl 2 1 rfl rfl rfl rfl (Nat.le_of_ble_eq_true rfl) (by decide) (fun _ => rfl) (fun _ hy_ => ?_)
  clear hy_
  refine pf_4_5 (ws2 := [(h0, .inr (4, [.int (iI (Nf (Int.toNat 0))), .int (iI (Nf (Int.toNat 1))), .int (iI (Nf (Int.toNat 2))), .int (iI (Nf (Int.toNat 3))), .int (iI (Nf (Int.toNat 4))), .int (iI (Nf (Int.toNat 5))), .ref h1, .int (iI wc), .int (iI sh)])), (h1, .inl (X.2.1.1, 20, .inl (iF F))), (n0, .inr (1, [.ref n1, ((((((n2v)))))), ((((((fv)))))), .int (iI st), .int (iI le), .int (iI at1), .int (iI it)])), (n1, .inl (X.2.1.1, 6, .inl (iF Nf)))]) C hi_X4_takeLaw_4 kw_X4_takeLaw_5 dX4_takeLaw_51 0 rfl rfl rfl (Nat.le_of_ble_eq_true rfl) rfl ?_
  exact g_ret_v C rfl dX4_takeLaw_54 () trivial [0, 1, 2, 3] rfl rfl
end M3
