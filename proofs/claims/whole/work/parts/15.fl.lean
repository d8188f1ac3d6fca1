section MF
abbrev gdE (E : fEn) : Prop := (1 ≤ E.1.1 ∧ E.1.1 ≤ 99) ∧ (0 ≤ E.1.2.1 ∧ E.1.2.1 ≤ 50) ∧ (1 ≤ E.1.2.2.1 ∧ E.1.2.2.1 ≤ 99) ∧ (0 ≤ E.1.2.2.2.1 ∧ E.1.2.2.2.1 ≤ 99) ∧ (0 ≤ E.1.2.2.2.2.1 ∧ E.1.2.2.2.2.1 ≤ 50) ∧ (1 ≤ E.1.2.2.2.2.2 ∧ E.1.2.2.2.2.2 ≤ 45) ∧ (1 ≤ E.2.1.1 ∧ E.2.1.1 ≤ 99) ∧ (1 ≤ E.2.1.2.1 ∧ E.2.1.2.1 ≤ 99) ∧ (0 ≤ E.2.1.2.2 ∧ E.2.1.2.2 ≤ 9) ∧ (0 ≤ E.2.2.1 ∧ E.2.2.1 < 20) ∧ (1 ≤ E.2.2.2.1 ∧ E.2.2.2.1 ≤ 20) ∧ ∀ i, -9 ≤ E.2.2.2.2 i ∧ E.2.2.2.2 i ≤ 9
abbrev gdT (k : Int) (t : fS) : Prop := (0 ≤ t.1 ∧ t.1 ≤ 1485 * k) ∧ (1 ≤ t.2.1 ∧ t.2.1 ≤ 300) ∧ (1 ≤ t.2.2.1 ∧ t.2.2.1 ≤ 99) ∧ (0 ≤ t.2.2.2.1 ∧ t.2.2.2.1 ≤ 45 + 20 * k) ∧ (0 ≤ t.2.2.2.2.1 ∧ t.2.2.2.2.1 ≤ 99) ∧ (0 ≤ t.2.2.2.2.2 ∧ t.2.2.2.2.2 ≤ 20 * k)
theorem gdT_next {E : fEn} {k : Int} {t : fS} (hE : gdE E) (h : gdT k t) (hk : 0 ≤ k ∧ k < 90) (hs : ¬ fStop E t) : gdT (k + 1) (fNx E t) := by
  obtain ⟨⟨l1, l2, l3, l4, l5, l6⟩, ⟨wt, wd, rg⟩, ⟨by1, wc, Fw⟩⟩ := E
  obtain ⟨xx, sp, fa, sl, sn, bt⟩ := t
  obtain ⟨e1, e2, e3, e4, e5, e6, e7, e8, e9, e10, e11, e12⟩ := hE
  obtain ⟨h1, h2, h3, h4, h5, h6⟩ := h
  dsimp only at e1 e2 e3 e4 e5 e6 e7 e8 e9 e10 e11 e12 h1 h2 h3 h4 h5 h6
  have n1 : ¬ fSkT ((l1, l2, l3, l4, l5, l6), (wt, wd, rg), (by1, wc, Fw)) (xx, sp, fa, sl, sn, bt) := fun q => hs (Or.inl q)
  have n2 : ¬ fSpT ((l1, l2, l3, l4, l5, l6), (wt, wd, rg), (by1, wc, Fw)) (xx, sp, fa, sl, sn, bt) = 0 := fun q => hs (Or.inr q)
  simp only [fSkT, fSk] at n1
  simp only [fSpT, fTkT] at n2
  simp only [fNx, fSpT, fTkT, fFlT]
  generalize fTi ((l1, l2, l3, l4, l5, l6), (wt, wd, rg), (by1, wc, Fw)) (xx, sp, fa, sl, sn, bt) = ti at n1 n2 ⊢
  have q7 := fTk_B (l2 := l2) (l6 := l6) (rg := rg) (sp := sp) (ti := ti) (by omega) (by omega)
  have q8 := fFl_B (l3 := l3) (l6 := l6) (fa := fa) (ti := ti) (by omega) (by omega)
  have q9 := mulB (a := max 0 (sp - fTk l2 l6 rg sp ti)) (b := fFl l3 l6 fa ti) (A := 300) (B := 99) (by omega) (by omega)
  have q10 := fSn_B (sn := sn) (by omega)
  have q11 := fSl_B (nd := l4) (sl := sl) (sn := fSn sn) (by omega) (by omega) (by omega)
  refine ⟨?_, ?_, ?_, ?_, ?_, ?_⟩ <;> dsimp only <;> omega
theorem kpF_out {F : Nat → Int} {k kd xx sp fa sl sn ti tk bt : Int} {j : Nat} (hk : 0 ≤ k) (h : (j : Int) < k * 9 ∨ k * 9 + 9 ≤ (j : Int)) : kpF F k kd xx sp fa sl sn ti tk bt j = F j := by
  unfold kpF
  simp only [updI]
  rw [if_neg (by omega), if_neg (by omega), if_neg (by omega), if_neg (by omega), if_neg (by omega), if_neg (by omega), if_neg (by omega), if_neg (by omega), if_neg (by omega)]
theorem kpF_in {F G : Nat → Int} {k kd xx sp fa sl sn ti tk bt : Int} {j : Nat} (hk : 0 ≤ k) (h : k * 9 ≤ (j : Int) ∧ (j : Int) < k * 9 + 9) : kpF F k kd xx sp fa sl sn ti tk bt j = kpF G k kd xx sp fa sl sn ti tk bt j := by
  unfold kpF
  simp only [updI]
  repeat' split
  all_goals first | rfl | omega
theorem kpF_B {F : Nat → Int} {k kd xx sp fa sl sn ti tk bt M : Int} {j : Nat} (h : -M ≤ F j ∧ F j ≤ M) (hb : (-M ≤ kd ∧ kd ≤ M) ∧ (-M ≤ xx ∧ xx ≤ M) ∧ (-M ≤ sp ∧ sp ≤ M) ∧ (-M ≤ fa ∧ fa ≤ M) ∧ (-M ≤ sl ∧ sl ≤ M) ∧ (-M ≤ sn ∧ sn ≤ M) ∧ (-M ≤ ti ∧ ti ≤ M) ∧ (-M ≤ tk ∧ tk ≤ M) ∧ (-M ≤ bt ∧ bt ≤ M)) : -M ≤ kpF F k kd xx sp fa sl sn ti tk bt j ∧ kpF F k kd xx sp fa sl sn ti tk bt j ≤ M := by
  unfold kpF
  simp only [updI]
  repeat' split
  all_goals omega
theorem kpF_0 {F : Nat → Int} {k kd xx sp fa sl sn ti tk bt : Int} (hk : 0 ≤ k) : kpF F k kd xx sp fa sl sn ti tk bt (Int.toNat (k * 9 + 0)) = kd := by
  unfold kpF
  simp only [updI]
  rw [if_neg (by omega), if_neg (by omega), if_neg (by omega), if_neg (by omega), if_neg (by omega), if_neg (by omega), if_neg (by omega), if_neg (by omega), if_pos trivial]
theorem kpF_1 {F : Nat → Int} {k kd xx sp fa sl sn ti tk bt : Int} (hk : 0 ≤ k) : kpF F k kd xx sp fa sl sn ti tk bt (Int.toNat (k * 9 + 1)) = xx := by
  unfold kpF
  simp only [updI]
  rw [if_neg (by omega), if_neg (by omega), if_neg (by omega), if_neg (by omega), if_neg (by omega), if_neg (by omega), if_neg (by omega), if_pos trivial]
theorem fPut_in {E : fEn} {F G : Nat → Int} {k : Int} {t : fS} {j : Nat} (hk : 0 ≤ k) (h : (j : Int) < (k + 1) * 9) (hFG : (j : Int) < k * 9 → F j = G j) : fPut E F k t j = fPut E G k t j := by
  unfold fPut
  by_cases a : (j : Int) < k * 9
  · split <;> rw [kpF_out hk (Or.inl a), kpF_out hk (Or.inl a), hFG a]
  · split <;> exact kpF_in hk ⟨by omega, by omega⟩
theorem fPut_out {E : fEn} {F : Nat → Int} {k : Int} {t : fS} {j : Nat} (hk : 0 ≤ k) (h : (j : Int) < k * 9 ∨ (k + 1) * 9 ≤ (j : Int)) : fPut E F k t j = F j := by
  unfold fPut
  split <;> exact kpF_out hk (by omega)
theorem fNum_B {E : fEn} : ∀ (n : Nat) (k : Int) (t : fS), k ≤ fNum E n k t ∧ fNum E n k t ≤ k + n ∧ (0 < n → k + 1 ≤ fNum E n k t) := by
  intro n
  induction n with
  | zero => intro k t; simp [fNum]
  | succ n ih =>
    intro k t
    unfold fNum
    split
    · omega
    · have := ih (k + 1) (fNx E t); omega
theorem fRes_in {E : fEn} : ∀ (n : Nat) (F G : Nat → Int) (k : Int) (t : fS), 0 ≤ k → (∀ j : Nat, (j : Int) < k * 9 → F j = G j) → ∀ j : Nat, (j : Int) < fNum E n k t * 9 → fRes E n F k t j = fRes E n G k t j := by
  intro n
  induction n with
  | zero => intro F G k t hk h j hj; exact h j hj
  | succ n ih =>
    intro F G k t hk h j hj
    unfold fNum at hj
    unfold fRes
    split at hj
    · rename_i hs
      rw [if_pos hs, if_pos hs]
      exact fPut_in hk hj (h j)
    · rename_i hs
      rw [if_neg hs, if_neg hs]
      exact ih _ _ (k + 1) _ (by omega) (fun i hi => fPut_in hk hi (h i)) j hj
theorem fRes_out {E : fEn} : ∀ (n : Nat) (F : Nat → Int) (k : Int) (t : fS), 0 ≤ k → ∀ j : Nat, ((j : Int) < k * 9 ∨ fNum E n k t * 9 ≤ (j : Int)) → fRes E n F k t j = F j := by
  intro n
  induction n with
  | zero => intro F k t hk j hj; rfl
  | succ n ih =>
    intro F k t hk j hj
    unfold fNum at hj
    unfold fRes
    split at hj
    · rename_i hs
      rw [if_pos hs]
      exact fPut_out hk hj
    · rename_i hs
      rw [if_neg hs]
      have := fNum_B (E := E) n (k + 1) (fNx E t)
      rw [ih _ (k + 1) _ (by omega) j (by omega)]
      exact fPut_out hk (by omega)
theorem fTi_B {E : fEn} {t : fS} (hE : gdE E) : t.2.2.2.1 - 9 ≤ fTi E t ∧ fTi E t ≤ t.2.2.2.1 + 9 := by
  have := hE.2.2.2.2.2.2.2.2.2.2.2 (Int.toNat ((t.1 + E.2.2.1) % E.2.2.2.1))
  unfold fTi
  omega
theorem fKd_B (l5 l6 ti fl : Int) : 1 ≤ fKd l5 l6 ti fl ∧ fKd l5 l6 ti fl ≤ 3 := by
  unfold fKd
  repeat' split
  all_goals omega
theorem fPut_B {E : fEn} {F : Nat → Int} {k : Int} {t : fS} (hE : gdE E) (ht : gdT k t) (hk : 0 ≤ k ∧ k < 90) (h : ∀ j, -1000000 ≤ F j ∧ F j ≤ 1000000) (j : Nat) : -1000000 ≤ fPut E F k t j ∧ fPut E F k t j ≤ 1000000 := by
  have hti := fTi_B (t := t) hE
  have hkd := fKd_B E.1.2.2.2.2.1 E.1.2.2.2.2.2 (fTi E t) (fFlT E t)
  obtain ⟨e1, e2, e3, e4, e5, e6, e7, e8, e9, e10, e11, e12⟩ := hE
  obtain ⟨h1, h2, h3, h4, h5, h6⟩ := ht
  unfold fPut
  by_cases hs : fSkT E t
  · rw [if_pos hs]
    exact kpF_B (h j) ⟨by omega, by omega, by omega, by omega, by omega, by omega, by omega, by omega, by omega⟩
  · rw [if_neg hs]
    have n1 := hs
    simp only [fSkT, fSk] at n1
    have q7 : 1 ≤ fTkT E t ∧ fTkT E t ≤ 625 := fTk_B (by omega) (by omega)
    exact kpF_B (h j) ⟨by omega, by omega, by omega, by omega, by omega, by omega, by omega, by omega, by omega⟩
theorem fRes_B {E : fEn} (hE : gdE E) : ∀ (n : Nat) (F : Nat → Int) (k : Int) (t : fS), 0 ≤ k → k + n ≤ 90 → gdT k t → (∀ j, -1000000 ≤ F j ∧ F j ≤ 1000000) → ∀ j, -1000000 ≤ fRes E n F k t j ∧ fRes E n F k t j ≤ 1000000 := by
  intro n
  induction n with
  | zero => intro F k t hk hn ht h j; exact h j
  | succ n ih =>
    intro F k t hk hn ht h j
    unfold fRes
    by_cases hs : fStop E t
    · rw [if_pos hs]; exact fPut_B hE ht ⟨hk, by omega⟩ h j
    · rw [if_neg hs]; exact ih _ (k + 1) _ (by omega) (by omega) (gdT_next hE ht ⟨hk, by omega⟩ hs) (fPut_B hE ht ⟨hk, by omega⟩ h) j
/-- what rows of touches hold: kinds, places -/
abbrev rwO (F : Nat → Int) (n : Int) : Prop := ∀ k : Int, 0 ≤ k → k < n → (0 ≤ F (Int.toNat (k * 9 + 0)) ∧ F (Int.toNat (k * 9 + 0)) ≤ 3) ∧ 0 ≤ F (Int.toNat (k * 9 + 1))
theorem fPut_O {E : fEn} {F : Nat → Int} {k : Int} {t : fS} (ht : gdT k t) (hk : 0 ≤ k) (h : rwO F k) : rwO (fPut E F k t) (k + 1) := by
  intro i h0 hi
  by_cases a : i < k
  · rw [fPut_out hk (by omega), fPut_out hk (by omega)]
    exact h i h0 a
  · have e : i = k := by omega
    subst e
    have hkd := fKd_B E.1.2.2.2.2.1 E.1.2.2.2.2.2 (fTi E t) (fFlT E t)
    have h1 := ht.1
    unfold fPut
    split <;> rw [kpF_0 hk, kpF_1 hk] <;> omega
theorem fRes_O {E : fEn} (hE : gdE E) : ∀ (n : Nat) (F : Nat → Int) (k : Int) (t : fS), 0 ≤ k → k + n ≤ 90 → gdT k t → rwO F k → rwO (fRes E n F k t) (fNum E n k t) := by
  intro n
  induction n with
  | zero => intro F k t hk hn ht h; exact h
  | succ n ih =>
    intro F k t hk hn ht h
    unfold fRes fNum
    by_cases hs : fStop E t
    · rw [if_pos hs, if_pos hs]; exact fPut_O ht hk h
    · rw [if_neg hs, if_neg hs]; exact ih _ (k + 1) _ (by omega) (by omega) (gdT_next hE ht ⟨hk, by omega⟩ hs) (fPut_O ht hk h)
theorem ctL_in {F G : Nat → Int} {j cnt : Int} (h : ∀ i : Nat, (i : Int) < cnt * 9 → F i = G i) : ∀ (f : Nat) (k la n : Int), 0 ≤ k → k + f ≤ cnt → ctL F j f k la n = ctL G j f k la n := by
  intro f
  induction f with
  | zero => intro k la n h0 hk; rfl
  | succ f ih =>
    intro k la n h0 hk
    have e0 := h (Int.toNat (k * 9 + 0)) (by omega)
    have e1 := h (Int.toNat (k * 9 + 1)) (by omega)
    have e8 := h (Int.toNat (k * 9 + 8)) (by omega)
    have e9 := h (Int.toNat ((k - 1) * 9 + 8)) (by omega)
    unfold ctL
    rw [ih (k + 1) (F (Int.toNat (k * 9 + 1))) (n + 1) (by omega) (by omega), ih (k + 1) la n (by omega) (by omega)]
    simp only [ctP, e0, e1, e8, e9]
theorem ctV_in {F G : Nat → Int} {j cnt : Int} (h : ∀ i : Nat, (i : Int) < cnt * 9 → F i = G i) (hc : 1 ≤ cnt) : ctV F cnt j = ctV G cnt j := by
  unfold ctV
  rw [ctL_in h cnt.toNat 0 (-3) 0 (by omega) (by omega), h (Int.toNat ((cnt - 1) * 9 + 1)) (by omega)]
theorem ctV_B {F : Nat → Int} {j cnt : Int} (h : ∀ i, -1000000 ≤ F i ∧ F i ≤ 1000000) (hc : 1 ≤ cnt ∧ cnt ≤ 90) (ho : rwO F cnt) : 0 ≤ ctV F cnt j ∧ ctV F cnt j ≤ 1000000 := by
  unfold ctV
  have h1 := h (Int.toNat ((cnt - 1) * 9 + 1))
  have h2 := (ho (cnt - 1) (by omega) (by omega)).2
  have h3 := ctL_B F j cnt.toNat 0 (-3) 0
  split <;> omega
/-- what a throw counts by a judge -/
def thV (E : fEn) (t : fS) (j : Int) : Int := ctV (fRes E 90 (fun _ => 0) 0 t) (fNum E 90 0 t) j
theorem ctV_th {E : fEn} {t : fS} {j : Int} (F : Nat → Int) : ctV (fRes E 90 F 0 t) (fNum E 90 0 t) j = thV E t j := by
  have := fNum_B (E := E) 90 0 t
  exact ctV_in (fRes_in 90 F _ 0 t (by omega) (fun i hi => by omega)) (by omega)
theorem thV_B {E : fEn} {t : fS} {j : Int} (hE : gdE E) (ht : gdT 0 t) : 0 ≤ thV E t j ∧ thV E t j ≤ 1000000 := by
  have := fNum_B (E := E) 90 0 t
  exact ctV_B (fRes_B hE 90 _ 0 t (by omega) (by omega) ht (fun _ => by omega)) (by omega) (fRes_O hE 90 _ 0 t (by omega) (by omega) ht (fun k h0 h1 => by omega))
theorem rgL_in {F G P : Nat → Int} {cnt : Int} (h : ∀ i : Nat, (i : Int) < cnt * 9 → F i = G i) : ∀ (f : Nat) (r : Int), 0 ≤ r → r + f < cnt → rgL F P f r = rgL G P f r := by
  intro f
  induction f with
  | zero => intro r h0 hr; rfl
  | succ f ih =>
    intro r h0 hr
    unfold rgL
    rw [h (Int.toNat ((r + 1) * 9 + 1)) (by omega), ih (r + 1) (by omega) (by omega)]
theorem rgV_in {F G P : Nat → Int} {cnt many : Int} (h : ∀ i : Nat, (i : Int) < cnt * 9 → F i = G i) (hm : 0 ≤ many) : rgV F P cnt many = rgV G P cnt many := by
  unfold rgV
  split
  · rfl
  · exact rgL_in h _ 0 (by omega) (by omega)
/-- whether a throw's touches are at places told -/
def rgT (E : fEn) (t : fS) (P : Nat → Int) (many : Int) : Int := rgV (fRes E 90 (fun _ => 0) 0 t) P (fNum E 90 0 t) many
theorem rgV_th {E : fEn} {t : fS} {P : Nat → Int} {many : Int} (F : Nat → Int) (hm : 0 ≤ many) : rgV (fRes E 90 F 0 t) P (fNum E 90 0 t) many = rgT E t P many :=
  rgV_in (fRes_in 90 F _ 0 t (by omega) (fun i hi => by omega)) hm
/-- folds over a grid -/
def gIn {α : Type} (f : Int → α → α) : Nat → Int → α → α
  | 0, _, a => a
  | k + 1, sl, a => gIn f k (sl + 1) (f sl a)
def gOut {α : Type} (f : Int → Int → α → α) (n : Int) (w : Nat) : Nat → Int → α → α
  | 0, _, a => a
  | k + 1, sp, a => gOut f n w k (sp + 1) (gIn (f sp) w n a)
theorem gIn_go {α : Type} {f : Int → α → α} {z sl : Int} {a : α} (h : sl ≤ z) : gIn f (z + 1 - sl).toNat sl a = gIn f (z + 1 - (sl + 1)).toNat (sl + 1) (f sl a) := by
  rw [show (z + 1 - sl).toNat = (z + 1 - (sl + 1)).toNat + 1 by omega, gIn]
theorem gIn_end {α : Type} {f : Int → α → α} {z sl : Int} {a : α} (h : z < sl) : gIn f (z + 1 - sl).toNat sl a = a := by
  rw [show (z + 1 - sl).toNat = 0 by omega, gIn]
theorem gOut_go {α : Type} {f : Int → Int → α → α} {n z sp : Int} {w : Nat} {a : α} (h : sp ≤ z) : gOut f n w (z + 1 - sp).toNat sp a = gOut f n w (z + 1 - (sp + 1)).toNat (sp + 1) (gIn (f sp) w n a) := by
  rw [show (z + 1 - sp).toNat = (z + 1 - (sp + 1)).toNat + 1 by omega, gOut]
theorem gOut_end {α : Type} {f : Int → Int → α → α} {n z sp : Int} {w : Nat} {a : α} (h : z < sp) : gOut f n w (z + 1 - sp).toNat sp a = a := by
  rw [show (z + 1 - sp).toNat = 0 by omega, gOut]
end MF
