section SR
/-- a sheet's cells here and there -/
def shA (Fs Sh : Nat → Int) (k ln : Int) : Prop := ∀ i : Int, 0 ≤ i → i < ln → Fs (Int.toNat i) = Sh (Int.toNat (60 * k + i))
theorem shA_at {Fs Sh : Nat → Int} {k ln i1 a : Int} (h : shA Fs Sh k ln) (h0 : 0 ≤ i1 + a) (h1 : i1 + a < ln) : Fs (Int.toNat (i1 + a)) = Sh (Int.toNat (60 * k + i1 + a)) := by
  rw [h (i1 + a) h0 h1, show 60 * k + (i1 + a) = 60 * k + i1 + a by omega]
theorem lcd_eq {Fs Sh : Nat → Int} {k ln i1 m1 : Int} (h : shA Fs Sh k ln) (h0 : 0 ≤ i1) (h1 : i1 + m1 ≤ ln) : lcd Fs i1 m1 = lcd Sh (60 * k + i1) m1 := by
  funext a
  unfold lcd
  by_cases q : 0 ≤ a ∧ a < m1
  · rw [if_pos q, if_pos q]
    exact shA_at h (by omega) (by omega)
  · rw [if_neg q, if_neg q]
theorem txV_eq {Fs Sh : Nat → Int} {k ln i1 m1 : Int} (h : shA Fs Sh k ln) (h0 : 0 ≤ i1) (h1 : i1 + m1 ≤ ln) : txV Fs i1 m1 = txV Sh (60 * k + i1) m1 := by
  unfold txV
  rw [lcd_eq h h0 h1]
theorem tkI_eq {G Fs Sh : Nat → Int} {k ln i1 m1 : Int} (h : shA Fs Sh k ln) (h0 : 0 ≤ i1) (h1 : i1 + m1 ≤ ln) : tkI G Fs i1 m1 = tkI G Sh (60 * k + i1) m1 := by
  funext c
  unfold tkI
  by_cases q : (c : Int) < m1
  · rw [if_pos q, if_pos q]
    exact shA_at h (by omega) (by omega)
  · rw [if_neg q, if_neg q]
theorem shA_put {Fs Sh : Nat → Int} {k ln i1 v : Int} (h : shA Fs Sh k ln) (hk : 0 ≤ k) (h0 : 0 ≤ i1) : shA (updI Fs (Int.toNat i1) v) (updI Sh (Int.toNat (60 * k + i1)) v) k ln := by
  intro i hi hl
  simp only [updI]
  by_cases q : i = i1
  · rw [if_pos (by omega), if_pos (by omega)]
  · rw [if_neg (by omega), if_neg (by omega)]
    exact h i hi hl
theorem shA_put2 {Fs Sh : Nat → Int} {k k2 ln i1 v : Int} (h : shA Fs Sh k2 ln) (hk : 0 ≤ k ∧ 0 ≤ k2 ∧ ¬ k2 = k) (h0 : 0 ≤ i1 ∧ i1 < 60) (hl2 : ln ≤ 60) : shA Fs (updI Sh (Int.toNat (60 * k + i1)) v) k2 ln := by
  intro i hi hl
  simp only [updI]
  rw [if_neg (by omega)]
  exact h i hi hl
theorem shA_new {Fs Sh : Nat → Int} {k m1 : Int} (hk : 0 ≤ k) (hm : m1 ≤ 60) : shA (fillI Fs 60 0) (flT Sh (60 * k) m1) k m1 := by
  intro i hi hl
  simp only [fillI, flT]
  rw [if_pos (by omega), if_pos (by omega)]
theorem shA_new2 {Fs Sh : Nat → Int} {k k2 m1 ln : Int} (h : shA Fs Sh k2 ln) (hk : 0 ≤ k ∧ 0 ≤ k2 ∧ ¬ k2 = k) (hm : m1 ≤ 60) (hl2 : ln ≤ 60) : shA Fs (flT Sh (60 * k) m1) k2 ln := by
  intro i hi hl
  simp only [flT]
  rw [if_neg (by omega)]
  exact h i hi hl
theorem shA_copy {Fs Fs2 Sh Hd : Nat → Int} {k k2 ln ln2 i1 j1 m1 : Int} (h : shA Fs Sh k ln) (h2 : shA Fs2 Sh k2 ln2) (hk : 0 ≤ k ∧ 0 ≤ k2) (hi1 : 0 ≤ i1 ∧ i1 + m1 ≤ ln) (hj1 : 0 ≤ j1 ∧ j1 + m1 ≤ ln2) (hm : 0 ≤ m1) : shA (cpyI Fs Fs2 (Int.toNat i1) (Int.toNat j1) (Int.toNat m1)) (ptT Sh (tkI Hd Sh (60 * k + i1) m1) (60 * k2 + j1) m1) k2 ln2 := by
  intro i hi hl
  simp only [cpyI, ptT, tkI]
  by_cases q : j1 ≤ i ∧ i < j1 + m1
  · rw [if_pos (by omega), if_pos (by omega), if_pos (by omega)]
    have e := h (i1 + (i - j1)) (by omega) (by omega)
    rw [show Int.toNat i1 + (Int.toNat i - Int.toNat j1) = Int.toNat (i1 + (i - j1)) by omega, e]
    congr 1
    omega
  · rw [if_neg (by omega), if_neg (by omega)]
    exact h2 i hi hl
theorem shA_copy2 {F Sh H : Nat → Int} {k k2 ln j1 m1 : Int} (h : shA F Sh k ln) (hk : 0 ≤ k ∧ 0 ≤ k2 ∧ ¬ k = k2) (hl2 : ln ≤ 60) (hj1 : 0 ≤ j1 ∧ j1 + m1 ≤ 60) : shA F (ptT Sh H (60 * k2 + j1) m1) k ln := by
  intro i hi hl
  simp only [ptT]
  rw [if_neg (by omega)]
  exact h i hi hl
end SR
