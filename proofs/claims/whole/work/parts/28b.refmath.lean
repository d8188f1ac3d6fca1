section MRH
/-- a row with zeros from a place on; a row with another put in -/
def flT (F : Nat → Int) (b n : Int) : Nat → Int := fun i => if b ≤ (i : Int) ∧ (i : Int) < b + n then 0 else F i
theorem flT_0 (F : Nat → Int) (b : Int) : F = flT F b 0 := by
  funext i
  simp only [flT]
  rw [if_neg (by omega)]
theorem flT_go {F : Nat → Int} {b n : Int} (hb : 0 ≤ b) (h : 0 ≤ n) : updI (flT F b n) (Int.toNat (b + n)) 0 = flT F b (n + 1) := by
  funext i
  simp only [flT, updI]
  by_cases a : i = (b + n).toNat
  · rw [if_pos a, if_pos (by omega)]
  · rw [if_neg a]
    by_cases c : b ≤ (i : Int) ∧ (i : Int) < b + n
    · rw [if_pos c, if_pos (by omega)]
    · rw [if_neg c, if_neg (by omega)]
def ptT (F H : Nat → Int) (b n : Int) : Nat → Int := fun i => if b ≤ (i : Int) ∧ (i : Int) < b + n then H (Int.toNat ((i : Int) - b)) else F i
theorem ptT_0 (F H : Nat → Int) (b : Int) : F = ptT F H b 0 := by
  funext i
  simp only [ptT]
  rw [if_neg (by omega)]
theorem ptT_go {F H : Nat → Int} {b n : Int} (hb : 0 ≤ b) (h : 0 ≤ n) : updI (ptT F H b n) (Int.toNat (b + n)) (H (Int.toNat n)) = ptT F H b (n + 1) := by
  funext i
  simp only [ptT, updI]
  by_cases a : i = (b + n).toNat
  · rw [if_pos a, if_pos (by omega), show Int.toNat ((i : Int) - b) = Int.toNat n by omega]
  · rw [if_neg a]
    by_cases c : b ≤ (i : Int) ∧ (i : Int) < b + n
    · rw [if_pos c, if_pos (by omega)]
    · rw [if_neg c, if_neg (by omega)]
theorem dig_c (x : Int) : (48 ≤ x ∧ x ≤ 57 ∧ dig x = x - 48) ∨ (¬ (48 ≤ x ∧ x ≤ 57) ∧ dig x = -1) := by
  unfold dig
  split
  · exact Or.inl ⟨by omega, by omega, rfl⟩
  · exact Or.inr ⟨by assumption, rfl⟩
/-- what is read of a law's text, where untold is -9 -/
abbrev vrR (V N T : Nat → Int) (j : Nat) : Prop := (V j = -9 ∧ N j = gAF j ∧ T j = 0) ∨ (0 ≤ V j ∧ V j = N j ∧ ¬ T j = 0 ∧ V j ≤ 99)
theorem vr_go {V N T : Nat → Int} {A : Nat} {v w : Int} (hvw : v = w) (h0 : 0 ≤ v ∧ v ≤ 99) (hT : T A = 0) (hV : ∀ j : Nat, j < 6 → vrR V N T j) : ∀ j : Nat, j < 6 → vrR (updI V A v) (updI N A w) (updI T A (T A + 1)) j := by
  intro j hj
  simp only [vrR, updI]
  by_cases a : j = A
  · rw [if_pos a, if_pos a, if_pos a, hT]
    exact Or.inr ⟨h0.1, hvw, by omega, h0.2⟩
  · rw [if_neg a, if_neg a, if_neg a]
    exact hV j hj
theorem prs_1B {c : Int → Int} {le : Int} : ∀ (f : Nat) (a it : Int) (N T : Nat → Int), -1 ≤ a → (prs c le f a it N T).1 ≤ a + 4 * f := by
  intro f
  induction f with
  | zero => intro a it N T h; simp [prs]
  | succ f ih =>
    intro a it N T h
    have hA := itm_A (c := c) (at_ := a) (N := N) (T := T)
    unfold prs
    split
    · dsimp only; omega
    · split
      · dsimp only; omega
      · split
        · dsimp only; omega
        · have := ih ((itm c a N T).2.1 + 1) (it + 1) (itm c a N T).2.2.1 (itm c a N T).2.2.2 (by omega)
          omega
theorem txV_1B (Fs : Nat → Int) (i1 m1 : Int) : (txV Fs i1 m1).1 ≤ 24 := by
  have := prs_1B (c := lcd Fs i1 m1) (le := m1) 6 0 0 gAF (fun _ => 0) (by omega)
  unfold txV
  omega
/-- the sum of the best worths, as steps of a worth -/
theorem bs_step {a w t x y : Int} : a + w * (y - x) + (w + 1 - 1) * (t - y) = a + (w - 1) * (t - x) + (t - x) := by
  have e1 : w * (y - x) = w * y - w * x := Int.mul_sub w y x
  have e2 : (w + 1 - 1) * (t - y) = w * t - w * y := by rw [show w + 1 - 1 = w by omega]; exact Int.mul_sub w t y
  have e3 : (w - 1) * (t - x) = w * (t - x) - 1 * (t - x) := Int.sub_mul w 1 (t - x)
  have e4 : w * (t - x) = w * t - w * x := Int.mul_sub w t x
  omega
end MRH
