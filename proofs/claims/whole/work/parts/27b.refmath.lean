section MRG
/-- a row taken from another up to a place -/
def cpT (F G : Nat → Int) (k : Int) : Nat → Int := fun i => if (i : Int) < k then F i else G i
theorem cpT_0 (F G : Nat → Int) : G = cpT F G 0 := by
  funext i
  simp only [cpT]
  rw [if_neg (by omega)]
theorem cpT_go {F G : Nat → Int} {k : Int} (h : 0 ≤ k) : updI (cpT F G k) (Int.toNat k) (F (Int.toNat k)) = cpT F G (k + 1) := by
  funext i
  simp only [cpT, updI]
  by_cases a : i = k.toNat
  · rw [if_pos a, if_pos (by omega), a]
  · rw [if_neg a]
    by_cases b : (i : Int) < k
    · rw [if_pos b, if_pos (by omega)]
    · rw [if_neg b, if_neg (by omega)]
theorem cpT_th {E : fEn} {t : fS} (F G : Nat → Int) : cpT (fRes E 90 F 0 t) G (9 * fNum E 90 0 t) = fRes E 90 G 0 t := by
  funext i
  simp only [cpT]
  by_cases a : (i : Int) < 9 * fNum E 90 0 t
  · rw [if_pos a]; exact fRes_in 90 F G 0 t (by omega) (fun j hj => by omega) i (by omega)
  · rw [if_neg a]; exact (fRes_out 90 G 0 t (by omega) i (Or.inr (by omega))).symm
theorem cpT_B {F G : Nat → Int} {k M : Int} (hF : ∀ i, -M ≤ F i ∧ F i ≤ M) (hG : ∀ i, -M ≤ G i ∧ G i ≤ M) : ∀ i, -M ≤ cpT F G k i ∧ cpT F G k i ≤ M := by
  intro i
  simp only [cpT]
  split
  · exact hF i
  · exact hG i
theorem cpT_in {F G : Nat → Int} {k : Int} {i : Nat} (h : (i : Int) < k) : cpT F G k i = F i := by
  simp only [cpT]
  rw [if_pos h]
theorem cpT_O {F G : Nat → Int} {n : Int} (h : rwO F n) : rwO (cpT F G (9 * n)) n := by
  intro k h0 hk
  rw [cpT_in (by omega), cpT_in (by omega)]
  exact h k h0 hk
/-- folds that begin below all counts -/
theorem bs_ref {E : fEn} {gf gs j v dv n dn : Int} (hE : gdE E) (hg : (0 ≤ dv ∧ dv ≤ 20 ∧ 0 ≤ dn ∧ dn ≤ 10 ∧ 1 ≤ v ∧ v ≤ 300 - dv ∧ 0 ≤ n ∧ n ≤ 45 - dn)) (h1 : 1 ≤ gf ∧ gf ≤ 99) (h2 : 0 ≤ gs ∧ gs ≤ 99) : gOut (bsF E gf gs j) n (dn + 1).toNat (dv + 1).toNat v (-9, 0, 0) = bsV E gf gs j v dv n dn := by
  have hT : gdT 0 (tA v gf n gs) := gdT_A (by omega) h1 (by omega) h2
  have hB := thV_B (j := j) hE hT
  unfold bsV
  rw [show (dv + 1).toNat = dv.toNat + 1 by omega, show (dn + 1).toNat = dn.toNat + 1 by omega]
  simp only [gOut, gIn]
  rw [bsF_t (a := (-9, 0, 0)) (show (-9 : Int) < _ by omega), bsF_t (a := (-1, v, n)) (show (-1 : Int) < _ by omega)]
theorem wh_ref {E : fEn} {gf gs j v n wc : Int} (hE : gdE (enS E 0)) (hw : 1 ≤ wc) (hv : 1 ≤ v ∧ v ≤ 300) (hn : 0 ≤ n ∧ n ≤ 45) (h1 : 1 ≤ gf ∧ gf ≤ 99) (h2 : 0 ≤ gs ∧ gs ≤ 99) : gIn (whF E (tA v gf n gs) j) wc.toNat 0 (-9, 0) = whV E (tA v gf n gs) j wc := by
  have hT : gdT 0 (tA v gf n gs) := gdT_A hv h1 hn h2
  have hB := thV_B (j := j) hE hT
  unfold whV
  rw [show wc.toNat = (wc - 1).toNat + 1 by omega]
  simp only [gIn]
  rw [whF_t (a := (-9, 0)) (show (-9 : Int) < _ by omega), whF_t (a := (-1, 0)) (show (-1 : Int) < _ by omega)]
end MRG
