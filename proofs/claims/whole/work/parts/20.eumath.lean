section ME
/-- Euclid's way -/
def eu : Nat → Int → Int → Int
  | 0, a, _ => a
  | f + 1, a, b => if b = 0 then a else eu f b (a % b)
def gcV (a b : Int) : Int := eu (b.toNat + 1) a b
theorem eu_st : ∀ (f g : Nat) (a b : Int), 0 ≤ b → b.toNat < f → b.toNat < g → eu f a b = eu g a b := by
  intro f
  induction f with
  | zero => intro g a b h0 h1; omega
  | succ f ih =>
    intro g a b h0 h1 h2
    cases g with
    | zero => omega
    | succ g =>
      unfold eu
      split
      · rfl
      · have := modB (a := a) (b := b) (by omega)
        exact ih g b (a % b) this.1 (by omega) (by omega)
theorem gcV_0 (a : Int) : gcV a 0 = a := rfl
theorem gcV_go {a b : Int} (h : 0 < b) : gcV a b = gcV b (a % b) := by
  have hm := modB (a := a) (b := b) h
  unfold gcV
  rw [eu, if_neg (by omega)]
  exact eu_st _ _ _ _ hm.1 (by omega) (by omega)
theorem gcV_B : ∀ (k : Nat) (a b : Int), b.toNat ≤ k → 0 ≤ a → 0 ≤ b → (1 ≤ a ∨ 1 ≤ b) → 1 ≤ gcV a b ∧ (gcV a b ≤ a ∨ gcV a b ≤ b) := by
  intro k
  induction k with
  | zero =>
    intro a b hk ha hb h
    have e : b = 0 := by omega
    subst e
    rw [gcV_0]
    omega
  | succ k ih =>
    intro a b hk ha hb h
    by_cases e : b = 0
    · subst e
      rw [gcV_0]
      omega
    · have hm := modB (a := a) (b := b) (by omega)
      rw [gcV_go (by omega)]
      have := ih b (a % b) (by omega) hb hm.1 (Or.inl (by omega))
      have hr : a % b ≤ b := by omega
      omega
theorem eu_fast : ∀ (f : Nat) (a b : Int), 0 ≤ b → b < a → a * b < 2 ^ f → eu (f + 1) a b = gcV a b := by
  intro f
  induction f with
  | zero =>
    intro a b h0 h1 h2
    have e : b = 0 := by
      by_cases q : b = 0
      · exact q
      · have := Int.mul_le_mul (a := 1) (b := 1) (c := a) (d := b) (by omega) (by omega) (by omega) (by omega)
        rw [Int.pow_zero] at h2
        omega
    subst e
    rfl
  | succ f ih =>
    intro a b h0 h1 h2
    by_cases q : b = 0
    · subst q; rw [gcV_0, eu, if_pos rfl]
    · have hm := modB (a := a) (b := b) (by omega)
      rw [gcV_go (by omega), eu, if_neg q]
      refine ih b (a % b) hm.1 hm.2 ?_
      have hq : 1 ≤ a / b := by
        have := Int.mul_ediv_add_emod a b
        by_cases z : a / b ≤ 0
        · have : b * (a / b) ≤ 0 := Int.mul_nonpos_of_nonneg_of_nonpos (by omega) z
          omega
        · omega
      have e1 : a = b * (a / b) + a % b := (Int.mul_ediv_add_emod a b).symm
      have e2 : b * 1 ≤ b * (a / b) := Int.mul_le_mul_of_nonneg_left hq (by omega)
      have e3 : 2 * (a % b) ≤ a := by omega
      have e4 : b * (2 * (a % b)) ≤ b * a := Int.mul_le_mul_of_nonneg_left e3 (by omega)
      have e5 : b * (2 * (a % b)) = 2 * (b * (a % b)) := by rw [← Int.mul_assoc, Int.mul_comm b 2, Int.mul_assoc]
      have e6 : b * a = a * b := Int.mul_comm b a
      have e7 : (2 : Int) ^ (f + 1) = 2 * 2 ^ f := by rw [Int.pow_succ, Int.mul_comm]
      omega
theorem eu_200 {a b : Int} (ha : 0 ≤ a) (hb : 0 < b ∧ b < 4611686018427387904) : eu 200 a b = gcV a b := by
  have hm := modB (a := a) (b := b) hb.1
  rw [gcV_go hb.1, eu, if_neg (by omega)]
  refine eu_fast 198 b (a % b) hm.1 hm.2 ?_
  have h1 := mulB (a := b) (b := a % b) (A := 4611686018427387904) (B := 4611686018427387904) (by omega) (by omega)
  have h2 : (4611686018427387904 : Int) * 4611686018427387904 < 2 ^ 198 := by decide
  omega
theorem eu_go {k a b : Int} (h : k < 200) (hb : ¬ b = 0) : eu (200 - k).toNat a b = eu (200 - (k + 1)).toNat b (a % b) := by
  rw [show (200 - k).toNat = (200 - (k + 1)).toNat + 1 by omega, eu, if_neg hb]
theorem eu_end {k a b : Int} (h : k < 200) (hb : b = 0) : eu (200 - k).toNat a b = a := by
  rw [show (200 - k).toNat = (200 - (k + 1)).toNat + 1 by omega, eu, if_pos hb]
/-- a share in least terms -/
def shV (u d w : Int) : Int := if w = 0 then u / gcV u d else d / gcV u d
/-- powers -/
theorem pw_go {b : Int} {k : Int} (h : 0 ≤ k) : b ^ k.toNat * b = b ^ (k + 1).toNat := by
  rw [show (k + 1).toNat = k.toNat + 1 by omega, Int.pow_succ]
/-- cells taken from a sheet -/
def tkI (G Fs : Nat → Int) (i1 k : Int) : Nat → Int := fun c => if (c : Int) < k then Fs (Int.toNat (i1 + c)) else G c
theorem tkI_0 (G Fs : Nat → Int) (i1 : Int) : tkI G Fs i1 0 = G := by
  funext c
  simp only [tkI]
  rw [if_neg (by omega)]
theorem tkI_go {G Fs : Nat → Int} {i1 k : Int} (h : 0 ≤ k) : updI (tkI G Fs i1 k) (Int.toNat k) (Fs (Int.toNat (i1 + k))) = tkI G Fs i1 (k + 1) := by
  funext c
  simp only [tkI, updI]
  by_cases a : c = k.toNat
  · rw [if_pos a, if_pos (by omega), show i1 + (c : Int) = i1 + k by omega]
  · rw [if_neg a]
    by_cases b : (c : Int) < k
    · rw [if_pos b, if_pos (by omega)]
    · rw [if_neg b, if_neg (by omega)]
/-- a text depends on six numbers of its rows -/
theorem itm_in {c : Int → Int} {a : Int} {N N2 T T2 : Nat → Int} (hN : ∀ j, j < 6 → N j = N2 j) (hT : ∀ j, j < 6 → T j = T2 j) : (itm c a N T).1 = (itm c a N2 T2).1 ∧ (itm c a N T).2.1 = (itm c a N2 T2).2.1 ∧ (∀ j, j < 6 → (itm c a N T).2.2.1 j = (itm c a N2 T2).2.2.1 j) ∧ ∀ j, j < 6 → (itm c a N T).2.2.2 j = (itm c a N2 T2).2.2.2 j := by
  have hl := ltr_B (c a)
  have e := hT (Int.toNat (ltr (c a))) (by omega)
  by_cases h1 : ltr (c a) < 0 ∨ ¬ T (Int.toNat (ltr (c a))) = 0
  · have h1' : ltr (c a) < 0 ∨ ¬ T2 (Int.toNat (ltr (c a))) = 0 := by rw [← e]; exact h1
    rw [itm_c1 h1, itm_c1 h1']
    exact ⟨rfl, rfl, hN, hT⟩
  · have h1' : ¬ (ltr (c a) < 0 ∨ ¬ T2 (Int.toNat (ltr (c a))) = 0) := by rw [← e]; exact h1
    by_cases h2 : dig (c (a + 1)) = -1
    · rw [itm_c2 h1 h2, itm_c2 h1' h2]
      exact ⟨rfl, rfl, hN, hT⟩
    · by_cases h3 : lwf (ltr (c a)) (tld (dig (c (a + 1))) (dig (c (a + 1 + 1))))
      · rw [itm_c4 h1 h2 h3, itm_c4 h1' h2 h3]
        refine ⟨rfl, rfl, fun j hj => ?_, fun j hj => ?_⟩
        · simp only [updI]; rw [hN j hj]
        · simp only [updI]; rw [hT j hj, e]
      · rw [itm_c3 h1 h2 h3, itm_c3 h1' h2 h3]
        exact ⟨rfl, rfl, hN, hT⟩
theorem prs_in {c : Int → Int} {le : Int} : ∀ (f : Nat) (a it : Int) (N N2 T T2 : Nat → Int), (∀ j, j < 6 → N j = N2 j) → (∀ j, j < 6 → T j = T2 j) → (prs c le f a it N T).1 = (prs c le f a it N2 T2).1 ∧ (prs c le f a it N T).2.1 = (prs c le f a it N2 T2).2.1 ∧ ∀ j, j < 6 → (prs c le f a it N T).2.2.1 j = (prs c le f a it N2 T2).2.2.1 j := by
  intro f
  induction f with
  | zero => intro a it N N2 T T2 hN hT; exact ⟨rfl, rfl, hN⟩
  | succ f ih =>
    intro a it N N2 T T2 hN hT
    obtain ⟨e1, e2, e3, e4⟩ := itm_in (c := c) (a := a) hN hT
    simp only [prs, e1, e2]
    repeat' split
    · exact ⟨rfl, rfl, e3⟩
    · exact ⟨rfl, rfl, e3⟩
    · exact ⟨rfl, rfl, e3⟩
    · exact ih _ _ _ _ _ _ e3 e4
def txV (Fs : Nat → Int) (i1 m1 : Int) : fP := prs (lcd Fs i1 m1) m1 6 0 0 gAF (fun _ => 0)
theorem txV_in (Fs : Nat → Int) (i1 m1 : Int) (Nf Tf : Nat → Int) : (prs (lcd Fs i1 m1) m1 6 0 0 (cpyI gAF Nf 0 0 6) (fillI Tf 6 0)).1 = (txV Fs i1 m1).1 ∧ (prs (lcd Fs i1 m1) m1 6 0 0 (cpyI gAF Nf 0 0 6) (fillI Tf 6 0)).2.1 = (txV Fs i1 m1).2.1 ∧ ∀ j, j < 6 → (prs (lcd Fs i1 m1) m1 6 0 0 (cpyI gAF Nf 0 0 6) (fillI Tf 6 0)).2.2.1 j = (txV Fs i1 m1).2.2.1 j :=
  prs_in 6 0 0 _ _ _ _ (fun j hj => by simp only [cpyI]; rw [if_pos (by omega)]; congr 1; omega) (fun j hj => by simp only [fillI]; rw [if_pos (by omega)])
/-- beaches -/
def lbL (Ly Wo : Nat → Int) (w : Int) : Nat → Int
  | 0 => 0
  | k + 1 => lbL Ly Wo w k + (if Wo k < w then Ly k else 0)
theorem lbL_B {Ly Wo : Nat → Int} (w : Int) : ∀ n : Nat, (∀ i, i < n → 0 ≤ Ly i ∧ Ly i ≤ 9) → 0 ≤ lbL Ly Wo w n ∧ lbL Ly Wo w n ≤ 9 * n := by
  intro n
  induction n with
  | zero => intro h; simp [lbL]
  | succ n ih =>
    intro h
    have h1 := ih (fun i hi => h i (by omega))
    have h2 := h n (by omega)
    unfold lbL
    split <;> omega
theorem lbL_mono {Ly Wo : Nat → Int} {w w2 : Int} (hw : w ≤ w2) : ∀ n : Nat, (∀ i, i < n → 0 ≤ Ly i ∧ Ly i ≤ 9) → lbL Ly Wo w n ≤ lbL Ly Wo w2 n := by
  intro n
  induction n with
  | zero => intro h; simp [lbL]
  | succ n ih =>
    intro h
    have h1 := ih (fun i hi => h i (by omega))
    have h2 := h n (by omega)
    unfold lbL
    repeat' split
    all_goals omega
def bwL (g : Int → Int) (t : Int) : Nat → Int → Int → Int
  | 0, _, a => a
  | f + 1, w, a => bwL g t f (w + 1) (a + (t - g w))
theorem bwL_go {g : Int → Int} {t w a : Int} (h : w ≤ 99) : bwL g t (100 - w).toNat w a = bwL g t (100 - (w + 1)).toNat (w + 1) (a + (t - g w)) := by
  rw [show (100 - w).toNat = (100 - (w + 1)).toNat + 1 by omega, bwL]
theorem bwL_B {g : Int → Int} {t : Int} (h : ∀ w, 0 ≤ g w ∧ g w ≤ t) : ∀ (f : Nat) (w a : Int), a ≤ bwL g t f w a ∧ bwL g t f w a ≤ a + f * t := by
  intro f
  induction f with
  | zero => intro w a; simp [bwL]
  | succ f ih =>
    intro w a
    unfold bwL
    have h1 := ih (w + 1) (a + (t - g w))
    have h2 := h w
    have e : ((f + 1 : Nat) : Int) * t = f * t + t := by rw [Int.natCast_succ, Int.add_mul, Int.one_mul]
    rw [e]
    omega
def pwI (b k : Int) : Int := b ^ k.toNat
theorem pwI_mono {a b : Int} (h : 0 ≤ a ∧ a ≤ b) : ∀ n : Nat, 0 ≤ a ^ n ∧ a ^ n ≤ b ^ n := by
  intro n
  induction n with
  | zero => simp
  | succ n ih =>
    rw [Int.pow_succ, Int.pow_succ]
    have := mulB (a := a ^ n) (b := a) (A := b ^ n) (B := b) ih h
    omega
theorem pwI_pos {a : Int} (h : 1 ≤ a) : ∀ n : Nat, 1 ≤ a ^ n := by
  intro n
  induction n with
  | zero => simp
  | succ n ih =>
    rw [Int.pow_succ]
    have := Int.mul_le_mul (a := 1) (b := 1) (c := a ^ n) (d := a) ih h (by omega) (by omega)
    omega
theorem pwI_le {a : Int} (h : 1 ≤ a) {m n : Nat} (hm : m ≤ n) : a ^ m ≤ a ^ n := by
  obtain ⟨k, rfl⟩ := Nat.exists_eq_add_of_le hm
  rw [Int.pow_add]
  have h1 := pwI_pos h k
  have h2 := pwI_pos h m
  have := Int.mul_le_mul (a := a ^ m) (b := 1) (c := a ^ m) (d := a ^ k) (by omega) h1 (by omega) (by omega)
  omega
theorem pwI_72 {a k : Int} (h : 0 ≤ a ∧ a ≤ 72) (hk : 0 ≤ k ∧ k ≤ 6) : 0 ≤ pwI a k ∧ pwI a k ≤ 139314069504 := by
  have h1 := pwI_mono h k.toNat
  have h2 := pwI_le (a := 72) (by omega) (m := k.toNat) (n := 6) (by omega)
  have h3 : (72 : Int) ^ 6 = 139314069504 := by decide
  unfold pwI
  omega
/-- the best worth of n draws, over all ways -/
def bwV (Ly Wo : Nat → Int) (ns : Nat) (k : Int) : Int := bwL (fun w => pwI (lbL Ly Wo w ns) k) (pwI (lbL Ly Wo 100 ns) k) 99 1 0
end ME
section MH
theorem lbL_t {Ly Wo : Nat → Int} {w : Int} (k : Nat) (h : Wo k < w) : lbL Ly Wo w (k + 1) = lbL Ly Wo w k + Ly k := by
  rw [lbL, if_pos h]
theorem lbL_f {Ly Wo : Nat → Int} {w : Int} (k : Nat) (h : ¬ Wo k < w) : lbL Ly Wo w (k + 1) = lbL Ly Wo w k := by
  rw [lbL, if_neg h, Int.add_zero]
theorem pwI_go {b k : Int} (h : 0 ≤ k) : pwI b k * b = pwI b (k + 1) := pw_go h
theorem bwV_B {Ly Wo : Nat → Int} {ns : Nat} {k : Int} (hn : ns ≤ 8) (h : ∀ i, i < ns → 0 ≤ Ly i ∧ Ly i ≤ 9) (hk : 0 ≤ k ∧ k ≤ 6) (hW : ∀ i, i < ns → 0 ≤ Wo i ∧ Wo i ≤ 99) : 0 ≤ bwV Ly Wo ns k ∧ bwV Ly Wo ns k ≤ 99 * pwI (lbL Ly Wo 100 ns) k := by
  have ht : ∀ w, lbL Ly Wo w ns ≤ lbL Ly Wo 100 ns := by
    intro w
    by_cases q : w ≤ 100
    · exact lbL_mono q ns h
    · have e : ∀ n : Nat, n ≤ ns → lbL Ly Wo w n = lbL Ly Wo 100 n := by
        intro n
        induction n with
        | zero => intro _; rfl
        | succ n ih =>
          intro hn
          have := hW n (by omega)
          rw [lbL_t n (by omega), lbL_t n (by omega), ih (by omega)]
      rw [e ns (Nat.le_refl _)]
      exact Int.le_refl _
  have := bwL_B (g := fun w => pwI (lbL Ly Wo w ns) k) (t := pwI (lbL Ly Wo 100 ns) k) (fun w => pwI_mono ⟨(lbL_B w ns h).1, ht w⟩ k.toNat) 99 1 0
  unfold bwV
  omega
/-- hours -/
def hrF (Ly Wo : Nat → Int) (ns : Nat) (cost n : Int) (a : Int × Int) : Int × Int :=
  if n = 1 ∨ a.1 < bwV Ly Wo ns n * pwI (lbL Ly Wo 100 ns) (6 - n) - n * cost * pwI (lbL Ly Wo 100 ns) 6 then (bwV Ly Wo ns n * pwI (lbL Ly Wo 100 ns) (6 - n) - n * cost * pwI (lbL Ly Wo 100 ns) 6, n) else a
theorem hrF_t {Ly Wo : Nat → Int} {ns : Nat} {cost n : Int} {a : Int × Int} (h : n = 1 ∨ a.1 < bwV Ly Wo ns n * pwI (lbL Ly Wo 100 ns) (6 - n) - n * cost * pwI (lbL Ly Wo 100 ns) 6) : hrF Ly Wo ns cost n a = (bwV Ly Wo ns n * pwI (lbL Ly Wo 100 ns) (6 - n) - n * cost * pwI (lbL Ly Wo 100 ns) 6, n) := if_pos h
theorem hrF_f {Ly Wo : Nat → Int} {ns : Nat} {cost n : Int} {a : Int × Int} (h : ¬ (n = 1 ∨ a.1 < bwV Ly Wo ns n * pwI (lbL Ly Wo 100 ns) (6 - n) - n * cost * pwI (lbL Ly Wo 100 ns) 6)) : hrF Ly Wo ns cost n a = a := if_neg h
def hrV (Ly Wo : Nat → Int) (ns : Nat) (cost : Int) : Int × Int := gIn (hrF Ly Wo ns cost) 6 1 (0, 1)
theorem hr_B {Ly Wo : Nat → Int} {ns : Nat} {cost n : Int} (hn : ns ≤ 8) (h : ∀ i, i < ns → 0 ≤ Ly i ∧ Ly i ≤ 9) (hW : ∀ i, i < ns → 0 ≤ Wo i ∧ Wo i ≤ 99) (hk : 1 ≤ n ∧ n ≤ 6) (hc : 0 ≤ cost ∧ cost ≤ 99) : -100000000000000 ≤ bwV Ly Wo ns n * pwI (lbL Ly Wo 100 ns) (6 - n) - n * cost * pwI (lbL Ly Wo 100 ns) 6 ∧ bwV Ly Wo ns n * pwI (lbL Ly Wo 100 ns) (6 - n) - n * cost * pwI (lbL Ly Wo 100 ns) 6 ≤ 100000000000000 := by
  have h1 := bwV_B hn h (k := n) (by omega) hW
  have hl := lbL_B (Ly := Ly) (Wo := Wo) 100 ns h
  generalize lbL Ly Wo 100 ns = t at h1 hl ⊢
  have h6 := pwI_72 (a := t) (k := 6) (by omega) (by omega)
  have h5 := pwI_72 (a := t) (k := 6 - n) (by omega) (by omega)
  have e : pwI t n * pwI t (6 - n) = pwI t 6 := by
    unfold pwI
    rw [← Int.pow_add, show n.toNat + (6 - n).toNat = (6 : Int).toNat by omega]
  have h2 := mulB (a := bwV Ly Wo ns n) (b := pwI t (6 - n)) (A := 99 * pwI t n) (B := pwI t (6 - n)) h1 (by omega)
  rw [Int.mul_assoc, e] at h2
  have h3 := mulB (a := n) (b := cost) (A := 6) (B := 99) (by omega) hc
  have h4 := mulB (a := n * cost) (b := pwI t 6) (A := 594) (B := 139314069504) (by omega) h6
  omega
end MH
section MI
theorem prs_T {c : Int → Int} {le : Int} : ∀ (f : Nat) (a it : Int) (N T : Nat → Int), (∀ i, 0 ≤ T i ∧ T i ≤ 1) → ∀ i, 0 ≤ (prs c le f a it N T).2.2.2 i ∧ (prs c le f a it N T).2.2.2 i ≤ 1 := by
  intro f
  induction f with
  | zero => intro a it N T h i; exact h i
  | succ f ih =>
    intro a it N T h
    have hT := itm_T (c := c) (at_ := a) (N := N) h
    unfold prs
    repeat' split
    · exact hT
    · exact hT
    · exact hT
    · exact ih _ _ _ _ hT
end MI
