section MG
abbrev tA (sp gf sl gs : Int) : fS := (0, sp, gf, sl, gs, 0)
theorem gdT_A {sp gf sl gs : Int} (h1 : 1 ≤ sp ∧ sp ≤ 300) (h2 : 1 ≤ gf ∧ gf ≤ 99) (h3 : 0 ≤ sl ∧ sl ≤ 45) (h4 : 0 ≤ gs ∧ gs ≤ 99) : gdT 0 (tA sp gf sl gs) := by
  refine ⟨?_, ?_, ?_, ?_, ?_, ?_⟩ <;> dsimp only <;> omega
/-- counting throws that count so many -/
def htF (E : fEn) (gf gs j m sp sl a : Int) : Int := if m ≤ thV E (tA sp gf sl gs) j then a + 1 else a
theorem htF_t {E : fEn} {gf gs j m sp sl a : Int} (h : m ≤ thV E (tA sp gf sl gs) j) : htF E gf gs j m sp sl a = a + 1 := if_pos h
theorem htF_f {E : fEn} {gf gs j m sp sl a : Int} (h : ¬ m ≤ thV E (tA sp gf sl gs) j) : htF E gf gs j m sp sl a = a := if_neg h
def htV (E : fEn) (gf gs j m v dv n dn : Int) : Int := gOut (htF E gf gs j m) n (dn + 1).toNat (dv + 1).toNat v 0
theorem gIn_cnt {f : Int → Int → Int} (h : ∀ s a, a ≤ f s a ∧ f s a ≤ a + 1) : ∀ (k : Nat) (s a : Int), a ≤ gIn f k s a ∧ gIn f k s a ≤ a + k := by
  intro k
  induction k with
  | zero => intro s a; simp [gIn]
  | succ k ih => intro s a; unfold gIn; have := ih (s + 1) (f s a); have := h s a; omega
theorem gOut_cnt {f : Int → Int → Int → Int} (h : ∀ p s a, a ≤ f p s a ∧ f p s a ≤ a + 1) (n : Int) (w : Nat) : ∀ (k : Nat) (p a : Int), a ≤ gOut f n w k p a ∧ gOut f n w k p a ≤ a + k * w := by
  intro k
  induction k with
  | zero => intro p a; simp [gOut]
  | succ k ih =>
    intro p a
    unfold gOut
    have h1 := ih (p + 1) (gIn (f p) w n a)
    have h2 := gIn_cnt (f := f p) (h p) w n a
    have e : ((k + 1 : Nat) : Int) * (w : Int) = (k : Int) * w + w := by rw [Int.natCast_succ, Int.add_mul, Int.one_mul]
    rw [e]
    omega
theorem htV_B {E : fEn} {gf gs j m v dv n dn : Int} (h1 : 0 ≤ dv) (h2 : 0 ≤ dn) : 0 ≤ htV E gf gs j m v dv n dn ∧ htV E gf gs j m v dv n dn ≤ (dv + 1) * (dn + 1) := by
  have := gOut_cnt (f := htF E gf gs j m) (fun p s a => by unfold htF; split <;> omega) n (dn + 1).toNat (dv + 1).toNat v 0
  have e1 : (((dv + 1).toNat : Nat) : Int) = dv + 1 := by omega
  have e2 : (((dn + 1).toNat : Nat) : Int) = dn + 1 := by omega
  rw [e1, e2] at this
  unfold htV
  omega
/-- the best throw -/
def bsF (E : fEn) (gf gs j sp sl : Int) (a : Int × Int × Int) : Int × Int × Int := if a.1 < thV E (tA sp gf sl gs) j then (thV E (tA sp gf sl gs) j, sp, sl) else a
theorem bsF_t {E : fEn} {gf gs j sp sl : Int} {a : Int × Int × Int} (h : a.1 < thV E (tA sp gf sl gs) j) : bsF E gf gs j sp sl a = (thV E (tA sp gf sl gs) j, sp, sl) := if_pos h
theorem bsF_f {E : fEn} {gf gs j sp sl : Int} {a : Int × Int × Int} (h : ¬ a.1 < thV E (tA sp gf sl gs) j) : bsF E gf gs j sp sl a = a := if_neg h
def bsV (E : fEn) (gf gs j v dv n dn : Int) : Int × Int × Int := gOut (bsF E gf gs j) n (dn + 1).toNat (dv + 1).toNat v (-1, v, n)
/-- throws whose touches are at places told -/
def rdF (E : fEn) (gf gs : Int) (P : Nat → Int) (m sp sl : Int) (a : Int × Int × Int) : Int × Int × Int := if rgT E (tA sp gf sl gs) P m = 0 then a else (a.1 + 1, (if a.1 = 0 then sp else a.2.1), (if a.1 = 0 then sl else a.2.2))
theorem rdF_t {E : fEn} {gf gs : Int} {P : Nat → Int} {m sp sl : Int} {a : Int × Int × Int} (h : ¬ rgT E (tA sp gf sl gs) P m = 0) : rdF E gf gs P m sp sl a = (a.1 + 1, (if a.1 = 0 then sp else a.2.1), (if a.1 = 0 then sl else a.2.2)) := if_neg h
theorem rdF_f {E : fEn} {gf gs : Int} {P : Nat → Int} {m sp sl : Int} {a : Int × Int × Int} (h : rgT E (tA sp gf sl gs) P m = 0) : rdF E gf gs P m sp sl a = a := if_pos h
def rdV (E : fEn) (gf gs : Int) (P : Nat → Int) (m v dv n dn : Int) : Int × Int × Int := gOut (rdF E gf gs P m) n (dn + 1).toNat (dv + 1).toNat v (0, -9, -9)
/-- throws that end there -/
def teF (E : fEn) (gf gs b1 b2 sp sl a : Int) : Int := if b1 ≤ thV E (tA sp gf sl gs) 4 ∧ thV E (tA sp gf sl gs) 4 ≤ b2 then a + 1 else a
theorem teF_t {E : fEn} {gf gs b1 b2 sp sl a : Int} (h : b1 ≤ thV E (tA sp gf sl gs) 4 ∧ thV E (tA sp gf sl gs) 4 ≤ b2) : teF E gf gs b1 b2 sp sl a = a + 1 := if_pos h
theorem teF_f {E : fEn} {gf gs b1 b2 sp sl a : Int} (h : ¬ (b1 ≤ thV E (tA sp gf sl gs) 4 ∧ thV E (tA sp gf sl gs) 4 ≤ b2)) : teF E gf gs b1 b2 sp sl a = a := if_neg h
def teV (E : fEn) (gf gs b1 b2 v dv n dn : Int) : Int := gOut (teF E gf gs b1 b2) n (dn + 1).toNat (dv + 1).toNat v 0
/-- the best shift -/
abbrev enS (E : fEn) (b : Int) : fEn := (E.1, E.2.1, (b, E.2.2.2))
def whF (E : fEn) (t : fS) (j b : Int) (a : Int × Int) : Int × Int := if a.1 < thV (enS E b) t j then (thV (enS E b) t j, b) else a
theorem whF_t {E : fEn} {t : fS} {j b : Int} {a : Int × Int} (h : a.1 < thV (enS E b) t j) : whF E t j b a = (thV (enS E b) t j, b) := if_pos h
theorem whF_f {E : fEn} {t : fS} {j b : Int} {a : Int × Int} (h : ¬ a.1 < thV (enS E b) t j) : whF E t j b a = a := if_neg h
def whV (E : fEn) (t : fS) (j wc : Int) : Int × Int := gIn (whF E t j) wc.toNat 0 (-1, 0)
theorem gIn_goW {α : Type} {f : Int → α → α} {z sl : Int} {a : α} (h : sl < z) : gIn f (z - sl).toNat sl a = gIn f (z - (sl + 1)).toNat (sl + 1) (f sl a) := by
  rw [show (z - sl).toNat = (z - (sl + 1)).toNat + 1 by omega, gIn]
theorem gIn_endW {α : Type} {f : Int → α → α} {z sl : Int} {a : α} (h : z ≤ sl) : gIn f (z - sl).toNat sl a = a := by
  rw [show (z - sl).toNat = 0 by omega, gIn]
/-- the least speed that doesn't sink -/
def lnL (l1 wt wd fa ti : Int) : Nat → Int → Int
  | 0, _ => -9
  | k + 1, sp => if fSk l1 wt wd sp fa ti then lnL l1 wt wd fa ti k (sp + 1) else sp
theorem lnL_t {l1 wt wd fa ti sp : Int} (h : sp ≤ 300) (hs : fSk l1 wt wd sp fa ti) : lnL l1 wt wd fa ti (301 - sp).toNat sp = lnL l1 wt wd fa ti (301 - (sp + 1)).toNat (sp + 1) := by
  rw [show (301 - sp).toNat = (301 - (sp + 1)).toNat + 1 by omega, lnL, if_pos hs]
theorem lnL_f {l1 wt wd fa ti sp : Int} (h : sp ≤ 300) (hs : ¬ fSk l1 wt wd sp fa ti) : lnL l1 wt wd fa ti (301 - sp).toNat sp = sp := by
  rw [show (301 - sp).toNat = (301 - (sp + 1)).toNat + 1 by omega, lnL, if_neg hs]
end MG
