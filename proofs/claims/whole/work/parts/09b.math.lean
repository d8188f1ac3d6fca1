section MA
theorem mulB {a b A B : Int} (ha : 0 ≤ a ∧ a ≤ A) (hb : 0 ≤ b ∧ b ≤ B) : 0 ≤ a * b ∧ a * b ≤ A * B :=
  ⟨Int.mul_nonneg ha.1 hb.1, Int.mul_le_mul ha.2 hb.2 hb.1 (Int.le_trans ha.1 ha.2)⟩
theorem divB {a b A : Int} (ha : 0 ≤ a ∧ a ≤ A) (hb : 0 ≤ b) : 0 ≤ a / b ∧ a / b ≤ A :=
  ⟨Int.ediv_nonneg ha.1 hb, Int.le_trans (Int.ediv_le_self b ha.1) ha.2⟩
theorem modB {a b : Int} (hb : 0 < b) : 0 ≤ a % b ∧ a % b < b := ⟨Int.emod_nonneg a (by omega), Int.emod_lt_of_pos a hb⟩
/-- does a touch sink -/
abbrev fSk (l1 wt wd sp fa ti : Int) : Prop := ti < 1 ∨ 45 < ti ∨ sp * wd * ti / (10 * l1) < wt * (fa + 10)
def fTk (l2 l6 rg sp ti : Int) : Int := if l6 < ti then sp * (l2 + ti + rg) / 50 + 1 else sp * (l2 + ti + rg) / 100 + 1
def fFl (l3 l6 fa ti : Int) : Int := if l6 < ti then fa else max 1 (fa * l3 / 100)
def fKd (l5 l6 ti fl : Int) : Int := if l6 < ti then 3 else if fl ≤ l5 then 2 else 1
def fSn (sn : Int) : Int := max 0 (sn - (sn / 10 + 1))
def fSl (l4 sl sn : Int) : Int := if sn < l4 then sl + (l4 - sn) / 5 else sl
/-- what a touch leaves in the row -/
def kpF (F : Nat → Int) (cnt kd xx sp fa sl sn ti tk bt : Int) : Nat → Int :=
  updI (updI (updI (updI (updI (updI (updI (updI (updI F (Int.toNat (cnt * 9 + 0)) kd) (Int.toNat (cnt * 9 + 1)) xx) (Int.toNat (cnt * 9 + 2)) sp) (Int.toNat (cnt * 9 + 3)) fa) (Int.toNat (cnt * 9 + 4)) sl) (Int.toNat (cnt * 9 + 5)) sn) (Int.toNat (cnt * 9 + 6)) ti) (Int.toNat (cnt * 9 + 7)) tk) (Int.toNat (cnt * 9 + 8)) bt
theorem fTk_B {l2 l6 rg sp ti : Int} (hp : 0 ≤ sp ∧ sp ≤ 300) (hq : 0 ≤ l2 + ti + rg ∧ l2 + ti + rg ≤ 104) : 1 ≤ fTk l2 l6 rg sp ti ∧ fTk l2 l6 rg sp ti ≤ 625 := by
  have q := mulB (a := sp) (b := l2 + ti + rg) hp hq
  unfold fTk
  split <;> omega
theorem fFl_B {l3 l6 fa ti : Int} (hf : 1 ≤ fa ∧ fa ≤ 99) (hl : 1 ≤ l3 ∧ l3 ≤ 99) : 1 ≤ fFl l3 l6 fa ti ∧ fFl l3 l6 fa ti ≤ 99 := by
  have q := mulB (a := fa) (b := l3) (A := 99) (B := 99) (by omega) (by omega)
  unfold fFl
  split <;> omega
/-- a throw's state: place, speed, fall, slant, spin, beat; what it flies in: the law, the stone, the waves -/
abbrev fS : Type := Int × Int × Int × Int × Int × Int
abbrev fEn : Type := (Int × Int × Int × Int × Int × Int) × (Int × Int × Int) × (Int × Int × (Nat → Int))
def fTi (E : fEn) (t : fS) : Int := t.2.2.2.1 + E.2.2.2.2 (Int.toNat ((t.1 + E.2.2.1) % E.2.2.2.1))
abbrev fSkT (E : fEn) (t : fS) : Prop := fSk E.1.1 E.2.1.1 E.2.1.2.1 t.2.1 t.2.2.1 (fTi E t)
def fTkT (E : fEn) (t : fS) : Int := fTk E.1.2.1 E.1.2.2.2.2.2 E.2.1.2.2 t.2.1 (fTi E t)
def fFlT (E : fEn) (t : fS) : Int := fFl E.1.2.2.1 E.1.2.2.2.2.2 t.2.2.1 (fTi E t)
def fSpT (E : fEn) (t : fS) : Int := max 0 (t.2.1 - fTkT E t)
abbrev fStop (E : fEn) (t : fS) : Prop := fSkT E t ∨ fSpT E t = 0
def fNx (E : fEn) (t : fS) : fS := (t.1 + fSpT E t * fFlT E t / 20, fSpT E t, fFlT E t, fSl E.1.2.2.2.1 t.2.2.2.1 (fSn t.2.2.2.2.1), fSn t.2.2.2.2.1, t.2.2.2.2.2 + fFlT E t / 5)
def fPut (E : fEn) (F : Nat → Int) (cnt : Int) (t : fS) : Nat → Int :=
  if fSkT E t then kpF F cnt 0 t.1 t.2.1 t.2.2.1 t.2.2.2.1 t.2.2.2.2.1 (fTi E t) 0 t.2.2.2.2.2
  else kpF F cnt (fKd E.1.2.2.2.2.1 E.1.2.2.2.2.2 (fTi E t) (fFlT E t)) t.1 t.2.1 t.2.2.1 t.2.2.2.1 t.2.2.2.2.1 (fTi E t) (fTkT E t) t.2.2.2.2.2
def fRes (E : fEn) : Nat → (Nat → Int) → Int → fS → (Nat → Int)
  | 0, F, _, _ => F
  | n + 1, F, cnt, t => if fStop E t then fPut E F cnt t else fRes E n (fPut E F cnt t) (cnt + 1) (fNx E t)
def fNum (E : fEn) : Nat → Int → fS → Int
  | 0, cnt, _ => cnt
  | n + 1, cnt, t => if fStop E t then cnt + 1 else fNum E n (cnt + 1) (fNx E t)
theorem toNat_step {k : Int} (h : k < 90) : (90 - k).toNat = (90 - (k + 1)).toNat + 1 := by omega
theorem fNum_stop {E : fEn} {k cnt : Int} {t : fS} (h : k < 90) (hs : fStop E t) : fNum E (90 - k).toNat cnt t = cnt + 1 := by
  rw [toNat_step h, fNum, if_pos hs]
theorem fNum_go {E : fEn} {k cnt : Int} {t : fS} (h : k < 90) (hs : ¬ fStop E t) : fNum E (90 - k).toNat cnt t = fNum E (90 - (k + 1)).toNat (cnt + 1) (fNx E t) := by
  rw [toNat_step h, fNum, if_neg hs]
theorem fRes_sunk {E : fEn} {k cnt : Int} {t : fS} {F : Nat → Int} (h : k < 90) (hs : fSkT E t) : fRes E (90 - k).toNat F cnt t = kpF F cnt 0 t.1 t.2.1 t.2.2.1 t.2.2.2.1 t.2.2.2.2.1 (fTi E t) 0 t.2.2.2.2.2 := by
  rw [toNat_step h, fRes, if_pos (Or.inl hs), fPut, if_pos hs]
theorem fRes_zero {E : fEn} {k cnt : Int} {t : fS} {F : Nat → Int} (h : k < 90) (hs : ¬ fSkT E t) (hz : fSpT E t = 0) : fRes E (90 - k).toNat F cnt t = kpF F cnt (fKd E.1.2.2.2.2.1 E.1.2.2.2.2.2 (fTi E t) (fFlT E t)) t.1 t.2.1 t.2.2.1 t.2.2.2.1 t.2.2.2.2.1 (fTi E t) (fTkT E t) t.2.2.2.2.2 := by
  rw [toNat_step h, fRes, if_pos (Or.inr hz), fPut, if_neg hs]
theorem fRes_go {E : fEn} {k cnt : Int} {t : fS} {F : Nat → Int} (h : k < 90) (hs : ¬ fSkT E t) (hz : ¬ fSpT E t = 0) : fRes E (90 - k).toNat F cnt t = fRes E (90 - (k + 1)).toNat (kpF F cnt (fKd E.1.2.2.2.2.1 E.1.2.2.2.2.2 (fTi E t) (fFlT E t)) t.1 t.2.1 t.2.2.1 t.2.2.2.1 t.2.2.2.2.1 (fTi E t) (fTkT E t) t.2.2.2.2.2) (cnt + 1) (fNx E t) := by
  rw [toNat_step h, fRes, if_neg (fun q => q.elim hs hz), fPut, if_neg hs]
end MA
