section MA
theorem mulB {a b A B : Int} (ha : 0 ≤ a ∧ a ≤ A) (hb : 0 ≤ b ∧ b ≤ B) : 0 ≤ a * b ∧ a * b ≤ A * B :=
  ⟨Int.mul_nonneg ha.1 hb.1, Int.mul_le_mul ha.2 hb.2 hb.1 (Int.le_trans ha.1 ha.2)⟩
theorem divB {a b A : Int} (ha : 0 ≤ a ∧ a ≤ A) (hb : 0 ≤ b) : 0 ≤ a / b ∧ a / b ≤ A :=
  ⟨Int.ediv_nonneg ha.1 hb, Int.le_trans (Int.ediv_le_self b ha.1) ha.2⟩
theorem modB {a b : Int} (hb : 0 < b) : 0 ≤ a % b ∧ a % b < b := ⟨Int.emod_nonneg a (by omega), Int.emod_lt_of_pos a hb⟩
/-- does a touch sink -/
abbrev fSk (l1 wt wd sp fa ti : Int) : Prop := ti < 1 ∨ 45 < ti ∨ sp * wd * ti / (10 * l1) < wt * (fa + 10)
def fTk (l2 l6 rg sp ti : Int) : Int := if l6 < ti then sp * (l2 + ti + rg) / 50 + 1 else sp * (l2 + ti + rg) / 100 + 1
def fFl (l3 l6 fa ti : Int) : Int := if l6 < ti then fa else max 1 (fa * l3 / 100)
def fKd (l5 l6 ti fl : Int) : Int := if l6 < ti then 3 else if fl ≤ l5 then 2 else 1
def fSn (sn : Int) : Int := max 0 (sn - (sn / 10 + 1))
def fSl (l4 sl sn : Int) : Int := if sn < l4 then sl + (l4 - sn) / 5 else sl
/-- what a touch leaves in the row -/
def kpF (F : Nat → Int) (cnt kd xx sp fa sl sn ti tk bt : Int) : Nat → Int :=
  updI (updI (updI (updI (updI (updI (updI (updI (updI F (Int.toNat (cnt * 9 + 0)) kd) (Int.toNat (cnt * 9 + 1)) xx) (Int.toNat (cnt * 9 + 2)) sp) (Int.toNat (cnt * 9 + 3)) fa) (Int.toNat (cnt * 9 + 4)) sl) (Int.toNat (cnt * 9 + 5)) sn) (Int.toNat (cnt * 9 + 6)) ti) (Int.toNat (cnt * 9 + 7)) tk) (Int.toNat (cnt * 9 + 8)) bt
theorem fTk_B {l2 l6 rg sp ti : Int} (hp : 0 ≤ sp ∧ sp ≤ 300) (hq : 0 ≤ l2 + ti + rg ∧ l2 + ti + rg ≤ 104) : 1 ≤ fTk l2 l6 rg sp ti ∧ fTk l2 l6 rg sp ti ≤ 625 := by
  have q := mulB (a := sp) (b := l2 + ti + rg) hp hq
  unfold fTk
  split <;> omega
theorem fFl_B {l3 l6 fa ti : Int} (hf : 1 ≤ fa ∧ fa ≤ 99) (hl : 1 ≤ l3 ∧ l3 ≤ 99) : 1 ≤ fFl l3 l6 fa ti ∧ fFl l3 l6 fa ti ≤ 99 := by
  have q := mulB (a := fa) (b := l3) (A := 99) (B := 99) (by omega) (by omega)
  unfold fFl
  split <;> omega
theorem fSn_B {sn : Int} (h : 0 ≤ sn ∧ sn ≤ 99) : 0 ≤ fSn sn ∧ fSn sn ≤ 99 := by
  unfold fSn
  omega
theorem fSl_B {nd sl sn : Int} (h : 0 ≤ sl) (hn : 0 ≤ nd ∧ nd ≤ 99) (hs : 0 ≤ sn) : sl ≤ fSl nd sl sn ∧ fSl nd sl sn ≤ sl + 20 := by
  unfold fSl
  split <;> omega
/-- a throw's state: place, speed, fall, slant, spin, beat; what it flies in: the law, the stone, the waves -/
abbrev fS : Type := Int × Int × Int × Int × Int × Int
abbrev fEn : Type := (Int × Int × Int × Int × Int × Int) × (Int × Int × Int) × (Int × Int × (Nat → Int))
def fTi (E : fEn) (t : fS) : Int := t.2.2.2.1 + E.2.2.2.2 (Int.toNat ((t.1 + E.2.2.1) % E.2.2.2.1))
abbrev fSkT (E : fEn) (t : fS) : Prop := fSk E.1.1 E.2.1.1 E.2.1.2.1 t.2.1 t.2.2.1 (fTi E t)
def fTkT (E : fEn) (t : fS) : Int := fTk E.1.2.1 E.1.2.2.2.2.2 E.2.1.2.2 t.2.1 (fTi E t)
def fFlT (E : fEn) (t : fS) : Int := fFl E.1.2.2.1 E.1.2.2.2.2.2 t.2.2.1 (fTi E t)
def fSpT (E : fEn) (t : fS) : Int := max 0 (t.2.1 - fTkT E t)
abbrev fStop (E : fEn) (t : fS) : Prop := fSkT E t ∨ fSpT E t = 0
def fNx (E : fEn) (t : fS) : fS := (t.1 + fSpT E t * fFlT E t / 20, fSpT E t, fFlT E t, fSl E.1.2.2.2.1 t.2.2.2.1 (fSn t.2.2.2.2.1), fSn t.2.2.2.2.1, t.2.2.2.2.2 + fFlT E t / 5)
def fPut (E : fEn) (F : Nat → Int) (cnt : Int) (t : fS) : Nat → Int :=
  if fSkT E t then kpF F cnt 0 t.1 t.2.1 t.2.2.1 t.2.2.2.1 t.2.2.2.2.1 (fTi E t) 0 t.2.2.2.2.2
  else kpF F cnt (fKd E.1.2.2.2.2.1 E.1.2.2.2.2.2 (fTi E t) (fFlT E t)) t.1 t.2.1 t.2.2.1 t.2.2.2.1 t.2.2.2.2.1 (fTi E t) (fTkT E t) t.2.2.2.2.2
def fRes (E : fEn) : Nat → (Nat → Int) → Int → fS → (Nat → Int)
  | 0, F, _, _ => F
  | n + 1, F, cnt, t => if fStop E t then fPut E F cnt t else fRes E n (fPut E F cnt t) (cnt + 1) (fNx E t)
def fNum (E : fEn) : Nat → Int → fS → Int
  | 0, cnt, _ => cnt
  | n + 1, cnt, t => if fStop E t then cnt + 1 else fNum E n (cnt + 1) (fNx E t)
theorem toNat_step {k : Int} (h : k < 90) : (90 - k).toNat = (90 - (k + 1)).toNat + 1 := by omega
theorem fNum_stop {E : fEn} {k cnt : Int} {t : fS} (h : k < 90) (hs : fStop E t) : fNum E (90 - k).toNat cnt t = cnt + 1 := by
  rw [toNat_step h, fNum, if_pos hs]
theorem fNum_go {E : fEn} {k cnt : Int} {t : fS} (h : k < 90) (hs : ¬ fStop E t) : fNum E (90 - k).toNat cnt t = fNum E (90 - (k + 1)).toNat (cnt + 1) (fNx E t) := by
  rw [toNat_step h, fNum, if_neg hs]
theorem fRes_sunk {E : fEn} {k cnt : Int} {t : fS} {F : Nat → Int} (h : k < 90) (hs : fSkT E t) : fRes E (90 - k).toNat F cnt t = kpF F cnt 0 t.1 t.2.1 t.2.2.1 t.2.2.2.1 t.2.2.2.2.1 (fTi E t) 0 t.2.2.2.2.2 := by
  rw [toNat_step h, fRes, if_pos (Or.inl hs), fPut, if_pos hs]
theorem fRes_zero {E : fEn} {k cnt : Int} {t : fS} {F : Nat → Int} (h : k < 90) (hs : ¬ fSkT E t) (hz : fSpT E t = 0) : fRes E (90 - k).toNat F cnt t = kpF F cnt (fKd E.1.2.2.2.2.1 E.1.2.2.2.2.2 (fTi E t) (fFlT E t)) t.1 t.2.1 t.2.2.1 t.2.2.2.1 t.2.2.2.2.1 (fTi E t) (fTkT E t) t.2.2.2.2.2 := by
  rw [toNat_step h, fRes, if_pos (Or.inr hz), fPut, if_neg hs]
theorem fRes_go {E : fEn} {k cnt : Int} {t : fS} {F : Nat → Int} (h : k < 90) (hs : ¬ fSkT E t) (hz : ¬ fSpT E t = 0) : fRes E (90 - k).toNat F cnt t = fRes E (90 - (k + 1)).toNat (kpF F cnt (fKd E.1.2.2.2.2.1 E.1.2.2.2.2.2 (fTi E t) (fFlT E t)) t.1 t.2.1 t.2.2.1 t.2.2.2.1 t.2.2.2.2.1 (fTi E t) (fTkT E t) t.2.2.2.2.2) (cnt + 1) (fNx E t) := by
  rw [toNat_step h, fRes, if_neg (fun q => q.elim hs hz), fPut, if_neg hs]
/-- a row filled up to a place; a number cut to a lane -/
def fillI (F : Nat → Int) (i v : Int) : Nat → Int := fun k => if (k : Int) < i then v else F k
theorem fillI_0 (F : Nat → Int) (v : Int) : fillI F 0 v = F := by
  funext k
  simp only [fillI]
  rw [if_neg (by omega)]
theorem fillI_step {F : Nat → Int} {i v : Int} (h : 0 ≤ i) : updI (fillI F i v) (Int.toNat i) v = fillI F (i + 1) v := by
  funext k
  simp only [fillI, updI]
  by_cases a : k = i.toNat
  · rw [if_pos a, if_pos (by omega)]
  · rw [if_neg a]
    by_cases b : (k : Int) < i
    · rw [if_pos b, if_pos (by omega)]
    · rw [if_neg b, if_neg (by omega)]
def cutL (la v : Int) : Int := if la = 0 then cutB v else if la = 1 then cutS v else v
/-- counting -/
abbrev rw9 (F : Nat → Int) (k w : Int) : Int := F (Int.toNat (k * 9 + w))
abbrev ctP (F : Nat → Int) (j k la : Int) : Prop :=
  (j = 1 ∧ (F (Int.toNat (k * 9 + 0)) = 1 ∨ F (Int.toNat (k * 9 + 0)) = 3)) ∨ (j = 2 ∧ ¬ F (Int.toNat (k * 9 + 0)) = 0 ∧ 3 ≤ F (Int.toNat (k * 9 + 1)) - la) ∨
  (j = 3 ∧ (k = 0 ∨ 2 ≤ F (Int.toNat (k * 9 + 8)) - F (Int.toNat ((k - 1) * 9 + 8)))) ∨ (¬ j = 1 ∧ ¬ j = 2 ∧ ¬ j = 3 ∧ ¬ F (Int.toNat (k * 9 + 0)) = 0)
def ctL (F : Nat → Int) (j : Int) : Nat → Int → Int → Int → Int
  | 0, _, _, n => n
  | f + 1, k, la, n => if ctP F j k la then ctL F j f (k + 1) (F (Int.toNat (k * 9 + 1))) (n + 1) else ctL F j f (k + 1) la n
def ctV (F : Nat → Int) (cnt j : Int) : Int := if j = 4 then F (Int.toNat ((cnt - 1) * 9 + 1)) else ctL F j cnt.toNat 0 (-3) 0
theorem ctL_B (F : Nat → Int) (j : Int) : ∀ (f : Nat) (k la n : Int), n ≤ ctL F j f k la n ∧ ctL F j f k la n ≤ n + f := by
  intro f
  induction f with
  | zero => intro k la n; simp [ctL]
  | succ f ih =>
    intro k la n
    unfold ctL
    split
    · have := ih (k + 1) (F (Int.toNat (k * 9 + 1))) (n + 1); omega
    · have := ih (k + 1) la n; omega
theorem ctL_go {F : Nat → Int} {j cnt k la n : Int} (h : k < cnt) : ctL F j (cnt - k).toNat k la n = if ctP F j k la then ctL F j (cnt - (k + 1)).toNat (k + 1) (F (Int.toNat (k * 9 + 1))) (n + 1) else ctL F j (cnt - (k + 1)).toNat (k + 1) la n := by
  rw [show (cnt - k).toNat = (cnt - (k + 1)).toNat + 1 by omega, ctL]
def rgL (F P : Nat → Int) : Nat → Int → Int
  | 0, _ => 1
  | f + 1, r => if F (Int.toNat ((r + 1) * 9 + 1)) = P (Int.toNat r) then rgL F P f (r + 1) else 0
def rgV (F P : Nat → Int) (cnt many : Int) : Int := if cnt ≤ many then 0 else rgL F P many.toNat 0
theorem rgL_go {F P : Nat → Int} {m r : Int} (h : r < m) : rgL F P (m - r).toNat r = if F (Int.toNat ((r + 1) * 9 + 1)) = P (Int.toNat r) then rgL F P (m - (r + 1)).toNat (r + 1) else 0 := by
  rw [show (m - r).toNat = (m - (r + 1)).toNat + 1 by omega, rgL]
theorem rgL_B (F P : Nat → Int) : ∀ (f : Nat) (r : Int), rgL F P f r = 0 ∨ rgL F P f r = 1 := by
  intro f
  induction f with
  | zero => intro r; exact Or.inr rfl
  | succ f ih =>
    intro r
    unfold rgL
    split
    · exact ih _
    · exact Or.inl rfl
theorem rgV_B (F P : Nat → Int) (cnt many : Int) : rgV F P cnt many = 0 ∨ rgV F P cnt many = 1 := by
  unfold rgV
  split
  · exact Or.inl rfl
  · exact rgL_B F P _ _
/-- a law's text: the code at a place, a letter, a digit, an item, the whole -/
def lcd (Fs : Nat → Int) (st le k : Int) : Int := if 0 ≤ k ∧ k < le then Fs (Int.toNat (st + k)) else -1
theorem lcd_B {Fs : Nat → Int} (h : ∀ i, inB (Fs i)) (st le k : Int) : inB (lcd Fs st le k) := by
  unfold lcd
  split
  · exact h _
  · decide
def ltr (c : Int) : Int := if c = 108 then 0 else if c = 114 then 1 else if c = 117 then 2 else if c = 115 then 3 else if c = 107 then 4 else if c = 104 then 5 else -1
theorem ltr_B (c : Int) : -1 ≤ ltr c ∧ ltr c ≤ 5 := by
  unfold ltr
  repeat' split
  all_goals decide
def dig (c : Int) : Int := if 48 ≤ c ∧ c ≤ 57 then c - 48 else -1
theorem dig_B (c : Int) : -1 ≤ dig c ∧ dig c ≤ 9 := by
  unfold dig
  split <;> omega
theorem gLE_B (i : Nat) : 0 ≤ gLE i ∧ gLE i ≤ 1 := by
  unfold gLE
  match i with
  | 0 => decide
  | 1 => decide
  | 2 => decide
  | 3 => decide
  | 4 => decide
  | 5 => decide
  | n + 6 => simp
theorem gGR_B (i : Nat) : 0 ≤ gGR i ∧ gGR i ≤ 99 := by
  unfold gGR
  match i with
  | 0 => decide
  | 1 => decide
  | 2 => decide
  | 3 => decide
  | 4 => decide
  | 5 => decide
  | n + 6 => simp
abbrev fP : Type := Int × Int × (Nat → Int) × (Nat → Int)
/-- the number told behind a letter -/
def tld (d1 d2 : Int) : Int := if d2 = -1 then d1 else 10 * d1 + d2
theorem tld_B {d1 d2 : Int} (h1 : -1 ≤ d1 ∧ d1 ≤ 9) (h2 : -1 ≤ d2 ∧ d2 ≤ 9) : -1 ≤ tld d1 d2 ∧ tld d1 d2 ≤ 99 ∨ tld d1 d2 = 10 * d1 + d2 := by
  unfold tld
  split <;> omega
abbrev lwf (a v : Int) : Prop := gLE (Int.toNat a) ≤ v ∧ v ≤ gGR (Int.toNat a)
def itm (c : Int → Int) (at_ : Int) (N T : Nat → Int) : fP :=
  if ltr (c at_) < 0 ∨ ¬ T (Int.toNat (ltr (c at_))) = 0 then (0, at_, N, T)
  else if dig (c (at_ + 1)) = -1 then (0, at_ + 1, N, T)
  else if ¬ lwf (ltr (c at_)) (tld (dig (c (at_ + 1))) (dig (c (at_ + 1 + 1)))) then (0, at_ + 1, N, T)
  else (1, (if dig (c (at_ + 1 + 1)) = -1 then at_ + 1 + 1 else at_ + 1 + 2), updI N (Int.toNat (ltr (c at_))) (tld (dig (c (at_ + 1))) (dig (c (at_ + 1 + 1)))), updI T (Int.toNat (ltr (c at_))) (T (Int.toNat (ltr (c at_))) + 1))
def prs (c : Int → Int) (le : Int) : Nat → Int → Int → (Nat → Int) → (Nat → Int) → fP
  | 0, at_, it, N, T => (at_, it, N, T)
  | f + 1, at_, it, N, T =>
    if (itm c at_ N T).1 = 0 then ((itm c at_ N T).2.1, it, (itm c at_ N T).2.2.1, (itm c at_ N T).2.2.2)
    else if le ≤ (itm c at_ N T).2.1 then (-1, it + 1, (itm c at_ N T).2.2.1, (itm c at_ N T).2.2.2)
    else if ¬ c (itm c at_ N T).2.1 = 59 ∨ it + 1 = 6 then ((itm c at_ N T).2.1, it + 1, (itm c at_ N T).2.2.1, (itm c at_ N T).2.2.2)
    else prs c le f ((itm c at_ N T).2.1 + 1) (it + 1) (itm c at_ N T).2.2.1 (itm c at_ N T).2.2.2
theorem itm_c1 {c : Int → Int} {a : Int} {N T : Nat → Int} (h : ltr (c a) < 0 ∨ ¬ T (Int.toNat (ltr (c a))) = 0) : itm c a N T = (0, a, N, T) := by
  unfold itm
  rw [if_pos h]
theorem itm_c2 {c : Int → Int} {a : Int} {N T : Nat → Int} (h : ¬ (ltr (c a) < 0 ∨ ¬ T (Int.toNat (ltr (c a))) = 0)) (h2 : dig (c (a + 1)) = -1) : itm c a N T = (0, a + 1, N, T) := by
  unfold itm
  rw [if_neg h, if_pos h2]
theorem itm_c3 {c : Int → Int} {a : Int} {N T : Nat → Int} (h : ¬ (ltr (c a) < 0 ∨ ¬ T (Int.toNat (ltr (c a))) = 0)) (h2 : ¬ dig (c (a + 1)) = -1) (h3 : ¬ lwf (ltr (c a)) (tld (dig (c (a + 1))) (dig (c (a + 1 + 1))))) : itm c a N T = (0, a + 1, N, T) := by
  unfold itm
  rw [if_neg h, if_neg h2, if_pos h3]
theorem itm_c4 {c : Int → Int} {a : Int} {N T : Nat → Int} (h : ¬ (ltr (c a) < 0 ∨ ¬ T (Int.toNat (ltr (c a))) = 0)) (h2 : ¬ dig (c (a + 1)) = -1) (h3 : lwf (ltr (c a)) (tld (dig (c (a + 1))) (dig (c (a + 1 + 1))))) : itm c a N T = (1, (if dig (c (a + 1 + 1)) = -1 then a + 1 + 1 else a + 1 + 2), updI N (Int.toNat (ltr (c a))) (tld (dig (c (a + 1))) (dig (c (a + 1 + 1)))), updI T (Int.toNat (ltr (c a))) (T (Int.toNat (ltr (c a))) + 1)) := by
  unfold itm
  rw [if_neg h, if_neg h2, if_neg (fun q => q h3)]
theorem itm_R {c : Int → Int} {at_ : Int} {N T : Nat → Int} : (itm c at_ N T).1 = 0 ∨ (itm c at_ N T).1 = 1 := by
  unfold itm
  repeat' split
  all_goals simp
theorem itm_A {c : Int → Int} {at_ : Int} {N T : Nat → Int} : at_ ≤ (itm c at_ N T).2.1 ∧ (itm c at_ N T).2.1 ≤ at_ + 3 := by
  unfold itm
  repeat' split
  all_goals (dsimp only; first | omega | (split <;> omega))
theorem itm_T {c : Int → Int} {at_ : Int} {N T : Nat → Int} (h : ∀ i, 0 ≤ T i ∧ T i ≤ 1) : ∀ i, 0 ≤ (itm c at_ N T).2.2.2 i ∧ (itm c at_ N T).2.2.2 i ≤ 1 := by
  intro i
  have hi := h i
  unfold itm
  split
  · exact hi
  · rename_i h1
    split
    · exact hi
    · split
      · exact hi
      · dsimp only [updI]
        split
        · have : T (Int.toNat (ltr (c at_))) = 0 := by omega
          omega
        · exact hi
theorem fillI_01 {F : Nat → Int} {n : Int} (h : ∀ i, 0 ≤ F i ∧ F i ≤ 1) : ∀ i, 0 ≤ fillI F n 0 i ∧ fillI F n 0 i ≤ 1 := by
  intro i
  have := h i
  unfold fillI
  split <;> omega
theorem prs_f {c : Int → Int} {le k ap it : Int} {N T : Nat → Int} (hk : k < 6) (h : (itm c ap N T).1 = 0) : prs c le (6 - k).toNat ap it N T = ((itm c ap N T).2.1, it, (itm c ap N T).2.2.1, (itm c ap N T).2.2.2) := by
  rw [show (6 - k).toNat = (6 - (k + 1)).toNat + 1 by omega, prs, if_pos h]
theorem prs_e {c : Int → Int} {le k ap it : Int} {N T : Nat → Int} (hk : k < 6) (h : ¬ (itm c ap N T).1 = 0) (h2 : le ≤ (itm c ap N T).2.1) : prs c le (6 - k).toNat ap it N T = (-1, it + 1, (itm c ap N T).2.2.1, (itm c ap N T).2.2.2) := by
  rw [show (6 - k).toNat = (6 - (k + 1)).toNat + 1 by omega, prs, if_neg h, if_pos h2]
theorem prs_s {c : Int → Int} {le k ap it : Int} {N T : Nat → Int} (hk : k < 6) (h : ¬ (itm c ap N T).1 = 0) (h2 : ¬ le ≤ (itm c ap N T).2.1) (h3 : ¬ c (itm c ap N T).2.1 = 59 ∨ it + 1 = 6) : prs c le (6 - k).toNat ap it N T = ((itm c ap N T).2.1, it + 1, (itm c ap N T).2.2.1, (itm c ap N T).2.2.2) := by
  rw [show (6 - k).toNat = (6 - (k + 1)).toNat + 1 by omega, prs, if_neg h, if_neg h2, if_pos h3]
theorem prs_go {c : Int → Int} {le k ap it : Int} {N T : Nat → Int} (hk : k < 6) (h : ¬ (itm c ap N T).1 = 0) (h2 : ¬ le ≤ (itm c ap N T).2.1) (h3 : ¬ (¬ c (itm c ap N T).2.1 = 59 ∨ it + 1 = 6)) : prs c le (6 - k).toNat ap it N T = prs c le (6 - (k + 1)).toNat ((itm c ap N T).2.1 + 1) (it + 1) (itm c ap N T).2.2.1 (itm c ap N T).2.2.2 := by
  rw [show (6 - k).toNat = (6 - (k + 1)).toNat + 1 by omega, prs, if_neg h, if_neg h2, if_neg h3]
end MA
