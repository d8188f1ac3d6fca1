section LM
variable {p : Program} {l : Launch} {e : Env} {R : Room} {s : State} {m : MethodId} {args : Array Value} {below : List Frame} {meth : Method} {c : Code} {X : gX} {A : Nat → Prop} {nL : Nat} {Q : State → Prop} {cells slots : Nat}
variable {ws : va_W} {pc : Nat} {lo : List (Nat × Value)} {rest : List Value} {cc : ByteArray} {own : String} {Ts : List Cond} {ret : Option FieldType} {mn : String}
/-- equal answers: the jump is taken -/
theorem r_same_i (C : gC p s m args meth c cc own Ts nL ret mn X A) {x off : Int} {tgt : Nat} (d : decode cc pc = .ok (.if_icmp .eq off, 3)) (ht : (pc : Int) + off = (tgt : Int)) (k : gW p l e R s m args below meth c X A nL Q cells slots ws tgt lo (rest)) : gW p l e R s m args below meth c X A nL Q cells slots ws pc lo (.int (iI x) :: .int (iI x) :: rest) := by
  intro H locs ls hP hD hS hl
  exact lv_icmp_eq C.1 C.2.1 d ht (fun _ => k H locs ls hP hD hS hl) (fun h => absurd rfl h)
theorem lg_cmp_self (x : Int) : lg_cmp (lI x) (lI x) = iI 0 := by
  show (if lI x < lI x then (1 : Int32) else if lI x = lI x then 0 else -1) = _
  rw [if_neg (by rw [Int64.lt_iff_toInt_lt]; omega), if_pos rfl]
  rfl
theorem r_same_l (C : gC p s m args meth c cc own Ts nL ret mn X A) {x off : Int} {tgt : Nat} (d1 : decode cc pc = .ok (.lcmp, 1)) (d2 : decode cc (pc + 1) = .ok (.ifCond .eq off, 3)) (ht : ((pc + 1 : Nat) : Int) + off = (tgt : Int)) (k : gW p l e R s m args below meth c X A nL Q cells slots ws tgt lo (rest)) : gW p l e R s m args below meth c X A nL Q cells slots ws pc lo (.long (lI x) :: .long (lI x) :: rest) := by
  intro H locs ls hP hD hS hl
  refine W.lcmp C.1 C.2.1 d1 ?_
  rw [lg_cmp_self]
  exact r_if_eq C d2 ht (by decide) (fun _ => k) (fun h => absurd rfl h) H locs ls hP hD hS hl
/-- the world under another name -/
theorem r_wq {ws2 : va_W} (h : ws = ws2) (k : gW p l e R s m args below meth c X A nL Q cells slots ws2 pc lo rest) : gW p l e R s m args below meth c X A nL Q cells slots ws pc lo rest := h ▸ k
theorem r_slots {c2 s2 : Nat} (hc : cells = c2) (hs : slots = s2) (k : gW p l e R s m args below meth c X A nL Q c2 s2 ws pc lo rest) : gW p l e R s m args below meth c X A nL Q cells slots ws pc lo rest := hc ▸ hs ▸ k
/-! pools: one or two cells cut out in front -/
theorem lw_cut1 {base P S T : va_W} {c : Nat × va_E} (h : S.Perm (c :: T)) : (base ++ (P ++ S)).Perm ((c :: base) ++ (P ++ T)) := by
  have h1 : (base ++ (P ++ S)).Perm (base ++ (P ++ (c :: T))) := (h.append_left P).append_left base
  refine h1.trans ?_
  rw [← List.append_assoc, List.cons_append, ← List.append_assoc]
  exact List.perm_middle
theorem lw_cut2 {base P S T : va_W} {c d : Nat × va_E} (h : P.Perm (c :: d :: T)) : (base ++ (P ++ S)).Perm ((c :: d :: base) ++ (T ++ S)) := by
  have h1 : (base ++ (P ++ S)).Perm (base ++ ((c :: d :: T) ++ S)) := (h.append_right S).append_left base
  refine h1.trans ?_
  rw [List.cons_append, List.cons_append, List.cons_append, List.cons_append]
  exact List.perm_middle.trans (List.Perm.cons c List.perm_middle)
theorem lw_cut4 {base P S T : va_W} {c d c2 d2 : Nat × va_E} (h : P.Perm (c :: d :: c2 :: d2 :: T)) : (base ++ (P ++ S)).Perm ((c :: d :: c2 :: d2 :: base) ++ (T ++ S)) := by
  have h1 : (base ++ (P ++ S)).Perm (base ++ ((c :: d :: c2 :: d2 :: T) ++ S)) := (h.append_right S).append_left base
  refine h1.trans ?_
  simp only [List.cons_append]
  exact List.perm_middle.trans (List.Perm.cons c (List.perm_middle.trans (List.Perm.cons d (List.perm_middle.trans (List.Perm.cons c2 List.perm_middle)))))
/-! the four sheets -/
def shC (za zb : Nat → Nat) (So Sl Ln : Nat → Int) (j : Nat) : Nat × va_E := (za j, .inr (2, [.ref (zb j), .int (iI (So j)), .int (iI (Sl j)), .int (iI (Ln j))]))
def shD (X : gX) (zb : Nat → Nat) (Fs : Nat → Nat → Int) (j : Nat) : Nat × va_E := (zb j, .inl (X.2.1.1, 60, .inl (iF (Fs j))))
def pkP (f g : Nat → Nat × va_E) (l : List Nat) : va_W := l.map f ++ l.map g
def shP (X : gX) (za zb : Nat → Nat) (So Sl Ln : Nat → Int) (Fs : Nat → Nat → Int) : va_W := pkP (shC za zb So Sl Ln) (shD X zb Fs) (List.range 4)
def shR (X : gX) (za zb : Nat → Nat) (So Sl Ln : Nat → Int) (Fs : Nat → Nat → Int) (k : Nat) : va_W := pkP (shC za zb So Sl Ln) (shD X zb Fs) ((List.range 4).erase k)
def shR2 (X : gX) (za zb : Nat → Nat) (So Sl Ln : Nat → Int) (Fs : Nat → Nat → Int) (k k2 : Nat) : va_W := pkP (shC za zb So Sl Ln) (shD X zb Fs) (((List.range 4).erase k).erase k2)
theorem pk_cut {f g : Nat → Nat × va_E} {l : List Nat} {k : Nat} (h : k ∈ l) : (pkP f g l).Perm (f k :: g k :: pkP f g (l.erase k)) := by
  have h0 := List.perm_cons_erase h
  have h1 : (pkP f g l).Perm ((f k :: (l.erase k).map f) ++ (g k :: (l.erase k).map g)) := (h0.map f).append (h0.map g)
  refine h1.trans ?_
  rw [List.cons_append]
  exact List.Perm.cons _ List.perm_middle
theorem pk_same {f g f2 g2 : Nat → Nat × va_E} {l : List Nat} (hf : ∀ j ∈ l, f2 j = f j) (hg : ∀ j ∈ l, g2 j = g j) : pkP f2 g2 l = pkP f g l := by
  unfold pkP
  rw [List.map_congr_left hf, List.map_congr_left hg]
theorem sh_cut {X : gX} {za zb : Nat → Nat} {So Sl Ln : Nat → Int} {Fs : Nat → Nat → Int} {k : Nat} (h : k < 4) : (shP X za zb So Sl Ln Fs).Perm ((za k, .inr (2, [.ref (zb k), .int (iI (So k)), .int (iI (Sl k)), .int (iI (Ln k))])) :: (zb k, .inl (X.2.1.1, 60, .inl (iF (Fs k)))) :: shR X za zb So Sl Ln Fs k) :=
  pk_cut (List.mem_range.mpr h)
theorem sh_cut2 {X : gX} {za zb : Nat → Nat} {So Sl Ln : Nat → Int} {Fs : Nat → Nat → Int} {k k2 : Nat} (h : k < 4) (h2 : k2 < 4) (hne : k2 ≠ k) : (shP X za zb So Sl Ln Fs).Perm ((za k, .inr (2, [.ref (zb k), .int (iI (So k)), .int (iI (Sl k)), .int (iI (Ln k))])) :: (zb k, .inl (X.2.1.1, 60, .inl (iF (Fs k)))) :: (za k2, .inr (2, [.ref (zb k2), .int (iI (So k2)), .int (iI (Sl k2)), .int (iI (Ln k2))])) :: (zb k2, .inl (X.2.1.1, 60, .inl (iF (Fs k2)))) :: shR2 X za zb So Sl Ln Fs k k2) :=
  (sh_cut h).trans (List.Perm.cons _ (List.Perm.cons _ (pk_cut ((List.mem_erase_of_ne hne).mpr (List.mem_range.mpr h2)))))
theorem ne_erase {l : List Nat} {j k : Nat} (hl : l.Nodup) (h : j ∈ l.erase k) : j ≠ k := ((List.Nodup.mem_erase_iff hl).mp h).1
/-- a sheet put back -/
theorem sh_back {X : gX} {za zb : Nat → Nat} {So Sl Ln So2 Sl2 Ln2 : Nat → Int} {Fs Fs2 : Nat → Nat → Int} {k : Nat} {so la ln : Int} {F : Nat → Int} (h : k < 4) (e1 : So2 k = so) (e2 : Sl2 k = la) (e3 : Ln2 k = ln) (e4 : Fs2 k = F) (q1 : ∀ j, j ≠ k → So2 j = So j) (q2 : ∀ j, j ≠ k → Sl2 j = Sl j) (q3 : ∀ j, j ≠ k → Ln2 j = Ln j) (q4 : ∀ j, j ≠ k → Fs2 j = Fs j) : ((za k, .inr (2, [.ref (zb k), .int (iI so), .int (iI la), .int (iI ln)])) :: (zb k, .inl (X.2.1.1, 60, .inl (iF F))) :: shR X za zb So Sl Ln Fs k).Perm (shP X za zb So2 Sl2 Ln2 Fs2) := by
  have h1 := (sh_cut (X := X) (za := za) (zb := zb) (So := So2) (Sl := Sl2) (Ln := Ln2) (Fs := Fs2) h).symm
  have e : shR X za zb So2 Sl2 Ln2 Fs2 k = shR X za zb So Sl Ln Fs k := pk_same (fun j hj => by
    have hn := ne_erase List.nodup_range hj
    simp only [shC, q1 j hn, q2 j hn, q3 j hn]) (fun j hj => by
    have hn := ne_erase List.nodup_range hj
    simp only [shD, q4 j hn])
  rw [e1, e2, e3, e4, e] at h1
  exact h1
theorem sh_back2 {X : gX} {za zb : Nat → Nat} {So Sl Ln : Nat → Int} {Fs Fs2 : Nat → Nat → Int} {k k2 : Nat} {F : Nat → Int} (h : k < 4) (h2 : k2 < 4) (hne : k2 ≠ k) (e4 : Fs2 k2 = F) (q4 : ∀ j, j ≠ k2 → Fs2 j = Fs j) : ((za k, .inr (2, [.ref (zb k), .int (iI (So k)), .int (iI (Sl k)), .int (iI (Ln k))])) :: (zb k, .inl (X.2.1.1, 60, .inl (iF (Fs k)))) :: (za k2, .inr (2, [.ref (zb k2), .int (iI (So k2)), .int (iI (Sl k2)), .int (iI (Ln k2))])) :: (zb k2, .inl (X.2.1.1, 60, .inl (iF F))) :: shR2 X za zb So Sl Ln Fs k k2).Perm (shP X za zb So Sl Ln Fs2) := by
  have h1 := (sh_cut2 (X := X) (za := za) (zb := zb) (So := So) (Sl := Sl) (Ln := Ln) (Fs := Fs2) h h2 hne).symm
  have e : shR2 X za zb So Sl Ln Fs2 k k2 = shR2 X za zb So Sl Ln Fs k k2 := pk_same (fun j hj => rfl) (fun j hj => by
    have hn := ne_erase (List.Nodup.erase k List.nodup_range) hj
    simp only [shD, q4 j hn])
  rw [e4, q4 k (fun z => hne z.symm), e] at h1
  exact h1
/-- two-place updates -/
def updF (Fs : Nat → Nat → Int) (k : Nat) (F : Nat → Int) : Nat → Nat → Int := fun j => if j = k then F else Fs j
theorem updF_s {Fs : Nat → Nat → Int} {k : Nat} {F : Nat → Int} : updF Fs k F k = F := by simp [updF]
theorem updF_n {Fs : Nat → Nat → Int} {k j : Nat} {F : Nat → Int} (h : j ≠ k) : updF Fs k F j = Fs j := by simp [updF, h]
/-! bounds -/
theorem up_B {F : Nat → Int} {k : Nat} {v a b : Int} (h : ∀ i, a ≤ F i ∧ F i ≤ b) (hv : a ≤ v ∧ v ≤ b) : ∀ i, a ≤ updI F k v i ∧ updI F k v i ≤ b := by
  intro i
  unfold updI
  split
  · exact hv
  · exact h i
theorem up_in {F : Nat → Int} {k : Nat} {v : Int} (h : ∀ i, inB (F i)) (hv : inB v) : ∀ i, inB (updI F k v i) := by
  intro i
  unfold updI
  split
  · exact hv
  · exact h i
theorem fill_in {F : Nat → Int} {n : Int} (h : ∀ i, inB (F i)) : ∀ i, inB (fillI F n 0 i) := by
  intro i
  unfold fillI
  split
  · exact ⟨by omega, by omega⟩
  · exact h i
theorem flT_in {F : Nat → Int} {b n : Int} (h : ∀ i, inB (F i)) : ∀ i, inB (flT F b n i) := by
  intro i
  unfold flT
  split
  · exact ⟨by omega, by omega⟩
  · exact h i
theorem ptT_in {F H : Nat → Int} {b n : Int} (h : ∀ i, inB (F i)) (hH : ∀ a : Int, 0 ≤ a → a < n → inB (H (Int.toNat a))) : ∀ i, inB (ptT F H b n i) := by
  intro i
  unfold ptT
  split
  · exact hH _ (by omega) (by omega)
  · exact h i
theorem tkI_in {G F : Nat → Int} {i1 m1 : Int} (hG : ∀ i, inB (G i)) (hF : ∀ i, inB (F i)) : ∀ i, inB (tkI G F i1 m1 i) := by
  intro i
  unfold tkI
  split
  · exact hF _
  · exact hG _
theorem cpy_in {F G : Nat → Int} {sp dp n : Nat} (hF : ∀ i, inB (F i)) (hG : ∀ i, inB (G i)) : ∀ i, inB (cpyI F G sp dp n i) := by
  intro i
  unfold cpyI
  split
  · exact hF _
  · exact hG _
theorem tkI_B {G F : Nat → Int} {i1 m1 a b : Int} (hG : ∀ i, a ≤ G i ∧ G i ≤ b) (hF : ∀ c : Int, 0 ≤ c → c < m1 → a ≤ F (Int.toNat (i1 + c)) ∧ F (Int.toNat (i1 + c)) ≤ b) : ∀ i, a ≤ tkI G F i1 m1 i ∧ tkI G F i1 m1 i ≤ b := by
  intro i
  unfold tkI
  by_cases h : (i : Int) < m1
  · rw [if_pos h]
    exact hF i (by omega) h
  · rw [if_neg h]
    exact hG i
theorem cutL_in {la v : Int} (h : inB v) : inB (cutL la v) := by
  have e1 : cutB v = v.bmod 256 := rfl
  have e2 : cutS v = v.bmod 65536 := rfl
  have a1 := Int.le_bmod (x := v) (m := 256) (by decide)
  have a2 := Int.bmod_lt (x := v) (m := 256) (by decide)
  have a3 := Int.le_bmod (x := v) (m := 65536) (by decide)
  have a4 := Int.bmod_lt (x := v) (m := 65536) (by decide)
  unfold cutL
  split
  · rw [e1]; omega
  · split
    · rw [e2]; omega
    · exact h
/-! the numbers of a law -/
theorem itm_L {c : Int → Int} {a : Int} {N T : Nat → Int} (h : ∀ j : Nat, j < 6 → gLE j ≤ N j ∧ N j ≤ gGR j) : ∀ j : Nat, j < 6 → gLE j ≤ (itm c a N T).2.2.1 j ∧ (itm c a N T).2.2.1 j ≤ gGR j := by
  intro j hj
  by_cases h1 : ltr (c a) < 0 ∨ ¬ T (Int.toNat (ltr (c a))) = 0
  · rw [itm_c1 h1]; exact h j hj
  · by_cases h2 : dig (c (a + 1)) = -1
    · rw [itm_c2 h1 h2]; exact h j hj
    · by_cases h3 : lwf (ltr (c a)) (tld (dig (c (a + 1))) (dig (c (a + 1 + 1))))
      · rw [itm_c4 h1 h2 h3]
        simp only [updI]
        by_cases q : j = Int.toNat (ltr (c a))
        · rw [if_pos q, q]; exact h3
        · rw [if_neg q]; exact h j hj
      · rw [itm_c3 h1 h2 h3]; exact h j hj
theorem prs_L {c : Int → Int} {le : Int} : ∀ (f : Nat) (a it : Int) (N T : Nat → Int), (∀ j : Nat, j < 6 → gLE j ≤ N j ∧ N j ≤ gGR j) → ∀ j : Nat, j < 6 → gLE j ≤ (prs c le f a it N T).2.2.1 j ∧ (prs c le f a it N T).2.2.1 j ≤ gGR j := by
  intro f
  induction f with
  | zero => intro a it N T h; exact h
  | succ f ih =>
    intro a it N T h
    have h2 := itm_L (c := c) (a := a) (T := T) h
    simp only [prs]
    repeat' split
    · exact h2
    · exact h2
    · exact h2
    · exact ih _ _ _ _ h2
theorem gAF_L : ∀ j : Nat, j < 6 → gLE j ≤ gAF j ∧ gAF j ≤ gGR j := by decide
theorem txV_L (Fs : Nat → Int) (i1 m1 : Int) : ∀ j : Nat, j < 6 → gLE j ≤ (txV Fs i1 m1).2.2.1 j ∧ (txV Fs i1 m1).2.2.1 j ≤ gGR j := prs_L 6 0 0 _ _ gAF_L
theorem cpT_6 {N G : Nat → Int} {j : Nat} (h : j < 6) : cpT N G 6 j = N j := cpT_in (by omega)
/-! sheets of both sides -/
def hpA (Fs : Nat → Nat → Int) (Sh Ss : Nat → Int) : Prop := ∀ k : Int, 0 ≤ k → k < 4 → 0 ≤ Ss (Int.toNat k) → shA (Fs (Int.toNat k)) Sh k (Ss (Int.toNat k))
def hpS (So Ss Ln : Nat → Int) : Prop := ∀ j, (So j = 0 ∧ Ss j < 0) ∨ (So j = 1 ∧ 0 ≤ Ss j ∧ Ln j = Ss j)
theorem hpS_new {So Ss Ln : Nat → Int} {k : Nat} {m1 : Int} (h : hpS So Ss Ln) (hm : 0 ≤ m1) : hpS (updI So k 1) (updI Ss k m1) (updI Ln k m1) := by
  intro j
  simp only [updI]
  by_cases q : j = k
  · rw [if_pos q, if_pos q, if_pos q]; exact Or.inr ⟨rfl, hm, rfl⟩
  · rw [if_neg q, if_neg q, if_neg q]; exact h j
theorem hpS_lose {So Ss Ln : Nat → Int} {k : Nat} (h : hpS So Ss Ln) : hpS (updI So k 0) (updI Ss k (-1)) Ln := by
  intro j
  simp only [updI]
  by_cases q : j = k
  · rw [if_pos q, if_pos q]; exact Or.inl ⟨rfl, by omega⟩
  · rw [if_neg q, if_neg q]; exact h j
theorem hpA_new {Fs : Nat → Nat → Int} {Sh Ss : Nat → Int} {k m1 : Int} (h : hpA Fs Sh Ss) (hS : ∀ i, -1 ≤ Ss i ∧ Ss i ≤ 60) (hk : 0 ≤ k) (hm : m1 ≤ 60) : hpA (updF Fs (Int.toNat k) (fillI (Fs (Int.toNat k)) 60 0)) (flT Sh (60 * k) m1) (updI Ss (Int.toNat k) m1) := by
  intro k2 h0 h4 hs
  by_cases q : k2 = k
  · subst q
    rw [updF_s, updI_s] at *
    exact shA_new h0 hm
  · have hn : Int.toNat k2 ≠ Int.toNat k := by omega
    rw [updI_n hn] at hs
    rw [updF_n hn, updI_n hn]
    exact shA_new2 (h k2 h0 h4 hs) ⟨hk, h0, q⟩ hm (hS _).2
theorem hpA_lose {Fs : Nat → Nat → Int} {Sh Ss : Nat → Int} {k : Int} (h : hpA Fs Sh Ss) : hpA Fs Sh (updI Ss (Int.toNat k) (-1)) := by
  intro k2 h0 h4 hs
  by_cases q : Int.toNat k2 = Int.toNat k
  · rw [q, updI_s] at hs; omega
  · rw [updI_n q] at *
    exact h k2 h0 h4 hs
theorem hpA_put {Fs : Nat → Nat → Int} {Sh Ss : Nat → Int} {k i1 v : Int} (h : hpA Fs Sh Ss) (hS : ∀ i, -1 ≤ Ss i ∧ Ss i ≤ 60) (hk : 0 ≤ k) (hi : 0 ≤ i1 ∧ i1 < 60) : hpA (updF Fs (Int.toNat k) (updI (Fs (Int.toNat k)) (Int.toNat i1) v)) (updI Sh (Int.toNat (60 * k + i1)) v) Ss := by
  intro k2 h0 h4 hs
  by_cases q : k2 = k
  · subst q
    rw [updF_s]
    exact shA_put (h k2 h0 h4 hs) h0 hi.1
  · have hn : Int.toNat k2 ≠ Int.toNat k := by omega
    rw [updF_n hn]
    exact shA_put2 (h k2 h0 h4 hs) ⟨hk, h0, q⟩ hi (hS _).2
theorem hpA_copy {Fs : Nat → Nat → Int} {Sh Ss Hd : Nat → Int} {k k2 i1 j1 m1 : Int} (h : hpA Fs Sh Ss) (hS : ∀ i, -1 ≤ Ss i ∧ Ss i ≤ 60) (hk : 0 ≤ k ∧ k < 4) (hk2 : 0 ≤ k2 ∧ k2 < 4) (hs1 : 0 ≤ Ss (Int.toNat k)) (hs2 : 0 ≤ Ss (Int.toNat k2)) (hi1 : 0 ≤ i1 ∧ i1 + m1 ≤ Ss (Int.toNat k)) (hj1 : 0 ≤ j1 ∧ j1 + m1 ≤ Ss (Int.toNat k2)) (hm : 0 ≤ m1) : hpA (updF Fs (Int.toNat k2) (cpyI (Fs (Int.toNat k)) (Fs (Int.toNat k2)) (Int.toNat i1) (Int.toNat j1) (Int.toNat m1))) (ptT Sh (tkI Hd Sh (60 * k + i1) m1) (60 * k2 + j1) m1) Ss := by
  intro k3 h0 h4 hs
  by_cases q : k3 = k2
  · subst q
    rw [updF_s]
    exact shA_copy (h k hk.1 hk.2 hs1) (h k3 h0 h4 hs) ⟨hk.1, h0⟩ hi1 hj1 hm
  · have hn : Int.toNat k3 ≠ Int.toNat k2 := by omega
    rw [updF_n hn]
    have := (hS (Int.toNat k2)).2
    exact shA_copy2 (h k3 h0 h4 hs) ⟨h0, hk2.1, q⟩ (hS _).2 ⟨hj1.1, by omega⟩
/-! stones -/
theorem st_back {n : Nat} {sa : Nat → Nat} {Wt Wd Rg Ly Wo : Nat → Int} {x : Nat} (h : x < n) (v w : Int) : ((sa x, .inr (3, [.int (iI (Wt x)), .int (iI (Wd x)), .int (iI (Rg x)), .int (iI v), .int (iI w)])) :: stR n sa Wt Wd Rg Ly Wo x).Perm (stP n sa Wt Wd Rg (updI Ly x v) (updI Wo x w)) := by
  have h1 := (stP_x (sa := sa) (Wt := Wt) (Wd := Wd) (Rg := Rg) (Ly := updI Ly x v) (Wo := updI Wo x w) h).symm
  rw [stR_same h] at h1
  simp only [stC, updI_s] at h1
  exact h1
theorem st_more {n : Nat} {sa : Nat → Nat} {Wt Wd Rg Ly Wo : Nat → Int} (y : Nat) (p1 p2 p3 : Int) (h1 : Ly n = 0) (h2 : Wo n = 0) : ((y, .inr (3, [.int (iI p1), .int (iI p2), .int (iI p3), .int (iI 0), .int (iI 0)])) :: stP n sa Wt Wd Rg Ly Wo).Perm (stP (n + 1) (fun j => if j = n then y else sa j) (updI Wt n p1) (updI Wd n p2) (updI Rg n p3) Ly Wo) := by
  have e : updI Ly n 0 = Ly := by
    funext j
    simp only [updI]
    by_cases q : j = n
    · rw [if_pos q, q, h1]
    · rw [if_neg q]
  have e2 : updI Wo n 0 = Wo := by
    funext j
    simp only [updI]
    by_cases q : j = n
    · rw [if_pos q, q, h2]
    · rw [if_neg q]
  have h3 := stP_add (n := n) (sa := sa) (Wt := Wt) (Wd := Wd) (Rg := Rg) (Ly := Ly) (Wo := Wo) y p1 p2 p3 0 0
  rw [e, e2] at h3
  rw [h3]
  exact (List.perm_append_singleton _ _).symm
/-- all of them in front -/
theorem lw_all {a b : Nat × va_E} {B P S : va_W} : ((a :: b :: B) ++ (P ++ S)).Perm ((a :: b :: S) ++ (B ++ P)) := by
  simp only [List.cons_append]
  refine List.Perm.cons a (List.Perm.cons b ?_)
  rw [← List.append_assoc]
  exact List.perm_append_comm
theorem lw_all2 {a b : Nat × va_E} {B P S : va_W} : ((B ++ P) ++ (a :: b :: S)).Perm ((a :: b :: B) ++ (P ++ S)) := by
  refine List.perm_append_comm.trans ?_
  simp only [List.cons_append]
  refine List.Perm.cons a (List.Perm.cons b ?_)
  exact (List.perm_append_comm (l₁ := S) (l₂ := B ++ P)).trans (by rw [List.append_assoc])
/-! the same with the reference's cells between -/
theorem lw_cut1r {base Rf P S T : va_W} {c : Nat × va_E} (h : S.Perm (c :: T)) : (base ++ (Rf ++ (P ++ S))).Perm ((c :: base) ++ (Rf ++ (P ++ T))) := by
  have q := lw_cut1 (base := base) (P := Rf ++ P) h
  rw [List.append_assoc, List.append_assoc] at q
  exact q
theorem lw_cut2r {base Rf P S T : va_W} {c d : Nat × va_E} (h : P.Perm (c :: d :: T)) : (base ++ (Rf ++ (P ++ S))).Perm ((c :: d :: base) ++ (Rf ++ (T ++ S))) := by
  have q := lw_cut2 (base := base ++ Rf) (S := S) h
  rw [List.append_assoc, List.cons_append, List.cons_append, List.append_assoc] at q
  exact q
theorem lw_cut4r {base Rf P S T : va_W} {c d c2 d2 : Nat × va_E} (h : P.Perm (c :: d :: c2 :: d2 :: T)) : (base ++ (Rf ++ (P ++ S))).Perm ((c :: d :: c2 :: d2 :: base) ++ (Rf ++ (T ++ S))) := by
  have q := lw_cut4 (base := base ++ Rf) (S := S) h
  simp only [List.append_assoc, List.cons_append] at q
  exact q
theorem lw_allr {a b : Nat × va_E} {B Rf P S : va_W} : ((a :: b :: B) ++ (Rf ++ (P ++ S))).Perm ((a :: b :: S) ++ (B ++ (Rf ++ P))) := by
  have q := lw_all (a := a) (b := b) (B := B) (P := Rf ++ P) (S := S)
  rw [List.append_assoc Rf] at q
  exact q
theorem lw_all2r {a b : Nat × va_E} {B Rf P S : va_W} : ((B ++ (Rf ++ P)) ++ (a :: b :: S)).Perm ((a :: b :: B) ++ (Rf ++ (P ++ S))) := by
  have q := lw_all2 (a := a) (b := b) (B := B) (P := Rf ++ P) (S := S)
  rw [List.append_assoc Rf] at q
  exact q
end LM
