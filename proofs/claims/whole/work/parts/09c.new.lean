section GN
variable {p : Program} {l : Launch} {e : Env} {R : Room} {s : State} {m : MethodId} {args : Array Value} {below : List Frame} {meth : Method} {c : Code} {X : gX} {A : Nat → Prop} {nL : Nat} {Q : State → Prop} {cells slots : Nat}
variable {ws : va_W} {pc : Nat} {lo : List (Nat × Value)} {rest : List Value} {cc : ByteArray} {own : String} {Ts : List Cond} {ret : Option FieldType} {mn : String}
theorem r_newa (C : gC p s m args meth c cc own Ts nL ret mn X A) {n : Nat} {z : Int} {ws2 : Nat → va_W} (harr : Cond.arrayClass .int ∈ Ts) (d : decode cc pc = .ok (.newarray .int, 2)) (hz : z = (n : Int)) (hn : n < 100000) (hc : cells + 1 ≤ R.cells) (hs : slots + n ≤ R.slots) (hw : ∀ q, ws ++ [(q, .inl (X.2.1.1, n, .inl (iF (fun _ => 0))))] = ws2 q)
    (k : ∀ q : Nat, gW p l e R s m args below meth c X A nL Q (cells + 1) (slots + n) (ws2 q) (pc + 2) lo (.ref q :: rest)) : gW p l e R s m args below meth c X A nL Q cells slots ws pc lo (.int (iI z) :: rest) := by
  intro H locs ls hP hD hS hl
  subst hz
  have hb : inB (n : Int) := ⟨by omega, by omega⟩
  refine va_newa (D := X.1) (atype := .int) (ty := .int) (N' := n) (a0 := (n, .inl (iF (fun _ => 0)))) C.1 C.2.1 (C.2.2.2.2.1 _ harr) rfl C.2.2.2.2.2.1.1 hP hD hS C.2.2.2.2.2.2.1 (fun cA => rfl) (fun q => by have := (iI_lt (b := 0) hb ⟨by omega, by omega⟩).mp q; omega) (by rw [iI_clamp hb]; omega) (by show n * 4 ≤ 536870912; omega) hc hs d (fun q cA H1 hK1 hP1 hD1 hS1 => ?_)
  have e1 := (hK1.2 3 (cA, .int) rfl).2
  have e2 := (C.2.2.2.2.2.1.1.2 0 (X.2.1.1, .int) rfl).2
  have e3 : cA = X.2.1.1 := Option.some.inj (e1.symm.trans e2)
  subst e3
  rw [hw q] at hP1 hD1
  exact k q H1 locs ls hP1 hD1 hS1 hl
theorem r_copyi (C : gC p s m args meth c cc own Ts nL ret mn X A) {a a0 n0 n1 index : Nat} {F G : Nat → Int} {x y n : Int} {ws2 : va_W} (hlk : Cond.methodLink own index arraycopyName ∈ Ts) (hna : Cond.native arraycopyName ∈ Ts) (hst : Cond.static arraycopyName ∈ Ts) (hini : Cond.initialized "java/lang/System" ∈ Ts) (d : decode cc pc = .ok (.invokestatic index, 3)) (q0 q1 : Nat) (h0 : ws[q0]? = some (a0, .inl (X.2.1.1, n0, .inl (iF F)))) (h1 : ws[q1]? = some (a, .inl (X.2.1.1, n1, .inl (iF G))))
    (hx : 0 ≤ x ∧ 0 ≤ y ∧ 0 ≤ n ∧ x + n ≤ (n0 : Int) ∧ y + n ≤ (n1 : Int)) (hn : n0 < 100000 ∧ n1 < 100000) (hfr : 1 ≤ R.frames) (hlo : (rest.map fun v => v.category).sum + (nativeFrameWords "java/lang/System" "arraycopy" 5 + 11) ≤ R.locals) (hw : ws.set q1 (a, .inl (X.2.1.1, n1, .inl (iF (cpyI F G x.toNat y.toNat n.toNat)))) = ws2)
    (k : gW p l e R s m args below meth c X A nL Q cells slots ws2 (pc + 3) lo (rest)) : gW p l e R s m args below meth c X A nL Q cells slots ws pc lo (.int (iI n) :: .int (iI y) :: .ref a :: .int (iI x) :: .ref a0 :: rest) := by
  intro H locs ls hP hD hS hl
  have bx : inB x := ⟨by omega, by omega⟩
  have bY : inB y := ⟨by omega, by omega⟩
  have bn : inB n := ⟨by omega, by omega⟩
  have b0 : inB 0 := ⟨by omega, by omega⟩
  refine va_copyi (D := X.1) C.1 C.2.1 (C.2.2.1.trans hl.1.symm) C.2.2.2.1 (C.2.2.2.2.1 _ hlk) (C.2.2.2.2.1 _ hna) (C.2.2.2.2.1 _ hst) (C.2.2.2.2.1 _ hini) C.2.2.2.2.2.1.1 hP hD hS q0 q1 0 0 h0 h1 rfl rfl rfl (fun q => by have := (iI_lt (b := 0) bx b0).mp q; omega) (fun q => by have := (iI_lt (b := 0) bY b0).mp q; omega) (fun q => by have := (iI_lt (b := 0) bn b0).mp q; omega) (by rw [iI_clamp bx, iI_clamp bn]; omega) (by rw [iI_clamp bY, iI_clamp bn]; omega) (fun _ _ => rfl) hfr hlo d (fun H1 locs1 hP1 hD1 hS1 => ?_)
  rw [iI_clamp bx, iI_clamp bY, iI_clamp bn, iF_cpy, hw] at hP1 hD1
  exact k H1 locs1 ls hP1 hD1 hS1 hl
theorem r_copyAF (C : gC p s m args meth c cc own Ts nL ret mn X A) {a n1 index : Nat} {G : Nat → Int} {ws2 : va_W} (hlk : Cond.methodLink own index arraycopyName ∈ Ts) (hna : Cond.native arraycopyName ∈ Ts) (hst : Cond.static arraycopyName ∈ Ts) (hini : Cond.initialized "java/lang/System" ∈ Ts) (d : decode cc pc = .ok (.invokestatic index, 3)) (q1 : Nat) (h1 : ws[q1]? = some (a, .inl (X.2.1.1, n1, .inl (iF G))))
    (hn : 6 ≤ n1) (hfr : 1 ≤ R.frames) (hlo : (rest.map fun v => v.category).sum + (nativeFrameWords "java/lang/System" "arraycopy" 5 + 11) ≤ R.locals) (hw : ws.set q1 (a, .inl (X.2.1.1, n1, .inl (iF (cpyI gAF G 0 0 6)))) = ws2)
    (k : gW p l e R s m args below meth c X A nL Q cells slots ws2 (pc + 3) lo (rest)) : gW p l e R s m args below meth c X A nL Q cells slots ws pc lo (.int (iI 6) :: .int (iI 0) :: .ref a :: .int (iI 0) :: .ref X.2.2.1 :: rest) := by
  intro H locs ls hP hD hS hl
  have hA := C.2.2.2.2.2.1.2.2.2.2.2.2.1
  refine va_copyx (D := X.1) C.1 C.2.1 (C.2.2.1.trans hl.1.symm) C.2.2.2.1 (C.2.2.2.2.1 _ hlk) (C.2.2.2.2.1 _ hna) (C.2.2.2.2.1 _ hst) (C.2.2.2.2.1 _ hini) C.2.2.2.2.2.1.1 hP hD hS hA.2.1 hA.2.2.1 hA.2.2.2 q1 0 h1 rfl (by decide) (by decide) (by decide) (by decide) (by show 0 + 6 ≤ n1; omega) hfr hlo d (fun H1 locs1 hP1 hD1 hS1 => ?_)
  have e0 : (iI 0).toNatClampNeg = 0 := rfl
  have e6 : (iI 6).toNatClampNeg = 6 := rfl
  rw [e0, e6, iF_cpy, hw] at hP1 hD1
  exact k H1 locs1 ls hP1 hD1 hS1 hl
theorem r_cloneAF (C : gC p s m args meth c cc own Ts nL ret mn X A) {index : Nat} {ws2 : Nat → va_W} (hlk : Cond.methodLink own index ⟨"[I", "clone", "()Ljava/lang/Object;"⟩ ∈ Ts) (hsa : Cond.sameMethod "[I" "java/lang/Object" "clone" "()Ljava/lang/Object;" ∈ Ts) (hna : Cond.native ⟨"java/lang/Object", "clone", "()Ljava/lang/Object;"⟩ ∈ Ts) (hin : Cond.instanceMethod ⟨"java/lang/Object", "clone", "()Ljava/lang/Object;"⟩ ∈ Ts) (hse : Cond.selects "[I" ⟨"[I", "clone", "()Ljava/lang/Object;"⟩ ⟨"java/lang/Object", "clone", "()Ljava/lang/Object;"⟩ ∈ Ts)
    (d : decode cc pc = .ok (.invokevirtual index, 3)) (hfr : 1 ≤ R.frames) (hlo : (rest.map fun v => v.category).sum + 14 ≤ R.locals) (hc : cells + 1 ≤ R.cells) (hs : slots + 6 ≤ R.slots) (hw : ∀ q, ws ++ [(q, .inl (X.2.1.1, 6, .inl (iF gAF)))] = ws2 q)
    (k : ∀ q : Nat, gW p l e R s m args below meth c X A nL Q (cells + 1) (slots + 6) (ws2 q) (pc + 3) lo (.ref q :: rest)) : gW p l e R s m args below meth c X A nL Q cells slots ws pc lo (.ref X.2.2.1 :: rest) := by
  intro H locs ls hP hD hS hl
  have hE := C.2.2.2.2.2.1
  obtain ⟨scr, g1, g2, g3, g4, g5⟩ := hE.2.2.2.2.2.2.1.2.1
  have hal := hE.2.2.2.2.2.2.1.2.2
  obtain ⟨scr2, u1, u2, -⟩ := hE.2.2.2.2.2.2.2.2.2.2
  cases g1.symm.trans u1
  have hnm : s.vm.findClass "[I" = some scr.cls := by rw [u2]; exact (hE.1.2 0 (X.2.1.1, .int) rfl).2
  obtain ⟨c0, t0', f1, f2, f3⟩ := Cond.castable_spec (va_Nw.use (A := args) rfl hE.2.2.2.2.2.1)
  cases hnm.symm.trans f1
  intro T hT XX
  have hcellT : T.heap[X.2.2.1]? = some scr := by rw [hT, hS.2.1 _ hal.1 hal.2]; exact g1
  obtain ⟨-, kA, hkA, comp, hkind⟩ := State.isArrayOf_alike XX.warmed.alike g2
  obtain ⟨hob, kS, hkS, compS, hkindS⟩ := g2
  obtain ⟨vm', X', st⟩ := XX.cloneArray C.1 C.2.2.2.1 (C.2.2.2.2.1 _ hlk) (C.2.2.2.2.1 _ hsa) (C.2.2.2.2.1 _ hna) (C.2.2.2.2.1 _ hin) (C.2.2.2.2.1 _ hse) (a := X.2.2.1) (cell := scr) hcellT hob g3 hnm f2 f3
    (fun i v hv => by
      have hi : i < 6 := by rw [← g4]; exact (Array.getElem?_eq_some_iff.mp hv).1
      cases hv.symm.trans (g5 i hi)
      have hk' : T.vm.classes[scr.cls]? = some kA := hkA
      simp [State.fitsSlot, State.slotType?, hk', hkind, fits])
    (g := F0 m pc ls (.ref X.2.2.1 :: rest)) rfl (by rw [C.2.2.1]; exact hl.1) rfl (by rw [C.2.1]; exact d) hfr (by show 2 * 0 + _ + 14 ≤ _; omega) hc (by rw [g4]; exact hs) (hloader := Vm.clonesLoader_of_array hkS hkindS)
  have hcell : ({ cls := scr.cls, slots := scr.slots } : Cell) = vp_cell X.2.1.1 (6, .inl (iF gAF)) := by
    rw [vp_cell_i, arrV, u2]
    congr 1
    apply Array.ext_getElem?
    intro i
    by_cases hi : i < 6
    · rw [g5 i hi]
      simp [hi]
    · rw [Array.getElem?_eq_none (by omega), Array.getElem?_eq_none (by simp; omega)]
  rw [hcell, g4] at X'
  generalize hH1 : H.push (vp_cell X.2.1.1 (6, .inl (iF gAF))) = H1
  have z1 : H1.size = H.size + 1 := by rw [← hH1, Array.size_push]
  have e1 : H1[H.size]? = some (vp_cell X.2.1.1 (6, .inl (iF gAF))) := by rw [← hH1, Array.getElem?_push_size]
  have o1 : ∀ q : Nat, q < H.size → H1[q]? = H[q]? := fun q hq => by rw [← hH1, Array.getElem?_push, if_neg (Nat.ne_of_lt hq)]
  have hk : ∀ (k : Nat) (y : Nat × va_E), ws[k]? = some y → H1[y.1]? = H[y.1]? := fun k y hy => o1 y.1 ((hP k y hy).lt)
  have hP1 : va_P X.1 vwCl (ws ++ [(H.size, .inl (X.2.1.1, 6, .inl (iF gAF)))]) H1 := (hP.kept hk).app (fun k y hy => by
      have hz : k < 1 := (List.getElem?_eq_some_iff.mp hy).1
      rw [show k = 0 by omega] at hy
      cases hy
      exact e1)
  have hD1 : va_D A (ws ++ [(H.size, .inl (X.2.1.1, 6, .inl (iF gAF)))]) := hD.push hP rfl (C.2.2.2.2.2.2.1 _ hS.1)
  rw [hw H.size] at hP1 hD1
  obtain ⟨t, b1, b2⟩ := k H.size H1 locs ls hP1 hD1 ⟨Nat.le_trans hS.1 (by omega), fun y h1 h2 => (o1 y (Nat.lt_of_lt_of_le h1 hS.1)).trans (hS.2.1 y h1 h2), hS.2.2⟩ hl
    ((T.setVm vm').pushCell (vp_cell X.2.1.1 (6, .inl (iF gAF)))) (by rw [← hH1, ← hT]; rfl) X'
  refine ⟨t, st t ?_, b2⟩
  rw [hcell, hT]
  exact b1
theorem r_castI (C : gC p s m args meth c cc own Ts nL ret mn X A) {index a : Nat} {x : vp_A} (hlk : Cond.classLink own index "[I" ∈ Ts) (d : decode cc pc = .ok (.checkcast index, 3)) (q : Nat) (h : ws[q]? = some (a, .inl (X.2.1.1, x))) (k : gW p l e R s m args below meth c X A nL Q cells slots ws (pc + 3) lo (.ref a :: rest)) : gW p l e R s m args below meth c X A nL Q cells slots ws pc lo (.ref a :: rest) := by
  intro H locs ls hP hD hS hl
  exact va_castA (D := X.1) C.1 C.2.1 C.2.2.2.1 (C.2.2.2.2.1 _ hlk) hP q h ((C.2.2.2.2.2.1.1.2 0 (X.2.1.1, .int) rfl).2) d (k H locs ls hP hD hS hl)
theorem r_newq_Stone (C : gC p s m args meth c cc own Ts nL ret mn X A) {index n : Nat} {z : Int} {ws2 : Nat → va_W} (hlk : Cond.classLink own index "SkipStones$Stone" ∈ Ts) (d : decode cc pc = .ok (.anewarray index, 3)) (hz : z = (n : Int)) (hn : n < 100000) (hc : cells + 1 ≤ R.cells) (hs : slots + n ≤ R.slots) (hw : ∀ q, ws ++ [(q, .inl (X.2.1.2.1, n, .inr (.inr (.inr (.inr (fun _ => none))))))] = ws2 q)
    (k : ∀ q : Nat, gW p l e R s m args below meth c X A nL Q (cells + 1) (slots + n) (ws2 q) (pc + 3) lo (.ref q :: rest)) : gW p l e R s m args below meth c X A nL Q cells slots ws pc lo (.int (iI z) :: rest) := by
  intro H locs ls hP hD hS hl
  subst hz
  have hb : inB (n : Int) := ⟨by omega, by omega⟩
  refine va_newq (D := X.1) (C := "SkipStones$Stone") (N' := n) C.1 C.2.1 C.2.2.2.1 (C.2.2.2.2.1 _ hlk) C.2.2.2.2.2.1.2.2.2.1 C.2.2.2.2.2.1.1 hP hD hS C.2.2.2.2.2.2.1 (fun q => by have := (iI_lt (b := 0) hb ⟨by omega, by omega⟩).mp q; omega) (by rw [iI_clamp hb]; omega) (by omega) hc hs d (fun q cA H1 hK1 hP1 hD1 hS1 => ?_)
  obtain ⟨kA, comp, -, -, -, e1⟩ := (hK1.2 3 (cA, .object "SkipStones$Stone") rfl).2
  obtain ⟨kA2, comp2, -, -, -, e2⟩ := (C.2.2.2.2.2.1.1.2 1 (X.2.1.2.1, .object "SkipStones$Stone") rfl).2
  have e3 : cA = X.2.1.2.1 := Option.some.inj (e1.symm.trans e2)
  subst e3
  rw [hw q] at hP1 hD1
  exact k q H1 locs ls hP1 hD1 hS1 hl
theorem r_newq_Sheet (C : gC p s m args meth c cc own Ts nL ret mn X A) {index n : Nat} {z : Int} {ws2 : Nat → va_W} (hlk : Cond.classLink own index "SkipStones$Sheet" ∈ Ts) (d : decode cc pc = .ok (.anewarray index, 3)) (hz : z = (n : Int)) (hn : n < 100000) (hc : cells + 1 ≤ R.cells) (hs : slots + n ≤ R.slots) (hw : ∀ q, ws ++ [(q, .inl (X.2.1.2.2, n, .inr (.inr (.inr (.inr (fun _ => none))))))] = ws2 q)
    (k : ∀ q : Nat, gW p l e R s m args below meth c X A nL Q (cells + 1) (slots + n) (ws2 q) (pc + 3) lo (.ref q :: rest)) : gW p l e R s m args below meth c X A nL Q cells slots ws pc lo (.int (iI z) :: rest) := by
  intro H locs ls hP hD hS hl
  subst hz
  have hb : inB (n : Int) := ⟨by omega, by omega⟩
  refine va_newq (D := X.1) (C := "SkipStones$Sheet") (N' := n) C.1 C.2.1 C.2.2.2.1 (C.2.2.2.2.1 _ hlk) C.2.2.2.2.2.1.2.2.2.2.1 C.2.2.2.2.2.1.1 hP hD hS C.2.2.2.2.2.2.1 (fun q => by have := (iI_lt (b := 0) hb ⟨by omega, by omega⟩).mp q; omega) (by rw [iI_clamp hb]; omega) (by omega) hc hs d (fun q cA H1 hK1 hP1 hD1 hS1 => ?_)
  obtain ⟨kA, comp, -, -, -, e1⟩ := (hK1.2 3 (cA, .object "SkipStones$Sheet") rfl).2
  obtain ⟨kA2, comp2, -, -, -, e2⟩ := (C.2.2.2.2.2.1.1.2 2 (X.2.1.2.2, .object "SkipStones$Sheet") rfl).2
  have e3 : cA = X.2.1.2.2 := Option.some.inj (e1.symm.trans e2)
  subst e3
  rw [hw q] at hP1 hD1
  exact k q H1 locs ls hP1 hD1 hS1 hl
theorem r_new_0 (C : gC p s m args meth c cc own Ts nL ret mn X A) {index : Nat} {ws2 : Nat → va_W} (hin : ∀ w ∈ wsX00, w ∈ Ts) (hlk : Cond.classLink own index RX0 ∈ Ts) (hins : Cond.instantiable RX0 8 ∈ Ts) (hini : Cond.initialized RX0 ∈ Ts) (d : decode cc pc = .ok (.new index, 3)) (hc : cells + 1 ≤ R.cells) (hs : slots + 8 ≤ R.slots) (hw : ∀ q, ws ++ [(q, .inr (0, [.null, .int (iI 0), .int (iI 0), .int (iI 0), .int (iI 0), .int (iI 0), .int (iI 0), .int (iI 0)]))] = ws2 q)
    (k : ∀ q : Nat, gW p l e R s m args below meth c X A nL Q (cells + 1) (slots + 8) (ws2 q) (pc + 3) lo (.ref q :: rest)) : gW p l e R s m args below meth c X A nL Q cells slots ws pc lo (rest) := by
  intro H locs ls hP hD hS hl
  refine va_new (D := X.1) (ci := 0) (fs := [.null, .int (iI 0), .int (iI 0), .int (iI 0), .int (iI 0), .int (iI 0), .int (iI 0), .int (iI 0)]) (C := RX0) (T := TX0) (N := 8) C.1 C.2.1 C.2.2.2.2.1 hin tyX0 tyX0_ok C.2.2.2.1 (C.2.2.2.2.1 _ hlk) (C.2.2.2.2.1 _ hins) (C.2.2.2.2.1 _ hini) C.2.2.2.2.2.1.1 hP hD hS C.2.2.2.2.2.2.1 rfl (fun j hj => by rcases (show j = 0 ∨ j = 1 ∨ j = 2 ∨ j = 3 ∨ j = 4 ∨ j = 5 ∨ j = 6 ∨ j = 7 by omega) with rfl | rfl | rfl | rfl | rfl | rfl | rfl | rfl <;> rfl) hc hs d (fun q H1 hP1 hD1 hS1 => ?_)
  rw [hw q] at hP1 hD1
  exact k q H1 locs ls hP1 hD1 hS1 hl
theorem r_new_1 (C : gC p s m args meth c cc own Ts nL ret mn X A) {index : Nat} {ws2 : Nat → va_W} (hin : ∀ w ∈ wsX10, w ∈ Ts) (hlk : Cond.classLink own index RX1 ∈ Ts) (hins : Cond.instantiable RX1 7 ∈ Ts) (hini : Cond.initialized RX1 ∈ Ts) (d : decode cc pc = .ok (.new index, 3)) (hc : cells + 1 ≤ R.cells) (hs : slots + 7 ≤ R.slots) (hw : ∀ q, ws ++ [(q, .inr (1, [.null, .null, .null, .int (iI 0), .int (iI 0), .int (iI 0), .int (iI 0)]))] = ws2 q)
    (k : ∀ q : Nat, gW p l e R s m args below meth c X A nL Q (cells + 1) (slots + 7) (ws2 q) (pc + 3) lo (.ref q :: rest)) : gW p l e R s m args below meth c X A nL Q cells slots ws pc lo (rest) := by
  intro H locs ls hP hD hS hl
  refine va_new (D := X.1) (ci := 1) (fs := [.null, .null, .null, .int (iI 0), .int (iI 0), .int (iI 0), .int (iI 0)]) (C := RX1) (T := TX1) (N := 7) C.1 C.2.1 C.2.2.2.2.1 hin tyX1 tyX1_ok C.2.2.2.1 (C.2.2.2.2.1 _ hlk) (C.2.2.2.2.1 _ hins) (C.2.2.2.2.1 _ hini) C.2.2.2.2.2.1.1 hP hD hS C.2.2.2.2.2.2.1 rfl (fun j hj => by rcases (show j = 0 ∨ j = 1 ∨ j = 2 ∨ j = 3 ∨ j = 4 ∨ j = 5 ∨ j = 6 by omega) with rfl | rfl | rfl | rfl | rfl | rfl | rfl <;> rfl) hc hs d (fun q H1 hP1 hD1 hS1 => ?_)
  rw [hw q] at hP1 hD1
  exact k q H1 locs ls hP1 hD1 hS1 hl
theorem r_new_2 (C : gC p s m args meth c cc own Ts nL ret mn X A) {index : Nat} {ws2 : Nat → va_W} (hin : ∀ w ∈ wsX20, w ∈ Ts) (hlk : Cond.classLink own index RX2 ∈ Ts) (hins : Cond.instantiable RX2 4 ∈ Ts) (hini : Cond.initialized RX2 ∈ Ts) (d : decode cc pc = .ok (.new index, 3)) (hc : cells + 1 ≤ R.cells) (hs : slots + 4 ≤ R.slots) (hw : ∀ q, ws ++ [(q, .inr (2, [.null, .int (iI 0), .int (iI 0), .int (iI 0)]))] = ws2 q)
    (k : ∀ q : Nat, gW p l e R s m args below meth c X A nL Q (cells + 1) (slots + 4) (ws2 q) (pc + 3) lo (.ref q :: rest)) : gW p l e R s m args below meth c X A nL Q cells slots ws pc lo (rest) := by
  intro H locs ls hP hD hS hl
  refine va_new (D := X.1) (ci := 2) (fs := [.null, .int (iI 0), .int (iI 0), .int (iI 0)]) (C := RX2) (T := TX2) (N := 4) C.1 C.2.1 C.2.2.2.2.1 hin tyX2 tyX2_ok C.2.2.2.1 (C.2.2.2.2.1 _ hlk) (C.2.2.2.2.1 _ hins) (C.2.2.2.2.1 _ hini) C.2.2.2.2.2.1.1 hP hD hS C.2.2.2.2.2.2.1 rfl (fun j hj => by rcases (show j = 0 ∨ j = 1 ∨ j = 2 ∨ j = 3 by omega) with rfl | rfl | rfl | rfl <;> rfl) hc hs d (fun q H1 hP1 hD1 hS1 => ?_)
  rw [hw q] at hP1 hD1
  exact k q H1 locs ls hP1 hD1 hS1 hl
theorem r_new_3 (C : gC p s m args meth c cc own Ts nL ret mn X A) {index : Nat} {ws2 : Nat → va_W} (hin : ∀ w ∈ wsX30, w ∈ Ts) (hlk : Cond.classLink own index RX3 ∈ Ts) (hins : Cond.instantiable RX3 5 ∈ Ts) (hini : Cond.initialized RX3 ∈ Ts) (d : decode cc pc = .ok (.new index, 3)) (hc : cells + 1 ≤ R.cells) (hs : slots + 5 ≤ R.slots) (hw : ∀ q, ws ++ [(q, .inr (3, [.int (iI 0), .int (iI 0), .int (iI 0), .int (iI 0), .int (iI 0)]))] = ws2 q)
    (k : ∀ q : Nat, gW p l e R s m args below meth c X A nL Q (cells + 1) (slots + 5) (ws2 q) (pc + 3) lo (.ref q :: rest)) : gW p l e R s m args below meth c X A nL Q cells slots ws pc lo (rest) := by
  intro H locs ls hP hD hS hl
  refine va_new (D := X.1) (ci := 3) (fs := [.int (iI 0), .int (iI 0), .int (iI 0), .int (iI 0), .int (iI 0)]) (C := RX3) (T := TX3) (N := 5) C.1 C.2.1 C.2.2.2.2.1 hin tyX3 tyX3_ok C.2.2.2.1 (C.2.2.2.2.1 _ hlk) (C.2.2.2.2.1 _ hins) (C.2.2.2.2.1 _ hini) C.2.2.2.2.2.1.1 hP hD hS C.2.2.2.2.2.2.1 rfl (fun j hj => by rcases (show j = 0 ∨ j = 1 ∨ j = 2 ∨ j = 3 ∨ j = 4 by omega) with rfl | rfl | rfl | rfl | rfl <;> rfl) hc hs d (fun q H1 hP1 hD1 hS1 => ?_)
  rw [hw q] at hP1 hD1
  exact k q H1 locs ls hP1 hD1 hS1 hl
theorem r_new_4 (C : gC p s m args meth c cc own Ts nL ret mn X A) {index : Nat} {ws2 : Nat → va_W} (hin : ∀ w ∈ wsX40, w ∈ Ts) (hlk : Cond.classLink own index RX4 ∈ Ts) (hins : Cond.instantiable RX4 9 ∈ Ts) (hini : Cond.initialized RX4 ∈ Ts) (d : decode cc pc = .ok (.new index, 3)) (hc : cells + 1 ≤ R.cells) (hs : slots + 9 ≤ R.slots) (hw : ∀ q, ws ++ [(q, .inr (4, [.int (iI 0), .int (iI 0), .int (iI 0), .int (iI 0), .int (iI 0), .int (iI 0), .null, .int (iI 0), .int (iI 0)]))] = ws2 q)
    (k : ∀ q : Nat, gW p l e R s m args below meth c X A nL Q (cells + 1) (slots + 9) (ws2 q) (pc + 3) lo (.ref q :: rest)) : gW p l e R s m args below meth c X A nL Q cells slots ws pc lo (rest) := by
  intro H locs ls hP hD hS hl
  refine va_new (D := X.1) (ci := 4) (fs := [.int (iI 0), .int (iI 0), .int (iI 0), .int (iI 0), .int (iI 0), .int (iI 0), .null, .int (iI 0), .int (iI 0)]) (C := RX4) (T := TX4) (N := 9) C.1 C.2.1 C.2.2.2.2.1 hin tyX4 tyX4_ok C.2.2.2.1 (C.2.2.2.2.1 _ hlk) (C.2.2.2.2.1 _ hins) (C.2.2.2.2.1 _ hini) C.2.2.2.2.2.1.1 hP hD hS C.2.2.2.2.2.2.1 rfl (fun j hj => by rcases (show j = 0 ∨ j = 1 ∨ j = 2 ∨ j = 3 ∨ j = 4 ∨ j = 5 ∨ j = 6 ∨ j = 7 ∨ j = 8 by omega) with rfl | rfl | rfl | rfl | rfl | rfl | rfl | rfl | rfl <;> rfl) hc hs d (fun q H1 hP1 hD1 hS1 => ?_)
  rw [hw q] at hP1 hD1
  exact k q H1 locs ls hP1 hD1 hS1 hl
theorem r_new_5 (C : gC p s m args meth c cc own Ts nL ret mn X A) {index : Nat} {ws2 : Nat → va_W} (hin : ∀ w ∈ wsX50, w ∈ Ts) (hlk : Cond.classLink own index RX5 ∈ Ts) (hins : Cond.instantiable RX5 13 ∈ Ts) (hini : Cond.initialized RX5 ∈ Ts) (d : decode cc pc = .ok (.new index, 3)) (hc : cells + 1 ≤ R.cells) (hs : slots + 13 ≤ R.slots) (hw : ∀ q, ws ++ [(q, .inr (5, [.null, .int (iI 0), .null, .null, .null, .null, .int (iI 0), .int (iI 0), .null, .int (iI 0), .null, .int (iI 0), .int (iI 0)]))] = ws2 q)
    (k : ∀ q : Nat, gW p l e R s m args below meth c X A nL Q (cells + 1) (slots + 13) (ws2 q) (pc + 3) lo (.ref q :: rest)) : gW p l e R s m args below meth c X A nL Q cells slots ws pc lo (rest) := by
  intro H locs ls hP hD hS hl
  refine va_new (D := X.1) (ci := 5) (fs := [.null, .int (iI 0), .null, .null, .null, .null, .int (iI 0), .int (iI 0), .null, .int (iI 0), .null, .int (iI 0), .int (iI 0)]) (C := RX5) (T := TX5) (N := 13) C.1 C.2.1 C.2.2.2.2.1 hin tyX5 tyX5_ok C.2.2.2.1 (C.2.2.2.2.1 _ hlk) (C.2.2.2.2.1 _ hins) (C.2.2.2.2.1 _ hini) C.2.2.2.2.2.1.1 hP hD hS C.2.2.2.2.2.2.1 rfl (fun j hj => by rcases (show j = 0 ∨ j = 1 ∨ j = 2 ∨ j = 3 ∨ j = 4 ∨ j = 5 ∨ j = 6 ∨ j = 7 ∨ j = 8 ∨ j = 9 ∨ j = 10 ∨ j = 11 ∨ j = 12 by omega) with rfl | rfl | rfl | rfl | rfl | rfl | rfl | rfl | rfl | rfl | rfl | rfl | rfl <;> rfl) hc hs d (fun q H1 hP1 hD1 hS1 => ?_)
  rw [hw q] at hP1 hD1
  exact k q H1 locs ls hP1 hD1 hS1 hl
theorem r_new_6 (C : gC p s m args meth c cc own Ts nL ret mn X A) {index : Nat} {ws2 : Nat → va_W} (hin : ∀ w ∈ wsX60, w ∈ Ts) (hlk : Cond.classLink own index RX6 ∈ Ts) (hins : Cond.instantiable RX6 26 ∈ Ts) (hini : Cond.initialized RX6 ∈ Ts) (d : decode cc pc = .ok (.new index, 3)) (hc : cells + 1 ≤ R.cells) (hs : slots + 26 ≤ R.slots) (hw : ∀ q, ws ++ [(q, .inr (6, [.int (iI 0), .int (iI 0), .null, .null, .null, .null, .null, .null, .null, .int (iI 0), .int (iI 0), .null, .int (iI 0), .int (iI 0), .null, .int (iI 0), .null, .int (iI 0), .int (iI 0), .int (iI 0), .null, .null, .null, .null, .null, .int (iI 0)]))] = ws2 q)
    (k : ∀ q : Nat, gW p l e R s m args below meth c X A nL Q (cells + 1) (slots + 26) (ws2 q) (pc + 3) lo (.ref q :: rest)) : gW p l e R s m args below meth c X A nL Q cells slots ws pc lo (rest) := by
  intro H locs ls hP hD hS hl
  refine va_new (D := X.1) (ci := 6) (fs := [.int (iI 0), .int (iI 0), .null, .null, .null, .null, .null, .null, .null, .int (iI 0), .int (iI 0), .null, .int (iI 0), .int (iI 0), .null, .int (iI 0), .null, .int (iI 0), .int (iI 0), .int (iI 0), .null, .null, .null, .null, .null, .int (iI 0)]) (C := RX6) (T := TX6) (N := 26) C.1 C.2.1 C.2.2.2.2.1 hin tyX6 tyX6_ok C.2.2.2.1 (C.2.2.2.2.1 _ hlk) (C.2.2.2.2.1 _ hins) (C.2.2.2.2.1 _ hini) C.2.2.2.2.2.1.1 hP hD hS C.2.2.2.2.2.2.1 rfl (fun j hj => by rcases (show j = 0 ∨ j = 1 ∨ j = 2 ∨ j = 3 ∨ j = 4 ∨ j = 5 ∨ j = 6 ∨ j = 7 ∨ j = 8 ∨ j = 9 ∨ j = 10 ∨ j = 11 ∨ j = 12 ∨ j = 13 ∨ j = 14 ∨ j = 15 ∨ j = 16 ∨ j = 17 ∨ j = 18 ∨ j = 19 ∨ j = 20 ∨ j = 21 ∨ j = 22 ∨ j = 23 ∨ j = 24 ∨ j = 25 by omega) with rfl | rfl | rfl | rfl | rfl | rfl | rfl | rfl | rfl | rfl | rfl | rfl | rfl | rfl | rfl | rfl | rfl | rfl | rfl | rfl | rfl | rfl | rfl | rfl | rfl | rfl <;> rfl) hc hs d (fun q H1 hP1 hD1 hS1 => ?_)
  rw [hw q] at hP1 hD1
  exact k q H1 locs ls hP1 hD1 hS1 hl
end GN
