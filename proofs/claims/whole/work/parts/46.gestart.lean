section GS0
theorem gs_len {args : Array Value} {s : State} {t : Term} {v : Value} (h : (Term.length t).eval args s none [] s = some v) : ∃ a cell, t.eval args s none [] s = some (.ref a) ∧ s.arrayAt? a = some cell ∧ v = .int cell.slots.size.toInt32 ∧ cell.slots.size < 2147483648 := by
  simp only [Term.eval, Option.bind_eq_bind] at h
  cases ht : t.eval args s none [] s with
  | none => simp [ht] at h
  | some x =>
    cases x <;> simp [ht] at h
    case ref a =>
      obtain ⟨cell, hcell, h⟩ := Option.bind_eq_some_iff.mp h
      by_cases hn : cell.slots.size < 2147483648
      · rw [if_pos hn] at h; cases h; exact ⟨a, cell, rfl, hcell, rfl, hn⟩
      · rw [if_neg hn] at h; cases h
theorem gs_X {args : Array Value} {s : State} {tm : Term} {f : Nat → Int} (harr : (Cond.arrayOf tm .int).before args s = true) (hlen : (Term.length tm).eval args s none [] s = some (.int 6)) (hel : ∀ j : Nat, j < 6 → (Term.elem tm (.int (Int32.ofNat j))).eval args s none [] s = some (.int (iF f j))) : ∃ t : Nat, tm.eval args s none [] s = some (.ref t) ∧ va_X t 6 (iF f) s s.heap ∧ t < s.heap.size ∧ ¬ (fun q : Nat => s.heap.size ≤ q) t := by
  obtain ⟨t, ht, cell, h1, h2, h3, h4, h5, h6, h7⟩ := va_Tof (N := 6) (f := fun j => .int (iF f j)) (A := fun q : Nat => s.heap.size ≤ q) (by decide) harr hlen hel (fun a ha => Nat.not_le.mpr ha)
  obtain ⟨a2, cell2, k1, k2, k3, k4⟩ := gs_len hlen
  cases ht.symm.trans k1
  obtain ⟨k5, -⟩ := State.arrayAt?_spec k2
  cases h1.symm.trans k5
  have hs : cell.slots.size = 6 := by
    have e := congrArg Int32.toInt h5
    have e1 : cell.slots.size.toInt32.toInt = (cell.slots.size : Int) := Int32.toInt_ofNat_of_lt (by omega)
    have e2 : (Int32.ofNat 6).toInt = 6 := by decide
    omega
  exact ⟨t, ht, ⟨cell, h1, h2, h3, hs, h6⟩, (Array.getElem?_eq_some_iff.mp h1).1, h7⟩

theorem gs_AT_FIRST {args : Array Value} {s : State} (hts : ∀ w ∈ lw_tbl, w.before args s = true) (hgv : (Jvm.Cond.and given_1 narrow_1).before args s = true) : ∃ t : Nat, (Term.static "SkipStones" "AT_FIRST" "[I").eval args s none [] s = some (.ref t) ∧ gSA "AT_FIRST" t gAF (fun q : Nat => s.heap.size ≤ q) s s.heap ∧ ∃ cell : Cell, s.heap[t]? = some cell ∧ s.isArrayOf cell .int ∧ s.vm.findClass "[I" = some cell.cls := by
  have hs := flat_of_before _ hgv
  have hel : ∀ j : Nat, j < 6 → (Term.elem (.static "SkipStones" "AT_FIRST" "[I") (.int (Int32.ofNat j))).eval args s none [] s = some (.int (iF gAF j)) := by
    intro j hj
    match j, hj with
    | 0, _ => exact (va_eqt (hs (Cond.eq (.elem (.static "SkipStones" "AT_FIRST" "[I") (.int 0)) (.int 20)) (by decide +kernel))).trans rfl
    | 1, _ => exact (va_eqt (hs (Cond.eq (.elem (.static "SkipStones" "AT_FIRST" "[I") (.int 1)) (.int 5)) (by decide +kernel))).trans rfl
    | 2, _ => exact (va_eqt (hs (Cond.eq (.elem (.static "SkipStones" "AT_FIRST" "[I") (.int 2)) (.int 80)) (by decide +kernel))).trans rfl
    | 3, _ => exact (va_eqt (hs (Cond.eq (.elem (.static "SkipStones" "AT_FIRST" "[I") (.int 3)) (.int 20)) (by decide +kernel))).trans rfl
    | 4, _ => exact (va_eqt (hs (Cond.eq (.elem (.static "SkipStones" "AT_FIRST" "[I") (.int 4)) (.int 6)) (by decide +kernel))).trans rfl
    | 5, _ => exact (va_eqt (hs (Cond.eq (.elem (.static "SkipStones" "AT_FIRST" "[I") (.int 5)) (.int 20)) (by decide +kernel))).trans rfl
    | j + 6, h => exact absurd h (by omega)
  obtain ⟨t, ht, hX, hlt, hA⟩ := gs_X (f := gAF) (hs (Cond.arrayOf (.static "SkipStones" "AT_FIRST" "[I") .int) (by decide +kernel)) (va_eqt (hs (Cond.eq (.length (.static "SkipStones" "AT_FIRST" "[I")) (.int 6)) (by decide +kernel))) hel
  refine ⟨t, ht, ⟨va_Zref (hts (Jvm.Cond.laysStatic "SkipStones" "AT_FIRST" "[I") (List.mem_of_getElem? (i := 122) (by decide +kernel))) (hts (Jvm.Cond.initialized "SkipStones") (List.mem_of_getElem? (i := 46) (by decide +kernel))) ht (fun a ha => Nat.not_le.mpr ha), hX, hlt, hA⟩, ?_⟩
  obtain ⟨a2, cc, cell, k, e1, e2, e3, e4, e5, e6, -⟩ := Cond.exactly_spec (hs (Cond.exactly (.static "SkipStones" "AT_FIRST" "[I") "[I") (by decide +kernel))
  cases ht.symm.trans e1
  obtain ⟨cell2, x1, x2, -⟩ := hX
  cases e3.symm.trans x1
  exact ⟨cell, e3, x2, by rw [e6]; exact e2⟩
theorem gs_LETTERS {args : Array Value} {s : State} (hts : ∀ w ∈ lw_tbl, w.before args s = true) (hgv : (Jvm.Cond.and given_1 narrow_1).before args s = true) : ∃ t : Nat, (Term.static "SkipStones" "LETTERS" "[I").eval args s none [] s = some (.ref t) ∧ gSA "LETTERS" t gLT (fun q : Nat => s.heap.size ≤ q) s s.heap ∧ ∃ cell : Cell, s.heap[t]? = some cell ∧ s.isArrayOf cell .int ∧ s.vm.findClass "[I" = some cell.cls := by
  have hs := flat_of_before _ hgv
  have hel : ∀ j : Nat, j < 6 → (Term.elem (.static "SkipStones" "LETTERS" "[I") (.int (Int32.ofNat j))).eval args s none [] s = some (.int (iF gLT j)) := by
    intro j hj
    match j, hj with
    | 0, _ => exact (va_eqt (hs (Cond.eq (.elem (.static "SkipStones" "LETTERS" "[I") (.int 0)) (.int 108)) (by decide +kernel))).trans rfl
    | 1, _ => exact (va_eqt (hs (Cond.eq (.elem (.static "SkipStones" "LETTERS" "[I") (.int 1)) (.int 114)) (by decide +kernel))).trans rfl
    | 2, _ => exact (va_eqt (hs (Cond.eq (.elem (.static "SkipStones" "LETTERS" "[I") (.int 2)) (.int 117)) (by decide +kernel))).trans rfl
    | 3, _ => exact (va_eqt (hs (Cond.eq (.elem (.static "SkipStones" "LETTERS" "[I") (.int 3)) (.int 115)) (by decide +kernel))).trans rfl
    | 4, _ => exact (va_eqt (hs (Cond.eq (.elem (.static "SkipStones" "LETTERS" "[I") (.int 4)) (.int 107)) (by decide +kernel))).trans rfl
    | 5, _ => exact (va_eqt (hs (Cond.eq (.elem (.static "SkipStones" "LETTERS" "[I") (.int 5)) (.int 104)) (by decide +kernel))).trans rfl
    | j + 6, h => exact absurd h (by omega)
  obtain ⟨t, ht, hX, hlt, hA⟩ := gs_X (f := gLT) (hs (Cond.arrayOf (.static "SkipStones" "LETTERS" "[I") .int) (by decide +kernel)) (va_eqt (hs (Cond.eq (.length (.static "SkipStones" "LETTERS" "[I")) (.int 6)) (by decide +kernel))) hel
  refine ⟨t, ht, ⟨va_Zref (hts (Jvm.Cond.laysStatic "SkipStones" "LETTERS" "[I") (List.mem_of_getElem? (i := 344) (by decide +kernel))) (hts (Jvm.Cond.initialized "SkipStones") (List.mem_of_getElem? (i := 46) (by decide +kernel))) ht (fun a ha => Nat.not_le.mpr ha), hX, hlt, hA⟩, ?_⟩
  obtain ⟨a2, cc, cell, k, e1, e2, e3, e4, e5, e6, -⟩ := Cond.exactly_spec (hs (Cond.exactly (.static "SkipStones" "LETTERS" "[I") "[I") (by decide +kernel))
  cases ht.symm.trans e1
  obtain ⟨cell2, x1, x2, -⟩ := hX
  cases e3.symm.trans x1
  exact ⟨cell, e3, x2, by rw [e6]; exact e2⟩
theorem gs_LEAST {args : Array Value} {s : State} (hts : ∀ w ∈ lw_tbl, w.before args s = true) (hgv : (Jvm.Cond.and given_1 narrow_1).before args s = true) : ∃ t : Nat, (Term.static "SkipStones" "LEAST" "[I").eval args s none [] s = some (.ref t) ∧ gSA "LEAST" t gLE (fun q : Nat => s.heap.size ≤ q) s s.heap ∧ ∃ cell : Cell, s.heap[t]? = some cell ∧ s.isArrayOf cell .int ∧ s.vm.findClass "[I" = some cell.cls := by
  have hs := flat_of_before _ hgv
  have hel : ∀ j : Nat, j < 6 → (Term.elem (.static "SkipStones" "LEAST" "[I") (.int (Int32.ofNat j))).eval args s none [] s = some (.int (iF gLE j)) := by
    intro j hj
    match j, hj with
    | 0, _ => exact (va_eqt (hs (Cond.eq (.elem (.static "SkipStones" "LEAST" "[I") (.int 0)) (.int 1)) (by decide +kernel))).trans rfl
    | 1, _ => exact (va_eqt (hs (Cond.eq (.elem (.static "SkipStones" "LEAST" "[I") (.int 1)) (.int 0)) (by decide +kernel))).trans rfl
    | 2, _ => exact (va_eqt (hs (Cond.eq (.elem (.static "SkipStones" "LEAST" "[I") (.int 2)) (.int 1)) (by decide +kernel))).trans rfl
    | 3, _ => exact (va_eqt (hs (Cond.eq (.elem (.static "SkipStones" "LEAST" "[I") (.int 3)) (.int 0)) (by decide +kernel))).trans rfl
    | 4, _ => exact (va_eqt (hs (Cond.eq (.elem (.static "SkipStones" "LEAST" "[I") (.int 4)) (.int 0)) (by decide +kernel))).trans rfl
    | 5, _ => exact (va_eqt (hs (Cond.eq (.elem (.static "SkipStones" "LEAST" "[I") (.int 5)) (.int 1)) (by decide +kernel))).trans rfl
    | j + 6, h => exact absurd h (by omega)
  obtain ⟨t, ht, hX, hlt, hA⟩ := gs_X (f := gLE) (hs (Cond.arrayOf (.static "SkipStones" "LEAST" "[I") .int) (by decide +kernel)) (va_eqt (hs (Cond.eq (.length (.static "SkipStones" "LEAST" "[I")) (.int 6)) (by decide +kernel))) hel
  refine ⟨t, ht, ⟨va_Zref (hts (Jvm.Cond.laysStatic "SkipStones" "LEAST" "[I") (List.mem_of_getElem? (i := 371) (by decide +kernel))) (hts (Jvm.Cond.initialized "SkipStones") (List.mem_of_getElem? (i := 46) (by decide +kernel))) ht (fun a ha => Nat.not_le.mpr ha), hX, hlt, hA⟩, ?_⟩
  obtain ⟨a2, cc, cell, k, e1, e2, e3, e4, e5, e6, -⟩ := Cond.exactly_spec (hs (Cond.exactly (.static "SkipStones" "LEAST" "[I") "[I") (by decide +kernel))
  cases ht.symm.trans e1
  obtain ⟨cell2, x1, x2, -⟩ := hX
  cases e3.symm.trans x1
  exact ⟨cell, e3, x2, by rw [e6]; exact e2⟩
theorem gs_GREATEST {args : Array Value} {s : State} (hts : ∀ w ∈ lw_tbl, w.before args s = true) (hgv : (Jvm.Cond.and given_1 narrow_1).before args s = true) : ∃ t : Nat, (Term.static "SkipStones" "GREATEST" "[I").eval args s none [] s = some (.ref t) ∧ gSA "GREATEST" t gGR (fun q : Nat => s.heap.size ≤ q) s s.heap ∧ ∃ cell : Cell, s.heap[t]? = some cell ∧ s.isArrayOf cell .int ∧ s.vm.findClass "[I" = some cell.cls := by
  have hs := flat_of_before _ hgv
  have hel : ∀ j : Nat, j < 6 → (Term.elem (.static "SkipStones" "GREATEST" "[I") (.int (Int32.ofNat j))).eval args s none [] s = some (.int (iF gGR j)) := by
    intro j hj
    match j, hj with
    | 0, _ => exact (va_eqt (hs (Cond.eq (.elem (.static "SkipStones" "GREATEST" "[I") (.int 0)) (.int 99)) (by decide +kernel))).trans rfl
    | 1, _ => exact (va_eqt (hs (Cond.eq (.elem (.static "SkipStones" "GREATEST" "[I") (.int 1)) (.int 50)) (by decide +kernel))).trans rfl
    | 2, _ => exact (va_eqt (hs (Cond.eq (.elem (.static "SkipStones" "GREATEST" "[I") (.int 2)) (.int 99)) (by decide +kernel))).trans rfl
    | 3, _ => exact (va_eqt (hs (Cond.eq (.elem (.static "SkipStones" "GREATEST" "[I") (.int 3)) (.int 99)) (by decide +kernel))).trans rfl
    | 4, _ => exact (va_eqt (hs (Cond.eq (.elem (.static "SkipStones" "GREATEST" "[I") (.int 4)) (.int 50)) (by decide +kernel))).trans rfl
    | 5, _ => exact (va_eqt (hs (Cond.eq (.elem (.static "SkipStones" "GREATEST" "[I") (.int 5)) (.int 45)) (by decide +kernel))).trans rfl
    | j + 6, h => exact absurd h (by omega)
  obtain ⟨t, ht, hX, hlt, hA⟩ := gs_X (f := gGR) (hs (Cond.arrayOf (.static "SkipStones" "GREATEST" "[I") .int) (by decide +kernel)) (va_eqt (hs (Cond.eq (.length (.static "SkipStones" "GREATEST" "[I")) (.int 6)) (by decide +kernel))) hel
  refine ⟨t, ht, ⟨va_Zref (hts (Jvm.Cond.laysStatic "SkipStones" "GREATEST" "[I") (List.mem_of_getElem? (i := 373) (by decide +kernel))) (hts (Jvm.Cond.initialized "SkipStones") (List.mem_of_getElem? (i := 46) (by decide +kernel))) ht (fun a ha => Nat.not_le.mpr ha), hX, hlt, hA⟩, ?_⟩
  obtain ⟨a2, cc, cell, k, e1, e2, e3, e4, e5, e6, -⟩ := Cond.exactly_spec (hs (Cond.exactly (.static "SkipStones" "GREATEST" "[I") "[I") (by decide +kernel))
  cases ht.symm.trans e1
  obtain ⟨cell2, x1, x2, -⟩ := hX
  cases e3.symm.trans x1
  exact ⟨cell, e3, x2, by rw [e6]; exact e2⟩
theorem gE_start {args : Array Value} {s : State} (hts : ∀ w ∈ lw_tbl, w.before args s = true) (hgv : (Jvm.Cond.and given_1 narrow_1).before args s = true) : ∃ X : gX, gE X (fun q : Nat => s.heap.size ≤ q) s s.heap := by
  obtain ⟨c0, i0, hk0⟩ := u_known (C := RX0) (T := TX0) (N := 8) (n := 8) hts inX0 (hts (Jvm.Cond.instantiable "SkipStones$Flight" (8 : Nat)) (List.mem_of_getElem? (i := 154) (by decide +kernel)))
  obtain ⟨c1, i1, hk1⟩ := u_known (C := RX1) (T := TX1) (N := 7) (n := 7) hts inX1 (hts (Jvm.Cond.instantiable "SkipStones$LawText" (7 : Nat)) (List.mem_of_getElem? (i := 116) (by decide +kernel)))
  obtain ⟨c2, i2, hk2⟩ := u_known (C := RX2) (T := TX2) (N := 4) (n := 4) hts inX2 (hts (Jvm.Cond.instantiable "SkipStones$Sheet" (4 : Nat)) (List.mem_of_getElem? (i := 195) (by decide +kernel)))
  obtain ⟨c3, i3, hk3⟩ := u_known (C := RX3) (T := TX3) (N := 5) (n := 5) hts inX3 (hts (Jvm.Cond.instantiable "SkipStones$Stone" (5 : Nat)) (List.mem_of_getElem? (i := 263) (by decide +kernel)))
  obtain ⟨c4, i4, hk4⟩ := u_known (C := RX4) (T := TX4) (N := 9) (n := 9) hts inX4 (hts (Jvm.Cond.instantiable "SkipStones$Water" (9 : Nat)) (List.mem_of_getElem? (i := 67) (by decide +kernel)))
  obtain ⟨c5, i5, hk5⟩ := u_known (C := RX5) (T := TX5) (N := 13) (n := 13) hts inX5 (hts (Jvm.Cond.instantiable "SkipStones" (13 : Nat)) (List.mem_of_getElem? (i := 57) (by decide +kernel)))
  obtain ⟨c6, i6, hk6⟩ := u_known (C := RX6) (T := TX6) (N := 26) (n := 26) hts inX6 (hts (Jvm.Cond.instantiable "SkipStonesModel" (26 : Nat)) (List.mem_of_getElem? (i := 632) (by decide +kernel)))
  obtain ⟨t0, -, hz0, cl0, hc0, ha0, hf0⟩ := gs_AT_FIRST hts hgv
  obtain ⟨t1, -, hz1, cl1, hc1, ha1, hf1⟩ := gs_LETTERS hts hgv
  obtain ⟨t2, -, hz2, cl2, hc2, ha2, hf2⟩ := gs_LEAST hts hgv
  obtain ⟨t3, -, hz3, cl3, hc3, ha3, hf3⟩ := gs_GREATEST hts hgv
  have hoSt := (hts (Jvm.Cond.arrayOver (Jvm.ClassFile.FieldType.object "SkipStones$Stone")) (List.mem_of_getElem? (i := 65) (by decide +kernel)))
  have hoSh := (hts (Jvm.Cond.arrayOver (Jvm.ClassFile.FieldType.object "SkipStones$Sheet")) (List.mem_of_getElem? (i := 186) (by decide +kernel)))
  obtain ⟨p1, cS, k1, a1, a2, a3, a4, a5⟩ := Cond.arrayOver_spec hoSt
  obtain ⟨p2, cH, k2, b1, b2, b3, b4, b5⟩ := Cond.arrayOver_spec hoSh
  obtain ⟨f1, kA, f2, comp, f3⟩ := ha0
  refine ⟨((fun k => [c0, c1, c2, c3, c4, c5, c6].getD k c0, fun k => [i0, i1, i2, i3, i4, i5, i6].getD k i0), (cl0.cls, cS, cH), (t0, t1, t2, t3)), ⟨fun k q hq => ?_, fun k q hq => ?_⟩, ?_, ?_, va_AO.of hoSt, va_AO.of hoSh, va_Nw.of rfl (hts (Jvm.Cond.castable "[I" "java/lang/Cloneable") (List.mem_of_getElem? (i := 128) (by decide +kernel))), hz0, hz1, hz2, hz3, cl0, hc0, rfl, hz0.2.2.2⟩
  · match k, hq with
    | 0, hq => cases hq; exact hk0
    | 1, hq => cases hq; exact hk1
    | 2, hq => cases hq; exact hk2
    | 3, hq => cases hq; exact hk3
    | 4, hq => cases hq; exact hk4
    | 5, hq => cases hq; exact hk5
    | 6, hq => cases hq; exact hk6
    | k + 7, hq => simp [vwCl] at hq
  · match k, hq with
    | 0, hq => cases hq; exact ⟨fun n z => ⟨(fun k h => by cases h), kA, f2, comp, f3⟩, hf0⟩
    | 1, hq => cases hq; exact ⟨fun n z => ⟨(fun k h => by cases h), k1, a3, p1, a4⟩, k1, p1, a3, a4, a1, a5⟩
    | 2, hq => cases hq; exact ⟨fun n z => ⟨(fun k h => by cases h), k2, b3, p2, b4⟩, k2, p2, b3, b4, b1, b5⟩
    | k + 3, hq => simp [gTys] at hq
  · intro q hq
    rcases List.mem_iff_getElem?.mp hq with ⟨k, hk⟩
    match k, hk with
    | 0, hk => cases hk; exact va_Nw.of rfl (hts (Jvm.Cond.methodLinkNest "SkipStones" (23 : Nat) ({ cls := "SkipStones$Water", name := "<init>", desc := "()V" } : Jvm.MethodName) "SkipStones") (List.mem_of_getElem? (i := 68) (by decide +kernel)))
    | 1, hk => cases hk; exact va_Nw.of rfl (hts (Jvm.Cond.methodLinkNest "SkipStones" (30 : Nat) ({ cls := "SkipStones$LawText", name := "<init>", desc := "()V" } : Jvm.MethodName) "SkipStones") (List.mem_of_getElem? (i := 117) (by decide +kernel)))
    | 2, hk => cases hk; exact va_Nw.of rfl (hts (Jvm.Cond.methodLinkNest "SkipStones" (37 : Nat) ({ cls := "SkipStones$Flight", name := "<init>", desc := "()V" } : Jvm.MethodName) "SkipStones") (List.mem_of_getElem? (i := 155) (by decide +kernel)))
    | 3, hk => cases hk; exact va_Nw.of rfl (hts (Jvm.Cond.methodLinkNest "SkipStones" (74 : Nat) ({ cls := "SkipStones$Sheet", name := "<init>", desc := "()V" } : Jvm.MethodName) "SkipStones") (List.mem_of_getElem? (i := 196) (by decide +kernel)))
    | 4, hk => cases hk; exact va_Nw.of rfl (hts (Jvm.Cond.methodLinkNest "SkipStones$LawText" (83 : Nat) ({ cls := "SkipStones", name := "within", desc := "(III)Z" } : Jvm.MethodName) "SkipStones") (List.mem_of_getElem? (i := 365) (by decide +kernel)))
    | 5, hk => cases hk; exact va_Nw.of rfl (hts (Jvm.Cond.methodLinkNest "SkipStones$Flight" (47 : Nat) ({ cls := "SkipStones", name := "sinks", desc := "(LSkipStones$Stone;LSkipStones$Water;III)Z" } : Jvm.MethodName) "SkipStones") (List.mem_of_getElem? (i := 421) (by decide +kernel)))
    | k + 6, hk => simp [gNestM] at hk
  · intro q hq
    rcases List.mem_iff_getElem?.mp hq with ⟨k, hk⟩
    match k, hk with
    | 0, hk => cases hk; exact va_Nw.of rfl (hts (Jvm.Cond.fieldLinkNest "SkipStones$LawText" (9 : Nat) "SkipStones" "AT_FIRST" "[I" "SkipStones") (List.mem_of_getElem? (i := 121) (by decide +kernel)))
    | 1, hk => cases hk; exact va_Nw.of rfl (hts (Jvm.Cond.fieldLinkNest "SkipStones$LawText" (87 : Nat) "SkipStones" "LETTERS" "[I" "SkipStones") (List.mem_of_getElem? (i := 343) (by decide +kernel)))
    | 2, hk => cases hk; exact va_Nw.of rfl (hts (Jvm.Cond.fieldLinkNest "SkipStones$LawText" (77 : Nat) "SkipStones" "LEAST" "[I" "SkipStones") (List.mem_of_getElem? (i := 370) (by decide +kernel)))
    | 3, hk => cases hk; exact va_Nw.of rfl (hts (Jvm.Cond.fieldLinkNest "SkipStones$LawText" (80 : Nat) "SkipStones" "GREATEST" "[I" "SkipStones") (List.mem_of_getElem? (i := 372) (by decide +kernel)))
    | k + 4, hk => simp [gNestF] at hk
end GS0
