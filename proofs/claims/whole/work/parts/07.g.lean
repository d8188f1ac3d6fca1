section GA
/-- math ints as machine ints -/
def iI (z : Int) : Int32 := Int32.ofInt z
def lI (z : Int) : Int64 := Int64.ofInt z
abbrev inB (z : Int) : Prop := -2147483648 ≤ z ∧ z < 2147483648
abbrev inL (z : Int) : Prop := -9223372036854775808 ≤ z ∧ z < 9223372036854775808
theorem iI_add (a b : Int) : iI a + iI b = iI (a + b) := (Int32.ofInt_add a b).symm
theorem iI_sub (a b : Int) : iI a - iI b = iI (a - b) := (Int32.ofInt_sub a b).symm
theorem iI_mul (a b : Int) : iI a * iI b = iI (a * b) := (Int32.ofInt_mul a b).symm
theorem iI_neg (a : Int) : - iI a = iI (-a) := (Int32.ofInt_neg a).symm
theorem lI_add (a b : Int) : lI a + lI b = lI (a + b) := (Int64.ofInt_add a b).symm
theorem lI_sub (a b : Int) : lI a - lI b = lI (a - b) := (Int64.ofInt_sub a b).symm
theorem lI_mul (a b : Int) : lI a * lI b = lI (a * b) := (Int64.ofInt_mul a b).symm
theorem iI_toInt {z : Int} (h : inB z) : (iI z).toInt = z := Int32.toInt_ofInt_of_le (by have := h.1; omega) (by have := h.2; omega)
theorem lI_toInt {z : Int} (h : inL z) : (lI z).toInt = z := Int64.toInt_ofInt_of_le (by have := h.1; omega) (by have := h.2; omega)
theorem iI_of (x : Int32) : iI x.toInt = x := Int32.ofInt_toInt x
theorem iI_ofB (x : Int32) : inB x.toInt := ⟨by have := x.le_toInt; omega, by have := x.toInt_lt; omega⟩
theorem iI_lt {a b : Int} (ha : inB a) (hb : inB b) : iI a < iI b ↔ a < b := by rw [Int32.lt_iff_toInt_lt, iI_toInt ha, iI_toInt hb]
theorem iI_le {a b : Int} (ha : inB a) (hb : inB b) : iI a ≤ iI b ↔ a ≤ b := by rw [Int32.le_iff_toInt_le, iI_toInt ha, iI_toInt hb]
theorem iI_eq {a b : Int} (ha : inB a) (hb : inB b) : iI a = iI b ↔ a = b := by rw [← Int32.toInt_inj, iI_toInt ha, iI_toInt hb]
theorem lI_lt {a b : Int} (ha : inL a) (hb : inL b) : lI a < lI b ↔ a < b := by rw [Int64.lt_iff_toInt_lt, lI_toInt ha, lI_toInt hb]
theorem lI_le {a b : Int} (ha : inL a) (hb : inL b) : lI a ≤ lI b ↔ a ≤ b := by rw [Int64.le_iff_toInt_le, lI_toInt ha, lI_toInt hb]
theorem lI_eq {a b : Int} (ha : inL a) (hb : inL b) : lI a = lI b ↔ a = b := by rw [← Int64.toInt_inj, lI_toInt ha, lI_toInt hb]
theorem iI_0 : iI 0 = 0 := rfl
theorem lI_0 : lI 0 = 0 := rfl
theorem iI_div {a b : Int} (ha : 0 ≤ a ∧ a < 2147483648) (hb : 0 < b ∧ b < 2147483648) : iI a / iI b = iI (a / b) := by
  have h0 : (0 : Int) ≤ a / b := Int.ediv_nonneg ha.1 (by omega)
  have h1 : a / b ≤ a := Int.ediv_le_self b ha.1
  rw [← Int32.toInt_inj, Int32.toInt_div_of_ne_right _ _ (by
    intro h
    have := congrArg Int32.toInt h
    rw [iI_toInt ⟨by omega, by omega⟩] at this
    have h2 : (-1 : Int32).toInt = -1 := by decide
    omega), iI_toInt ⟨by omega, by omega⟩, iI_toInt ⟨by omega, by omega⟩, iI_toInt ⟨by omega, by omega⟩, Int.tdiv_eq_ediv_of_nonneg ha.1]
theorem iI_rem {a b : Int} (ha : 0 ≤ a ∧ a < 2147483648) (hb : 0 < b ∧ b < 2147483648) : iI a - iI a / iI b * iI b = iI (a % b) := by
  rw [iI_div ha hb, iI_mul, iI_sub]
  congr 1
  have := Int.emod_add_mul_ediv a b
  rw [Int.mul_comm (a / b) b]
  omega
theorem lI_div {a b : Int} (ha : 0 ≤ a ∧ a < 9223372036854775808) (hb : 0 < b ∧ b < 9223372036854775808) : lI a / lI b = lI (a / b) := by
  have h0 : (0 : Int) ≤ a / b := Int.ediv_nonneg ha.1 (by omega)
  have h1 : a / b ≤ a := Int.ediv_le_self b ha.1
  rw [← Int64.toInt_inj, Int64.toInt_div_of_ne_right _ _ (by
    intro h
    have := congrArg Int64.toInt h
    rw [lI_toInt ⟨by omega, by omega⟩] at this
    have h2 : (-1 : Int64).toInt = -1 := by decide
    omega), lI_toInt ⟨by omega, by omega⟩, lI_toInt ⟨by omega, by omega⟩, lI_toInt ⟨by omega, by omega⟩, Int.tdiv_eq_ediv_of_nonneg ha.1]
theorem lI_rem {a b : Int} (ha : 0 ≤ a ∧ a < 9223372036854775808) (hb : 0 < b ∧ b < 9223372036854775808) : lI a - lI a / lI b * lI b = lI (a % b) := by
  rw [lI_div ha hb, lI_mul, lI_sub]
  congr 1
  have := Int.emod_add_mul_ediv a b
  rw [Int.mul_comm (a / b) b]
  omega
theorem iI_i2l {z : Int} (h : inB z) : (iI z).toInt64 = lI z := by
  rw [← Int64.toInt_inj, Int32.toInt_toInt64, iI_toInt h, lI_toInt ⟨by omega, by omega⟩]
theorem lI_l2i (z : Int) : (lI z).toInt32 = iI z := Int64.toInt32_ofInt
/-- cut to a byte, to a short -/
def cutB (z : Int) : Int := z.bmod 256
def cutS (z : Int) : Int := z.bmod 65536
theorem iI_i2b (z : Int) : (iI z).toInt8.toInt32 = iI (cutB z) := by
  rw [show (iI z).toInt8 = Int8.ofInt z from Int32.toInt8_ofInt, ← Int32.ofInt_int8ToInt, Int8.toInt_ofInt]
  rfl
theorem iI_i2s (z : Int) : (iI z).toInt16.toInt32 = iI (cutS z) := by
  rw [show (iI z).toInt16 = Int16.ofInt z from Int32.toInt16_ofInt, ← Int32.ofInt_int16ToInt, Int16.toInt_ofInt]
  rfl
theorem iI_clamp {z : Int} (h : inB z) : (iI z).toNatClampNeg = z.toNat := by
  show (iI z).toInt.toNat = _
  rw [iI_toInt h]
theorem iI_in {z : Int} {n : Nat} (h : 0 ≤ z ∧ z < n) (hn : n < 2147483648) : vp_in (iI z) n := vp_in_iff.mpr (by rw [iI_toInt ⟨by omega, by omega⟩]; exact h)
/-- int arrays by math ints -/
def iF (F : Nat → Int) : Nat → Int32 := fun k => iI (F k)
def updI (F : Nat → Int) (k : Nat) (z : Int) : Nat → Int := fun j => if j = k then z else F j
theorem iF_upd (F : Nat → Int) (k : Nat) (z : Int) : upd (iF F) k (iI z) = iF (updI F k z) := by
  funext j
  by_cases h : j = k <;> simp [upd, iF, updI, h]
theorem iF_0 : (fun _ => (0 : Int32)) = iF (fun _ => 0) := rfl
def cpyI (F G : Nat → Int) (sp dp n : Nat) : Nat → Int := fun k => if dp ≤ k ∧ k < dp + n then F (sp + (k - dp)) else G k
theorem iF_cpy (F G : Nat → Int) (sp dp n : Nat) : va_cpy (iF F) (iF G) sp dp n = iF (cpyI F G sp dp n) := by
  funext k
  by_cases h : dp ≤ k ∧ k < dp + n <;> simp [va_cpy, iF, cpyI, h]
theorem updI_s {F : Nat → Int} {k : Nat} {z : Int} : updI F k z k = z := by simp [updI]
theorem updI_n {F : Nat → Int} {k j : Nat} {z : Int} (h : j ≠ k) : updI F k z j = F j := by simp [updI, h]
/-- the classes' table, the classes of the three kinds of arrays, the four tables of the class -/
abbrev gX : Type := va_G × (ClassId × ClassId × ClassId) × (Nat × Nat × Nat × Nat)
abbrev gTys (X : gX) : List (ClassId × FieldType) := [(X.2.1.1, .int), (X.2.1.2.1, .object "SkipStones$Stone"), (X.2.1.2.2, .object "SkipStones$Sheet")]
def gAF : Nat → Int := fun j => [20, 5, 80, 20, 6, 20].getD j 0
def gLT : Nat → Int := fun j => [108, 114, 117, 115, 107, 104].getD j 0
def gLE : Nat → Int := fun j => [1, 0, 1, 0, 0, 1].getD j 0
def gGR : Nat → Int := fun j => [99, 50, 99, 99, 50, 45].getD j 0
def gSA (nm : String) (a : Nat) (f : Nat → Int) (A : Nat → Prop) (U : State) (H : Heap) : Prop := va_Z "SkipStones" nm "[I" (.ref a) A U H ∧ va_X a 6 (iF f) U H ∧ a < H.size ∧ ¬ A a
abbrev gNestM : List (String × Nat × MethodName × String) := [("SkipStones", 23, ⟨"SkipStones$Water", "<init>", "()V"⟩, "SkipStones"), ("SkipStones", 30, ⟨"SkipStones$LawText", "<init>", "()V"⟩, "SkipStones"), ("SkipStones", 37, ⟨"SkipStones$Flight", "<init>", "()V"⟩, "SkipStones"), ("SkipStones", 74, ⟨"SkipStones$Sheet", "<init>", "()V"⟩, "SkipStones"), ("SkipStones$LawText", 83, ⟨"SkipStones", "within", "(III)Z"⟩, "SkipStones"), ("SkipStones$Flight", 47, ⟨"SkipStones", "sinks", "(LSkipStones$Stone;LSkipStones$Water;III)Z"⟩, "SkipStones")]
abbrev gNestF : List (String × Nat × String × String × String × String) := [("SkipStones$LawText", 9, "SkipStones", "AT_FIRST", "[I", "SkipStones"), ("SkipStones$LawText", 87, "SkipStones", "LETTERS", "[I", "SkipStones"), ("SkipStones$LawText", 77, "SkipStones", "LEAST", "[I", "SkipStones"), ("SkipStones$LawText", 80, "SkipStones", "GREATEST", "[I", "SkipStones")]
/-- the exact class of an old cell -/
def gCls (a : Nat) (cA : ClassId) (A : Nat → Prop) (H : Heap) : Prop := ∃ cell : Cell, H[a]? = some cell ∧ cell.cls = cA ∧ ¬ A a
/-- what stays all the time: the tables of the classes, the links of the nest, the four static arrays -/
def gE (X : gX) (A : Nat → Prop) (U : State) (H : Heap) : Prop :=
  va_K X.1 vwCl (gTys X) U ∧ (∀ q ∈ gNestM, va_Nw (.methodLinkNest q.1 q.2.1 q.2.2.1 q.2.2.2) U) ∧ (∀ q ∈ gNestF, va_Nw (.fieldLinkNest q.1 q.2.1 q.2.2.1 q.2.2.2.1 q.2.2.2.2.1 q.2.2.2.2.2) U) ∧
  va_AO "SkipStones$Stone" U ∧ va_AO "SkipStones$Sheet" U ∧ va_Nw (.castable "[I" "java/lang/Cloneable") U ∧
  gSA "AT_FIRST" X.2.2.1 gAF A U H ∧ gSA "LETTERS" X.2.2.2.1 gLT A U H ∧ gSA "LEAST" X.2.2.2.2.1 gLE A U H ∧ gSA "GREATEST" X.2.2.2.2.2 gGR A U H ∧ gCls X.2.2.1 X.2.1.1 A H
theorem gSA.go {nm : String} {a : Nat} {f : Nat → Int} {A B : Nat → Prop} {s U : State} {H H1 : Heap} (h : gSA nm a f A s H) (hW : s.vm.Alike U.vm) (hz : H.size ≤ H1.size) (hq : ∀ q : Nat, q < H.size → ¬ A q → H1[q]? = H[q]?) (hAB : ∀ q, q < H.size → B q → A q) : gSA nm a f B U H1 := by
  obtain ⟨h1, h2, h3, h4⟩ := h
  refine ⟨?_, (h2.kept (hq a h3 h4)).moved hW, by omega, fun z => h4 (hAB a h3 z)⟩
  obtain ⟨cf, kf, fi, g, b, cell, e1, e2, e3, e4, e5, e6, e7, e8⟩ := h1
  have hb : b < H.size := (Array.getElem?_eq_some_iff.mp e5).1
  exact va_Z.moved hW ⟨cf, kf, fi, g, b, cell, e1, e2, e3, e4, by rw [hq b hb e8]; exact e5, e6, e7, fun z => e8 (hAB b hb z)⟩
theorem gE.go {X : gX} {A B : Nat → Prop} {s U : State} {H H1 : Heap} (h : gE X A s H) (hW : s.WarmedH U.vm) (hz : H.size ≤ H1.size) (hq : ∀ q : Nat, q < H.size → ¬ A q → H1[q]? = H[q]?) (hAB : ∀ q, q < H.size → B q → A q) : gE X B U H1 := by
  obtain ⟨h1, h2, h3, h4, h5, h6, h7, h8, h9, h10, cell, h11, h11b, h12⟩ := h
  have hl : X.2.2.1 < H.size := (Array.getElem?_eq_some_iff.mp h11).1
  exact ⟨h1.moved hW.alike, fun q hq => (h2 q hq).warmM hW, fun q hq => (h3 q hq).warmF hW, h4.moved hW.alike, h5.moved hW.alike, h6.warmC hW, h7.go hW.alike hz hq hAB, h8.go hW.alike hz hq hAB, h9.go hW.alike hz hq hAB, h10.go hW.alike hz hq hAB, cell, (hq _ hl h12).trans h11, h11b, fun z => h12 (hAB _ hl z)⟩
theorem gE.blind {X : gX} {A : Nat → Prop} {U : State} {H : Heap} {g : JFrame} {mk : MethodId} {a : Array Value} (h : gE X A U H) : gE X A (U.calling g mk a) H := by
  obtain ⟨h1, h2, h3, h4, h5, h6, h7, h8, h9, h10, h11⟩ := h
  have hr : U.vm.Alike (U.calling g mk a).vm := Vm.Alike.refl U.vm
  exact ⟨h1.moved hr, fun q hq => (h2 q hq).same rfl rfl, fun q hq => (h3 q hq).same rfl rfl, h4.moved hr, h5.moved hr, h6.same rfl rfl, h7.go hr (Nat.le_refl _) (fun _ _ _ => rfl) (fun _ _ z => z), h8.go hr (Nat.le_refl _) (fun _ _ _ => rfl) (fun _ _ z => z), h9.go hr (Nat.le_refl _) (fun _ _ _ => rfl) (fun _ _ z => z), h10.go hr (Nat.le_refl _) (fun _ _ _ => rfl) (fun _ _ z => z), h11⟩
/-- the picture's fixed part at a method -/
def gC (p : Program) (s : State) (m : MethodId) (args : Array Value) (meth : Method) (c : Code) (cc : ByteArray) (own : String) (Ts : List Cond) (nL : Nat) (ret : Option FieldType) (mn : String) (X : gX) (A : Nat → Prop) : Prop :=
  p.tables.exec = Jvm.exec ∧ c.code = cc ∧ c.maxLocals = nL ∧ s.vm.findClass own = some m.cls ∧ (∀ w ∈ Ts, w.before args s = true) ∧ gE X A s s.heap ∧ (∀ q, s.heap.size ≤ q → A q) ∧ meth.sig.returnType = ret ∧ meth.locks = false ∧ meth.name = mn
/-- the machine at a picture: whatever the heap and the locals that fit it, it comes to Q -/
def gW (p : Program) (l : Launch) (e : Env) (R : Room) (s : State) (m : MethodId) (args : Array Value) (below : List Frame) (meth : Method) (c : Code) (X : gX) (A : Nat → Prop) (nL : Nat) (Q : State → Prop) (cells slots : Nat) (ws : va_W) (pc : Nat) (lo : List (Nat × Value)) (st : List Value) : Prop :=
  ∀ (H : Heap) (locs : List Loc) (ls : Array Slot), va_P X.1 vwCl ws H → va_D A ws → va_S A s.heap H locs → lv_has ls nL lo → W p l e R s m args below meth c H locs cells slots Q (F0 m pc ls st)
end GA
section GR
variable {p : Program} {l : Launch} {e : Env} {R : Room} {s : State} {m : MethodId} {args : Array Value} {below : List Frame} {meth : Method} {c : Code} {X : gX} {A : Nat → Prop} {nL : Nat} {Q : State → Prop} {cells slots : Nat}
variable {ws : va_W} {pc : Nat} {lo : List (Nat × Value)} {rest : List Value} {cc : ByteArray} {own : String} {Ts : List Cond} {ret : Option FieldType} {mn : String}
theorem r_iconst (C : gC p s m args meth c cc own Ts nL ret mn X A) {n : Int} (d : decode cc pc = .ok (.iconst n, 1)) (k : gW p l e R s m args below meth c X A nL Q cells slots ws (pc + 1) lo (.int (iI n) :: rest)) : gW p l e R s m args below meth c X A nL Q cells slots ws pc lo (rest) := by
  intro H locs ls hP hD hS hl
  exact lv_iconst C.1 C.2.1 d rfl (k H locs ls hP hD hS hl)
theorem r_bipush (C : gC p s m args meth c cc own Ts nL ret mn X A) {n : Int} (d : decode cc pc = .ok (.bipush n, 2)) (hn : -128 ≤ n ∧ n < 128) (k : gW p l e R s m args below meth c X A nL Q cells slots ws (pc + 2) lo (.int (iI n) :: rest)) : gW p l e R s m args below meth c X A nL Q cells slots ws pc lo (rest) := by
  intro H locs ls hP hD hS hl
  exact lv_bipush C.1 C.2.1 d (by rw [← Int32.ofInt_int8ToInt, Int8.toInt_ofInt_of_le (by omega) (by omega)]; rfl) (k H locs ls hP hD hS hl)
theorem r_sipush (C : gC p s m args meth c cc own Ts nL ret mn X A) {n : Int} (d : decode cc pc = .ok (.sipush n, 3)) (hn : -32768 ≤ n ∧ n < 32768) (k : gW p l e R s m args below meth c X A nL Q cells slots ws (pc + 3) lo (.int (iI n) :: rest)) : gW p l e R s m args below meth c X A nL Q cells slots ws pc lo (rest) := by
  intro H locs ls hP hD hS hl
  exact lv_sipush C.1 C.2.1 d (by rw [← Int32.ofInt_int16ToInt, Int16.toInt_ofInt_of_le (by omega) (by omega)]; rfl) (k H locs ls hP hD hS hl)
theorem r_lconst (C : gC p s m args meth c cc own Ts nL ret mn X A) {n : Fin 2} {z : Int} (d : decode cc pc = .ok (.lconst n, 1)) (hz : Int64.ofNat (n : Nat) = lI z) (k : gW p l e R s m args below meth c X A nL Q cells slots ws (pc + 1) lo (.long (lI z) :: rest)) : gW p l e R s m args below meth c X A nL Q cells slots ws pc lo (rest) := by
  intro H locs ls hP hD hS hl
  exact lv_lconst C.1 C.2.1 d hz (k H locs ls hP hD hS hl)
theorem r_ldc (C : gC p s m args meth c cc own Ts nL ret mn X A) {index : Nat} {v : Int32} {z : Int} (d : decode cc pc = .ok (.ldc index, 2)) (hc : Cond.constant own index v ∈ Ts) (hz : v = iI z) (k : gW p l e R s m args below meth c X A nL Q cells slots ws (pc + 2) lo (.int (iI z) :: rest)) : gW p l e R s m args below meth c X A nL Q cells slots ws pc lo (rest) := by
  intro H locs ls hP hD hS hl
  subst hz
  exact lv_ldc C.1 C.2.1 C.2.2.2.1 (C.2.2.2.2.1 _ hc) d (k H locs ls hP hD hS hl)
theorem r_ldc2 (C : gC p s m args meth c cc own Ts nL ret mn X A) {index : Nat} {v : Int64} {z : Int} (d : decode cc pc = .ok (.ldc2_w index, 3)) (hc : Cond.constantLong own index v ∈ Ts) (hz : v = lI z) (k : gW p l e R s m args below meth c X A nL Q cells slots ws (pc + 3) lo (.long (lI z) :: rest)) : gW p l e R s m args below meth c X A nL Q cells slots ws pc lo (rest) := by
  intro H locs ls hP hD hS hl
  subst hz
  exact lv_ldc2 C.1 C.2.1 C.2.2.2.1 (C.2.2.2.2.1 _ hc) d (k H locs ls hP hD hS hl)
theorem r_null (C : gC p s m args meth c cc own Ts nL ret mn X A) (d : decode cc pc = .ok (.aconst_null, 1)) (k : gW p l e R s m args below meth c X A nL Q cells slots ws (pc + 1) lo (.null :: rest)) : gW p l e R s m args below meth c X A nL Q cells slots ws pc lo (rest) := by
  intro H locs ls hP hD hS hl
  exact lv_null C.1 C.2.1 d (k H locs ls hP hD hS hl)
theorem r_iload_n (C : gC p s m args meth c cc own Ts nL ret mn X A) {k : Fin 4} {z : Int} (d : decode cc pc = .ok (.iload_n k, 1)) (q : Nat) (hq : lo[q]? = some ((k : Nat), .int (iI z))) (kk : gW p l e R s m args below meth c X A nL Q cells slots ws (pc + 1) lo (.int (iI z) :: rest)) : gW p l e R s m args below meth c X A nL Q cells slots ws pc lo (rest) := by
  intro H locs ls hP hD hS hl
  exact lv_iload_n C.1 C.2.1 d rfl (lv_at hl q hq) (kk H locs ls hP hD hS hl)
theorem r_iload (C : gC p s m args meth c cc own Ts nL ret mn X A) {i : Nat} {z : Int} (d : decode cc pc = .ok (.iload i, 2)) (q : Nat) (hq : lo[q]? = some (i, .int (iI z))) (kk : gW p l e R s m args below meth c X A nL Q cells slots ws (pc + 2) lo (.int (iI z) :: rest)) : gW p l e R s m args below meth c X A nL Q cells slots ws pc lo (rest) := by
  intro H locs ls hP hD hS hl
  exact lv_iload C.1 C.2.1 d (lv_at hl q hq) (kk H locs ls hP hD hS hl)
theorem r_istore_n (C : gC p s m args meth c cc own Ts nL ret mn X A) {k : Fin 4} {i : Nat} {z : Int} {lo2 : List (Nat × Value)} (d : decode cc pc = .ok (.istore_n k, 1)) (hi : (k : Nat) = i) (hn : i < nL) (hlo : (i, Value.int (iI z)) :: lo.filter (fun q => !(q.1 == i) && !(q.1 + 1 == i && q.2.category == 2)) = lo2) (kk : gW p l e R s m args below meth c X A nL Q cells slots ws (pc + 1) lo2 (rest)) : gW p l e R s m args below meth c X A nL Q cells slots ws pc lo (.int (iI z) :: rest) := by
  intro H locs ls hP hD hS hl
  exact lv_istore_n C.1 C.2.1 d hi hl hn hlo (fun ls2 hl2 => kk H locs ls2 hP hD hS hl2)
theorem r_istore (C : gC p s m args meth c cc own Ts nL ret mn X A) {i : Nat} {z : Int} {lo2 : List (Nat × Value)} (d : decode cc pc = .ok (.istore i, 2)) (hn : i < nL) (hlo : (i, Value.int (iI z)) :: lo.filter (fun q => !(q.1 == i) && !(q.1 + 1 == i && q.2.category == 2)) = lo2) (kk : gW p l e R s m args below meth c X A nL Q cells slots ws (pc + 2) lo2 (rest)) : gW p l e R s m args below meth c X A nL Q cells slots ws pc lo (.int (iI z) :: rest) := by
  intro H locs ls hP hD hS hl
  exact lv_istore C.1 C.2.1 d hl hn hlo (fun ls2 hl2 => kk H locs ls2 hP hD hS hl2)
theorem r_lload_n (C : gC p s m args meth c cc own Ts nL ret mn X A) {k : Fin 4} {z : Int} (d : decode cc pc = .ok (.lload_n k, 1)) (q : Nat) (hq : lo[q]? = some ((k : Nat), .long (lI z))) (kk : gW p l e R s m args below meth c X A nL Q cells slots ws (pc + 1) lo (.long (lI z) :: rest)) : gW p l e R s m args below meth c X A nL Q cells slots ws pc lo (rest) := by
  intro H locs ls hP hD hS hl
  exact lv_lload_n C.1 C.2.1 d rfl (lv_at hl q hq) (kk H locs ls hP hD hS hl)
theorem r_lload (C : gC p s m args meth c cc own Ts nL ret mn X A) {i : Nat} {z : Int} (d : decode cc pc = .ok (.lload i, 2)) (q : Nat) (hq : lo[q]? = some (i, .long (lI z))) (kk : gW p l e R s m args below meth c X A nL Q cells slots ws (pc + 2) lo (.long (lI z) :: rest)) : gW p l e R s m args below meth c X A nL Q cells slots ws pc lo (rest) := by
  intro H locs ls hP hD hS hl
  exact lv_lload C.1 C.2.1 d (lv_at hl q hq) (kk H locs ls hP hD hS hl)
theorem r_lstore_n (C : gC p s m args meth c cc own Ts nL ret mn X A) {k : Fin 4} {i : Nat} {z : Int} {lo2 : List (Nat × Value)} (d : decode cc pc = .ok (.lstore_n k, 1)) (hi : (k : Nat) = i) (hn : i + 1 < nL) (hlo : (i, Value.long (lI z)) :: lo.filter (fun q => !(q.1 == i) && (!(q.1 == i + 1) && !(q.1 + 1 == i && q.2.category == 2))) = lo2) (kk : gW p l e R s m args below meth c X A nL Q cells slots ws (pc + 1) lo2 (rest)) : gW p l e R s m args below meth c X A nL Q cells slots ws pc lo (.long (lI z) :: rest) := by
  intro H locs ls hP hD hS hl
  exact lv_lstore_n C.1 C.2.1 d hi hl hn hlo (fun ls2 hl2 => kk H locs ls2 hP hD hS hl2)
theorem r_lstore (C : gC p s m args meth c cc own Ts nL ret mn X A) {i : Nat} {z : Int} {lo2 : List (Nat × Value)} (d : decode cc pc = .ok (.lstore i, 2)) (hn : i + 1 < nL) (hlo : (i, Value.long (lI z)) :: lo.filter (fun q => !(q.1 == i) && (!(q.1 == i + 1) && !(q.1 + 1 == i && q.2.category == 2))) = lo2) (kk : gW p l e R s m args below meth c X A nL Q cells slots ws (pc + 2) lo2 (rest)) : gW p l e R s m args below meth c X A nL Q cells slots ws pc lo (.long (lI z) :: rest) := by
  intro H locs ls hP hD hS hl
  exact lv_lstore C.1 C.2.1 d hl hn hlo (fun ls2 hl2 => kk H locs ls2 hP hD hS hl2)
theorem r_aload_n (C : gC p s m args meth c cc own Ts nL ret mn X A) {k : Fin 4} {z : Nat} (d : decode cc pc = .ok (.aload_n k, 1)) (q : Nat) (hq : lo[q]? = some ((k : Nat), .ref z)) (kk : gW p l e R s m args below meth c X A nL Q cells slots ws (pc + 1) lo (.ref z :: rest)) : gW p l e R s m args below meth c X A nL Q cells slots ws pc lo (rest) := by
  intro H locs ls hP hD hS hl
  exact lv_aload_n C.1 C.2.1 d rfl (lv_at hl q hq) (kk H locs ls hP hD hS hl)
theorem r_aload (C : gC p s m args meth c cc own Ts nL ret mn X A) {i : Nat} {z : Nat} (d : decode cc pc = .ok (.aload i, 2)) (q : Nat) (hq : lo[q]? = some (i, .ref z)) (kk : gW p l e R s m args below meth c X A nL Q cells slots ws (pc + 2) lo (.ref z :: rest)) : gW p l e R s m args below meth c X A nL Q cells slots ws pc lo (rest) := by
  intro H locs ls hP hD hS hl
  exact lv_aload C.1 C.2.1 d (lv_at hl q hq) (kk H locs ls hP hD hS hl)
theorem r_astore_n (C : gC p s m args meth c cc own Ts nL ret mn X A) {k : Fin 4} {i : Nat} {z : Nat} {lo2 : List (Nat × Value)} (d : decode cc pc = .ok (.astore_n k, 1)) (hi : (k : Nat) = i) (hn : i < nL) (hlo : (i, Value.ref z) :: lo.filter (fun q => !(q.1 == i) && !(q.1 + 1 == i && q.2.category == 2)) = lo2) (kk : gW p l e R s m args below meth c X A nL Q cells slots ws (pc + 1) lo2 (rest)) : gW p l e R s m args below meth c X A nL Q cells slots ws pc lo (.ref z :: rest) := by
  intro H locs ls hP hD hS hl
  exact lv_astore_n C.1 C.2.1 d hi hl hn hlo (fun ls2 hl2 => kk H locs ls2 hP hD hS hl2)
theorem r_astore (C : gC p s m args meth c cc own Ts nL ret mn X A) {i : Nat} {z : Nat} {lo2 : List (Nat × Value)} (d : decode cc pc = .ok (.astore i, 2)) (hn : i < nL) (hlo : (i, Value.ref z) :: lo.filter (fun q => !(q.1 == i) && !(q.1 + 1 == i && q.2.category == 2)) = lo2) (kk : gW p l e R s m args below meth c X A nL Q cells slots ws (pc + 2) lo2 (rest)) : gW p l e R s m args below meth c X A nL Q cells slots ws pc lo (.ref z :: rest) := by
  intro H locs ls hP hD hS hl
  exact lv_astore C.1 C.2.1 d hl hn hlo (fun ls2 hl2 => kk H locs ls2 hP hD hS hl2)
theorem r_aload_nN (C : gC p s m args meth c cc own Ts nL ret mn X A) {k : Fin 4} (d : decode cc pc = .ok (.aload_n k, 1)) (q : Nat) (hq : lo[q]? = some ((k : Nat), .null)) (kk : gW p l e R s m args below meth c X A nL Q cells slots ws (pc + 1) lo (.null :: rest)) : gW p l e R s m args below meth c X A nL Q cells slots ws pc lo (rest) := by
  intro H locs ls hP hD hS hl
  exact lv_aload_nN C.1 C.2.1 d rfl (lv_at hl q hq) (kk H locs ls hP hD hS hl)
theorem r_aloadN (C : gC p s m args meth c cc own Ts nL ret mn X A) {i : Nat} (d : decode cc pc = .ok (.aload i, 2)) (q : Nat) (hq : lo[q]? = some (i, .null)) (kk : gW p l e R s m args below meth c X A nL Q cells slots ws (pc + 2) lo (.null :: rest)) : gW p l e R s m args below meth c X A nL Q cells slots ws pc lo (rest) := by
  intro H locs ls hP hD hS hl
  exact lv_aloadN C.1 C.2.1 d (lv_at hl q hq) (kk H locs ls hP hD hS hl)
theorem r_astore_nN (C : gC p s m args meth c cc own Ts nL ret mn X A) {k : Fin 4} {i : Nat} {lo2 : List (Nat × Value)} (d : decode cc pc = .ok (.astore_n k, 1)) (hi : (k : Nat) = i) (hn : i < nL) (hlo : (i, Value.null) :: lo.filter (fun q => !(q.1 == i) && !(q.1 + 1 == i && q.2.category == 2)) = lo2) (kk : gW p l e R s m args below meth c X A nL Q cells slots ws (pc + 1) lo2 (rest)) : gW p l e R s m args below meth c X A nL Q cells slots ws pc lo (.null :: rest) := by
  intro H locs ls hP hD hS hl
  exact lv_astore_nN C.1 C.2.1 d hi hl hn hlo (fun ls2 hl2 => kk H locs ls2 hP hD hS hl2)
theorem r_astoreN (C : gC p s m args meth c cc own Ts nL ret mn X A) {i : Nat} {lo2 : List (Nat × Value)} (d : decode cc pc = .ok (.astore i, 2)) (hn : i < nL) (hlo : (i, Value.null) :: lo.filter (fun q => !(q.1 == i) && !(q.1 + 1 == i && q.2.category == 2)) = lo2) (kk : gW p l e R s m args below meth c X A nL Q cells slots ws (pc + 2) lo2 (rest)) : gW p l e R s m args below meth c X A nL Q cells slots ws pc lo (.null :: rest) := by
  intro H locs ls hP hD hS hl
  exact lv_astoreN C.1 C.2.1 d hl hn hlo (fun ls2 hl2 => kk H locs ls2 hP hD hS hl2)
theorem r_iinc (C : gC p s m args meth c cc own Ts nL ret mn X A) {i : Nat} {n z : Int} {lo2 : List (Nat × Value)} (d : decode cc pc = .ok (.iinc i n, 3)) (q : Nat) (hq : lo[q]? = some (i, .int (iI z))) (hn : i < nL) (hlo : (i, Value.int (iI (z + n))) :: lo.filter (fun q => !(q.1 == i) && !(q.1 + 1 == i && q.2.category == 2)) = lo2) (kk : gW p l e R s m args below meth c X A nL Q cells slots ws (pc + 3) lo2 (rest)) : gW p l e R s m args below meth c X A nL Q cells slots ws pc lo (rest) := by
  intro H locs ls hP hD hS hl
  exact lv_iinc (v := iI (z + n)) C.1 C.2.1 d hl hq (iI_add z n) hn hlo (fun ls2 hl2 => kk H locs ls2 hP hD hS hl2)
theorem r_iadd (C : gC p s m args meth c cc own Ts nL ret mn X A) {x y : Int} (d : decode cc pc = .ok (.iadd, 1)) (k : gW p l e R s m args below meth c X A nL Q cells slots ws (pc + 1) lo (.int (iI (x + y)) :: rest)) : gW p l e R s m args below meth c X A nL Q cells slots ws pc lo (.int (iI y) :: .int (iI x) :: rest) := by
  intro H locs ls hP hD hS hl
  exact lv_iadd C.1 C.2.1 d (by rw [iI_add]; exact k H locs ls hP hD hS hl)
theorem r_ladd (C : gC p s m args meth c cc own Ts nL ret mn X A) {x y : Int} (d : decode cc pc = .ok (.ladd, 1)) (k : gW p l e R s m args below meth c X A nL Q cells slots ws (pc + 1) lo (.long (lI (x + y)) :: rest)) : gW p l e R s m args below meth c X A nL Q cells slots ws pc lo (.long (lI y) :: .long (lI x) :: rest) := by
  intro H locs ls hP hD hS hl
  exact lv_ladd C.1 C.2.1 d (by rw [lI_add]; exact k H locs ls hP hD hS hl)
theorem r_isub (C : gC p s m args meth c cc own Ts nL ret mn X A) {x y : Int} (d : decode cc pc = .ok (.isub, 1)) (k : gW p l e R s m args below meth c X A nL Q cells slots ws (pc + 1) lo (.int (iI (x - y)) :: rest)) : gW p l e R s m args below meth c X A nL Q cells slots ws pc lo (.int (iI y) :: .int (iI x) :: rest) := by
  intro H locs ls hP hD hS hl
  exact lv_isub C.1 C.2.1 d (by rw [iI_sub]; exact k H locs ls hP hD hS hl)
theorem r_lsub (C : gC p s m args meth c cc own Ts nL ret mn X A) {x y : Int} (d : decode cc pc = .ok (.lsub, 1)) (k : gW p l e R s m args below meth c X A nL Q cells slots ws (pc + 1) lo (.long (lI (x - y)) :: rest)) : gW p l e R s m args below meth c X A nL Q cells slots ws pc lo (.long (lI y) :: .long (lI x) :: rest) := by
  intro H locs ls hP hD hS hl
  exact lv_lsub C.1 C.2.1 d (by rw [lI_sub]; exact k H locs ls hP hD hS hl)
theorem r_imul (C : gC p s m args meth c cc own Ts nL ret mn X A) {x y : Int} (d : decode cc pc = .ok (.imul, 1)) (k : gW p l e R s m args below meth c X A nL Q cells slots ws (pc + 1) lo (.int (iI (x * y)) :: rest)) : gW p l e R s m args below meth c X A nL Q cells slots ws pc lo (.int (iI y) :: .int (iI x) :: rest) := by
  intro H locs ls hP hD hS hl
  exact lv_imul C.1 C.2.1 d (by rw [iI_mul]; exact k H locs ls hP hD hS hl)
theorem r_lmul (C : gC p s m args meth c cc own Ts nL ret mn X A) {x y : Int} (d : decode cc pc = .ok (.lmul, 1)) (k : gW p l e R s m args below meth c X A nL Q cells slots ws (pc + 1) lo (.long (lI (x * y)) :: rest)) : gW p l e R s m args below meth c X A nL Q cells slots ws pc lo (.long (lI y) :: .long (lI x) :: rest) := by
  intro H locs ls hP hD hS hl
  exact lv_lmul C.1 C.2.1 d (by rw [lI_mul]; exact k H locs ls hP hD hS hl)
theorem r_ineg (C : gC p s m args meth c cc own Ts nL ret mn X A) {x : Int} (d : decode cc pc = .ok (.ineg, 1)) (k : gW p l e R s m args below meth c X A nL Q cells slots ws (pc + 1) lo (.int (iI (-x)) :: rest)) : gW p l e R s m args below meth c X A nL Q cells slots ws pc lo (.int (iI x) :: rest) := by
  intro H locs ls hP hD hS hl
  exact lv_ineg C.1 C.2.1 d (by rw [iI_neg]; exact k H locs ls hP hD hS hl)
theorem r_idiv (C : gC p s m args meth c cc own Ts nL ret mn X A) {x y : Int} (d : decode cc pc = .ok (.idiv, 1)) (hx : 0 ≤ x ∧ x < 2147483648) (hy : 0 < y ∧ y < 2147483648) (k : gW p l e R s m args below meth c X A nL Q cells slots ws (pc + 1) lo (.int (iI (x / y)) :: rest)) : gW p l e R s m args below meth c X A nL Q cells slots ws pc lo (.int (iI y) :: .int (iI x) :: rest) := by
  intro H locs ls hP hD hS hl
  exact lv_idiv C.1 C.2.1 d (fun h => by have := (iI_eq (b := 0) ⟨by omega, by omega⟩ ⟨by omega, by omega⟩).mp h; omega) (by rw [iI_div hx hy]; exact k H locs ls hP hD hS hl)
theorem r_ldiv (C : gC p s m args meth c cc own Ts nL ret mn X A) {x y : Int} (d : decode cc pc = .ok (.ldiv, 1)) (hx : 0 ≤ x ∧ x < 9223372036854775808) (hy : 0 < y ∧ y < 9223372036854775808) (k : gW p l e R s m args below meth c X A nL Q cells slots ws (pc + 1) lo (.long (lI (x / y)) :: rest)) : gW p l e R s m args below meth c X A nL Q cells slots ws pc lo (.long (lI y) :: .long (lI x) :: rest) := by
  intro H locs ls hP hD hS hl
  exact lv_ldiv C.1 C.2.1 d (fun h => by have := (lI_eq (b := 0) ⟨by omega, by omega⟩ ⟨by omega, by omega⟩).mp h; omega) (by rw [lI_div hx hy]; exact k H locs ls hP hD hS hl)
theorem r_irem (C : gC p s m args meth c cc own Ts nL ret mn X A) {x y : Int} (d : decode cc pc = .ok (.irem, 1)) (hx : 0 ≤ x ∧ x < 2147483648) (hy : 0 < y ∧ y < 2147483648) (k : gW p l e R s m args below meth c X A nL Q cells slots ws (pc + 1) lo (.int (iI (x % y)) :: rest)) : gW p l e R s m args below meth c X A nL Q cells slots ws pc lo (.int (iI y) :: .int (iI x) :: rest) := by
  intro H locs ls hP hD hS hl
  exact lv_irem C.1 C.2.1 d (fun h => by have := (iI_eq (b := 0) ⟨by omega, by omega⟩ ⟨by omega, by omega⟩).mp h; omega) (by rw [iI_rem hx hy]; exact k H locs ls hP hD hS hl)
theorem r_lrem (C : gC p s m args meth c cc own Ts nL ret mn X A) {x y : Int} (d : decode cc pc = .ok (.lrem, 1)) (hx : 0 ≤ x ∧ x < 9223372036854775808) (hy : 0 < y ∧ y < 9223372036854775808) (k : gW p l e R s m args below meth c X A nL Q cells slots ws (pc + 1) lo (.long (lI (x % y)) :: rest)) : gW p l e R s m args below meth c X A nL Q cells slots ws pc lo (.long (lI y) :: .long (lI x) :: rest) := by
  intro H locs ls hP hD hS hl
  exact lv_lrem C.1 C.2.1 d (fun h => by have := (lI_eq (b := 0) ⟨by omega, by omega⟩ ⟨by omega, by omega⟩).mp h; omega) (by rw [lI_rem hx hy]; exact k H locs ls hP hD hS hl)
theorem r_i2l (C : gC p s m args meth c cc own Ts nL ret mn X A) {x : Int} (d : decode cc pc = .ok (.i2l, 1)) (hx : inB x) (k : gW p l e R s m args below meth c X A nL Q cells slots ws (pc + 1) lo (.long (lI x) :: rest)) : gW p l e R s m args below meth c X A nL Q cells slots ws pc lo (.int (iI x) :: rest) := by
  intro H locs ls hP hD hS hl
  exact lv_i2l C.1 C.2.1 d (iI_i2l hx) (k H locs ls hP hD hS hl)
theorem r_l2i (C : gC p s m args meth c cc own Ts nL ret mn X A) {x : Int} (d : decode cc pc = .ok (.l2i, 1)) (k : gW p l e R s m args below meth c X A nL Q cells slots ws (pc + 1) lo (.int (iI x) :: rest)) : gW p l e R s m args below meth c X A nL Q cells slots ws pc lo (.long (lI x) :: rest) := by
  intro H locs ls hP hD hS hl
  exact lv_l2i C.1 C.2.1 d (lI_l2i x) (k H locs ls hP hD hS hl)
theorem r_i2b (C : gC p s m args meth c cc own Ts nL ret mn X A) {x : Int} (d : decode cc pc = .ok (.i2b, 1)) (k : gW p l e R s m args below meth c X A nL Q cells slots ws (pc + 1) lo (.int (iI (cutB x)) :: rest)) : gW p l e R s m args below meth c X A nL Q cells slots ws pc lo (.int (iI x) :: rest) := by
  intro H locs ls hP hD hS hl
  exact lv_i2b C.1 C.2.1 d (iI_i2b x) (k H locs ls hP hD hS hl)
theorem r_i2s (C : gC p s m args meth c cc own Ts nL ret mn X A) {x : Int} (d : decode cc pc = .ok (.i2s, 1)) (k : gW p l e R s m args below meth c X A nL Q cells slots ws (pc + 1) lo (.int (iI (cutS x)) :: rest)) : gW p l e R s m args below meth c X A nL Q cells slots ws pc lo (.int (iI x) :: rest) := by
  intro H locs ls hP hD hS hl
  exact lv_i2s C.1 C.2.1 d (iI_i2s x) (k H locs ls hP hD hS hl)
theorem r_dup (C : gC p s m args meth c cc own Ts nL ret mn X A) {v : Value} (d : decode cc pc = .ok (.dup, 1)) (hv : v.category = 1) (k : gW p l e R s m args below meth c X A nL Q cells slots ws (pc + 1) lo (v :: v :: rest)) : gW p l e R s m args below meth c X A nL Q cells slots ws pc lo (v :: rest) := by
  intro H locs ls hP hD hS hl
  exact lv_dup C.1 C.2.1 d hv (k H locs ls hP hD hS hl)
theorem r_pop (C : gC p s m args meth c cc own Ts nL ret mn X A) {v : Value} (d : decode cc pc = .ok (.pop, 1)) (hv : v.category = 1) (k : gW p l e R s m args below meth c X A nL Q cells slots ws (pc + 1) lo (rest)) : gW p l e R s m args below meth c X A nL Q cells slots ws pc lo (v :: rest) := by
  intro H locs ls hP hD hS hl
  exact lv_pop C.1 C.2.1 d hv (k H locs ls hP hD hS hl)
theorem r_dup_x1 (C : gC p s m args meth c cc own Ts nL ret mn X A) {v w : Value} (d : decode cc pc = .ok (.dup_x1, 1)) (hv : v.category = 1) (hw : w.category = 1) (k : gW p l e R s m args below meth c X A nL Q cells slots ws (pc + 1) lo (v :: w :: v :: rest)) : gW p l e R s m args below meth c X A nL Q cells slots ws pc lo (v :: w :: rest) := by
  intro H locs ls hP hD hS hl
  exact lv_dup_x1 C.1 C.2.1 d hv hw (k H locs ls hP hD hS hl)
theorem r_dup2 (C : gC p s m args meth c cc own Ts nL ret mn X A) {v w : Value} (d : decode cc pc = .ok (.dup2, 1)) (hv : v.category = 1) (hw : w.category = 1) (k : gW p l e R s m args below meth c X A nL Q cells slots ws (pc + 1) lo (v :: w :: v :: w :: rest)) : gW p l e R s m args below meth c X A nL Q cells slots ws pc lo (v :: w :: rest) := by
  intro H locs ls hP hD hS hl
  exact lv_dup2_11 C.1 C.2.1 d hv hw (k H locs ls hP hD hS hl)
theorem r_icmp_eq (C : gC p s m args meth c cc own Ts nL ret mn X A) {x y off : Int} {tgt : Nat} (d : decode cc pc = .ok (.if_icmp .eq off, 3)) (ht : (pc : Int) + off = (tgt : Int)) (hx : inB x) (hy : inB y) (kt : x = y → gW p l e R s m args below meth c X A nL Q cells slots ws tgt lo (rest)) (kf : ¬ x = y → gW p l e R s m args below meth c X A nL Q cells slots ws (pc + 3) lo (rest)) : gW p l e R s m args below meth c X A nL Q cells slots ws pc lo (.int (iI y) :: .int (iI x) :: rest) := by
  intro H locs ls hP hD hS hl
  refine lv_icmp_eq C.1 C.2.1 d ht (fun h => ?_) (fun h => ?_)
  · exact kt (by have h1 := @iI_lt x y hx hy; have h2 := @iI_lt y x hy hx; have h3 := @iI_eq x y hx hy; have h4 := @iI_le x y hx hy; have h5 := @iI_le y x hy hx; simp only [h1, h2, h3, h4, h5] at h; omega) H locs ls hP hD hS hl
  · exact kf (by have h1 := @iI_lt x y hx hy; have h2 := @iI_lt y x hy hx; have h3 := @iI_eq x y hx hy; have h4 := @iI_le x y hx hy; have h5 := @iI_le y x hy hx; simp only [h1, h2, h3, h4, h5] at h; omega) H locs ls hP hD hS hl
theorem r_if_eq (C : gC p s m args meth c cc own Ts nL ret mn X A) {x off : Int} {tgt : Nat} (d : decode cc pc = .ok (.ifCond .eq off, 3)) (ht : (pc : Int) + off = (tgt : Int)) (hx : inB x) (kt : x = 0 → gW p l e R s m args below meth c X A nL Q cells slots ws tgt lo (rest)) (kf : ¬ x = 0 → gW p l e R s m args below meth c X A nL Q cells slots ws (pc + 3) lo (rest)) : gW p l e R s m args below meth c X A nL Q cells slots ws pc lo (.int (iI x) :: rest) := by
  intro H locs ls hP hD hS hl
  have hy : inB 0 := ⟨by omega, by omega⟩
  refine lv_if_eq C.1 C.2.1 d ht (fun h => ?_) (fun h => ?_)
  · exact kt (by have h1 := @iI_lt x 0 hx hy; have h2 := @iI_lt 0 x hy hx; have h3 := @iI_eq x 0 hx hy; have h4 := @iI_le x 0 hx hy; have h5 := @iI_le 0 x hy hx; rw [iI_0] at h1 h2 h3 h4 h5; simp only [h1, h2, h3, h4, h5] at h; omega) H locs ls hP hD hS hl
  · exact kf (by have h1 := @iI_lt x 0 hx hy; have h2 := @iI_lt 0 x hy hx; have h3 := @iI_eq x 0 hx hy; have h4 := @iI_le x 0 hx hy; have h5 := @iI_le 0 x hy hx; rw [iI_0] at h1 h2 h3 h4 h5; simp only [h1, h2, h3, h4, h5] at h; omega) H locs ls hP hD hS hl
theorem r_icmp_ne (C : gC p s m args meth c cc own Ts nL ret mn X A) {x y off : Int} {tgt : Nat} (d : decode cc pc = .ok (.if_icmp .ne off, 3)) (ht : (pc : Int) + off = (tgt : Int)) (hx : inB x) (hy : inB y) (kt : ¬ x = y → gW p l e R s m args below meth c X A nL Q cells slots ws tgt lo (rest)) (kf : x = y → gW p l e R s m args below meth c X A nL Q cells slots ws (pc + 3) lo (rest)) : gW p l e R s m args below meth c X A nL Q cells slots ws pc lo (.int (iI y) :: .int (iI x) :: rest) := by
  intro H locs ls hP hD hS hl
  refine lv_icmp_ne C.1 C.2.1 d ht (fun h => ?_) (fun h => ?_)
  · exact kt (by have h1 := @iI_lt x y hx hy; have h2 := @iI_lt y x hy hx; have h3 := @iI_eq x y hx hy; have h4 := @iI_le x y hx hy; have h5 := @iI_le y x hy hx; simp only [h1, h2, h3, h4, h5] at h; omega) H locs ls hP hD hS hl
  · exact kf (by have h1 := @iI_lt x y hx hy; have h2 := @iI_lt y x hy hx; have h3 := @iI_eq x y hx hy; have h4 := @iI_le x y hx hy; have h5 := @iI_le y x hy hx; simp only [h1, h2, h3, h4, h5] at h; omega) H locs ls hP hD hS hl
theorem r_if_ne (C : gC p s m args meth c cc own Ts nL ret mn X A) {x off : Int} {tgt : Nat} (d : decode cc pc = .ok (.ifCond .ne off, 3)) (ht : (pc : Int) + off = (tgt : Int)) (hx : inB x) (kt : ¬ x = 0 → gW p l e R s m args below meth c X A nL Q cells slots ws tgt lo (rest)) (kf : x = 0 → gW p l e R s m args below meth c X A nL Q cells slots ws (pc + 3) lo (rest)) : gW p l e R s m args below meth c X A nL Q cells slots ws pc lo (.int (iI x) :: rest) := by
  intro H locs ls hP hD hS hl
  have hy : inB 0 := ⟨by omega, by omega⟩
  refine lv_if_ne C.1 C.2.1 d ht (fun h => ?_) (fun h => ?_)
  · exact kt (by have h1 := @iI_lt x 0 hx hy; have h2 := @iI_lt 0 x hy hx; have h3 := @iI_eq x 0 hx hy; have h4 := @iI_le x 0 hx hy; have h5 := @iI_le 0 x hy hx; rw [iI_0] at h1 h2 h3 h4 h5; simp only [h1, h2, h3, h4, h5] at h; omega) H locs ls hP hD hS hl
  · exact kf (by have h1 := @iI_lt x 0 hx hy; have h2 := @iI_lt 0 x hy hx; have h3 := @iI_eq x 0 hx hy; have h4 := @iI_le x 0 hx hy; have h5 := @iI_le 0 x hy hx; rw [iI_0] at h1 h2 h3 h4 h5; simp only [h1, h2, h3, h4, h5] at h; omega) H locs ls hP hD hS hl
theorem r_icmp_lt (C : gC p s m args meth c cc own Ts nL ret mn X A) {x y off : Int} {tgt : Nat} (d : decode cc pc = .ok (.if_icmp .lt off, 3)) (ht : (pc : Int) + off = (tgt : Int)) (hx : inB x) (hy : inB y) (kt : x < y → gW p l e R s m args below meth c X A nL Q cells slots ws tgt lo (rest)) (kf : ¬ x < y → gW p l e R s m args below meth c X A nL Q cells slots ws (pc + 3) lo (rest)) : gW p l e R s m args below meth c X A nL Q cells slots ws pc lo (.int (iI y) :: .int (iI x) :: rest) := by
  intro H locs ls hP hD hS hl
  refine lv_icmp_lt C.1 C.2.1 d ht (fun h => ?_) (fun h => ?_)
  · exact kt (by have h1 := @iI_lt x y hx hy; have h2 := @iI_lt y x hy hx; have h3 := @iI_eq x y hx hy; have h4 := @iI_le x y hx hy; have h5 := @iI_le y x hy hx; simp only [h1, h2, h3, h4, h5] at h; omega) H locs ls hP hD hS hl
  · exact kf (by have h1 := @iI_lt x y hx hy; have h2 := @iI_lt y x hy hx; have h3 := @iI_eq x y hx hy; have h4 := @iI_le x y hx hy; have h5 := @iI_le y x hy hx; simp only [h1, h2, h3, h4, h5] at h; omega) H locs ls hP hD hS hl
theorem r_if_lt (C : gC p s m args meth c cc own Ts nL ret mn X A) {x off : Int} {tgt : Nat} (d : decode cc pc = .ok (.ifCond .lt off, 3)) (ht : (pc : Int) + off = (tgt : Int)) (hx : inB x) (kt : x < 0 → gW p l e R s m args below meth c X A nL Q cells slots ws tgt lo (rest)) (kf : ¬ x < 0 → gW p l e R s m args below meth c X A nL Q cells slots ws (pc + 3) lo (rest)) : gW p l e R s m args below meth c X A nL Q cells slots ws pc lo (.int (iI x) :: rest) := by
  intro H locs ls hP hD hS hl
  have hy : inB 0 := ⟨by omega, by omega⟩
  refine lv_if_lt C.1 C.2.1 d ht (fun h => ?_) (fun h => ?_)
  · exact kt (by have h1 := @iI_lt x 0 hx hy; have h2 := @iI_lt 0 x hy hx; have h3 := @iI_eq x 0 hx hy; have h4 := @iI_le x 0 hx hy; have h5 := @iI_le 0 x hy hx; rw [iI_0] at h1 h2 h3 h4 h5; simp only [h1, h2, h3, h4, h5] at h; omega) H locs ls hP hD hS hl
  · exact kf (by have h1 := @iI_lt x 0 hx hy; have h2 := @iI_lt 0 x hy hx; have h3 := @iI_eq x 0 hx hy; have h4 := @iI_le x 0 hx hy; have h5 := @iI_le 0 x hy hx; rw [iI_0] at h1 h2 h3 h4 h5; simp only [h1, h2, h3, h4, h5] at h; omega) H locs ls hP hD hS hl
theorem r_icmp_ge (C : gC p s m args meth c cc own Ts nL ret mn X A) {x y off : Int} {tgt : Nat} (d : decode cc pc = .ok (.if_icmp .ge off, 3)) (ht : (pc : Int) + off = (tgt : Int)) (hx : inB x) (hy : inB y) (kt : ¬ x < y → gW p l e R s m args below meth c X A nL Q cells slots ws tgt lo (rest)) (kf : x < y → gW p l e R s m args below meth c X A nL Q cells slots ws (pc + 3) lo (rest)) : gW p l e R s m args below meth c X A nL Q cells slots ws pc lo (.int (iI y) :: .int (iI x) :: rest) := by
  intro H locs ls hP hD hS hl
  refine lv_icmp_ge C.1 C.2.1 d ht (fun h => ?_) (fun h => ?_)
  · exact kt (by have h1 := @iI_lt x y hx hy; have h2 := @iI_lt y x hy hx; have h3 := @iI_eq x y hx hy; have h4 := @iI_le x y hx hy; have h5 := @iI_le y x hy hx; simp only [h1, h2, h3, h4, h5] at h; omega) H locs ls hP hD hS hl
  · exact kf (by have h1 := @iI_lt x y hx hy; have h2 := @iI_lt y x hy hx; have h3 := @iI_eq x y hx hy; have h4 := @iI_le x y hx hy; have h5 := @iI_le y x hy hx; simp only [h1, h2, h3, h4, h5] at h; omega) H locs ls hP hD hS hl
theorem r_if_ge (C : gC p s m args meth c cc own Ts nL ret mn X A) {x off : Int} {tgt : Nat} (d : decode cc pc = .ok (.ifCond .ge off, 3)) (ht : (pc : Int) + off = (tgt : Int)) (hx : inB x) (kt : ¬ x < 0 → gW p l e R s m args below meth c X A nL Q cells slots ws tgt lo (rest)) (kf : x < 0 → gW p l e R s m args below meth c X A nL Q cells slots ws (pc + 3) lo (rest)) : gW p l e R s m args below meth c X A nL Q cells slots ws pc lo (.int (iI x) :: rest) := by
  intro H locs ls hP hD hS hl
  have hy : inB 0 := ⟨by omega, by omega⟩
  refine lv_if_ge C.1 C.2.1 d ht (fun h => ?_) (fun h => ?_)
  · exact kt (by have h1 := @iI_lt x 0 hx hy; have h2 := @iI_lt 0 x hy hx; have h3 := @iI_eq x 0 hx hy; have h4 := @iI_le x 0 hx hy; have h5 := @iI_le 0 x hy hx; rw [iI_0] at h1 h2 h3 h4 h5; simp only [h1, h2, h3, h4, h5] at h; omega) H locs ls hP hD hS hl
  · exact kf (by have h1 := @iI_lt x 0 hx hy; have h2 := @iI_lt 0 x hy hx; have h3 := @iI_eq x 0 hx hy; have h4 := @iI_le x 0 hx hy; have h5 := @iI_le 0 x hy hx; rw [iI_0] at h1 h2 h3 h4 h5; simp only [h1, h2, h3, h4, h5] at h; omega) H locs ls hP hD hS hl
theorem r_icmp_gt (C : gC p s m args meth c cc own Ts nL ret mn X A) {x y off : Int} {tgt : Nat} (d : decode cc pc = .ok (.if_icmp .gt off, 3)) (ht : (pc : Int) + off = (tgt : Int)) (hx : inB x) (hy : inB y) (kt : y < x → gW p l e R s m args below meth c X A nL Q cells slots ws tgt lo (rest)) (kf : ¬ y < x → gW p l e R s m args below meth c X A nL Q cells slots ws (pc + 3) lo (rest)) : gW p l e R s m args below meth c X A nL Q cells slots ws pc lo (.int (iI y) :: .int (iI x) :: rest) := by
  intro H locs ls hP hD hS hl
  refine lv_icmp_gt C.1 C.2.1 d ht (fun h => ?_) (fun h => ?_)
  · exact kt (by have h1 := @iI_lt x y hx hy; have h2 := @iI_lt y x hy hx; have h3 := @iI_eq x y hx hy; have h4 := @iI_le x y hx hy; have h5 := @iI_le y x hy hx; simp only [h1, h2, h3, h4, h5] at h; omega) H locs ls hP hD hS hl
  · exact kf (by have h1 := @iI_lt x y hx hy; have h2 := @iI_lt y x hy hx; have h3 := @iI_eq x y hx hy; have h4 := @iI_le x y hx hy; have h5 := @iI_le y x hy hx; simp only [h1, h2, h3, h4, h5] at h; omega) H locs ls hP hD hS hl
theorem r_if_gt (C : gC p s m args meth c cc own Ts nL ret mn X A) {x off : Int} {tgt : Nat} (d : decode cc pc = .ok (.ifCond .gt off, 3)) (ht : (pc : Int) + off = (tgt : Int)) (hx : inB x) (kt : 0 < x → gW p l e R s m args below meth c X A nL Q cells slots ws tgt lo (rest)) (kf : ¬ 0 < x → gW p l e R s m args below meth c X A nL Q cells slots ws (pc + 3) lo (rest)) : gW p l e R s m args below meth c X A nL Q cells slots ws pc lo (.int (iI x) :: rest) := by
  intro H locs ls hP hD hS hl
  have hy : inB 0 := ⟨by omega, by omega⟩
  refine lv_if_gt C.1 C.2.1 d ht (fun h => ?_) (fun h => ?_)
  · exact kt (by have h1 := @iI_lt x 0 hx hy; have h2 := @iI_lt 0 x hy hx; have h3 := @iI_eq x 0 hx hy; have h4 := @iI_le x 0 hx hy; have h5 := @iI_le 0 x hy hx; rw [iI_0] at h1 h2 h3 h4 h5; simp only [h1, h2, h3, h4, h5] at h; omega) H locs ls hP hD hS hl
  · exact kf (by have h1 := @iI_lt x 0 hx hy; have h2 := @iI_lt 0 x hy hx; have h3 := @iI_eq x 0 hx hy; have h4 := @iI_le x 0 hx hy; have h5 := @iI_le 0 x hy hx; rw [iI_0] at h1 h2 h3 h4 h5; simp only [h1, h2, h3, h4, h5] at h; omega) H locs ls hP hD hS hl
theorem r_icmp_le (C : gC p s m args meth c cc own Ts nL ret mn X A) {x y off : Int} {tgt : Nat} (d : decode cc pc = .ok (.if_icmp .le off, 3)) (ht : (pc : Int) + off = (tgt : Int)) (hx : inB x) (hy : inB y) (kt : ¬ y < x → gW p l e R s m args below meth c X A nL Q cells slots ws tgt lo (rest)) (kf : y < x → gW p l e R s m args below meth c X A nL Q cells slots ws (pc + 3) lo (rest)) : gW p l e R s m args below meth c X A nL Q cells slots ws pc lo (.int (iI y) :: .int (iI x) :: rest) := by
  intro H locs ls hP hD hS hl
  refine lv_icmp_le C.1 C.2.1 d ht (fun h => ?_) (fun h => ?_)
  · exact kt (by have h1 := @iI_lt x y hx hy; have h2 := @iI_lt y x hy hx; have h3 := @iI_eq x y hx hy; have h4 := @iI_le x y hx hy; have h5 := @iI_le y x hy hx; simp only [h1, h2, h3, h4, h5] at h; omega) H locs ls hP hD hS hl
  · exact kf (by have h1 := @iI_lt x y hx hy; have h2 := @iI_lt y x hy hx; have h3 := @iI_eq x y hx hy; have h4 := @iI_le x y hx hy; have h5 := @iI_le y x hy hx; simp only [h1, h2, h3, h4, h5] at h; omega) H locs ls hP hD hS hl
theorem r_if_le (C : gC p s m args meth c cc own Ts nL ret mn X A) {x off : Int} {tgt : Nat} (d : decode cc pc = .ok (.ifCond .le off, 3)) (ht : (pc : Int) + off = (tgt : Int)) (hx : inB x) (kt : ¬ 0 < x → gW p l e R s m args below meth c X A nL Q cells slots ws tgt lo (rest)) (kf : 0 < x → gW p l e R s m args below meth c X A nL Q cells slots ws (pc + 3) lo (rest)) : gW p l e R s m args below meth c X A nL Q cells slots ws pc lo (.int (iI x) :: rest) := by
  intro H locs ls hP hD hS hl
  have hy : inB 0 := ⟨by omega, by omega⟩
  refine lv_if_le C.1 C.2.1 d ht (fun h => ?_) (fun h => ?_)
  · exact kt (by have h1 := @iI_lt x 0 hx hy; have h2 := @iI_lt 0 x hy hx; have h3 := @iI_eq x 0 hx hy; have h4 := @iI_le x 0 hx hy; have h5 := @iI_le 0 x hy hx; rw [iI_0] at h1 h2 h3 h4 h5; simp only [h1, h2, h3, h4, h5] at h; omega) H locs ls hP hD hS hl
  · exact kf (by have h1 := @iI_lt x 0 hx hy; have h2 := @iI_lt 0 x hy hx; have h3 := @iI_eq x 0 hx hy; have h4 := @iI_le x 0 hx hy; have h5 := @iI_le 0 x hy hx; rw [iI_0] at h1 h2 h3 h4 h5; simp only [h1, h2, h3, h4, h5] at h; omega) H locs ls hP hD hS hl
theorem r_goto (C : gC p s m args meth c cc own Ts nL ret mn X A) {off : Int} {tgt : Nat} (d : decode cc pc = .ok (.goto off, 3)) (ht : (pc : Int) + off = (tgt : Int)) (k : gW p l e R s m args below meth c X A nL Q cells slots ws tgt lo (rest)) : gW p l e R s m args below meth c X A nL Q cells slots ws pc lo (rest) := by
  intro H locs ls hP hD hS hl
  exact lv_goto C.1 C.2.1 d ht (k H locs ls hP hD hS hl)
theorem r_ifnull (C : gC p s m args meth c cc own Ts nL ret mn X A) {x : Nat} {off : Int} (d : decode cc pc = .ok (.ifnull off, 3)) (k : gW p l e R s m args below meth c X A nL Q cells slots ws (pc + 3) lo (rest)) : gW p l e R s m args below meth c X A nL Q cells slots ws pc lo (.ref x :: rest) := by
  intro H locs ls hP hD hS hl
  exact lv_ifnull C.1 C.2.1 d (k H locs ls hP hD hS hl)
theorem r_ifnullN (C : gC p s m args meth c cc own Ts nL ret mn X A) {off : Int} {tgt : Nat} (d : decode cc pc = .ok (.ifnull off, 3)) (ht : (pc : Int) + off = (tgt : Int)) (k : gW p l e R s m args below meth c X A nL Q cells slots ws tgt lo (rest)) : gW p l e R s m args below meth c X A nL Q cells slots ws pc lo (.null :: rest) := by
  intro H locs ls hP hD hS hl
  exact lv_ifnullN C.1 C.2.1 d ht (k H locs ls hP hD hS hl)
theorem r_ifnonnull (C : gC p s m args meth c cc own Ts nL ret mn X A) {x : Nat} {off : Int} {tgt : Nat} (d : decode cc pc = .ok (.ifnonnull off, 3)) (ht : (pc : Int) + off = (tgt : Int)) (k : gW p l e R s m args below meth c X A nL Q cells slots ws tgt lo (rest)) : gW p l e R s m args below meth c X A nL Q cells slots ws pc lo (.ref x :: rest) := by
  intro H locs ls hP hD hS hl
  exact lv_ifnonnull C.1 C.2.1 d ht (k H locs ls hP hD hS hl)
theorem r_ifnonnullN (C : gC p s m args meth c cc own Ts nL ret mn X A) {off : Int} (d : decode cc pc = .ok (.ifnonnull off, 3)) (k : gW p l e R s m args below meth c X A nL Q cells slots ws (pc + 3) lo (rest)) : gW p l e R s m args below meth c X A nL Q cells slots ws pc lo (.null :: rest) := by
  intro H locs ls hP hD hS hl
  exact lv_ifnonnullN C.1 C.2.1 d (k H locs ls hP hD hS hl)
theorem r_cells {k n : Nat} (h1 : cells ≤ k) (h2 : slots ≤ n) (kk : gW p l e R s m args below meth c X A nL Q k n ws pc lo (rest)) : gW p l e R s m args below meth c X A nL Q cells slots ws pc lo (rest) := fun H locs ls hP hD hS hl => W.widen h1 h2 (kk H locs ls hP hD hS hl)
theorem r_lo (ks : List Nat) {lo2 : List (Nat × Value)} (h : lv_pick lo ks = lo2) (kk : gW p l e R s m args below meth c X A nL Q cells slots ws pc lo2 (rest)) : gW p l e R s m args below meth c X A nL Q cells slots ws pc lo (rest) := fun H locs ls hP hD hS hl => kk H locs ls hP hD hS (lv_sub hl ks h)
def gsub (ws : va_W) (is : List Nat) : va_W := is.filterMap (fun i => ws[i]?)
theorem gsub_P {D : va_G} {cl : List vw_C} {H : Heap} (h : va_P D cl ws H) (is : List Nat) : va_P D cl (gsub ws is) H := h.sub is rfl
theorem gsub_map {ws2 : va_W} {is : List Nat} (h : is.map (fun i => ws[i]?) = ws2.map some) : gsub ws is = ws2 := by
  have h2 := congrArg (fun l => l.filterMap id) h
  simp only [List.filterMap_map, Function.id_comp, Function.comp_def, id] at h2
  rw [gsub, h2]
  simp
theorem r_ws (is : List Nat) {ws2 : va_W} (hn : va_nd is = true) (h : is.map (fun i => ws[i]?) = ws2.map some) (kk : gW p l e R s m args below meth c X A nL Q cells slots ws2 pc lo (rest)) : gW p l e R s m args below meth c X A nL Q cells slots ws pc lo (rest) := fun H locs ls hP hD hS hl => kk H locs ls (hP.sub is (gsub_map h)) (hD.sub is hn h) hS hl
theorem r_ws_eq {ws2 : va_W} (h : ws = ws2) (kk : gW p l e R s m args below meth c X A nL Q cells slots ws2 pc lo (rest)) : gW p l e R s m args below meth c X A nL Q cells slots ws pc lo (rest) := h ▸ kk
theorem r_iret (C : gC p s m args meth c cc own Ts nL ret mn X A) {Y : Type} {post : Int32 → Y → Prop} {B : Y → State → Prop} {v : Int32} {pc : Nat} (hret : ret = some .int) (d : decode cc pc = .ok (.ireturn, 1)) (h : ∀ (H : Heap) (t : State), va_P X.1 vwCl ws H → va_D A ws → t.heap = H → ∃ y, post v y ∧ B y t) : gW p l e R s m args below meth c X A nL (MQ below (va_Qi post B A) args s cells slots A) cells slots ws pc lo [.int v] := by
  intro H locs ls hP hD hS hl
  exact W.iret C.1 C.2.1 (by rw [C.2.2.2.2.2.2.2.1]; exact hret) (fun t ht hW => ⟨by obtain ⟨y, h1, h2⟩ := h H t hP hD ht; exact ⟨v, y, rfl, h1, h2⟩, hS.F ht⟩) hS.2.2 d C.2.2.2.2.2.2.2.2.1
theorem r_zret (C : gC p s m args meth c cc own Ts nL ret mn X A) {Y : Type} {post : Int32 → Y → Prop} {B : Y → State → Prop} {v : Int32} {pc : Nat} (hret : ret = some .boolean) (hv : narrow .boolean (.int v) = .int v) (d : decode cc pc = .ok (.ireturn, 1)) (h : ∀ (H : Heap) (t : State), va_P X.1 vwCl ws H → va_D A ws → t.heap = H → ∃ y, post v y ∧ B y t) : gW p l e R s m args below meth c X A nL (MQ below (va_Qi post B A) args s cells slots A) cells slots ws pc lo [.int v] := by
  intro H locs ls hP hD hS hl
  exact W.zret C.1 C.2.1 (by rw [C.2.2.2.2.2.2.2.1]; exact hret) hv (fun t ht hW => ⟨by obtain ⟨y, h1, h2⟩ := h H t hP hD ht; exact ⟨v, y, rfl, h1, h2⟩, hS.F ht⟩) hS.2.2 d C.2.2.2.2.2.2.2.2.1
theorem r_lret (C : gC p s m args meth c cc own Ts nL ret mn X A) {Y : Type} {post : Int64 → Y → Prop} {B : Y → State → Prop} {v : Int64} {pc : Nat} (hret : ret = some .long) (d : decode cc pc = .ok (.lreturn, 1)) (h : ∀ (H : Heap) (t : State), va_P X.1 vwCl ws H → va_D A ws → t.heap = H → ∃ y, post v y ∧ B y t) : gW p l e R s m args below meth c X A nL (MQ below (va_Ql post B A) args s cells slots A) cells slots ws pc lo [.long v] := by
  intro H locs ls hP hD hS hl
  exact W.lret C.1 C.2.1 (by rw [C.2.2.2.2.2.2.2.1]; exact hret) (fun t ht hW => ⟨by obtain ⟨y, h1, h2⟩ := h H t hP hD ht; exact ⟨v, y, rfl, h1, h2⟩, hS.F ht⟩) hS.2.2 d C.2.2.2.2.2.2.2.2.1
theorem r_vret (C : gC p s m args meth c cc own Ts nL ret mn X A) {Y : Type} {post : Y → Prop} {B : Y → State → Prop} {pc : Nat} (hret : ret = none) (d : decode cc pc = .ok (.return_, 1)) (h : ∀ (H : Heap) (t : State), va_P X.1 vwCl ws H → va_D A ws → t.heap = H → ∃ y, post y ∧ B y t) : gW p l e R s m args below meth c X A nL (MQ below (va_Qv post B A) args s cells slots A) cells slots ws pc lo [] := by
  intro H locs ls hP hD hS hl
  exact W.vret C.1 C.2.1 (by rw [C.2.2.2.2.2.2.2.1]; exact hret) (fun t ht hW => ⟨by obtain ⟨y, h1, h2⟩ := h H t hP hD ht; exact ⟨y, rfl, h1, h2⟩, hS.F ht⟩) hS.2.2 d C.2.2.2.2.2.2.2.2.1
theorem r_qret (C : gC p s m args meth c cc own Ts nL ret mn X A) {Y : Type} {post : Option Nat → Y → Prop} {B : Y → State → Prop} {r : Option Nat} {v : Value} {cn : String} {pc : Nat} (hv : v = va_rf r) (hret : ret = some (.object cn)) (d : decode cc pc = .ok (.areturn, 1)) (h : ∀ (H : Heap) (t : State), va_P X.1 vwCl ws H → va_D A ws → t.heap = H → ∃ y, post r y ∧ B y t) : gW p l e R s m args below meth c X A nL (MQ below (va_Qq post B A) args s cells slots A) cells slots ws pc lo [v] := by
  intro H locs ls hP hD hS hl
  subst hv
  exact W.aret C.1 C.2.1 (by rw [C.2.2.2.2.2.2.2.1]; exact hret) (Or.inl ⟨_, rfl⟩) (by cases r with | none => exact Or.inl rfl | some a => exact Or.inr ⟨a, rfl⟩) (fun t ht hW => ⟨by obtain ⟨y, h1, h2⟩ := h H t hP hD ht; exact ⟨r, y, rfl, h1, h2⟩, hS.F ht⟩) hS.2.2 d C.2.2.2.2.2.2.2.2.1
theorem r_iald (C : gC p s m args meth c cc own Ts nL ret mn X A) {a n : Nat} {F : Nat → Int} {z : Int} (d : decode cc pc = .ok (.iaload, 1)) (q : Nat) (ha : ws[q]? = some (a, .inl (X.2.1.1, n, .inl (iF F)))) (hz : 0 ≤ z ∧ z < (n : Int)) (hn : n < 2147483648) (k : gW p l e R s m args below meth c X A nL Q cells slots ws (pc + 1) lo (.int (iI (F z.toNat)) :: rest)) : gW p l e R s m args below meth c X A nL Q cells slots ws pc lo (.int (iI z) :: .ref a :: rest) := by
  intro H locs ls hP hD hS hl
  refine va_iald (D := X.1) C.1 C.2.1 C.2.2.2.2.2.1.1 hP q 0 ha rfl (iI_in hz hn) d ?_
  have e : iF F (iI z).toNatClampNeg = iI (F z.toNat) := by rw [iI_clamp ⟨by omega, by omega⟩]; rfl
  rw [e]
  exact k H locs ls hP hD hS hl
theorem r_iast (C : gC p s m args meth c cc own Ts nL ret mn X A) {a n : Nat} {F : Nat → Int} {z v : Int} {ws2 : va_W} (d : decode cc pc = .ok (.iastore, 1)) (q : Nat) (ha : ws[q]? = some (a, .inl (X.2.1.1, n, .inl (iF F)))) (hz : 0 ≤ z ∧ z < (n : Int)) (hn : n < 2147483648) (hw : ws.set q (a, .inl (X.2.1.1, n, .inl (iF (updI F z.toNat v)))) = ws2) (k : gW p l e R s m args below meth c X A nL Q cells slots ws2 (pc + 1) lo (rest)) : gW p l e R s m args below meth c X A nL Q cells slots ws pc lo (.int (iI v) :: .int (iI z) :: .ref a :: rest) := by
  intro H locs ls hP hD hS hl
  refine va_iast (D := X.1) C.1 C.2.1 C.2.2.2.2.2.1.1 hP hD hS q 0 ha rfl (iI_in hz hn) d (fun H1 locs1 hP1 hD1 hS1 => ?_)
  rw [iI_clamp ⟨by omega, by omega⟩, iF_upd, hw] at hP1 hD1
  exact k H1 locs1 ls hP1 hD1 hS1 hl
theorem r_aldq (C : gC p s m args meth c cc own Ts nL ret mn X A) {a n t : Nat} {cA : ClassId} {cn : String} {f : Nat → Option Nat} {z : Int} {v : Value} (d : decode cc pc = .ok (.aaload, 1)) (q : Nat) (ha : ws[q]? = some (a, .inl (cA, n, .inr (.inr (.inr (.inr f)))))) (ht : (gTys X)[t]? = some (cA, .object cn)) (hz : 0 ≤ z ∧ z < (n : Int)) (hn : n < 2147483648) (hv : va_rf (f z.toNat) = v) (k : gW p l e R s m args below meth c X A nL Q cells slots ws (pc + 1) lo (v :: rest)) : gW p l e R s m args below meth c X A nL Q cells slots ws pc lo (.int (iI z) :: .ref a :: rest) := by
  intro H locs ls hP hD hS hl
  refine va_aldq (D := X.1) C.1 C.2.1 C.2.2.2.2.2.1.1 hP q t ha ht (iI_in hz hn) d ?_
  rw [iI_clamp ⟨by omega, by omega⟩, hv]
  exact k H locs ls hP hD hS hl
theorem r_astq (C : gC p s m args meth c cc own Ts nL ret mn X A) {a n t v ci : Nat} {cA : ClassId} {rq : vw_C} {vs : List Value} {f : Nat → Option Nat} {z : Int} {ws2 : va_W} (d : decode cc pc = .ok (.aastore, 1)) (q qk : Nat) (ha : ws[q]? = some (a, .inl (cA, n, .inr (.inr (.inr (.inr f)))))) (ht : (gTys X)[t]? = some (cA, .object rq.1)) (hv : ws[qk]? = some (v, .inr (ci, vs))) (hc : vwCl[ci]? = some rq) (hz : 0 ≤ z ∧ z < (n : Int)) (hn : n < 2147483648) (hw : ws.set q (a, .inl (cA, n, .inr (.inr (.inr (.inr (va_up f z.toNat (some v))))))) = ws2) (k : gW p l e R s m args below meth c X A nL Q cells slots ws2 (pc + 1) lo (rest)) : gW p l e R s m args below meth c X A nL Q cells slots ws pc lo (.ref v :: .int (iI z) :: .ref a :: rest) := by
  intro H locs ls hP hD hS hl
  refine va_astq (D := X.1) C.1 C.2.1 C.2.2.2.2.2.1.1 hP hD hS q t qk ci ha ht hv hc (iI_in hz hn) d (fun H1 locs1 hP1 hD1 hS1 => ?_)
  rw [iI_clamp ⟨by omega, by omega⟩, hw] at hP1 hD1
  exact k H1 locs1 ls hP1 hD1 hS1 hl
theorem r_alen (C : gC p s m args meth c cc own Ts nL ret mn X A) {a : Nat} {cA : ClassId} {x : vp_A} {ty : FieldType} {z : Int} (d : decode cc pc = .ok (.arraylength, 1)) (q t : Nat) (ha : ws[q]? = some (a, .inl (cA, x))) (ht : (gTys X)[t]? = some (cA, ty)) (hz : (x.1 : Int) = z) (k : gW p l e R s m args below meth c X A nL Q cells slots ws (pc + 1) lo (.int (iI z) :: rest)) : gW p l e R s m args below meth c X A nL Q cells slots ws pc lo (.ref a :: rest) := by
  intro H locs ls hP hD hS hl
  exact va_alen (D := X.1) C.1 C.2.1 C.2.2.2.2.2.1.1 hP q t ha ht (by rw [← hz]; exact Int32.ofInt_eq_ofNat.symm) d (k H locs ls hP hD hS hl)
theorem r_gets_AT_FIRST (C : gC p s m args meth c cc "SkipStones$LawText" Ts nL ret mn X A) (d : decode cc pc = .ok (.getstatic 9, 3)) (k : gW p l e R s m args below meth c X A nL Q cells slots ws (pc + 3) lo (.ref X.2.2.1 :: rest)) : gW p l e R s m args below meth c X A nL Q cells slots ws pc lo (rest) := by
  intro H locs ls hP hD hS hl
  exact va_getsN C.1 C.2.1 (C.2.2.2.2.2.1.2.2.2.2.2.2.1).1 hS C.2.2.2.1 (va_Nw.use rfl (C.2.2.2.2.2.1.2.2.1 _ (List.mem_of_getElem? (i := 0) rfl))) (fun _ h => h) d (k H locs ls hP hD hS hl)
theorem r_sld_AT_FIRST (C : gC p s m args meth c cc own Ts nL ret mn X A) {z : Int} (d : decode cc pc = .ok (.iaload, 1)) (hz : 0 ≤ z ∧ z < 6) (k : gW p l e R s m args below meth c X A nL Q cells slots ws (pc + 1) lo (.int (iI (gAF z.toNat)) :: rest)) : gW p l e R s m args below meth c X A nL Q cells slots ws pc lo (.int (iI z) :: .ref X.2.2.1 :: rest) := by
  intro H locs ls hP hD hS hl
  refine va_sld C.1 C.2.1 (C.2.2.2.2.2.1.2.2.2.2.2.2.1).2.1 (C.2.2.2.2.2.1.2.2.2.2.2.2.1).2.2.1 (C.2.2.2.2.2.1.2.2.2.2.2.2.1).2.2.2 hS (iI_in hz (by decide)) d ?_
  have e : iF gAF (iI z).toNatClampNeg = iI (gAF z.toNat) := by rw [iI_clamp ⟨by omega, by omega⟩]; rfl
  rw [e]
  exact k H locs ls hP hD hS hl
theorem r_slen_AT_FIRST (C : gC p s m args meth c cc own Ts nL ret mn X A) (d : decode cc pc = .ok (.arraylength, 1)) (k : gW p l e R s m args below meth c X A nL Q cells slots ws (pc + 1) lo (.int (iI 6) :: rest)) : gW p l e R s m args below meth c X A nL Q cells slots ws pc lo (.ref X.2.2.1 :: rest) := by
  intro H locs ls hP hD hS hl
  exact va_slen C.1 C.2.1 (C.2.2.2.2.2.1.2.2.2.2.2.2.1).2.1 (C.2.2.2.2.2.1.2.2.2.2.2.2.1).2.2.1 (C.2.2.2.2.2.1.2.2.2.2.2.2.1).2.2.2 hS d (k H locs ls hP hD hS hl)
theorem r_gets_LETTERS (C : gC p s m args meth c cc "SkipStones$LawText" Ts nL ret mn X A) (d : decode cc pc = .ok (.getstatic 87, 3)) (k : gW p l e R s m args below meth c X A nL Q cells slots ws (pc + 3) lo (.ref X.2.2.2.1 :: rest)) : gW p l e R s m args below meth c X A nL Q cells slots ws pc lo (rest) := by
  intro H locs ls hP hD hS hl
  exact va_getsN C.1 C.2.1 (C.2.2.2.2.2.1.2.2.2.2.2.2.2.1).1 hS C.2.2.2.1 (va_Nw.use rfl (C.2.2.2.2.2.1.2.2.1 _ (List.mem_of_getElem? (i := 1) rfl))) (fun _ h => h) d (k H locs ls hP hD hS hl)
theorem r_sld_LETTERS (C : gC p s m args meth c cc own Ts nL ret mn X A) {z : Int} (d : decode cc pc = .ok (.iaload, 1)) (hz : 0 ≤ z ∧ z < 6) (k : gW p l e R s m args below meth c X A nL Q cells slots ws (pc + 1) lo (.int (iI (gLT z.toNat)) :: rest)) : gW p l e R s m args below meth c X A nL Q cells slots ws pc lo (.int (iI z) :: .ref X.2.2.2.1 :: rest) := by
  intro H locs ls hP hD hS hl
  refine va_sld C.1 C.2.1 (C.2.2.2.2.2.1.2.2.2.2.2.2.2.1).2.1 (C.2.2.2.2.2.1.2.2.2.2.2.2.2.1).2.2.1 (C.2.2.2.2.2.1.2.2.2.2.2.2.2.1).2.2.2 hS (iI_in hz (by decide)) d ?_
  have e : iF gLT (iI z).toNatClampNeg = iI (gLT z.toNat) := by rw [iI_clamp ⟨by omega, by omega⟩]; rfl
  rw [e]
  exact k H locs ls hP hD hS hl
theorem r_slen_LETTERS (C : gC p s m args meth c cc own Ts nL ret mn X A) (d : decode cc pc = .ok (.arraylength, 1)) (k : gW p l e R s m args below meth c X A nL Q cells slots ws (pc + 1) lo (.int (iI 6) :: rest)) : gW p l e R s m args below meth c X A nL Q cells slots ws pc lo (.ref X.2.2.2.1 :: rest) := by
  intro H locs ls hP hD hS hl
  exact va_slen C.1 C.2.1 (C.2.2.2.2.2.1.2.2.2.2.2.2.2.1).2.1 (C.2.2.2.2.2.1.2.2.2.2.2.2.2.1).2.2.1 (C.2.2.2.2.2.1.2.2.2.2.2.2.2.1).2.2.2 hS d (k H locs ls hP hD hS hl)
theorem r_gets_LEAST (C : gC p s m args meth c cc "SkipStones$LawText" Ts nL ret mn X A) (d : decode cc pc = .ok (.getstatic 77, 3)) (k : gW p l e R s m args below meth c X A nL Q cells slots ws (pc + 3) lo (.ref X.2.2.2.2.1 :: rest)) : gW p l e R s m args below meth c X A nL Q cells slots ws pc lo (rest) := by
  intro H locs ls hP hD hS hl
  exact va_getsN C.1 C.2.1 (C.2.2.2.2.2.1.2.2.2.2.2.2.2.2.1).1 hS C.2.2.2.1 (va_Nw.use rfl (C.2.2.2.2.2.1.2.2.1 _ (List.mem_of_getElem? (i := 2) rfl))) (fun _ h => h) d (k H locs ls hP hD hS hl)
theorem r_sld_LEAST (C : gC p s m args meth c cc own Ts nL ret mn X A) {z : Int} (d : decode cc pc = .ok (.iaload, 1)) (hz : 0 ≤ z ∧ z < 6) (k : gW p l e R s m args below meth c X A nL Q cells slots ws (pc + 1) lo (.int (iI (gLE z.toNat)) :: rest)) : gW p l e R s m args below meth c X A nL Q cells slots ws pc lo (.int (iI z) :: .ref X.2.2.2.2.1 :: rest) := by
  intro H locs ls hP hD hS hl
  refine va_sld C.1 C.2.1 (C.2.2.2.2.2.1.2.2.2.2.2.2.2.2.1).2.1 (C.2.2.2.2.2.1.2.2.2.2.2.2.2.2.1).2.2.1 (C.2.2.2.2.2.1.2.2.2.2.2.2.2.2.1).2.2.2 hS (iI_in hz (by decide)) d ?_
  have e : iF gLE (iI z).toNatClampNeg = iI (gLE z.toNat) := by rw [iI_clamp ⟨by omega, by omega⟩]; rfl
  rw [e]
  exact k H locs ls hP hD hS hl
theorem r_slen_LEAST (C : gC p s m args meth c cc own Ts nL ret mn X A) (d : decode cc pc = .ok (.arraylength, 1)) (k : gW p l e R s m args below meth c X A nL Q cells slots ws (pc + 1) lo (.int (iI 6) :: rest)) : gW p l e R s m args below meth c X A nL Q cells slots ws pc lo (.ref X.2.2.2.2.1 :: rest) := by
  intro H locs ls hP hD hS hl
  exact va_slen C.1 C.2.1 (C.2.2.2.2.2.1.2.2.2.2.2.2.2.2.1).2.1 (C.2.2.2.2.2.1.2.2.2.2.2.2.2.2.1).2.2.1 (C.2.2.2.2.2.1.2.2.2.2.2.2.2.2.1).2.2.2 hS d (k H locs ls hP hD hS hl)
theorem r_gets_GREATEST (C : gC p s m args meth c cc "SkipStones$LawText" Ts nL ret mn X A) (d : decode cc pc = .ok (.getstatic 80, 3)) (k : gW p l e R s m args below meth c X A nL Q cells slots ws (pc + 3) lo (.ref X.2.2.2.2.2 :: rest)) : gW p l e R s m args below meth c X A nL Q cells slots ws pc lo (rest) := by
  intro H locs ls hP hD hS hl
  exact va_getsN C.1 C.2.1 (C.2.2.2.2.2.1.2.2.2.2.2.2.2.2.2.1).1 hS C.2.2.2.1 (va_Nw.use rfl (C.2.2.2.2.2.1.2.2.1 _ (List.mem_of_getElem? (i := 3) rfl))) (fun _ h => h) d (k H locs ls hP hD hS hl)
theorem r_sld_GREATEST (C : gC p s m args meth c cc own Ts nL ret mn X A) {z : Int} (d : decode cc pc = .ok (.iaload, 1)) (hz : 0 ≤ z ∧ z < 6) (k : gW p l e R s m args below meth c X A nL Q cells slots ws (pc + 1) lo (.int (iI (gGR z.toNat)) :: rest)) : gW p l e R s m args below meth c X A nL Q cells slots ws pc lo (.int (iI z) :: .ref X.2.2.2.2.2 :: rest) := by
  intro H locs ls hP hD hS hl
  refine va_sld C.1 C.2.1 (C.2.2.2.2.2.1.2.2.2.2.2.2.2.2.2.1).2.1 (C.2.2.2.2.2.1.2.2.2.2.2.2.2.2.2.1).2.2.1 (C.2.2.2.2.2.1.2.2.2.2.2.2.2.2.2.1).2.2.2 hS (iI_in hz (by decide)) d ?_
  have e : iF gGR (iI z).toNatClampNeg = iI (gGR z.toNat) := by rw [iI_clamp ⟨by omega, by omega⟩]; rfl
  rw [e]
  exact k H locs ls hP hD hS hl
theorem r_slen_GREATEST (C : gC p s m args meth c cc own Ts nL ret mn X A) (d : decode cc pc = .ok (.arraylength, 1)) (k : gW p l e R s m args below meth c X A nL Q cells slots ws (pc + 1) lo (.int (iI 6) :: rest)) : gW p l e R s m args below meth c X A nL Q cells slots ws pc lo (.ref X.2.2.2.2.2 :: rest) := by
  intro H locs ls hP hD hS hl
  exact va_slen C.1 C.2.1 (C.2.2.2.2.2.1.2.2.2.2.2.2.2.2.2.1).2.1 (C.2.2.2.2.2.1.2.2.2.2.2.2.2.2.2.1).2.2.1 (C.2.2.2.2.2.1.2.2.2.2.2.2.2.2.2.1).2.2.2 hS d (k H locs ls hP hD hS hl)
end GR
