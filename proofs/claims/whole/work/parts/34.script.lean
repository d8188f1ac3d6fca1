section SC
variable {p : Program} {l : Launch} {e : Env} {R : Room} {s : State} {m : MethodId} {args : Array Value} {below : List Frame} {meth : Method} {c : Code} {X : gX} {A : Nat → Prop} {nL : Nat} {Q : State → Prop} {cells slots : Nat}
variable {ws : va_W} {pc : Nat} {lo : List (Nat × Value)} {rest : List Value} {cc : ByteArray} {own : String} {Ts : List Cond} {ret : Option FieldType} {mn : String}
/-- the script's int at a place -/
def sxI (xs : Nat → Int32) (k : Int) : Int := (xs k.toNat).toInt
theorem sxI_B (xs : Nat → Int32) (k : Int) : inB (sxI xs k) := iI_ofB _
theorem r_scr {b L : Nat} {xs : Nat → Int32} (C : gC p s m args meth c cc own Ts nL ret mn X A) (hSc : va_X b L xs s s.heap ∧ b < s.heap.size ∧ ¬ A b) {z : Int} (d : decode cc pc = .ok (.iaload, 1)) (hL : L ≤ 4608) (hz : 0 ≤ z ∧ z < L) (k : gW p l e R s m args below meth c X A nL Q cells slots ws (pc + 1) lo (.int (iI (sxI xs z)) :: rest)) : gW p l e R s m args below meth c X A nL Q cells slots ws pc lo (.int (iI z) :: .ref b :: rest) := by
  intro H locs ls hP hD hS hl
  refine va_sld C.1 C.2.1 hSc.1 hSc.2.1 hSc.2.2 hS (iI_in hz (by omega)) d ?_
  have e : xs (iI z).toNatClampNeg = iI (sxI xs z) := by rw [iI_clamp ⟨by omega, by omega⟩]; exact (iI_of _).symm
  rw [e]
  exact k H locs ls hP hD hS hl
theorem r_scrlen {b L : Nat} {xs : Nat → Int32} (C : gC p s m args meth c cc own Ts nL ret mn X A) (hSc : va_X b L xs s s.heap ∧ b < s.heap.size ∧ ¬ A b) (d : decode cc pc = .ok (.arraylength, 1)) (k : gW p l e R s m args below meth c X A nL Q cells slots ws (pc + 1) lo (.int (iI (L : Int)) :: rest)) : gW p l e R s m args below meth c X A nL Q cells slots ws pc lo (.ref b :: rest) := by
  intro H locs ls hP hD hS hl
  refine va_slen C.1 C.2.1 hSc.1 hSc.2.1 hSc.2.2 hS d ?_
  have e : Int32.ofNat L = iI (L : Int) := by first | rfl | exact (Int32.ofInt_eq_ofNat).symm | (unfold iI; rw [Int32.ofInt_natCast])
  rw [e]
  exact k H locs ls hP hD hS hl
theorem and63 (x : Int32) : 0 ≤ (x &&& 63).toInt ∧ (x &&& 63).toInt ≤ 63 := by
  have h : (x &&& 63).toBitVec.toNat ≤ 63 := by
    rw [Int32.toBitVec_and, BitVec.toNat_and]
    exact Nat.and_le_right
  have e : (x &&& 63).toInt = ((x &&& 63).toBitVec.toNat : Int) := BitVec.toInt_eq_toNat_of_lt (by omega)
  rw [e]
  omega
theorem r_iand63 (C : gC p s m args meth c cc own Ts nL ret mn X A) {a : Int} (d : decode cc pc = .ok (.iand, 1)) (k : ∀ z : Int, (0 ≤ z ∧ z ≤ 63) → gW p l e R s m args below meth c X A nL Q cells slots ws (pc + 1) lo (.int (iI z) :: rest)) : gW p l e R s m args below meth c X A nL Q cells slots ws pc lo (.int (iI 63) :: .int (iI a) :: rest) := by
  intro H locs ls hP hD hS hl
  refine lv_iand C.1 C.2.1 d ?_
  have e : iI a &&& iI 63 = iI ((iI a &&& 63).toInt) := (iI_of _).symm
  rw [e]
  exact k _ (and63 _) H locs ls hP hD hS hl
end SC
