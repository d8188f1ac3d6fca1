section GS
theorem g_start2 {l : Launch} {y : MethodName} {words words' : List Cond} {rm : Room} {X : gX} {w0 : va_W} {As : List Value} {Qc : (Nat → Prop) → Array Value → State → Outcome → State → Prop} {mc ms : Nat} {cc : ByteArray} {maxL : Nat} {ret : Option FieldType} {lo : List (Nat × Value)}
    (hy : plainName y.cls = true) (hw : words = Cond.code y cc maxL ret :: words') (hlo : lv_args 0 As = lo) (hn : (lg_sl As).length ≤ maxL)
    (k : ∀ (p : Program) (e : Env) (s : State) (m : MethodId) (args : Array Value) (below : List Frame) (meth : Method) (c : Code) (A : Nat → Prop), gC p s m args meth c cc y.cls words maxL ret y.name X A → gW p l e rm s m args below meth c X A maxL (MQ below (Qc A) args s mc ms A) 0 0 w0 0 lo []) : gM l y words rm X w0 As Qc mc ms :=
  g_start hy hw hlo hn (fun p e s m args below meth c C => k p e s m args below meth c _ C)
abbrev gr (d mc ms : Nat) : Room := { frames := d, cells := mc, slots := ms, locals := 40 * d }
end GS
section GT
variable {p : Program} {l : Launch} {e : Env} {R : Room} {s : State} {m : MethodId} {args : Array Value} {below : List Frame} {meth : Method} {c : Code} {X : gX} {A : Nat → Prop} {nL : Nat} {Q : State → Prop} {cells slots : Nat}
variable {ws : va_W} {pc : Nat} {lo : List (Nat × Value)} {rest : List Value} {cc : ByteArray} {own : String} {Ts : List Cond} {ret : Option FieldType} {mn : String}
theorem g_ret_i (C : gC p s m args meth c cc own Ts nL ret mn X A) {Y : Type} {Φ : Y → Prop} {rv : Y → Int} {w1 : Y → va_W} {z : Int} {pc : Nat} (hret : ret = some .int) (d : decode cc pc = .ok (.ireturn, 1)) (y : Y) (hΦ : Φ y) (hv : z = rv y) (is : List Nat) (hn : va_nd is = true) (hw : is.map (fun i => ws[i]?) = (w1 y).map some) : gW p l e R s m args below meth c X A nL (MQ below (gQi X Φ rv w1 A) args s cells slots A) cells slots ws pc lo ([.int (iI z)]) := by
  refine r_iret C hret d (fun H t hP hD ht => ?_)
  exact ⟨y, ⟨hΦ, by rw [hv]⟩, by rw [ht]; exact hP.sub is (gsub_map hw), hD.sub is hn hw⟩
theorem g_ret_z (C : gC p s m args meth c cc own Ts nL ret mn X A) {Y : Type} {Φ : Y → Prop} {rv : Y → Int} {w1 : Y → va_W} {z : Int} {pc : Nat} (hret : ret = some .boolean) (hz : z = 0 ∨ z = 1) (d : decode cc pc = .ok (.ireturn, 1)) (y : Y) (hΦ : Φ y) (hv : z = rv y) (is : List Nat) (hn : va_nd is = true) (hw : is.map (fun i => ws[i]?) = (w1 y).map some) : gW p l e R s m args below meth c X A nL (MQ below (gQi X Φ rv w1 A) args s cells slots A) cells slots ws pc lo ([.int (iI z)]) := by
  refine r_zret C hret (by rcases hz with h | h <;> subst h <;> rfl) d (fun H t hP hD ht => ?_)
  exact ⟨y, ⟨hΦ, by rw [hv]⟩, by rw [ht]; exact hP.sub is (gsub_map hw), hD.sub is hn hw⟩
theorem g_ret_l (C : gC p s m args meth c cc own Ts nL ret mn X A) {Y : Type} {Φ : Y → Prop} {rv : Y → Int} {w1 : Y → va_W} {z : Int} {pc : Nat} (hret : ret = some .long) (d : decode cc pc = .ok (.lreturn, 1)) (y : Y) (hΦ : Φ y) (hv : z = rv y) (is : List Nat) (hn : va_nd is = true) (hw : is.map (fun i => ws[i]?) = (w1 y).map some) : gW p l e R s m args below meth c X A nL (MQ below (gQl X Φ rv w1 A) args s cells slots A) cells slots ws pc lo ([.long (lI z)]) := by
  refine r_lret C hret d (fun H t hP hD ht => ?_)
  exact ⟨y, ⟨hΦ, by rw [hv]⟩, by rw [ht]; exact hP.sub is (gsub_map hw), hD.sub is hn hw⟩
theorem g_ret_v (C : gC p s m args meth c cc own Ts nL ret mn X A) {Y : Type} {Φ : Y → Prop} {w1 : Y → va_W} {pc : Nat} (hret : ret = none) (d : decode cc pc = .ok (.return_, 1)) (y : Y) (hΦ : Φ y) (is : List Nat) (hn : va_nd is = true) (hw : is.map (fun i => ws[i]?) = (w1 y).map some) : gW p l e R s m args below meth c X A nL (MQ below (gQv X Φ w1 A) args s cells slots A) cells slots ws pc lo ([]) := by
  refine r_vret C hret d (fun H t hP hD ht => ?_)
  exact ⟨y, hΦ, by rw [ht]; exact hP.sub is (gsub_map hw), hD.sub is hn hw⟩
theorem g_ret_q (C : gC p s m args meth c cc own Ts nL ret mn X A) {Y : Type} {Φ : Y → Prop} {rv : Y → Option Nat} {w1 : Y → va_W} {v : Value} {cn : String} {pc : Nat} (hret : ret = some (.object cn)) (d : decode cc pc = .ok (.areturn, 1)) (y : Y) (hΦ : Φ y) (hv : v = va_rf (rv y)) (is : List Nat) (hn : va_nd is = true) (hw : is.map (fun i => ws[i]?) = (w1 y).map some) : gW p l e R s m args below meth c X A nL (MQ below (gQq X Φ rv w1 A) args s cells slots A) cells slots ws pc lo ([v]) := by
  refine r_qret (r := rv y) C hv hret d (fun H t hP hD ht => ?_)
  exact ⟨y, ⟨hΦ, rfl⟩, by rw [ht]; exact hP.sub is (gsub_map hw), hD.sub is hn hw⟩
theorem r_ite {P : Prop} [Decidable P] {a b : Int} (kt : P → gW p l e R s m args below meth c X A nL Q cells slots ws pc lo (.int (iI a) :: rest)) (kf : ¬ P → gW p l e R s m args below meth c X A nL Q cells slots ws pc lo (.int (iI b) :: rest)) : gW p l e R s m args below meth c X A nL Q cells slots ws pc lo (.int (iI (if P then a else b)) :: rest) := by
  by_cases h : P
  · rw [if_pos h]; exact kt h
  · rw [if_neg h]; exact kf h
theorem r_itq {P : Prop} [Decidable P] {a : Nat} (kt : P → gW p l e R s m args below meth c X A nL Q cells slots ws pc lo (.ref a :: rest)) (kf : ¬ P → gW p l e R s m args below meth c X A nL Q cells slots ws pc lo (.null :: rest)) : gW p l e R s m args below meth c X A nL Q cells slots ws pc lo (va_rf (if P then some a else none) :: rest) := by
  by_cases h : P
  · rw [if_pos h]; exact kt h
  · rw [if_neg h]; exact kf h
theorem r_topi {x z : Int} (h : x = z) (k : gW p l e R s m args below meth c X A nL Q cells slots ws pc lo (.int (iI z) :: rest)) : gW p l e R s m args below meth c X A nL Q cells slots ws pc lo (.int (iI x) :: rest) := h ▸ k
theorem r_topl {x z : Int} (h : x = z) (k : gW p l e R s m args below meth c X A nL Q cells slots ws pc lo (.long (lI z) :: rest)) : gW p l e R s m args below meth c X A nL Q cells slots ws pc lo (.long (lI x) :: rest) := h ▸ k
theorem r_nmi {x : Int} (k : ∀ z : Int, z = x → gW p l e R s m args below meth c X A nL Q cells slots ws pc lo (.int (iI z) :: rest)) : gW p l e R s m args below meth c X A nL Q cells slots ws pc lo (.int (iI x) :: rest) := k x rfl
theorem r_nml {x : Int} (k : ∀ z : Int, z = x → gW p l e R s m args below meth c X A nL Q cells slots ws pc lo (.long (lI z) :: rest)) : gW p l e R s m args below meth c X A nL Q cells slots ws pc lo (.long (lI x) :: rest) := k x rfl
theorem r_max (C : gC p s m args meth c cc own Ts nL ret mn X A) {x y : Int} {index : Nat} (hlk : Cond.methodLink own index Lib.Math.max.name ∈ Ts) (hst : Cond.static Lib.Math.max.name ∈ Ts) (hini : Cond.initialized "java/lang/Math" ∈ Ts) (hco : Cond.code Lib.Math.max.name Lib.Math.max.code 2 (some .int) ∈ Ts) (d : decode cc pc = .ok (.invokestatic index, 3)) (hx : inB x) (hy : inB y) (hfr : 1 ≤ R.frames) (hlo : (rest.map fun v => v.category).sum + 13 ≤ R.locals) (hc : cells ≤ R.cells) (hs : slots ≤ R.slots)
    (k : gW p l e R s m args below meth c X A nL Q cells slots ws (pc + 3) lo (.int (iI (max x y)) :: rest)) : gW p l e R s m args below meth c X A nL Q cells slots ws pc lo (.int (iI y) :: .int (iI x) :: rest) := by
  intro H locs ls hP hD hS hl
  refine va_mmax C.1 C.2.1 (C.2.2.1.trans hl.1.symm) C.2.2.2.1 (C.2.2.2.2.1 _ hlk) (C.2.2.2.2.1 _ hst) (C.2.2.2.2.1 _ hini) (C.2.2.2.2.1 _ hco) hfr hlo hc hs d ?_
  have e : (if iI x < iI y then iI y else iI x) = iI (max x y) := by
    by_cases h : x < y
    · rw [if_pos ((iI_lt hx hy).mpr h), Int.max_eq_right (by omega)]
    · rw [if_neg (fun q => h ((iI_lt hx hy).mp q)), Int.max_eq_left (by omega)]
  rw [e]
  exact k H locs ls hP hD hS hl
theorem r_objInit (C : gC p s m args meth c cc own Ts nL ret mn X A) {a index : Nat} (hlk : Cond.methodLink own index objectInit ∈ Ts) (hin : Cond.instanceMethod objectInit ∈ Ts) (hco : Cond.code objectInit ⟨#[0xb1]⟩ 1 none ∈ Ts) (d : decode cc pc = .ok (.invokespecial index, 3)) (hfr : 1 ≤ R.frames) (hlo : (rest.map fun v => v.category).sum + 12 ≤ R.locals) (k : gW p l e R s m args below meth c X A nL Q cells slots ws (pc + 3) lo (rest)) : gW p l e R s m args below meth c X A nL Q cells slots ws pc lo (.ref a :: rest) := by
  intro H locs ls hP hD hS hl
  refine W.objInit C.1 C.2.1 C.2.2.2.1 (C.2.2.2.2.1 _ hlk) (C.2.2.2.2.1 _ hin) (C.2.2.2.2.1 _ hco) rfl (by rw [C.2.2.1]; exact hl.1) rfl d hfr (by show 2 * 0 + _ + 12 ≤ _; omega) ?_
  exact k H locs ls hP hD hS hl
theorem r_tabOut (C : gC p s m args meth c cc own Ts nL ret mn X A) {dflt lw hi : Int} {offs : Array Int} {len : Nat} {x : Int} {tgt : Nat} (d : decode cc pc = .ok (.tableswitch dflt lw hi offs, len)) (hx : inB x) (h : x < lw ∨ hi < x) (ht : (pc : Int) + dflt = (tgt : Int)) (k : gW p l e R s m args below meth c X A nL Q cells slots ws tgt lo (rest)) : gW p l e R s m args below meth c X A nL Q cells slots ws pc lo (.int (iI x) :: rest) := by
  intro H locs ls hP hD hS hl
  exact lv_tableOut C.1 C.2.1 d (by rw [iI_toInt hx]; exact h) ht (k H locs ls hP hD hS hl)
theorem r_tabIn (C : gC p s m args meth c cc own Ts nL ret mn X A) {dflt lw hi : Int} {offs : Array Int} {len : Nat} {x off : Int} {tgt : Nat} (d : decode cc pc = .ok (.tableswitch dflt lw hi offs, len)) (v : Int) (h : x = v) (hv : inB v ∧ lw ≤ v ∧ v ≤ hi) (ho : offs[(v - lw).toNat]? = some off) (ht : (pc : Int) + off = (tgt : Int)) (k : gW p l e R s m args below meth c X A nL Q cells slots ws tgt lo (rest)) : gW p l e R s m args below meth c X A nL Q cells slots ws pc lo (.int (iI x) :: rest) := by
  intro H locs ls hP hD hS hl
  subst h
  exact lv_tableIn C.1 C.2.1 d (by rw [iI_toInt hv.1]; omega) (by rw [iI_toInt hv.1]; omega) (by rw [iI_toInt hv.1]; exact ho) ht (k H locs ls hP hD hS hl)
theorem lg_cmpI {x y : Int} (hx : inL x) (hy : inL y) : lg_cmp (lI x) (lI y) = iI (if x < y then -1 else if x = y then 0 else 1) := by
  have h1 := @lI_lt x y hx hy
  have h2 := @lI_eq x y hx hy
  have h3 := @lI_lt y x hy hx
  show (if lI y < lI x then (1 : Int32) else if lI x = lI y then 0 else -1) = _
  by_cases a : x < y
  · have a1 : ¬ y < x := by omega
    have a2 : ¬ x = y := by omega
    rw [if_pos a, if_neg (fun q => a1 (h3.mp q)), if_neg (fun q => a2 (h2.mp q))]
    rfl
  · by_cases b : x = y
    · have a1 : ¬ y < x := by omega
      rw [if_neg a, if_pos b, if_neg (fun q => a1 (h3.mp q)), if_pos (h2.mpr b)]
      rfl
    · have c : y < x := by omega
      rw [if_neg a, if_neg b, if_pos (h3.mpr c)]
      rfl
theorem r_lcmp (C : gC p s m args meth c cc own Ts nL ret mn X A) {x y : Int} (d : decode cc pc = .ok (.lcmp, 1)) (hx : inL x) (hy : inL y) (k : gW p l e R s m args below meth c X A nL Q cells slots ws (pc + 1) lo (.int (iI (if x < y then -1 else if x = y then 0 else 1)) :: rest)) : gW p l e R s m args below meth c X A nL Q cells slots ws pc lo (.long (lI y) :: .long (lI x) :: rest) := by
  intro H locs ls hP hD hS hl
  refine W.lcmp C.1 C.2.1 d ?_
  rw [lg_cmpI hx hy]
  exact k H locs ls hP hD hS hl
theorem r_lcmp_eq (C : gC p s m args meth c cc own Ts nL ret mn X A) {x y off : Int} {tgt : Nat} (d1 : decode cc pc = .ok (.lcmp, 1)) (d2 : decode cc (pc + 1) = .ok (.ifCond .eq off, 3)) (ht : ((pc + 1 : Nat) : Int) + off = (tgt : Int)) (hx : inL x) (hy : inL y) (kt : x = y → gW p l e R s m args below meth c X A nL Q cells slots ws tgt lo (rest)) (kf : ¬ x = y → gW p l e R s m args below meth c X A nL Q cells slots ws (pc + 1 + 3) lo (rest)) : gW p l e R s m args below meth c X A nL Q cells slots ws pc lo (.long (lI y) :: .long (lI x) :: rest) := by
  refine r_lcmp C d1 hx hy ?_
  have hb : inB (if x < y then -1 else if x = y then 0 else 1) := by
    by_cases a : x < y
    · rw [if_pos a]; omega
    · rw [if_neg a]
      by_cases b : x = y
      · rw [if_pos b]; omega
      · rw [if_neg b]; omega
  refine r_if_eq C d2 ht hb (fun h => kt ?_) (fun h => kf ?_) <;>
  · by_cases a : x < y
    · rw [if_pos a] at h; omega
    · rw [if_neg a] at h
      by_cases b : x = y
      · rw [if_pos b] at h; omega
      · rw [if_neg b] at h; omega
theorem r_lcmp_ne (C : gC p s m args meth c cc own Ts nL ret mn X A) {x y off : Int} {tgt : Nat} (d1 : decode cc pc = .ok (.lcmp, 1)) (d2 : decode cc (pc + 1) = .ok (.ifCond .ne off, 3)) (ht : ((pc + 1 : Nat) : Int) + off = (tgt : Int)) (hx : inL x) (hy : inL y) (kt : ¬ x = y → gW p l e R s m args below meth c X A nL Q cells slots ws tgt lo (rest)) (kf : x = y → gW p l e R s m args below meth c X A nL Q cells slots ws (pc + 1 + 3) lo (rest)) : gW p l e R s m args below meth c X A nL Q cells slots ws pc lo (.long (lI y) :: .long (lI x) :: rest) := by
  refine r_lcmp C d1 hx hy ?_
  have hb : inB (if x < y then -1 else if x = y then 0 else 1) := by
    by_cases a : x < y
    · rw [if_pos a]; omega
    · rw [if_neg a]
      by_cases b : x = y
      · rw [if_pos b]; omega
      · rw [if_neg b]; omega
  refine r_if_ne C d2 ht hb (fun h => kt ?_) (fun h => kf ?_) <;>
  · by_cases a : x < y
    · rw [if_pos a] at h; omega
    · rw [if_neg a] at h
      by_cases b : x = y
      · rw [if_pos b] at h; omega
      · rw [if_neg b] at h; omega
theorem r_lcmp_lt (C : gC p s m args meth c cc own Ts nL ret mn X A) {x y off : Int} {tgt : Nat} (d1 : decode cc pc = .ok (.lcmp, 1)) (d2 : decode cc (pc + 1) = .ok (.ifCond .lt off, 3)) (ht : ((pc + 1 : Nat) : Int) + off = (tgt : Int)) (hx : inL x) (hy : inL y) (kt : x < y → gW p l e R s m args below meth c X A nL Q cells slots ws tgt lo (rest)) (kf : ¬ x < y → gW p l e R s m args below meth c X A nL Q cells slots ws (pc + 1 + 3) lo (rest)) : gW p l e R s m args below meth c X A nL Q cells slots ws pc lo (.long (lI y) :: .long (lI x) :: rest) := by
  refine r_lcmp C d1 hx hy ?_
  have hb : inB (if x < y then -1 else if x = y then 0 else 1) := by
    by_cases a : x < y
    · rw [if_pos a]; omega
    · rw [if_neg a]
      by_cases b : x = y
      · rw [if_pos b]; omega
      · rw [if_neg b]; omega
  refine r_if_lt C d2 ht hb (fun h => kt ?_) (fun h => kf ?_) <;>
  · by_cases a : x < y
    · rw [if_pos a] at h; omega
    · rw [if_neg a] at h
      by_cases b : x = y
      · rw [if_pos b] at h; omega
      · rw [if_neg b] at h; omega
theorem r_lcmp_ge (C : gC p s m args meth c cc own Ts nL ret mn X A) {x y off : Int} {tgt : Nat} (d1 : decode cc pc = .ok (.lcmp, 1)) (d2 : decode cc (pc + 1) = .ok (.ifCond .ge off, 3)) (ht : ((pc + 1 : Nat) : Int) + off = (tgt : Int)) (hx : inL x) (hy : inL y) (kt : ¬ x < y → gW p l e R s m args below meth c X A nL Q cells slots ws tgt lo (rest)) (kf : x < y → gW p l e R s m args below meth c X A nL Q cells slots ws (pc + 1 + 3) lo (rest)) : gW p l e R s m args below meth c X A nL Q cells slots ws pc lo (.long (lI y) :: .long (lI x) :: rest) := by
  refine r_lcmp C d1 hx hy ?_
  have hb : inB (if x < y then -1 else if x = y then 0 else 1) := by
    by_cases a : x < y
    · rw [if_pos a]; omega
    · rw [if_neg a]
      by_cases b : x = y
      · rw [if_pos b]; omega
      · rw [if_neg b]; omega
  refine r_if_ge C d2 ht hb (fun h => kt ?_) (fun h => kf ?_) <;>
  · by_cases a : x < y
    · rw [if_pos a] at h; omega
    · rw [if_neg a] at h
      by_cases b : x = y
      · rw [if_pos b] at h; omega
      · rw [if_neg b] at h; omega
theorem r_lcmp_gt (C : gC p s m args meth c cc own Ts nL ret mn X A) {x y off : Int} {tgt : Nat} (d1 : decode cc pc = .ok (.lcmp, 1)) (d2 : decode cc (pc + 1) = .ok (.ifCond .gt off, 3)) (ht : ((pc + 1 : Nat) : Int) + off = (tgt : Int)) (hx : inL x) (hy : inL y) (kt : y < x → gW p l e R s m args below meth c X A nL Q cells slots ws tgt lo (rest)) (kf : ¬ y < x → gW p l e R s m args below meth c X A nL Q cells slots ws (pc + 1 + 3) lo (rest)) : gW p l e R s m args below meth c X A nL Q cells slots ws pc lo (.long (lI y) :: .long (lI x) :: rest) := by
  refine r_lcmp C d1 hx hy ?_
  have hb : inB (if x < y then -1 else if x = y then 0 else 1) := by
    by_cases a : x < y
    · rw [if_pos a]; omega
    · rw [if_neg a]
      by_cases b : x = y
      · rw [if_pos b]; omega
      · rw [if_neg b]; omega
  refine r_if_gt C d2 ht hb (fun h => kt ?_) (fun h => kf ?_) <;>
  · by_cases a : x < y
    · rw [if_pos a] at h; omega
    · rw [if_neg a] at h
      by_cases b : x = y
      · rw [if_pos b] at h; omega
      · rw [if_neg b] at h; omega
theorem r_lcmp_le (C : gC p s m args meth c cc own Ts nL ret mn X A) {x y off : Int} {tgt : Nat} (d1 : decode cc pc = .ok (.lcmp, 1)) (d2 : decode cc (pc + 1) = .ok (.ifCond .le off, 3)) (ht : ((pc + 1 : Nat) : Int) + off = (tgt : Int)) (hx : inL x) (hy : inL y) (kt : ¬ y < x → gW p l e R s m args below meth c X A nL Q cells slots ws tgt lo (rest)) (kf : y < x → gW p l e R s m args below meth c X A nL Q cells slots ws (pc + 1 + 3) lo (rest)) : gW p l e R s m args below meth c X A nL Q cells slots ws pc lo (.long (lI y) :: .long (lI x) :: rest) := by
  refine r_lcmp C d1 hx hy ?_
  have hb : inB (if x < y then -1 else if x = y then 0 else 1) := by
    by_cases a : x < y
    · rw [if_pos a]; omega
    · rw [if_neg a]
      by_cases b : x = y
      · rw [if_pos b]; omega
      · rw [if_neg b]; omega
  refine r_if_le C d2 ht hb (fun h => kt ?_) (fun h => kf ?_) <;>
  · by_cases a : x < y
    · rw [if_pos a] at h; omega
    · rw [if_neg a] at h
      by_cases b : x = y
      · rw [if_pos b] at h; omega
      · rw [if_neg b] at h; omega
end GT
