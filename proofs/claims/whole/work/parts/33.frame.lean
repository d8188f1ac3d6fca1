section FR
theorem gP_mem {D : va_G} {cl : List vw_C} {ws : va_W} {H : Heap} : va_P D cl ws H ↔ ∀ q ∈ ws, va_at D cl q H := by
  constructor
  · intro h q hq
    obtain ⟨k, hk⟩ := List.mem_iff_getElem?.mp hq
    exact h k q hk
  · intro h k q hk
    exact h q (List.mem_of_getElem? hk)
theorem gP_perm {D : va_G} {cl : List vw_C} {w1 w2 : va_W} {H : Heap} (h : va_P D cl w1 H) (hp : w1.Perm w2) : va_P D cl w2 H :=
  gP_mem.mpr (fun q hq => gP_mem.mp h q (hp.mem_iff.mpr hq))
theorem gD_mem {A : Nat → Prop} {ws : va_W} : va_D A ws ↔ (ws.map (fun q => q.1)).Nodup ∧ ∀ q ∈ ws, A q.1 := by
  constructor
  · intro h
    refine ⟨?_, ?_⟩
    · rw [List.Nodup, List.pairwise_iff_getElem]
      intro i j hi hj hij e
      have hi' : i < ws.length := by simpa using hi
      have hj' : j < ws.length := by simpa using hj
      have := h.1 i j ws[i] ws[j] (List.getElem?_eq_getElem hi') (List.getElem?_eq_getElem hj') (by simpa using e)
      omega
    · intro q hq
      obtain ⟨k, hk⟩ := List.mem_iff_getElem?.mp hq
      exact h.2 k q hk
  · intro h
    refine ⟨?_, fun k q hk => h.2 q (List.mem_of_getElem? hk)⟩
    intro i j p q hi hj e
    obtain ⟨hi', ei⟩ := List.getElem?_eq_some_iff.mp hi
    obtain ⟨hj', ej⟩ := List.getElem?_eq_some_iff.mp hj
    have hn := h.1
    rw [List.Nodup, List.pairwise_iff_getElem] at hn
    by_cases a : i < j
    · have q1 := hn i j (by simpa using hi') (by simpa using hj') a
      simp only [List.getElem_map, ne_eq] at q1
      rw [ei, ej] at q1
      exact absurd e q1
    · by_cases b : j < i
      · have q1 := hn j i (by simpa using hj') (by simpa using hi') b
        simp only [List.getElem_map, ne_eq] at q1
        rw [ei, ej] at q1
        exact absurd e.symm q1
      · omega
theorem gD_perm {A : Nat → Prop} {w1 w2 : va_W} (h : va_D A w1) (hp : w1.Perm w2) : va_D A w2 := by
  obtain ⟨h1, h2⟩ := gD_mem.mp h
  exact gD_mem.mpr ⟨(hp.map _).nodup_iff.mp h1, fun q hq => h2 q (hp.mem_iff.mpr hq)⟩
theorem gD_left {A : Nat → Prop} {w1 w2 : va_W} (h : va_D A (w1 ++ w2)) : va_D A w1 := by
  obtain ⟨h1, h2⟩ := gD_mem.mp h
  rw [List.map_append] at h1
  exact gD_mem.mpr ⟨(List.nodup_append.mp h1).1, fun q hq => h2 q (List.mem_append_left _ hq)⟩
theorem gP_left {D : va_G} {cl : List vw_C} {w1 w2 : va_W} {H : Heap} (h : va_P D cl (w1 ++ w2) H) : va_P D cl w1 H :=
  gP_mem.mpr (fun q hq => gP_mem.mp h q (List.mem_append_left _ hq))
theorem gP_right {D : va_G} {cl : List vw_C} {w1 w2 : va_W} {H : Heap} (h : va_P D cl (w1 ++ w2) H) : va_P D cl w2 H :=
  gP_mem.mpr (fun q hq => gP_mem.mp h q (List.mem_append_right _ hq))
/-- cells in another order -/
theorem r_perm {p : Program} {l : Launch} {e : Env} {R : Room} {s : State} {m : MethodId} {args : Array Value} {below : List Frame} {meth : Method} {c : Code} {X : gX} {A : Nat → Prop} {nL : Nat} {Q : State → Prop} {cells slots pc : Nat} {ws ws2 : va_W} {lo : List (Nat × Value)} {rest : List Value}
    (h : ws.Perm ws2) (kk : gW p l e R s m args below meth c X A nL Q cells slots ws2 pc lo rest) : gW p l e R s m args below meth c X A nL Q cells slots ws pc lo rest :=
  fun H locs ls hP hD hS hl => kk H locs ls (gP_perm hP h) (gD_perm hD h) hS hl

theorem nd_of : ∀ {is : List Nat}, is.Nodup → va_nd is = true
  | [], _ => rfl
  | a :: is, h => by
    obtain ⟨h1, h2⟩ := List.nodup_cons.mp h
    simp only [va_nd, Bool.and_eq_true, decide_eq_true_eq]
    exact ⟨h1, nd_of h2⟩
theorem gs_C (w0 wr : va_W) : (List.range w0.length).map (fun i => (w0 ++ wr)[i]?) = w0.map some := by
  apply List.ext_getElem?
  intro k
  simp only [List.getElem?_map, List.getElem?_range']
  by_cases h : k < w0.length
  · rw [List.getElem?_range h]
    simp [List.getElem?_append_left h, List.getElem?_eq_getElem h]
  · rw [List.getElem?_eq_none (by simp; omega), List.getElem?_eq_none (by omega)]
    rfl
theorem gs_R (w0 wr : va_W) : ((List.range wr.length).map (fun i => i + w0.length)).map (fun i => (w0 ++ wr)[i]?) = wr.map some := by
  apply List.ext_getElem?
  intro k
  simp only [List.getElem?_map]
  by_cases h : k < wr.length
  · rw [List.getElem?_range h]
    simp [List.getElem?_append_right, List.getElem?_eq_getElem h]
  · rw [List.getElem?_eq_none (by simp; omega), List.getElem?_eq_none (by omega)]
    rfl
end FR
section FK
variable {p : Program} {l : Launch} {e : Env} {R : Room} {s : State} {m : MethodId} {args : Array Value} {below : List Frame} {meth : Method} {c : Code} {X : gX} {A : Nat → Prop} {nL : Nat} {Q : State → Prop} {cells slots : Nat}
variable {ws : va_W} {pc : Nat} {lo : List (Nat × Value)} {rest st0 : List Value} {cc : ByteArray} {own : String} {Ts : List Cond} {ret : Option FieldType} {mn : String}
variable {y : MethodName} {words words' : List Cond} {rm : Room} {w0 : va_W} {As : List Value} {Qc : (Nat → Prop) → Array Value → State → Outcome → State → Prop} {mc ms index n maxL : Nat} {bytes : ByteArray} {ret' : Option FieldType} {b : Nat}

theorem g_Vp_i (C : gC p s m args meth c cc own Ts nL ret mn X A) {Y : Type} {Φ : Y → Prop} {rv : Y → Int} {w1 : Y → va_W} {wr : va_W} (hM : gM l y words rm X w0 (.ref b :: As) (gQi X Φ rv w1) mc ms) (hG : GoodIn Ts (wsV own index y.cls y words)) (hw : words = Cond.code y bytes maxL ret' :: words') (hrc : rm.cells = mc) (hrs : rm.slots = ms) (hd : y.cls = y.cls ∧ y.cls ≠ "java/lang/invoke/MethodHandle" ∧ y.cls ≠ "java/lang/invoke/VarHandle" ∧ (parseMethodDescriptor y.desc).map (fun d => d.parameters.length) = some n) (hrm : rm.frames + 1 ≤ R.frames ∧ 8 + (maxL + 11) + rm.locals ≤ R.locals) (d : decode cc pc = .ok (.invokevirtual index, 3)) (hp : ws.Perm (w0 ++ wr)) (q ci : Nat) {T : u_T} {N : Nat} {fs : List Value} (hc : vwCl[ci]? = some (y.cls, T, N)) (hre : w0[q]? = some (b, .inr (ci, fs))) (hn : As.length = n) (hst : st0 = As.reverse ++ .ref b :: rest) (hsum : (rest.map fun v => v.category).sum ≤ 8) (hcs : cells + mc ≤ R.cells ∧ slots + ms ≤ R.slots)
    (kk : ∀ y, Φ y → gW p l e R s m args below meth c X A nL Q (cells + mc) (slots + ms) (wr ++ w1 y) (pc + 3) lo (.int (iI (rv y)) :: rest)) : gW p l e R s m args below meth c X A nL Q cells slots ws pc lo (st0) := by
  refine r_perm hp ?_
  intro H locs ls hP hD hS hl
  have hC := gs_C w0 wr
  have hR := gs_R w0 wr
  have hnC : va_nd (List.range w0.length) = true := nd_of List.nodup_range
  have hnR : va_nd ((List.range wr.length).map (fun i => i + w0.length)) = true := nd_of (List.Pairwise.map _ (fun a b h => by omega) List.nodup_range)
  have hdis : ∀ i ∈ (List.range wr.length).map (fun i => i + w0.length), i ∉ List.range w0.length := by
    intro i hi h2
    obtain ⟨j, hj, e⟩ := List.mem_map.mp hi
    have := List.mem_range.mp h2
    omega
  have hpre := g_pre C hP hD hS (List.range w0.length) hnC hC (.ref b :: As)
  have hF := va_free hD hS C.2.2.2.2.2.2.1 (List.range w0.length) hC
  refine va_calli (va_runV (As := As) (rest := rest) ⟨C.1, C.2.1, C.2.2.1, C.2.2.2.1, C.2.2.2.2.1⟩ (hM H.size) (cwV n C.2.2.2.2.1 hG hw hrc hrs hd hrm) ⟨gPre.blind, va_recv C.2.2.2.2.2.1.1 (gP_left hP) hc hre, hpre⟩ rfl hn hl.1 hst (lv_room hsum) d hcs) hS (fun q _ h => hF q h) hF (fun r y1 t H1 locs1 ht hvm hw1 hB1 hz1 hk1 hS1 => ?_)
  obtain ⟨hΦ, rfl⟩ := hw1
  obtain ⟨hP1, hD1⟩ := hB1
  rw [ht] at hP1
  obtain ⟨hP2, hD2⟩ := va_join (wr := wr) hP hD (List.range w0.length) ((List.range wr.length).map (fun i => i + w0.length)) hC hR hnR hdis hk1 hF hP1 hD1
  exact kk y1 hΦ H1 locs1 ls hP2 hD2 hS1 hl
theorem g_Vp_l (C : gC p s m args meth c cc own Ts nL ret mn X A) {Y : Type} {Φ : Y → Prop} {rv : Y → Int} {w1 : Y → va_W} {wr : va_W} (hM : gM l y words rm X w0 (.ref b :: As) (gQl X Φ rv w1) mc ms) (hG : GoodIn Ts (wsV own index y.cls y words)) (hw : words = Cond.code y bytes maxL ret' :: words') (hrc : rm.cells = mc) (hrs : rm.slots = ms) (hd : y.cls = y.cls ∧ y.cls ≠ "java/lang/invoke/MethodHandle" ∧ y.cls ≠ "java/lang/invoke/VarHandle" ∧ (parseMethodDescriptor y.desc).map (fun d => d.parameters.length) = some n) (hrm : rm.frames + 1 ≤ R.frames ∧ 8 + (maxL + 11) + rm.locals ≤ R.locals) (d : decode cc pc = .ok (.invokevirtual index, 3)) (hp : ws.Perm (w0 ++ wr)) (q ci : Nat) {T : u_T} {N : Nat} {fs : List Value} (hc : vwCl[ci]? = some (y.cls, T, N)) (hre : w0[q]? = some (b, .inr (ci, fs))) (hn : As.length = n) (hst : st0 = As.reverse ++ .ref b :: rest) (hsum : (rest.map fun v => v.category).sum ≤ 8) (hcs : cells + mc ≤ R.cells ∧ slots + ms ≤ R.slots)
    (kk : ∀ y, Φ y → gW p l e R s m args below meth c X A nL Q (cells + mc) (slots + ms) (wr ++ w1 y) (pc + 3) lo (.long (lI (rv y)) :: rest)) : gW p l e R s m args below meth c X A nL Q cells slots ws pc lo (st0) := by
  refine r_perm hp ?_
  intro H locs ls hP hD hS hl
  have hC := gs_C w0 wr
  have hR := gs_R w0 wr
  have hnC : va_nd (List.range w0.length) = true := nd_of List.nodup_range
  have hnR : va_nd ((List.range wr.length).map (fun i => i + w0.length)) = true := nd_of (List.Pairwise.map _ (fun a b h => by omega) List.nodup_range)
  have hdis : ∀ i ∈ (List.range wr.length).map (fun i => i + w0.length), i ∉ List.range w0.length := by
    intro i hi h2
    obtain ⟨j, hj, e⟩ := List.mem_map.mp hi
    have := List.mem_range.mp h2
    omega
  have hpre := g_pre C hP hD hS (List.range w0.length) hnC hC (.ref b :: As)
  have hF := va_free hD hS C.2.2.2.2.2.2.1 (List.range w0.length) hC
  refine va_calll (va_runV (As := As) (rest := rest) ⟨C.1, C.2.1, C.2.2.1, C.2.2.2.1, C.2.2.2.2.1⟩ (hM H.size) (cwV n C.2.2.2.2.1 hG hw hrc hrs hd hrm) ⟨gPre.blind, va_recv C.2.2.2.2.2.1.1 (gP_left hP) hc hre, hpre⟩ rfl hn hl.1 hst (lv_room hsum) d hcs) hS (fun q _ h => hF q h) hF (fun r y1 t H1 locs1 ht hvm hw1 hB1 hz1 hk1 hS1 => ?_)
  obtain ⟨hΦ, rfl⟩ := hw1
  obtain ⟨hP1, hD1⟩ := hB1
  rw [ht] at hP1
  obtain ⟨hP2, hD2⟩ := va_join (wr := wr) hP hD (List.range w0.length) ((List.range wr.length).map (fun i => i + w0.length)) hC hR hnR hdis hk1 hF hP1 hD1
  exact kk y1 hΦ H1 locs1 ls hP2 hD2 hS1 hl
end FK
