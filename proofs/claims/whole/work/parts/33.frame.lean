section FR
theorem gP_mem {D : va_G} {cl : List vw_C} {ws : va_W} {H : Heap} : va_P D cl ws H ↔ ∀ q ∈ ws, va_at D cl q H := by
  constructor
  · intro h q hq
    obtain ⟨k, hk⟩ := List.mem_iff_getElem?.mp hq
    exact h k q hk
  · intro h k q hk
    exact h q (List.mem_of_getElem? hk)
theorem gP_perm {D : va_G} {cl : List vw_C} {w1 w2 : va_W} {H : Heap} (h : va_P D cl w1 H) (hp : w1.Perm w2) : va_P D cl w2 H :=
  gP_mem.mpr (fun q hq => gP_mem.mp h q (hp.mem_iff.mpr hq))
theorem gD_mem {A : Nat → Prop} {ws : va_W} : va_D A ws ↔ (ws.map (fun q => q.1)).Nodup ∧ ∀ q ∈ ws, A q.1 := by
  constructor
  · intro h
    refine ⟨?_, ?_⟩
    · rw [List.Nodup, List.pairwise_iff_getElem]
      intro i j hi hj hij e
      have hi' : i < ws.length := by simpa using hi
      have hj' : j < ws.length := by simpa using hj
      have := h.1 i j ws[i] ws[j] (List.getElem?_eq_getElem hi') (List.getElem?_eq_getElem hj') (by simpa using e)
      omega
    · intro q hq
      obtain ⟨k, hk⟩ := List.mem_iff_getElem?.mp hq
      exact h.2 k q hk
  · intro h
    refine ⟨?_, fun k q hk => h.2 q (List.mem_of_getElem? hk)⟩
    intro i j p q hi hj e
    obtain ⟨hi', ei⟩ := List.getElem?_eq_some_iff.mp hi
    obtain ⟨hj', ej⟩ := List.getElem?_eq_some_iff.mp hj
    have hn := h.1
    rw [List.Nodup, List.pairwise_iff_getElem] at hn
    by_cases a : i < j
    · exact absurd (by simp [ei, ej, e]) (hn i j (by simpa using hi') (by simpa using hj') a)
    · by_cases b : j < i
      · exact absurd (by simp [ei, ej, e]) (hn j i (by simpa using hj') (by simpa using hi') b)
      · omega
theorem gD_perm {A : Nat → Prop} {w1 w2 : va_W} (h : va_D A w1) (hp : w1.Perm w2) : va_D A w2 := by
  obtain ⟨h1, h2⟩ := gD_mem.mp h
  exact gD_mem.mpr ⟨(hp.map _).nodup_iff.mp h1, fun q hq => h2 q (hp.mem_iff.mpr hq)⟩
theorem gD_left {A : Nat → Prop} {w1 w2 : va_W} (h : va_D A (w1 ++ w2)) : va_D A w1 := by
  obtain ⟨h1, h2⟩ := gD_mem.mp h
  rw [List.map_append] at h1
  exact gD_mem.mpr ⟨(List.nodup_append.mp h1).1, fun q hq => h2 q (List.mem_append_left _ hq)⟩
theorem gP_left {D : va_G} {cl : List vw_C} {w1 w2 : va_W} {H : Heap} (h : va_P D cl (w1 ++ w2) H) : va_P D cl w1 H :=
  gP_mem.mpr (fun q hq => gP_mem.mp h q (List.mem_append_left _ hq))
theorem gP_right {D : va_G} {cl : List vw_C} {w1 w2 : va_W} {H : Heap} (h : va_P D cl (w1 ++ w2) H) : va_P D cl w2 H :=
  gP_mem.mpr (fun q hq => gP_mem.mp h q (List.mem_append_right _ hq))
/-- cells in another order -/
theorem r_perm {p : Program} {l : Launch} {e : Env} {R : Room} {s : State} {m : MethodId} {args : Array Value} {below : List Frame} {meth : Method} {c : Code} {X : gX} {A : Nat → Prop} {nL : Nat} {Q : State → Prop} {cells slots pc : Nat} {ws ws2 : va_W} {lo : List (Nat × Value)} {rest : List Value}
    (h : ws.Perm ws2) (kk : gW p l e R s m args below meth c X A nL Q cells slots ws2 pc lo rest) : gW p l e R s m args below meth c X A nL Q cells slots ws pc lo rest :=
  fun H locs ls hP hD hS hl => kk H locs ls (gP_perm hP h) (gD_perm hD h) hS hl
end FR
