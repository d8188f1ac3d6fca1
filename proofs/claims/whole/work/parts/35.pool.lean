section PL
variable {p : Program} {l : Launch} {e : Env} {R : Room} {s : State} {m : MethodId} {args : Array Value} {below : List Frame} {meth : Method} {c : Code} {X : gX} {A : Nat → Prop} {nL : Nat} {Q : State → Prop} {cells slots : Nat}
variable {ws : va_W} {pc : Nat} {lo : List (Nat × Value)} {rest st0 : List Value} {cc : ByteArray} {own : String} {Ts : List Cond} {ret : Option FieldType} {mn : String}
variable {y : MethodName} {words words' : List Cond} {rm : Room} {w0 : va_W} {As : List Value} {Qc : (Nat → Prop) → Array Value → State → Outcome → State → Prop} {mc ms index n maxL : Nat} {bytes : ByteArray} {ret' : Option FieldType} {b : Nat}

theorem g_Vq_i (C : gC p s m args meth c cc own Ts nL ret mn X A) {Y : Type} {Φ : Y → Prop} {rv : Y → Int} {w1 ws2 : Y → va_W} {pl : va_W} (hM : gM l y words rm X w0 (.ref b :: As) (gQi X Φ rv w1) mc ms) (hG : GoodIn Ts (wsV own index y.cls y words)) (hw : words = Cond.code y bytes maxL ret' :: words') (hrc : rm.cells = mc) (hrs : rm.slots = ms) (hd : y.cls = y.cls ∧ y.cls ≠ "java/lang/invoke/MethodHandle" ∧ y.cls ≠ "java/lang/invoke/VarHandle" ∧ (parseMethodDescriptor y.desc).map (fun d => d.parameters.length) = some n) (hrm : rm.frames + 1 ≤ R.frames ∧ 8 + (maxL + 11) + rm.locals ≤ R.locals) (d : decode cc pc = .ok (.invokevirtual index, 3)) (iC iR iB : List Nat) (hnC : va_nd iC = true) (hC : iC.map (fun i => ws[i]?) = w0.map some) (hC2 : iC.map (fun i => (ws ++ pl)[i]?) = w0.map some) (hnR : va_nd iR = true) (hR : iR.map (fun i => ws[i]?) = (gsub ws iR).map some) (hdis : ∀ i ∈ iR, i ∉ iC) (hnB : va_nd iB = true) (q ci : Nat) {T : u_T} {N : Nat} {fs : List Value} (hc : vwCl[ci]? = some (y.cls, T, N)) (hre : ws[q]? = some (b, .inr (ci, fs))) (hn : As.length = n) (hst : st0 = As.reverse ++ .ref b :: rest) (hsum : (rest.map fun v => v.category).sum ≤ 8) (hcs : cells + mc ≤ R.cells ∧ slots + ms ≤ R.slots)
    (hB : ∀ y, iB.map (fun i => (gsub ws iR ++ w1 y)[i]?) = (ws2 y).map some) (kk : ∀ y, Φ y → gW p l e R s m args below meth c X A nL Q (cells + mc) (slots + ms) (ws2 y ++ pl) (pc + 3) lo (.int (iI (rv y)) :: rest)) : gW p l e R s m args below meth c X A nL Q cells slots (ws ++ pl) pc lo (st0) := by
  intro H locs ls hP hD hS hl
  have hpre := g_pre C hP hD hS iC hnC hC2 (.ref b :: As)
  have hF := va_free hD hS C.2.2.2.2.2.2.1 iC hC2
  refine va_calli (va_runV (As := As) (rest := rest) ⟨C.1, C.2.1, C.2.2.1, C.2.2.2.1, C.2.2.2.2.1⟩ (hM H.size) (cwV n C.2.2.2.2.1 hG hw hrc hrs hd hrm) ⟨gPre.blind, va_recv C.2.2.2.2.2.1.1 (gP_left hP) hc hre, hpre⟩ rfl hn hl.1 hst (lv_room hsum) d hcs) hS (fun q _ h => hF q h) hF (fun r y1 t H1 locs1 ht hvm hw1 hB1 hz1 hk1 hS1 => ?_)
  obtain ⟨hΦ, rfl⟩ := hw1
  obtain ⟨hP1, hD1⟩ := hB1
  rw [ht] at hP1
  obtain ⟨hP2, hD2⟩ := va_joinQ (wr := gsub ws iR) hP hD iC iR hC hR hnR hdis hk1 hF hP1 hD1
  exact kk y1 hΦ H1 locs1 ls (hP2.part iB (hB y1)) (hD2.part iB hnB (hB y1)) hS1 hl
theorem g_Vq_l (C : gC p s m args meth c cc own Ts nL ret mn X A) {Y : Type} {Φ : Y → Prop} {rv : Y → Int} {w1 ws2 : Y → va_W} {pl : va_W} (hM : gM l y words rm X w0 (.ref b :: As) (gQl X Φ rv w1) mc ms) (hG : GoodIn Ts (wsV own index y.cls y words)) (hw : words = Cond.code y bytes maxL ret' :: words') (hrc : rm.cells = mc) (hrs : rm.slots = ms) (hd : y.cls = y.cls ∧ y.cls ≠ "java/lang/invoke/MethodHandle" ∧ y.cls ≠ "java/lang/invoke/VarHandle" ∧ (parseMethodDescriptor y.desc).map (fun d => d.parameters.length) = some n) (hrm : rm.frames + 1 ≤ R.frames ∧ 8 + (maxL + 11) + rm.locals ≤ R.locals) (d : decode cc pc = .ok (.invokevirtual index, 3)) (iC iR iB : List Nat) (hnC : va_nd iC = true) (hC : iC.map (fun i => ws[i]?) = w0.map some) (hC2 : iC.map (fun i => (ws ++ pl)[i]?) = w0.map some) (hnR : va_nd iR = true) (hR : iR.map (fun i => ws[i]?) = (gsub ws iR).map some) (hdis : ∀ i ∈ iR, i ∉ iC) (hnB : va_nd iB = true) (q ci : Nat) {T : u_T} {N : Nat} {fs : List Value} (hc : vwCl[ci]? = some (y.cls, T, N)) (hre : ws[q]? = some (b, .inr (ci, fs))) (hn : As.length = n) (hst : st0 = As.reverse ++ .ref b :: rest) (hsum : (rest.map fun v => v.category).sum ≤ 8) (hcs : cells + mc ≤ R.cells ∧ slots + ms ≤ R.slots)
    (hB : ∀ y, iB.map (fun i => (gsub ws iR ++ w1 y)[i]?) = (ws2 y).map some) (kk : ∀ y, Φ y → gW p l e R s m args below meth c X A nL Q (cells + mc) (slots + ms) (ws2 y ++ pl) (pc + 3) lo (.long (lI (rv y)) :: rest)) : gW p l e R s m args below meth c X A nL Q cells slots (ws ++ pl) pc lo (st0) := by
  intro H locs ls hP hD hS hl
  have hpre := g_pre C hP hD hS iC hnC hC2 (.ref b :: As)
  have hF := va_free hD hS C.2.2.2.2.2.2.1 iC hC2
  refine va_calll (va_runV (As := As) (rest := rest) ⟨C.1, C.2.1, C.2.2.1, C.2.2.2.1, C.2.2.2.2.1⟩ (hM H.size) (cwV n C.2.2.2.2.1 hG hw hrc hrs hd hrm) ⟨gPre.blind, va_recv C.2.2.2.2.2.1.1 (gP_left hP) hc hre, hpre⟩ rfl hn hl.1 hst (lv_room hsum) d hcs) hS (fun q _ h => hF q h) hF (fun r y1 t H1 locs1 ht hvm hw1 hB1 hz1 hk1 hS1 => ?_)
  obtain ⟨hΦ, rfl⟩ := hw1
  obtain ⟨hP1, hD1⟩ := hB1
  rw [ht] at hP1
  obtain ⟨hP2, hD2⟩ := va_joinQ (wr := gsub ws iR) hP hD iC iR hC hR hnR hdis hk1 hF hP1 hD1
  exact kk y1 hΦ H1 locs1 ls (hP2.part iB (hB y1)) (hD2.part iB hnB (hB y1)) hS1 hl
end PL
