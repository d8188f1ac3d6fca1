section MJ
theorem gAF_c {k z : Int} (h : (k = 0 ∧ z = 20) ∨ (k = 1 ∧ z = 5) ∨ (k = 2 ∧ z = 80) ∨ (k = 3 ∧ z = 20) ∨ (k = 4 ∧ z = 6) ∨ (k = 5 ∧ z = 20)) : z = gAF (Int.toNat k) := by
  rcases h with ⟨rfl, rfl⟩ | ⟨rfl, rfl⟩ | ⟨rfl, rfl⟩ | ⟨rfl, rfl⟩ | ⟨rfl, rfl⟩ | ⟨rfl, rfl⟩ <;> rfl
theorem gLE_c {k : Int} (h : 0 ≤ k ∧ k < 6) : gLE (Int.toNat k) = if k = 0 then 1 else if k = 2 then 1 else if k = 5 then 1 else 0 := by
  rcases (show k = 0 ∨ k = 1 ∨ k = 2 ∨ k = 3 ∨ k = 4 ∨ k = 5 by omega) with rfl | rfl | rfl | rfl | rfl | rfl <;> rfl
theorem gGR_c {k : Int} (h : 0 ≤ k ∧ k < 6) : gGR (Int.toNat k) = if k = 5 then 45 else if k = 1 then 50 else if k = 4 then 50 else 99 := by
  rcases (show k = 0 ∨ k = 1 ∨ k = 2 ∨ k = 3 ∨ k = 4 ∨ k = 5 by omega) with rfl | rfl | rfl | rfl | rfl | rfl <;> rfl
end MJ
section MK
theorem kpF_ref {F : Nat → Int} {k kd xx sp fa sl sn ti tk bt : Int} (hk : 0 ≤ k) : updI (updI (updI (updI (updI (updI (updI (updI (updI F (Int.toNat (9 * k + 1)) xx) (Int.toNat (9 * k + 2)) sp) (Int.toNat (9 * k + 3)) fa) (Int.toNat (9 * k + 4)) sl) (Int.toNat (9 * k + 5)) sn) (Int.toNat (9 * k + 6)) ti) (Int.toNat (9 * k + 8)) bt) (Int.toNat (9 * k)) kd) (Int.toNat (9 * k + 7)) tk = kpF F k kd xx sp fa sl sn ti tk bt := by
  funext j
  unfold kpF
  simp only [updI]
  by_cases a : (j : Int) < 9 * k ∨ 9 * k + 9 ≤ (j : Int)
  · rw [if_neg (by omega), if_neg (by omega), if_neg (by omega), if_neg (by omega), if_neg (by omega), if_neg (by omega), if_neg (by omega), if_neg (by omega), if_neg (by omega), if_neg (by omega), if_neg (by omega), if_neg (by omega), if_neg (by omega), if_neg (by omega), if_neg (by omega), if_neg (by omega), if_neg (by omega), if_neg (by omega)]
  · rcases (show (j : Int) = 9 * k ∨ (j : Int) = 9 * k + 1 ∨ (j : Int) = 9 * k + 2 ∨ (j : Int) = 9 * k + 3 ∨ (j : Int) = 9 * k + 4 ∨ (j : Int) = 9 * k + 5 ∨ (j : Int) = 9 * k + 6 ∨ (j : Int) = 9 * k + 7 ∨ (j : Int) = 9 * k + 8 by omega) with h | h | h | h | h | h | h | h | h
    all_goals (repeat' (first | rw [if_pos (by omega)] | rw [if_neg (by omega)]))
end MK
