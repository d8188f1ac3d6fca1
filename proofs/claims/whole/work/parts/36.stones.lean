section ST
/-- the stones' cells -/
def stC (sa : Nat → Nat) (Wt Wd Rg Ly Wo : Nat → Int) (j : Nat) : Nat × va_E := (sa j, .inr (3, [.int (iI (Wt j)), .int (iI (Wd j)), .int (iI (Rg j)), .int (iI (Ly j)), .int (iI (Wo j))]))
def stP (n : Nat) (sa : Nat → Nat) (Wt Wd Rg Ly Wo : Nat → Int) : va_W := (List.range n).map (stC sa Wt Wd Rg Ly Wo)
/-- one of them apart -/
def stR (n : Nat) (sa : Nat → Nat) (Wt Wd Rg Ly Wo : Nat → Int) (x : Nat) : va_W := ((List.range n).erase x).map (stC sa Wt Wd Rg Ly Wo)
theorem stP_x {n : Nat} {sa : Nat → Nat} {Wt Wd Rg Ly Wo : Nat → Int} {x : Nat} (h : x < n) : (stP n sa Wt Wd Rg Ly Wo).Perm (stC sa Wt Wd Rg Ly Wo x :: stR n sa Wt Wd Rg Ly Wo x) := by
  have h1 := List.perm_cons_erase (List.mem_range.mpr h)
  have h2 := h1.map (stC sa Wt Wd Rg Ly Wo)
  simpa [stP, stR] using h2
theorem st_cut {base : va_W} {n : Nat} {sa : Nat → Nat} {Wt Wd Rg Ly Wo : Nat → Int} {x : Nat} (h : x < n) : (base ++ stP n sa Wt Wd Rg Ly Wo).Perm ((base ++ [stC sa Wt Wd Rg Ly Wo x]) ++ stR n sa Wt Wd Rg Ly Wo x) := by
  rw [List.append_assoc]
  exact (stP_x h).append_left base
theorem stR_same {n : Nat} {sa : Nat → Nat} {Wt Wd Rg Ly Wo : Nat → Int} {x : Nat} (h : x < n) (v w : Int) : stR n sa Wt Wd Rg (updI Ly x v) (updI Wo x w) x = stR n sa Wt Wd Rg Ly Wo x := by
  unfold stR
  apply List.map_congr_left
  intro j hj
  have hne : j ≠ x := ((List.Nodup.mem_erase_iff List.nodup_range).mp hj).1
  simp only [stC, updI]
  rw [if_neg hne, if_neg hne]
/-- one more -/
theorem stP_add {n : Nat} {sa : Nat → Nat} {Wt Wd Rg Ly Wo : Nat → Int} (y : Nat) (p1 p2 p3 p4 p5 : Int) : stP (n + 1) (fun j => if j = n then y else sa j) (updI Wt n p1) (updI Wd n p2) (updI Rg n p3) (updI Ly n p4) (updI Wo n p5) = stP n sa Wt Wd Rg Ly Wo ++ [(y, .inr (3, [.int (iI p1), .int (iI p2), .int (iI p3), .int (iI p4), .int (iI p5)]))] := by
  unfold stP
  rw [List.range_succ, List.map_append]
  congr 1
  · apply List.map_congr_left
    intro j hj
    have := List.mem_range.mp hj
    simp only [stC, updI]
    rw [if_neg (by omega), if_neg (by omega), if_neg (by omega), if_neg (by omega), if_neg (by omega), if_neg (by omega)]
  · simp [stC, updI]
theorem st_add {base : va_W} {c : Nat × va_E} {pl : va_W} : ((base ++ [c]) ++ pl).Perm (base ++ (pl ++ [c])) := by
  rw [List.append_assoc]
  exact (List.perm_append_comm (l₁ := [c]) (l₂ := pl)).append_left base
end ST
