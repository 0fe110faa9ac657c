theorem RM.want {K : Nat} {a : Nat → Nat → Int32} {j : Nat} (h : RM K a) (h1 : 20 ≤ j % 60 ∧ j % 60 < 26) : 0 ≤ (a 15 j).toInt ∧ (a 15 j).toInt ≤ 99 := by
  have := h 15 j
  simp only [loM, hiM, stLo, stHi] at this
  rw [if_neg (by omega), if_neg (by omega), if_neg (by omega), if_neg (by omega), if_neg (by omega), if_neg (by omega), if_neg (by omega), if_neg (by omega), if_pos (by omega)] at this
  exact this
theorem ti_shl1 {x : Int32} (h : 0 ≤ x.toInt ∧ x.toInt ≤ 6) : 1 ≤ ((1 : Int32) <<< (x &&& 31)).toInt ∧ ((1 : Int32) <<< (x &&& 31)).toInt ≤ 64 := by
  have e := ti_nI h.1
  have hk : x.toInt.toNat ≤ 6 := by omega
  generalize x.toInt.toNat = k at e hk
  subst e
  have : k = 0 ∨ k = 1 ∨ k = 2 ∨ k = 3 ∨ k = 4 ∨ k = 5 ∨ k = 6 := by omega
  rcases this with rfl | rfl | rfl | rfl | rfl | rfl | rfl <;> decide
