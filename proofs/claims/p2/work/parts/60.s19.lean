theorem tl_lN {x : Int64} (h : 0 ≤ x.toInt) : x = lN x.toInt.toNat ∧ x.toInt.toNat < 2 ^ 63 := by
  have h1 : ¬ x < 0 := by rw [Int64.lt_iff_toInt_lt]; exact fun z => absurd h (by have e : (0 : Int64).toInt = 0 := rfl; omega)
  obtain ⟨k, hk, rfl⟩ := pk_lOf h1
  rw [pk_lT hk, Int.toNat_natCast]
  exact ⟨rfl, hk⟩
theorem dr_g {g : Int64} (h : 0 ≤ g.toInt ∧ g.toInt < 2147483648) : 0 ≤ ((g * 1103515245 + 12345) - (g * 1103515245 + 12345) / 2147483648 * 2147483648).toInt ∧ ((g * 1103515245 + 12345) - (g * 1103515245 + 12345) / 2147483648 * 2147483648).toInt < 2147483648 := by
  obtain ⟨e, hk⟩ := tl_lN h.1
  have hlt : g.toInt.toNat < 2147483648 := by omega
  generalize g.toInt.toNat = k at e hk hlt
  subst e
  have e1 : lN k * 1103515245 + 12345 = lN (k * 1103515245 + 12345) := by
    rw [← lN_add, ← lN_mul]; rfl
  have e2 : (2147483648 : Int64) = lN 2147483648 := rfl
  rw [e1, e2, pk_lRem (by omega) (by omega) (by omega), pk_lT (by omega)]
  omega
