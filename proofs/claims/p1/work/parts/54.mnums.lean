theorem p_fill0 {f : Nat → Int32} {i : Nat} (h : ∀ j, j < i → f j = 0) (hi : i < 110) : ∀ j, j < i + 1 → upd f (nI (0 + i)).toNatClampNeg 0 j = 0 := by
  intro j hj
  rw [nI_clamp (by omega), Nat.zero_add]
  by_cases e : j = i
  · subst e; exact pk_us
  · rw [pk_un e]; exact h j (by omega)
theorem p_upd0 {f : Nat → Int32} {a : Nat} {v : Int32} (h : a < 2 ^ 31) (h0 : 0 < a) : upd f (nI a).toNatClampNeg v 0 = f 0 := by
  rw [nI_clamp h]; exact pk_un (by omega)
