theorem cmp_ti {x y : Int64} {z : Int32} (hz : z = lg_cmp x y) : (z.toInt < 0 ↔ x.toInt < y.toInt) ∧ (z.toInt ≤ 0 ↔ x.toInt ≤ y.toInt) := by
  subst hz
  have h1 := lg_cmp_lt x y
  have h2 := lg_cmp_le x y
  rw [Int32.lt_iff_toInt_lt, Int64.lt_iff_toInt_lt] at h1
  rw [Int32.le_iff_toInt_le, Int64.le_iff_toInt_le] at h2
  exact ⟨h1, h2⟩
theorem i2l_ti {x : Int32} {y : Int64} (h : y = x.toInt64) : y.toInt = x.toInt := by
  subst h
  exact Int32.toInt_toInt64 x
theorem l2i_ti {x : Int64} {z : Int32} (h : z = x.toInt32) (hb : -2147483648 ≤ x.toInt ∧ x.toInt < 2147483648) : z.toInt = x.toInt := by
  subst h
  rw [Int64.toInt_toInt32]
  exact Int.bmod_eq_of_le (by omega) (by omega)
def byM (x : Int64) (k : Int32) : Int32 := (x >>> (k.toInt64 &&& 63)).toInt32 &&& 255
