-- the tokens: N of them, the end's sort behind
theorem TK.lt {a : Nat → Nat → Int32} {N : Nat} (hT : N ≤ 1000 ∧ (a 0 7).toInt ≤ N ∧ (a 2 N).toInt = 0) (h0 : 0 ≤ (a 0 7).toInt) (hv : ¬ (a 2 (a 0 7).toInt.toNat).toInt = 0) : (a 0 7).toInt < N := by
  by_cases e : (a 0 7).toInt = N
  · rw [e, Int.toNat_natCast] at hv
    exact absurd hT.2.2 hv
  · omega
