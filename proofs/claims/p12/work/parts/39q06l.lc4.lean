-- the class's land: single fields, ranges
theorem CLN.put {t : Nat → Int32} {z L k : Nat} {V : Nat → Int} {M : Nat → Int64} {a a' : Nat → Nat → Int32} {b : Nat → Nat → Int64} {x : Int32} {y : Int} (h : CLN t z L V M a b) (hk : k = 2 ∨ k = 3 ∨ k = 4) (hL : L = 22 ∨ L = 46) (e : a' = mU a L (7 + k) x) (hx : x.toInt = y) : CLN t z L (upI V k y) M a' b := by
  obtain ⟨h1, h2, h3, h4, h5, h6⟩ := h
  have u : ∀ j, j ≠ k → upI V k y j = V j := fun j hj => if_neg hj
  have aC : ∀ i, i ≠ L → a' i = a i := fun i hi => by rw [e, mU_cell hi]
  have aS : ∀ j, j ≠ 7 + k → a' L j = a L j := fun j hj => by rw [e, mU_slot hj]
  refine ⟨by rw [u 0 (by omega), aS 7 (by omega)]; exact h1, by rw [u 1 (by omega), aS 8 (by omega)]; exact h2, ?_, ?_, by rw [u 0 (by omega)]; exact h5, ?_⟩
  · have p : ∀ j, (j = 2 ∨ j = 3 ∨ j = 4) → (a' L (7 + j)).toInt = upI V k y j := fun j hj => by
      by_cases q : j = k
      · subst q
        rw [e, mU_same, hx]
        exact (if_pos rfl).symm
      · rw [u j q, aS (7 + j) (by omega)]
        rcases hj with g | g | g
        · subst g
          exact h3.1
        · subst g
          exact h3.2.1
        · subst g
          exact h3.2.2
    exact ⟨p 2 (by omega), p 3 (by omega), p 4 (by omega)⟩
  · rw [u 1 (by omega), aC (L + 2) (by omega), aC (L + 3) (by omega)]
    intro j hj
    rw [u _ (by omega), u _ (by omega)]
    exact h4 j hj
  · rw [u 0 (by omega)]
    intro i hi
    exact (h6 i hi).same (aC _ (by omega)) (aC _ (by omega)) (fun j _ => u _ (by omega))
def onF (t : Nat → Int32) (z c : Nat) (o : Nat → Bool) (i : Nat) : Int := if o i = true then flt t z c 3 else 0
theorem onF_0 {t : Nat → Int32} {z c i : Nat} {o : Nat → Bool} (h : ¬ o i = true) : onF t z c o i = 0 := if_neg h
theorem onF_x {t : Nat → Int32} {z c i : Nat} {o : Nat → Bool} (h : o i = true) : onF t z c o i = flt t z c 3 := if_pos h
theorem onF_n {t : Nat → Int32} {z c i : Nat} {o : Nat → Bool} (h : onF t z c o i = 0) : ¬ o i = true := fun q => by
  rw [onF_x q] at h
  exact flt_p (by decide) h
