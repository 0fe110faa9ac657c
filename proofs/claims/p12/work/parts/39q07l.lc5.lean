-- the class's land: one more range
theorem CLN.range {t : Nat → Int32} {z L c n1 n2 : Nat} {V : Nat → Int} {M : Nat → Int64} {a a1 a2 a3 : Nat → Nat → Int32} {b : Nat → Nat → Int64} {x y w : Int32} (h : CLN t z L V M a b) (hL : L = 22 ∨ L = 46) (h4' : V 1 < 4) (e1 : a1 = mU a (L + 2) n1 x) (e2 : a2 = mU a1 (L + 3) n2 y) (e3 : a3 = mU a2 L 8 w) (hn1 : V 1 = (n1 : Int)) (hn2 : V 1 = (n2 : Int)) (hx : x.toInt = nvT t z (c + 1)) (hy : y.toInt = nvT t z (c + 3)) (hw : w.toInt = V 1 + 1) : CLN t z L (rgL t z V c) M a3 b := by
  obtain ⟨h1, h2, h3, h4, h5, h6⟩ := h
  have en : n2 = n1 := by omega
  subst en
  have hN : (V 1).toNat = n2 := by omega
  have r1 : rgL t z V c 1 = V 1 + 1 := by unfold rgL upI; exact if_pos rfl
  have ru : ∀ j, j ≠ 1 → j ≠ 91 + 2 * n2 → j ≠ 92 + 2 * n2 → rgL t z V c j = V j := fun j q1 q2 q3 => by
    unfold rgL
    rw [hN]
    unfold upI
    rw [if_neg q1, if_neg q3, if_neg q2]
  have ra : rgL t z V c (91 + 2 * n2) = nvT t z (c + 1) := by
    unfold rgL
    rw [hN]
    unfold upI
    rw [if_neg (by omega), if_neg (by omega), if_pos rfl]
  have rb : rgL t z V c (92 + 2 * n2) = nvT t z (c + 3) := by
    unfold rgL
    rw [hN]
    unfold upI
    rw [if_neg (by omega), if_pos rfl]
  have aL : ∀ j, j ≠ 8 → a3 L j = a L j := fun j hj => by rw [e3, mU_slot hj, e2, mU_cell (by omega), e1, mU_cell (by omega)]
  have aC : ∀ i, i ≠ L → i ≠ L + 2 → i ≠ L + 3 → a3 i = a i := fun i q1 q2 q3 => by rw [e3, mU_cell q1, e2, mU_cell q3, e1, mU_cell q2]
  refine ⟨by rw [ru 0 (by decide) (by omega) (by omega), aL 7 (by decide)]; exact h1, by rw [r1, e3, mU_same, hw]; omega, by rw [ru 2 (by decide) (by omega) (by omega), ru 3 (by decide) (by omega) (by omega), ru 4 (by decide) (by omega) (by omega), aL 9 (by decide), aL 10 (by decide), aL 11 (by decide)]; exact h3, ?_, by rw [ru 0 (by decide) (by omega) (by omega)]; exact h5, ?_⟩
  · rw [r1]
    intro k hk
    rcases (by omega : k < n2 ∨ k = n2) with g | g
    · have q := h4 k (by omega)
      rw [ru _ (by omega) (by omega) (by omega), ru _ (by omega) (by omega) (by omega), e3, mU_cell (by omega), mU_cell (by omega), e2, mU_cell (by omega), mU_slot (by omega), e1, mU_slot (by omega), mU_cell (by omega)]
      exact q
    · subst g
      rw [ra, rb, e3, mU_cell (by omega), mU_cell (by omega), e2, mU_cell (by omega), mU_same, e1, mU_same]
      exact ⟨hx, hy⟩
  · rw [ru 0 (by decide) (by omega) (by omega)]
    intro i hi
    exact (h6 i hi).same (aC _ (by omega) (by omega) (by omega)) (aC _ (by omega) (by omega) (by omega)) (fun j hj => ru _ (by omega) (by omega) (by omega))
