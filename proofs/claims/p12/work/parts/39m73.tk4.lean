-- what the reader's last steps rest on
theorem LI.fld {N j : Nat} {a a' : Nat → Nat → Int32} {x : Int32} (h : LI N a) (e : a' = mU a 0 j x) (hj : j = 16 ∨ j = 17) : LI N a' ∧ KL a a' := by
  obtain ⟨h1, h2, h3, h4, h5⟩ := h
  subst e
  have e7 : mU a 0 j x 0 7 = a 0 7 := mU_slot (by omega)
  have e8 : mU a 0 j x 0 8 = a 0 8 := mU_slot (by omega)
  have e13 : mU a 0 j x 0 13 = a 0 13 := mU_slot (by omega)
  refine ⟨⟨h1, by rw [e7]; exact h2, by rw [mU_cell (by decide)]; exact h3, by rw [e13, e7]; exact h4, fun z i hi => ?_⟩, fun i _ => by rw [mU_cell (by decide)], fun i _ => ⟨by rw [mU_cell (by decide)], by rw [mU_cell (by decide)]⟩, fun i _ _ _ q r => mU_slot (by omega), by rw [e7]; exact Int.le_refl _⟩
  rw [e8] at z
  exact (h5 z i hi).keep (by rw [mU_cell (by decide)]) (fun j _ => ⟨by rw [mU_cell (by decide)], by rw [mU_cell (by decide)]⟩) (by rw [e13]; exact Int.le_refl _)
theorem LI.cdi {N : Nat} {a a' : Nat → Nat → Int32} (h : LI N a) (hf : (a 0 8).toInt = 0) (e6 : ∀ j, j < 110 → a' 6 j = a 6 (110 + j)) (e7 : ∀ j : Nat, (j : Int) < (a 0 13).toInt → a' 7 j = a 7 (1100 + j) ∧ a' 8 j = a 8 (1100 + j)) : CDI a' := fun i hi => by
  obtain ⟨h1, h2, h3, h4, h5⟩ := h
  rw [e6 (5 + i) (by omega), show 110 + (5 + i) = 115 + i from by omega]
  refine (h5 hf i hi).elim Or.inl (fun ⟨n, g1, g2, g3⟩ => Or.inr ⟨n, by omega, ?_, ?_⟩)
  · rw [hgr_same (a := a) (p := 1100 + (a 6 (115 + i)).toInt.toNat) (fun j hj => by
      have g := e7 ((a 6 (115 + i)).toInt.toNat + j) (by omega)
      rw [show 1100 + (a 6 (115 + i)).toInt.toNat + j = 1100 + ((a 6 (115 + i)).toInt.toNat + j) from by omega]
      exact g)]
    exact g2
  · rw [(e7 _ g1).1, show 1100 + ((a 6 (115 + i)).toInt.toNat + n) = 1100 + (a 6 (115 + i)).toInt.toNat + n from by omega]
    exact g3
theorem LNI.same {a a' : Nat → Nat → Int32} {K : Nat} (h : LNI a) (hR : RM K a) (e : ∀ j, j < 80 → a' 11 j = a 11 j) : LNI a' := fun k hk => by
  rw [e 0 (by decide)] at hk
  have h1 := RM.lin hR
  unfold LN
  rw [e _ (by omega), e (1 + 1 + 3 * k) (by omega), e (1 + 2 + 3 * k) (by omega)]
  exact h k hk
theorem LNI.copy {a a' : Nat → Nat → Int32} {n : Int} (h : ∀ k : Nat, (k : Int) < n → LN a 80 k) (h0 : (a' 11 0).toInt = n) (e : ∀ j : Nat, (j : Int) < 3 * n → a' 11 (1 + j) = a 11 (80 + j)) : LNI a' := fun k hk => by
  rw [h0] at hk
  have g := h k hk
  unfold LN at g ⊢
  have e1 := e (3 * k) (by omega)
  have e2 := e (1 + 3 * k) (by omega)
  have e3 := e (2 + 3 * k) (by omega)
  rw [show 1 + (1 + 3 * k) = 1 + 1 + 3 * k from by omega, show 80 + (1 + 3 * k) = 80 + 1 + 3 * k from by omega] at e2
  rw [show 1 + (2 + 3 * k) = 1 + 2 + 3 * k from by omega, show 80 + (2 + 3 * k) = 80 + 2 + 3 * k from by omega] at e3
  rw [e1, e2, e3]
  exact g
theorem st_lin {K j : Nat} {x : Int32} (hj : j ≠ 0) (hx : -1 ≤ x.toInt ∧ x.toInt ≤ 5) : loM 11 j ≤ x.toInt ∧ x.toInt ≤ hiM K 11 j := by
  simp only [loM, hiM]
  rw [if_neg hj, if_neg hj]
  exact hx
theorem st_will {K j : Nat} {x : Int32} (h1 : 20 ≤ j % 60 ∧ j % 60 < 26) (hx : 0 ≤ x.toInt ∧ x.toInt ≤ 99) : loM 15 j ≤ x.toInt ∧ x.toInt ≤ hiM K 15 j := by
  simp only [loM, hiM, stLo, stHi]
  rw [if_neg (by omega), if_neg (by omega), if_neg (by omega), if_neg (by omega), if_neg (by omega), if_neg (by omega), if_neg (by omega), if_neg (by omega), if_pos (by omega)]
  exact hx
theorem LN.up {a a' : Nat → Nat → Int32} {n : Nat} {x y z : Int32} (hn : ∀ j, j < 80 + 3 * n → a' 11 j = a 11 j) (e0 : a' 11 (80 + 3 * n) = x) (e1 : a' 11 (81 + 3 * n) = y) (e2 : a' 11 (82 + 3 * n) = z) (h : ∀ k : Nat, k < n → LN a 80 k) (g : (x.toInt = 2 ∨ 0 ≤ y.toInt) ∧ (x.toInt ≠ 0 ∨ 0 ≤ z.toInt)) : ∀ k : Nat, k < n + 1 → LN a' 80 k := fun k hk => by
  unfold LN
  by_cases e : k = n
  · subst e
    rw [e0, show 80 + 1 + 3 * k = 81 + 3 * k from by omega, show 80 + 2 + 3 * k = 82 + 3 * k from by omega, e1, e2]
    exact g
  · rw [hn _ (by omega), hn (80 + 1 + 3 * k) (by omega), hn (80 + 2 + 3 * k) (by omega)]
    exact h k (by omega)
