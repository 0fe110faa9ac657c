-- kept from omega
def Hid (p : Prop) : Prop := p
-- the class's land, line by line
def RVC (q : Nat) (w : Nat → Int) (a : Nat → Nat → Int32) : Prop := (a q 3).toInt = w 0 ∧ (a q 4).toInt = w 1 ∧ (a q 5).toInt = w 2 ∧ (a q 6).toInt = w 3 ∧ (∀ k, k < 4 → (a (q + 1) k).toInt = w (4 + k)) ∧ ((w 8 = -1 ∧ (a q 8).toInt = -1) ∨ ((a q 7).toInt = w 8 ∧ (a q 8).toInt = w 9)) ∧ ((w 10 = -1 ∧ (a q 10).toInt = -1) ∨ ((a q 9).toInt = w 10 ∧ (a q 10).toInt = w 11)) ∧ (a q 11).toInt = w 12
theorem RVC.same {q : Nat} {w w' : Nat → Int} {a a' : Nat → Nat → Int32} (h : RVC q w a) (e : a' q = a q) (e1 : a' (q + 1) = a (q + 1)) (hw : ∀ j, j < 13 → w' j = w j) : RVC q w' a' := by
  unfold RVC at h ⊢
  rw [e, e1, hw 0 (by decide), hw 1 (by decide), hw 2 (by decide), hw 3 (by decide), hw 8 (by decide), hw 9 (by decide), hw 10 (by decide), hw 11 (by decide), hw 12 (by decide)]
  obtain ⟨h1, h2, h3, h4, h5, h6⟩ := h
  exact ⟨h1, h2, h3, h4, fun k hk => by rw [hw (4 + k) (by omega)]; exact h5 k hk, h6⟩
abbrev MCb (L : Nat) (b : Nat → Nat → Int64) : Nat → Int64 := fun i => b (L + 1 + 11 + 2 * i) 1
def CLN (t : Nat → Int32) (z L : Nat) (V : Nat → Int) (M : Nat → Int64) (a : Nat → Nat → Int32) (b : Nat → Nat → Int64) : Prop := ((a L 7).toInt = V 0 ∧ 0 ≤ V 0 ∧ V 0 ≤ 6) ∧ ((a L 8).toInt = V 1 ∧ 0 ≤ V 1 ∧ V 1 ≤ 4) ∧ ((a L 9).toInt = V 2 ∧ (a L 10).toInt = V 3 ∧ (a L 11).toInt = V 4) ∧ (∀ k : Nat, (k : Int) < V 1 → (a (L + 2) k).toInt = V (91 + 2 * k) ∧ (a (L + 3) k).toInt = V (92 + 2 * k)) ∧ NMC t z (V 0).toNat M (MCb L b) ∧ (∀ i : Nat, (i : Int) < V 0 → RVC (L + 1 + 11 + 2 * i) (fun w => V (7 + 14 * i + w)) a)
theorem CLN.same {t : Nat → Int32} {z L : Nat} {V : Nat → Int} {M : Nat → Int64} {a a' : Nat → Nat → Int32} {b b' : Nat → Nat → Int64} (h : CLN t z L V M a b) (hL : L = 22 ∨ L = 46) (ha : ∀ i, i = L ∨ i = L + 2 ∨ i = L + 3 ∨ (L + 12 ≤ i ∧ i < L + 24) → a' i = a i) (hb : ∀ i, i ≠ 1 → b' i = b i) : CLN t z L V M a' b' := by
  obtain ⟨h1, h2, h3, h4, h5, h6⟩ := h
  unfold CLN
  rw [ha L (by omega), ha (L + 2) (by omega), ha (L + 3) (by omega)]
  exact ⟨h1, h2, h3, h4, h5.same (fun k _ => congrFun (hb (L + 1 + 11 + 2 * k) (by omega)) 1), fun i hi => (h6 i hi).same (ha _ (by omega)) (ha _ (by omega)) (fun _ _ => rfl)⟩
theorem rvE_c {t : Nat → Int32} {z n c : Nat} {M : Nat → Int64} (h : ¬ n = 6) : rvE t z M n c = eE (nmE t z M n (c + 1)) (eE (kdE t z (c + 2)) (eE (rcF t z (c + 3)) (eE (wL t z (c + 9) 4) (eE (fz (opE t z 5 1 (nvT t z (c + 6)) (nvT t z (c + 4)) (c + 14))) (eE (fz (opE t z 6 0 (nvT t z (c + 6)) (nvT t z (c + 4)) (opC t z 5 (c + 14)))) (fz (ofE t z M n (opC t z 6 (opC t z 5 (c + 14)))))))))) := by
  unfold rvE
  rw [if_neg h]
  simp only [fz_app2]
  unfold hdE
  simp only [fz_c, fz_n, rcF, wL, nb9, eE_a, eE_r]
def RVQ (t : Nat → Int32) (z : Nat) (M : Nat → Int64) (n c q : Nat) (a : Nat → Nat → Int32) (b : Nat → Nat → Int64) : Prop := RVC q (fun w => rvV t z (upN M n (lxV fM t z (c + 1))) n c w) a ∧ b q 1 = lxV fC t z (c + 1) ∧ isNm t z (c + 1) = true
theorem CLN.river {t : Nat → Int32} {z L c n : Nat} {V : Nat → Int} {M : Nat → Int64} {o : Nat → Bool} {a a1 a2 : Nat → Nat → Int32} {b b1 : Nat → Nat → Int64} {x : Int32} (h : CLN t z L V M a b) (hL : L = 22 ∨ L = 46) (hn : V 0 = (n : Int)) (h5 : n < 6) (ha : ∀ i, i ≠ 1 → i ≠ 6 → i ≠ L + 1 + 11 + 2 * n → i ≠ L + 1 + 11 + 2 * n + 1 → a1 i = a i) (hb : ∀ i, i ≠ 1 → i ≠ L + 1 + 11 + 2 * n → b1 i = b i) (hq : RVQ t z M n c (L + 1 + 11 + 2 * n) a1 b1) (e : a2 = mU a1 L 7 x) (hx : x.toInt = (a1 L 7).toInt + 1) : CLN t z L (rvL t z (c, V, M, o)) (upN M n (lxV fM t z (c + 1))) a2 b1 := by
  obtain ⟨⟨h1, h1a, h1b⟩, h2, h3, h4, h5', h6⟩ := h
  have hN : (V 0).toNat = n := by omega
  have r0 : rvL t z (c, V, M, o) 0 = V 0 + 1 := if_pos rfl
  have rj : ∀ j, j ≠ 0 → (j < 7 + 14 * n ∨ 7 + 14 * n + 13 ≤ j) → rvL t z (c, V, M, o) j = V j := fun j j0 jn => by
    show (if j = 0 then V 0 + 1 else if 7 + 14 * (V 0).toNat ≤ j ∧ j < 7 + 14 * (V 0).toNat + 13 then _ else V j) = _
    rw [hN, if_neg j0, if_neg (by omega)]
  have rn : ∀ w, w < 13 → rvL t z (c, V, M, o) (7 + 14 * n + w) = rvV t z (upN M n (lxV fM t z (c + 1))) n c w := fun w hw => by
    show (if 7 + 14 * n + w = 0 then V 0 + 1 else if 7 + 14 * (V 0).toNat ≤ 7 + 14 * n + w ∧ 7 + 14 * n + w < 7 + 14 * (V 0).toNat + 13 then rvV t z (upN M (V 0).toNat (lxV fM t z (c + 1))) (V 0).toNat c (7 + 14 * n + w - (7 + 14 * (V 0).toNat)) else _) = _
    rw [hN, if_neg (by omega), if_pos (by omega), show 7 + 14 * n + w - (7 + 14 * n) = w from by omega]
  have aL : ∀ j, j ≠ 7 → a2 L j = a L j := fun j hj => by rw [e, mU_slot hj, ha L (by omega) (by omega) (by omega) (by omega)]
  have aC : ∀ i, i ≠ L → i ≠ 1 → i ≠ 6 → i ≠ L + 1 + 11 + 2 * n → i ≠ L + 1 + 11 + 2 * n + 1 → a2 i = a i := fun i h0 h1 h2 h3 h4 => by rw [e, mU_cell h0]; exact ha i h1 h2 h3 h4
  have a7 : (a2 L 7).toInt = V 0 + 1 := by
    rw [e, mU_same, hx, ha L (by omega) (by omega) (by omega) (by omega), h1]
  refine ⟨⟨by rw [r0]; exact a7, by rw [r0]; omega, by rw [r0]; omega⟩, by rw [rj 1 (by decide) (by omega), aL 8 (by decide)]; exact h2, by rw [rj 2 (by decide) (by omega), rj 3 (by decide) (by omega), rj 4 (by decide) (by omega), aL 9 (by decide), aL 10 (by decide), aL 11 (by decide)]; exact h3, ?_, ?_, ?_⟩
  · rw [rj 1 (by decide) (by omega)]
    intro k hk
    rw [rj _ (by omega) (by omega), rj _ (by omega) (by omega), aC (L + 2) (by omega) (by omega) (by omega) (by omega) (by omega), aC (L + 3) (by omega) (by omega) (by omega) (by omega) (by omega)]
    exact h4 k hk
  · rw [r0, show (V 0 + 1).toNat = n + 1 from by omega]
    intro k hk
    rcases (by omega : k < n ∨ k = n) with g | g
    · obtain ⟨ck, y1, y2, y3⟩ := h5' k (by omega)
      refine ⟨ck, y1, ?_, ?_⟩
      · show (if k = n then _ else M k) = _
        rw [if_neg (by omega)]
        exact y2
      · show b1 (L + 1 + 11 + 2 * k) 1 = _
        rw [hb _ (by omega) (by omega)]
        exact y3
    · subst g
      exact ⟨c + 1, (isNm_iff.mp hq.2.2).1, if_pos rfl, hq.2.1⟩
  · rw [r0]
    intro i hi
    rcases (by omega : i < n ∨ i = n) with g | g
    · exact (h6 i (by omega)).same (aC _ (by omega) (by omega) (by omega) (by omega) (by omega)) (aC _ (by omega) (by omega) (by omega) (by omega) (by omega)) (fun j hj => rj _ (by omega) (by omega))
    · subst g
      exact hq.1.same (by rw [e, mU_cell (by omega)]) (by rw [e, mU_cell (by omega)]) (fun j hj => rn j hj)
-- what stands once, by the class's bits
theorem ob_c1 : ∀ k, k < 16 → ∀ i, i < 4 → ((nI k &&& nI (2 ^ i)).toInt = 0 ↔ k.testBit i = false) := by decide +kernel
theorem ob_c2 : ∀ k, k < 16 → ∀ i, i < 4 → (k ||| 2 ^ i < 16 ∧ nI k ||| nI (2 ^ i) = nI (k ||| 2 ^ i) ∧ ∀ j, j < 4 → ((k ||| 2 ^ i).testBit j = (decide (j = i) || k.testBit j))) := by decide +kernel
theorem OB.cg {o : Nat → Bool} {x y p : Int32} {i : Nat} (h : OB o x) (hi : i < 4) (hp : p = nI (2 ^ i)) (hy : y = x &&& p) : y.toInt = 0 ↔ ¬ o i = true := by
  obtain ⟨k, k1, k2, k3⟩ := h
  rw [hy, hp, k2, ob_c1 k k1 i hi, k3 i hi]
  simp
theorem OB.cs {o : Nat → Bool} {x y p : Int32} {i : Nat} (h : OB o x) (hi : i < 4) (hp : p = nI (2 ^ i)) (hy : y = x ||| p) : OB (upO o i) y := by
  obtain ⟨k, k1, k2, k3⟩ := h
  obtain ⟨g1, g2, g3⟩ := ob_c2 k k1 i hi
  refine ⟨k ||| 2 ^ i, g1, by rw [hy, hp, k2, g2], fun j hj => ?_⟩
  rw [g3 j hj]
  unfold upO
  by_cases e : j = i
  · rw [if_pos e]
    simp [e]
  · rw [if_neg e, k3 j hj]
    simp [e]
