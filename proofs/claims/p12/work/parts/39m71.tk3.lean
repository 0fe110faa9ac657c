-- reading a land: what a statement leaves as it was
def RK (N : Nat) (a a' : Nat → Nat → Int32) : Prop := (a' 0 7).toInt ≤ N ∧ (a' 2 N).toInt = 0 ∧ (a 0 7).toInt ≤ (a' 0 7).toInt ∧ (∀ j, j ≠ 7 → j ≠ 8 → a' 0 j = a 0 j) ∧ ((a' 0 8).toInt = 0 → (a 0 8).toInt = 0) ∧ (∀ j, (j < 110 ∨ j = 115 ∨ j = 116) → a' 6 j = a 6 j)
theorem RK.rf {N : Nat} {a : Nat → Nat → Int32} (h : N ≤ 1000 ∧ (a 0 7).toInt ≤ N ∧ (a 2 N).toInt = 0) : RK N a a := ⟨h.2.1, h.2.2, Int.le_refl _, fun _ _ _ => rfl, id, fun _ _ => rfl⟩
theorem RK.T {N : Nat} {a a' : Nat → Nat → Int32} (h : RK N a a') (hN : N ≤ 1000) : N ≤ 1000 ∧ (a' 0 7).toInt ≤ N ∧ (a' 2 N).toInt = 0 := ⟨hN, h.1, h.2.1⟩
theorem RK.tok {N : Nat} {a a1 a' : Nat → Nat → Int32} (h : RK N a a1) (f : FR [0] a1 a') (x : (∀ j, j ≠ 7 → j ≠ 8 → a' 0 j = a1 0 j) ∧ (a1 0 7).toInt ≤ (a' 0 7).toInt ∧ (a' 0 7).toInt ≤ N) (g : (a' 0 8).toInt = 0 → (a1 0 8).toInt = 0) : RK N a a' := by
  obtain ⟨h1, h2, h3, h4, h5, h6⟩ := h
  exact ⟨x.2.2, by rw [f 2 (by decide)]; exact h2, by omega, fun j p q => (x.1 j p q).trans (h4 j p q), fun z => h5 (g z), fun j p => by rw [f 6 (by decide)]; exact h6 j p⟩
theorem RK.bad {N : Nat} {a a1 a' : Nat → Nat → Int32} (h : RK N a a1) (f : FR [0] a1 a') (x : ∀ j, j ≠ 8 → a' 0 j = a1 0 j) (g : (a' 0 8).toInt = 0 → (a1 0 8).toInt = 0) : RK N a a' := h.tok f ⟨fun j _ q => x j q, by rw [x 7 (by decide)]; exact Int.le_refl _, by rw [x 7 (by decide)]; exact h.1⟩ g
theorem RK.up {N : Nat} {a a1 a' : Nat → Nat → Int32} {x : Int32} (h : RK N a a1) (e : a' = mU a1 0 7 x) (hx : (a 0 7).toInt ≤ x.toInt ∧ x.toInt ≤ N) : RK N a a' := by
  obtain ⟨h1, h2, h3, h4, h5, h6⟩ := h
  subst e
  exact ⟨by rw [mU_same]; exact hx.2, by rw [mU_cell (by decide)]; exact h2, by rw [mU_same]; exact hx.1, fun j p q => by rw [mU_slot p]; exact h4 j p q, fun z => h5 (by rw [mU_slot (by decide)] at z; exact z), fun j p => by rw [mU_cell (by decide)]; exact h6 j p⟩
theorem RK.put {N : Nat} {a a1 a' : Nat → Nat → Int32} {i : Nat} {x : Int32} (h : RK N a a1) (e : a' = mU a1 6 i x) (hi : 117 ≤ i ∨ (110 ≤ i ∧ i < 115)) : RK N a a' := by
  obtain ⟨h1, h2, h3, h4, h5, h6⟩ := h
  subst e
  exact ⟨by rw [mU_cell (by decide)]; exact h1, by rw [mU_cell (by decide)]; exact h2, by rw [mU_cell (by decide)]; exact h3, fun j p q => by rw [mU_cell (by decide)]; exact h4 j p q, fun z => h5 (by rw [mU_cell (by decide)] at z; exact z), fun j p => by rw [mU_slot (by omega)]; exact h6 j p⟩
theorem la_per {K j : Nat} : loM 6 (110 + j) = loM 6 j ∧ hiM K 6 (110 + j) = hiM K 6 j := by
  have h : (110 + j) % 110 = j % 110 := by omega
  simp only [loM, hiM, laLo, laHi, h]
  exact ⟨trivial, trivial⟩
theorem la_at {K j r w : Nat} (hj : j = 117 + 14 * r + w) (hr : r < 6) (hw : w < 14) : loM 6 j = laLo (7 + w) ∧ hiM K 6 j = laHi (7 + w) := by
  have h1 := la_per (K := K) (j := 7 + 14 * r + w)
  have h2 := la_riv hr hw
  rw [show j = 110 + (7 + 14 * r + w) from by omega, h1.1, h1.2]
  exact h2
theorem st_riv {K j r : Nat} (w : Nat) {x : Int32} (hj : j = 117 + 14 * r + w) (hr : r < 6) (hw : w < 14) (hx : laLo (7 + w) ≤ x.toInt ∧ x.toInt ≤ laHi (7 + w)) : loM 6 j ≤ x.toInt ∧ x.toInt ≤ hiM K 6 j := by
  have h := la_at (K := K) hj hr hw
  rw [h.1, h.2]
  exact hx
theorem RM.riv2 {K : Nat} {a : Nat → Nat → Int32} {j r : Nat} (w : Nat) (h : RM K a) (hj : j = 117 + 14 * r + w) (hr : r < 6) (hw : w < 14) : laLo (7 + w) ≤ (a 6 j).toInt ∧ (a 6 j).toInt ≤ laHi (7 + w) := by
  have h1 := h 6 j
  have h2 := la_at (K := K) hj hr hw
  rw [h2.1, h2.2] at h1
  exact h1
theorem la_wat {w : Nat} (hw : 4 ≤ w ∧ w ≤ 7) : laLo (7 + w) = 0 ∧ laHi (7 + w) = 99 := by
  have : w = 4 ∨ w = 5 ∨ w = 6 ∨ w = 7 := by omega
  rcases this with rfl | rfl | rfl | rfl <;> decide
theorem st_wat {K j r w : Nat} {x : Int32} (hj : j = 117 + 14 * r + w) (hr : r < 6) (hw : 4 ≤ w ∧ w ≤ 7) (hx : 0 ≤ x.toInt ∧ x.toInt ≤ 99) : loM 6 j ≤ x.toInt ∧ x.toInt ≤ hiM K 6 j := by
  have h := la_wat hw
  exact st_riv w hj hr (by omega) (by rw [h.1, h.2]; exact hx)
theorem st_rng {K j : Nat} {x : Int32} (hj : 201 ≤ j ∧ j < 220) (hx : 0 ≤ x.toInt ∧ x.toInt ≤ 99) : loM 6 j ≤ x.toInt ∧ x.toInt ≤ hiM K 6 j := by
  have h : j % 110 = j - 110 := by omega
  simp only [loM, hiM, laLo, laHi]
  rw [if_neg (by omega), if_neg (by omega), if_neg (by omega), if_neg (by omega)]
  exact hx
-- the pending laws
def PNDi (a : Nat → Nat → Int32) (i : Nat) : Prop := (a 6 (115 + i)).toInt < 0 ∨ ∃ n, (((a 6 (115 + i)).toInt.toNat + n : Nat) : Int) < (a 0 13).toInt ∧ hgr a (1100 + (a 6 (115 + i)).toInt.toNat) n = some 1 ∧ (a 7 (1100 + (a 6 (115 + i)).toInt.toNat + n)).toInt = 0
theorem PNDi.keep {a a' : Nat → Nat → Int32} {i : Nat} (h : PNDi a i) (e6 : a' 6 (115 + i) = a 6 (115 + i)) (k : ∀ j : Nat, (j : Int) < 1100 + (a 0 13).toInt → a' 7 j = a 7 j ∧ a' 8 j = a 8 j) (hc : (a 0 13).toInt ≤ (a' 0 13).toInt) : PNDi a' i := by
  unfold PNDi
  rw [e6]
  refine h.elim Or.inl (fun ⟨n, h1, h2, h3⟩ => Or.inr ⟨n, by omega, ?_, ?_⟩)
  · rw [hgr_same (a := a) (p := 1100 + (a 6 (115 + i)).toInt.toNat) (fun j hj => k _ (by omega))]
    exact h2
  · rw [(k _ (by omega)).1]
    exact h3
def LI (N : Nat) (a : Nat → Nat → Int32) : Prop := N ≤ 1000 ∧ (a 0 7).toInt ≤ N ∧ (a 2 N).toInt = 0 ∧ (a 0 13).toInt ≤ (a 0 7).toInt ∧ ((a 0 8).toInt = 0 → ∀ i, i < 2 → PNDi a i)
def KL (a a' : Nat → Nat → Int32) : Prop := (∀ j, j < 110 → a' 6 j = a 6 j) ∧ (∀ j, j < 1100 → a' 7 j = a 7 j ∧ a' 8 j = a 8 j) ∧ (∀ j, j ≠ 7 → j ≠ 8 → j ≠ 13 → j ≠ 16 → j ≠ 17 → a' 0 j = a 0 j) ∧ (a 0 7).toInt ≤ (a' 0 7).toInt
theorem KL.rf {a : Nat → Nat → Int32} : KL a a := ⟨fun _ _ => rfl, fun _ _ => ⟨rfl, rfl⟩, fun _ _ _ _ _ _ => rfl, Int.le_refl _⟩
theorem KL.tr {a a1 a2 : Nat → Nat → Int32} (h : KL a a1) (g : KL a1 a2) : KL a a2 := ⟨fun j p => (g.1 j p).trans (h.1 j p), fun j p => ⟨(g.2.1 j p).1.trans (h.2.1 j p).1, (g.2.1 j p).2.trans (h.2.1 j p).2⟩, fun j p q r s t => (g.2.2.1 j p q r s t).trans (h.2.2.1 j p q r s t), by have := h.2.2.2; have := g.2.2.2; omega⟩
theorem LI.T {a : Nat → Nat → Int32} {N : Nat} (p : LI N a) : N ≤ 1000 ∧ (a 0 7).toInt ≤ N ∧ (a 2 N).toInt = 0 := ⟨p.1, p.2.1, p.2.2.1⟩
theorem LI.rk {N : Nat} {a a' : Nat → Nat → Int32} (h : LI N a) (r : RK N a a') (e7 : a' 7 = a 7) (e8 : a' 8 = a 8) : LI N a' ∧ KL a a' := by
  obtain ⟨h1, h2, h3, h4, h5⟩ := h
  obtain ⟨r1, r2, r3, r4, r5, r6⟩ := r
  have e13 := r4 13 (by decide) (by decide)
  exact ⟨⟨h1, r1, r2, by rw [e13]; omega, fun z i hi => (h5 (r5 z) i hi).keep (r6 _ (by omega)) (fun j _ => ⟨by rw [e7], by rw [e8]⟩) (by rw [e13]; omega)⟩,
    fun j hj => r6 j (Or.inl hj), fun j _ => ⟨by rw [e7], by rw [e8]⟩, fun j p q _ _ _ => r4 j p q, r3⟩
theorem PS.init {N : Nat} {a : Nat → Nat → Int32} (h1 : N ≤ 1000) (h2 : (a 0 7).toInt ≤ N) (h3 : (a 2 N).toInt = 0) (h4 : (a 0 13).toInt ≤ (a 0 7).toInt) (h5 : 0 ≤ (a 0 13).toInt) : PS a N (a 0 13).toInt.toNat 0 := ⟨h1, h2, h3, h4, by omega, fun _ => by rw [Nat.sub_self]; rfl⟩
theorem LI.law {N k s : Nat} {a a1 a2 a3 : Nat → Nat → Int32} (h : LI N a) (hf : (a 0 8).toInt = 0) (hk : k < 2) (hs : (s : Int) = (a 0 13).toInt) (f1 : ∀ c, c ≠ 0 → c ≠ 6 → a1 c = a c) (e0 : ∀ j, j ≠ 7 → j ≠ 16 → j ≠ 17 → a1 0 j = a 0 j) (e7 : (a1 0 7).toInt = (a 0 7).toInt + 1) (e6 : ∀ j, j ≠ 115 + k → a1 6 j = a 6 j) (ek : (a1 6 (115 + k)).toInt = (a 0 13).toInt)
    (p : PS a2 N s 1 ∧ KP s 0 a1 a2) (f2 : FR [0, 7, 8] a1 a2) (f3 : FR [0, 7, 8] a2 a3) (m : EM a2 a3 0 0) : LI N a3 ∧ KL a a3 := by
  obtain ⟨h1, h2, h3, h4, h5⟩ := h
  obtain ⟨⟨p1, p2, p3, p4, p5, p6⟩, k1, k2, k3, k4⟩ := p
  obtain ⟨m1, m2, m3, m4, m5⟩ := m
  have g13 := e0 13 (by decide) (by decide) (by decide)
  have g8 := e0 8 (by decide) (by decide) (by decide)
  have g13i := congrArg Int32.toInt g13
  have q7 := m1 7 (by decide)
  have q8 := m1 8 (by decide)
  have q7i := congrArg Int32.toInt q7
  have w6 : ∀ j, a3 6 j = a1 6 j := fun j => by rw [f3 6 (by decide), f2 6 (by decide)]
  have low : ∀ j : Nat, (j : Int) < 1100 + (a 0 13).toInt → a3 7 j = a 7 j ∧ a3 8 j = a 8 j := fun j hj => by
    have b1 := m3 j (by omega)
    have b2 := k2 j (by omega)
    rw [f1 7 (by decide) (by decide), f1 8 (by decide) (by decide)] at b2
    exact ⟨b1.1.trans b2.1, b1.2.trans b2.2⟩
  refine ⟨⟨h1, by rw [q7]; exact p2, by rw [f3 2 (by decide)]; exact p3, by omega, fun z i hi => ?_⟩, fun j hj => by rw [w6, e6 j (by omega)], fun j hj => low j (by omega), fun j a7 a8 a13 a16 a17 => by rw [m1 j a13, k1 j a7 a8 a13, e0 j a7 a16 a17], by omega⟩
  rw [q8] at z
  by_cases hik : i = k
  · subst hik
    have t6 : (a3 6 (115 + i)).toInt.toNat = s := by rw [w6, ek]; omega
    refine Or.inr ⟨(a2 0 13).toInt.toNat - s, ?_, ?_, ?_⟩
    · rw [t6]; omega
    · rw [t6, hgr_same (a := a2) (p := 1100 + s) (fun j hj => m3 _ (by omega))]
      exact p6 z
    · rw [t6, show 1100 + s + ((a2 0 13).toInt.toNat - s) = 1100 + (a2 0 13).toInt.toNat from by omega, m4]
      rfl
  · exact (h5 hf i hi).keep (by rw [w6, e6 _ (by omega)]) low (by omega)
