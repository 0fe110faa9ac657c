-- a chain of husbands in the trial's block: cell 21 holds it
def CN (a : Nat → Nat → Int32) (k : Nat) : Prop := ∀ i, i < k → (a 15 (1260 + 1 + (a 21 i).toInt.toNat)).toInt = (a 21 (i + 1)).toInt
theorem RM.ch {K : Nat} {a : Nat → Nat → Int32} (h : RM K a) (i : Nat) : 0 ≤ (a 21 i).toInt ∧ (a 21 i).toInt ≤ 5 := h 21 i
theorem CN.rank {K : Nat} {a : Nat → Nat → Int32} {g : Nat → Nat} (hR : RM K a) (gm : ∀ w, w < 6 → 0 ≤ (a 15 (1260 + 1 + w)).toInt → g w < g (a 15 (1260 + 1 + w)).toInt.toNat) : ∀ k, CN a k → k ≤ g (a 21 k).toInt.toNat
  | 0, _ => Nat.zero_le _
  | k + 1, h => by
    have ih := CN.rank hR gm k (fun i hi => h i (by omega))
    have h1 := h k (by omega)
    have h2 := hR.ch k
    have h3 := hR.ch (k + 1)
    have h4 := gm (a 21 k).toInt.toNat (by omega) (by omega)
    rw [h1] at h4
    omega
theorem CN.le {K : Nat} {a : Nat → Nat → Int32} {k : Nat} (hR : RM K a) (hA : AC a 1260) (h : CN a k) : k ≤ 5 := by
  obtain ⟨g, g6, gm⟩ := hA
  have h1 := CN.rank hR gm k h
  have h2 := hR.ch k
  have h3 := g6 (a 21 k).toInt.toNat (by omega)
  omega
theorem CN.wed {K : Nat} {a a1 : Nat → Nat → Int32} {k : Nat} (hR : RM K a) (h : CN a k) (hc : a1 21 = a 21) (hn : (a 15 (1260 + 1 + (a 21 k).toInt.toNat)).toInt < 0) (e2 : ∀ x, x < 6 → x ≠ (a 21 k).toInt.toNat → a1 15 (1260 + 1 + x) = a 15 (1260 + 1 + x)) : CN a1 k := by
  intro i hi
  have h1 := h i hi
  have h2 := hR.ch i
  have h3 := hR.ch (i + 1)
  rw [hc, e2 (a 21 i).toInt.toNat (by omega) (fun z => by rw [z] at h1; omega)]
  exact h1
theorem CN.room {K : Nat} {a : Nat → Nat → Int32} {k h : Nat} (hR : RM K a) (hA : AC a 1260) (hc : CN a k) (hh : h < 6) (e1 : (a 15 (1260 + 1 + (a 21 k).toInt.toNat)).toInt = h) : k + 1 ≤ 5 := by
  obtain ⟨g, g6, gm⟩ := hA
  have h1 := CN.rank hR gm k hc
  have h2 := hR.ch k
  have h3 := gm (a 21 k).toInt.toNat (by omega) (by omega)
  rw [e1, Int.toNat_natCast] at h3
  have h4 := g6 h hh
  omega
theorem CN.add {a a1 : Nat → Nat → Int32} {k : Nat} {x : Int32} (hc : CN a k) (e : a1 = mU a 21 (k + 1) x) (e1 : (a 15 (1260 + 1 + (a 21 k).toInt.toNat)).toInt = x.toInt) : CN a1 (k + 1) := by
  intro i hi
  have c15 : a1 15 = a 15 := by rw [e, mU_cell (by decide)]
  have ci : a1 21 i = a 21 i := by rw [e, mU_slot (by omega)]
  rw [c15, ci]
  by_cases z : i = k
  · subst z
    rw [e1, e, mU_same]
  · rw [show a1 21 (i + 1) = a 21 (i + 1) from by rw [e, mU_slot (by omega)]]
    exact hc i (by omega)
theorem CN.same {a a1 : Nat → Nat → Int32} {k : Nat} (hc : CN a k) (h15 : ∀ j, a1 15 j = a 15 j) (h21 : ∀ i, i ≤ k → a1 21 i = a 21 i) : CN a1 k := by
  intro i hi
  rw [h21 i (by omega), h15, h21 (i + 1) (by omega)]
  exact hc i hi
