-- the class's river, step by step
theorem kdF_w {t : Nat → Int32} {z c u : Nat} (k : ∀ w, w < 31 → (tkW t z c w ↔ w = u)) (hu : u < 31) : kdF t z c = (wKin.getD u 0).toInt := by
  have h : ∀ u, u < 31 → (if 26 = u then (3 : Int) else if 25 = u then 2 else if 24 = u then 1 else if 23 = u then 0 else -1) = (wKin.getD u 0).toInt := by decide +kernel
  rw [← h u hu]
  unfold kdF
  simp only [k 26 (by decide), k 25 (by decide), k 24 (by decide), k 23 (by decide)]
theorem kdF_0 {t : Nat → Int32} {z c : Nat} (k : ∀ w, w < 31 → ¬ tkW t z c w) : kdF t z c = -1 := by
  unfold kdF
  rw [if_neg (k 26 (by decide)), if_neg (k 25 (by decide)), if_neg (k 24 (by decide)), if_neg (k 23 (by decide))]
theorem kdE_0 {t : Nat → Int32} {z c : Nat} (h : 0 ≤ kdF t z c) : kdE t z c = 0 := if_neg (by omega)
theorem kdE_x {t : Nat → Int32} {z c : Nat} (h : kdF t z c < 0) : kdE t z c = flt t z c 1 := if_pos h
def wL (t : Nat → Int32) (z c : Nat) : Nat → Int
  | 0 => xW t z c 4
  | k + 1 => eE (wL t z c k) (tkN t z (c + 1 + k) 0 99)
theorem wL_st {t : Nat → Int32} {z c k : Nat} (h : ¬ wL t z c k = 0) : ∀ m : Nat, k ≤ m → wL t z c m = wL t z c k
  | 0, hm => by
    have e : k = 0 := by omega
    rw [e]
  | m + 1, hm => by
    rcases Nat.lt_or_ge m k with h1 | h1
    · have e : k = m + 1 := by omega
      rw [e]
    · have ih := wL_st h m h1
      show eE (wL t z c m) _ = _
      rw [ih, eE_x h]
abbrev nb9 (t : Nat → Int32) (z c w : Nat) (lo hi : Int) : Int := eE (xW t z c w) (tkN t z (c + 1) lo hi)
def rcF (t : Nat → Int32) (z c : Nat) : Int := eE (nb9 t z c 1 1 99) (eE (nb9 t z (c + 2) 2 0 (nvT t z (c + 1) - 1)) (nb9 t z (c + 4) 3 0 99))
theorem wKin_r : ∀ i, i < 31 → -1 ≤ (wKin.getD i 0).toInt ∧ (wKin.getD i 0).toInt ≤ 3 := by decide +kernel
section CSO
variable {t : Nat → Int32} {z N c : Nat} {a a' : Nat → Nat → Int32} {b b' : Nat → Nat → Int64} {v v' : Nat → Option Nat} {F : Int} {x : Int32}
theorem PSt.yes (h : PSt t z N c F x a b v) (hx : ¬ x.toInt = 0) : F = 0 ∧ CSt t z N c a b v := by
  rcases h with h | h
  · exact h.2
  · exact absurd h.1 hx
theorem PSt.not (h : PSt t z N c F x a b v) (hx : x.toInt = 0) : ¬ F = 0 ∧ (a 6 10).toInt = F := by
  rcases h with h | h
  · omega
  · exact h.2
theorem flt_p {k : Int} (hk : 1 ≤ k) : ¬ flt t z c k = 0 := by
  have := flt_pos (t := t) (z := z) (c := c) (k := k) hk
  omega
theorem PSt.wk (h : PSt t z N c F x a b v) {F' : Int} {x' : Int32} (hx : x.toInt = 0) (hx' : x'.toInt = 0) (e : F' = F) : PSt t z N c F' x' a b v := by
  subst e
  exact Or.inr ⟨hx', h.not hx⟩
theorem PSt.fl {c' : Nat} {F' : Int} (hx : x.toInt = 0) (h : ¬ F = 0 ∧ (a 6 10).toInt = F) (e : F' = F) : PSt t z N c' F' x a b v := by
  subst e
  exact Or.inr ⟨hx, h⟩
end CSO
theorem NMC.same {t : Nat → Int32} {z n : Nat} {M MC MC' : Nat → Int64} (h : NMC t z n M MC) (e : ∀ k, k < n → MC' k = MC k) : NMC t z n M MC' := fun k hk => by
  rw [e k hk]
  exact h k hk
