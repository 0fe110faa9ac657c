-- a line of the land
def LNR (t : Nat → Int32) (z N L : Nat) (s : LDS) (x : Int32) (a : Nat → Nat → Int32) (b : Nat → Nat → Int64) (v : Nat → Option Nat) : Prop := ∃ r : Int × LDS, LNL t z s r ∧ PSt t z N r.2.1 r.1 x a b v ∧ (r.1 = 0 → CLN t z L r.2.2.1 r.2.2.2.1 a b ∧ OB r.2.2.2.2 (a 6 8))
theorem wSw_l : ∀ i, i < 31 → ((wSw.getD i 0).toInt = 1 ↔ i = 0) ∧ ((wSw.getD i 0).toInt = 2 ↔ i = 9) ∧ ((wSw.getD i 0).toInt = 3 ↔ i = 11) ∧ ((wSw.getD i 0).toInt = 4 ↔ i = 12) ∧ ((wSw.getD i 0).toInt = 5 ↔ i = 14) ∧ ((wSw.getD i 0).toInt = 6 ↔ i = 15) := by decide +kernel
theorem onW_w {t : Nat → Int32} {z c u : Nat} (k : ∀ w, w < 31 → (tkW t z c w ↔ w = u)) : onW t z c = if 11 = u then 0 else if 12 = u then 1 else if 14 = u then 2 else if 15 = u then 3 else -1 := by
  unfold onW
  simp only [k 11 (by decide), k 12 (by decide), k 14 (by decide), k 15 (by decide)]
theorem onW_no {t : Nat → Int32} {z c : Nat} (k : ∀ w, w < 31 → ¬ tkW t z c w) : onW t z c = -1 := by
  unfold onW
  rw [if_neg (k 11 (by decide)), if_neg (k 12 (by decide)), if_neg (k 14 (by decide)), if_neg (k 15 (by decide))]
section LNS
variable {t : Nat → Int32} {z N L c c' u : Nat} {V : Nat → Int} {M : Nat → Int64} {o : Nat → Bool} {x : Int32} {a : Nat → Nat → Int32} {b : Nat → Nat → Int64} {v : Nat → Option Nat}
theorem PSt.cc {F F' : Int} (h : PSt t z N c F x a b v) (hF : ¬ F = 0) (e : F' = F) : PSt t z N c' F' x a b v := by
  subst e
  rcases h with h | h
  · exact absurd h.2.1 hF
  · exact Or.inr h
theorem LNR.f1 (h0 : ¬ tkW t z c 0) (h9 : ¬ tkW t z c 9) (h : onW t z c < 0) (hx : x.toInt = 0) (ha : (a 6 10).toInt = flt t z c 1) : LNR t z N L (c, V, M, o) x a b v := ⟨_, ln_1 (s := (c, V, M, o)) h0 h9 h, Or.inr ⟨hx, flt_p (by decide), ha⟩, fun q => absurd q (flt_p (by decide))⟩
theorem LNR.riv (h : tkW t z c 0) (hp : PSt t z N (rvC t z c) (rvE t z M (V 0).toNat c) x a b v ∧ (rvE t z M (V 0).toNat c = 0 → CLN t z L (rvL t z (c, V, M, o)) (upN M (V 0).toNat (lxV fM t z (c + 1))) a b)) (hO : OB o (a 6 8)) : LNR t z N L (c, V, M, o) x a b v := ⟨_, ln_r (s := (c, V, M, o)) h, hp.1, fun q => ⟨hp.2 q, hO⟩⟩
theorem LNR.ran (h0 : ¬ tkW t z c 0) (h : tkW t z c 9) (hp : PSt t z N (c + 4) (rgE t z V c) x a b v ∧ (rgE t z V c = 0 → CLN t z L (rgL t z V c) M a b)) (hO : OB o (a 6 8)) : LNR t z N L (c, V, M, o) x a b v := ⟨_, ln_g (s := (c, V, M, o)) h0 h, hp.1, fun q => ⟨hp.2 q, hO⟩⟩
theorem LNR.kin (h0 : ¬ tkW t z c 0) (h9 : ¬ tkW t z c 9) (hw : onW t z c = 0) (hp : PSt t z N (c + 2) (eE (onF t z c o 0) (tkN t z (c + 1) 0 9)) x a b v ∧ (eE (onF t z c o 0) (tkN t z (c + 1) 0 9) = 0 → CLN t z L (upI V 2 (nvT t z (c + 1))) M a b ∧ OB (upO o 0) (a 6 8))) : LNR t z N L (c, V, M, o) x a b v := by
  by_cases q : o 0 = true
  · have e := onF_x (t := t) (z := z) (c := c) q
    rw [e, eE_x (flt_p (by decide))] at hp
    exact ⟨_, ln_3 (s := (c, V, M, o)) h0 h9 (by show ¬ onW t z c < 0; omega) (by show o (onW t z c).toNat = true; rw [hw]; exact q), hp.1.cc (flt_p (by decide)) rfl, fun q => absurd q (flt_p (by decide))⟩
  · rw [onF_0 q, eE_0 rfl] at hp
    exact ⟨_, ln_k (s := (c, V, M, o)) h0 h9 (by show ¬ o (onW t z c).toNat = true; rw [hw]; exact q) hw, hp.1, hp.2⟩
theorem LNR.sto (h0 : ¬ tkW t z c 0) (h9 : ¬ tkW t z c 9) (hw : onW t z c = 1) (hp : PSt t z N (c + 4) (eE (onF t z c o 1) (eE (tkN t z (c + 1) 0 10) (nb9 t z (c + 2) 13 0 99))) x a b v ∧ (eE (onF t z c o 1) (eE (tkN t z (c + 1) 0 10) (nb9 t z (c + 2) 13 0 99)) = 0 → CLN t z L (upI (upI V 3 (nvT t z (c + 1))) 4 (nvT t z (c + 3))) M a b ∧ OB (upO o 1) (a 6 8))) : LNR t z N L (c, V, M, o) x a b v := by
  by_cases q : o 1 = true
  · have e := onF_x (t := t) (z := z) (c := c) q
    rw [e, eE_x (flt_p (by decide))] at hp
    exact ⟨_, ln_3 (s := (c, V, M, o)) h0 h9 (by show ¬ onW t z c < 0; omega) (by show o (onW t z c).toNat = true; rw [hw]; exact q), hp.1.cc (flt_p (by decide)) rfl, fun q => absurd q (flt_p (by decide))⟩
  · have e : fz [tkN t z (c + 1) 0 10, xW t z (c + 2) 13, tkN t z (c + 3) 0 99] = eE (tkN t z (c + 1) 0 10) (nb9 t z (c + 2) 13 0 99) := by rw [fz3, eE_a]
    rw [onF_0 q, eE_0 rfl, ← e] at hp
    exact ⟨_, ln_s (s := (c, V, M, o)) h0 h9 (by show ¬ o (onW t z c).toNat = true; rw [hw]; exact q) hw, hp.1, hp.2⟩
theorem LNR.ex {w : Nat} {fm : Int} (h0 : ¬ tkW t z c 0) (h9 : ¬ tkW t z c 9) (hw : onW t z c = (w : Nat)) (h2 : w = 2 ∨ w = 3) (hf : fm = if w = 2 then 4 else 2) (hp : (¬ onF t z c o w = 0 ∧ x.toInt = 0 ∧ (a 6 10).toInt = onF t z c o w) ∨ (onF t z c o w = 0 ∧ OB (upO o w) (a 6 8) ∧ CLN t z L V M a b ∧ ∃ r : Int × Nat, EX t z fm 0 0 (c + 1) r ∧ PSt t z N r.2 r.1 x a b v)) : LNR t z N L (c, V, M, o) x a b v := by
  rcases hp with ⟨q1, q2, q3⟩ | ⟨q1, q2, q3, r, q4, q5⟩
  · by_cases q : o w = true
    · rw [onF_x q] at q3
      exact ⟨_, ln_3 (s := (c, V, M, o)) h0 h9 (by show ¬ onW t z c < 0; omega) (by show o (onW t z c).toNat = true; rw [hw]; exact q), Or.inr ⟨q2, flt_p (by decide), q3⟩, fun q => absurd q (flt_p (by decide))⟩
    · exact absurd (onF_0 q) q1
  · exact ⟨_, ln_e (s := (c, V, M, o)) h0 h9 (by show ¬ o (onW t z c).toNat = true; rw [hw]; exact onF_n q1) hw h2 hf q4, q5, fun _ => ⟨q3, q2⟩⟩
end LNS
