-- the class's reader at the token c, without a fault
def CSt (t : Nat → Int32) (z N c : Nat) (a : Nat → Nat → Int32) (b : Nat → Nat → Int64) (v : Nat → Option Nat) : Prop := PC t z N c a b v ∧ (a 6 10).toInt = 0 ∧ z ≤ 1000
-- what a step says: x 1: no fault F, the next token is c'; 0: the fault
def PSt (t : Nat → Int32) (z N c : Nat) (F : Int) (x : Int32) (a : Nat → Nat → Int32) (b : Nat → Nat → Int64) (v : Nat → Option Nat) : Prop := (x.toInt = 1 ∧ F = 0 ∧ CSt t z N c a b v) ∨ (x.toInt = 0 ∧ ¬ F = 0 ∧ (a 6 10).toInt = F)
-- the scanner's longs alone change
def BF (b b' : Nat → Nat → Int64) : Prop := ∀ i, i ≠ 1 → b' i = b i
theorem BF.rf {b : Nat → Nat → Int64} : BF b b := fun _ _ => rfl
theorem BF.tr {b b1 b2 : Nat → Nat → Int64} (h : BF b b1) (g : BF b1 b2) : BF b b2 := fun i hi => (g i hi).trans (h i hi)
theorem BF.av {a a' : Nat → Nat → Int32} {b b' : Nat → Nat → Int64} (h : AVX a a' b b') : BF b b' := fun i hi => by rw [h.2.2.2.1, mV_cell hi]
section CSS
variable {t : Nat → Int32} {z N c : Nat} {a a' : Nat → Nat → Int32} {b b' : Nat → Nat → Int64} {v v' : Nat → Option Nat}
theorem CSt.next (h : CSt t z N c a b v) (hk : ¬ lxK t z c = 0) (hF : FR [1] a a') (hA : AVX a a' b b') (hv : VX a b v') : CSt t z N (c + 1) a' b' v' := ⟨h.1.next hk hF hA hv, by rw [hF 6 (by decide)]; exact h.2.1, h.2.2⟩
theorem CSt.fr (h : CSt t z N c a b v) (h1 : a' 1 = a 1) (h3 : a' 3 = a 3) (h4 : a' 4 = a 4) (h6 : a' 6 10 = a 6 10) : CSt t z N c a' b v := ⟨h.1.fr h1 h3 h4, by rw [h6]; exact h.2.1, h.2.2⟩
theorem PC.bb (h : PC t z N c a b v) (h1 : b' 1 = b 1) (h5 : b' 5 = b 5) : PC t z N c a b' v := by
  unfold PC TKC at h ⊢
  rw [h1, h5]
  exact h
theorem CSt.bb (h : CSt t z N c a b v) (h1 : b' 1 = b 1) (h5 : b' 5 = b 5) : CSt t z N c a b' v := ⟨h.1.bb h1 h5, h.2⟩
theorem PC.vv (h : PC t z N c a b v) (h2 : v' 2 = v 2) : PC t z N c a b v' := by
  unfold PC at h ⊢
  rw [h2]
  exact h
theorem CSt.vv (h : CSt t z N c a b v) (h2 : v' 2 = v 2) : CSt t z N c a b v' := ⟨h.1.vv h2, h.2⟩
theorem CSt.pl (h : CSt t z N c a b v) : 0 ≤ (a 1 8).toInt ∧ (a 1 8).toInt ≤ 1000 ∧ (a 1 8).toInt = (lxP t z c : Nat) ∧ (a 1 7).toInt = (ckd (lxK t z c) : Nat) ∧ (a 6 10).toInt = 0 ∧ c ≤ N ∧ N ≤ 1000 ∧ 0 ≤ (a 1 4).toInt ∧ (a 1 4).toInt ≤ 1001 ∧ 0 ≤ (a 1 5).toInt ∧ (a 1 5).toInt ≤ 1001 := by
  have h1 := h.1.le
  have h2 := h.1.2.2.2.2.1
  have h3 := h.1.2.2.2.1
  have h4 := h.1.2.1
  have h5 := h.1.1.1
  have h6 := h.2.2
  have h7 := h.1.1.2.1
  have h8 := h.1.2.2.1
  have h9 : 0 ≤ (a 1 5).toInt ∧ (a 1 5).toInt ≤ 1000 := by
    split at h8 <;> omega
  exact ⟨by omega, by omega, h2, h3, h.2.1, h4, by omega, by omega, by omega, by omega, by omega⟩
theorem PSt.ok {F : Int} {x : Int32} (hx : x.toInt = 1) (hF : F = 0) (h : CSt t z N c a b v) : PSt t z N c F x a b v := Or.inl ⟨hx, hF, h⟩
theorem PSt.no {F : Int} {x : Int32} (hx : x.toInt = 0) (hF : ¬ F = 0) (h : (a 6 10).toInt = F) : PSt t z N c F x a b v := Or.inr ⟨hx, hF, h⟩
theorem PSt.bl {F : Int} {x : Int32} (h : PSt t z N c F x a b v) : x.toInt = 0 ∨ x.toInt = 1 := by
  rcases h with h | h
  · exact Or.inr h.1
  · exact Or.inl h.1
end CSS
-- an E's cursor doesn't go back
theorem xsq_le {r : Int × Nat} {g : Nat → Int × Nat} {c : Nat} (h : c ≤ r.2) (hg : ∀ n, n ≤ (g n).2) : c ≤ (xsq r g).2 := by
  unfold xsq
  split
  · exact Nat.le_trans h (hg _)
  · exact h
theorem exF_le {t : Nat → Int32} {z : Nat} {fm : Int} : ∀ f md d c : Nat, c ≤ (exF t z fm f md d c).2
  | 0, _, _, _ => Nat.le_refl _
  | f + 1, 0, d, c => xsq_le (exF_le f 2 d c) (fun n => exF_le f 1 d n)
  | f + 1, 1, d, c => by
    show c ≤ (if tkW t z c 21 ∨ tkW t z c 22 then xsq (exF t z fm f 2 d (c + 1)) (exF t z fm f 1 d) else (0, c)).2
    split
    · exact xsq_le (Nat.le_trans (Nat.le_succ c) (exF_le f 2 d (c + 1))) (fun n => exF_le f 1 d n)
    · exact Nat.le_refl _
  | f + 1, 2, d, c => xsq_le (exF_le f 3 d c) (fun n => by
    split
    · exact Nat.le_trans (Nat.le_succ n) (exF_le f 3 d (n + 1))
    · exact Nat.le_refl _)
  | f + 1, 3, d, c => xsq_le (exF_le f 5 d c) (fun n => exF_le f 4 d n)
  | f + 1, 4, d, c => by
    show c ≤ (if tkS t z c 43 ∨ tkS t z c 45 then xsq (exF t z fm f 5 d (c + 1)) (exF t z fm f 4 d) else (0, c)).2
    split
    · exact xsq_le (Nat.le_trans (Nat.le_succ c) (exF_le f 5 d (c + 1))) (fun n => exF_le f 4 d n)
    · exact Nat.le_refl _
  | f + 1, 5, d, c => xsq_le (exF_le f 7 d c) (fun n => exF_le f 6 d n)
  | f + 1, 6, d, c => by
    show c ≤ (if tkS t z c 42 then xsq (exF t z fm f 7 d (c + 1)) (exF t z fm f 6 d) else (0, c)).2
    split
    · exact xsq_le (Nat.le_trans (Nat.le_succ c) (exF_le f 7 d (c + 1))) (fun n => exF_le f 6 d n)
    · exact Nat.le_refl _
  | f + 1, m + 7, d, c => by
    show c ≤ (if isPa t z fm c = false then (flt t z c 1, c) else if d = 5 then (flt t z c 5, c) else if tkW t z c 20 then exF t z fm f 7 (d + 1) (c + 1) else if tkS t z c 40 then xsq (exF t z fm f 0 (d + 1) (c + 1)) (fun c => (tkG t z c 41, c + 1)) else (0, c + 1)).2
    have h7 := exF_le (t := t) (z := z) (fm := fm) f 7 (d + 1) (c + 1)
    have h0 := exF_le (t := t) (z := z) (fm := fm) f 0 (d + 1) (c + 1)
    repeat' split
    · exact Nat.le_refl _
    · exact Nat.le_refl _
    · omega
    · exact xsq_le (by omega) (fun n => Nat.le_succ n)
    · exact Nat.le_succ _
theorem EX.le {t : Nat → Int32} {z : Nat} {fm : Int} {md d c : Nat} {r : Int × Nat} (h : EX t z fm md d c r) : c ≤ r.2 := by
  obtain ⟨f, hf⟩ := h
  rw [← hf f (Nat.le_refl _)]
  exact exF_le f md d c
-- names: the class's
def isNmC (t : Nat → Int32) (z c : Nat) (a : Nat → Nat → Int32) (v : Nat → Option Nat) : Prop := (a 1 7).toInt = 2 ∧ ∀ w, w < 27 → ¬ v 2 = some (1000 + w)
theorem CSt.nm {t : Nat → Int32} {z N c : Nat} {a : Nat → Nat → Int32} {b : Nat → Nat → Int64} {v : Nat → Option Nat} (h : CSt t z N c a b v) : isNm t z c = true ↔ isNmC t z c a v := by
  rw [isNm_iff]
  have k := h.pl.2.2.2.1
  have e : lxK t z c = 1 ↔ (a 1 7).toInt = 2 := by
    rw [k]
    unfold ckd
    split <;> simp_all
  unfold isNmC
  rw [e]
  constructor
  · intro ⟨g1, g2⟩
    exact ⟨g1, fun w hw q => g2 w hw ((h.1.wrd (by omega)).mpr q)⟩
  · intro ⟨g1, g2⟩
    exact ⟨g1, fun w hw q => g2 w hw ((h.1.wrd (by omega)).mp q)⟩
theorem wRes0 : ∀ i, i < 31 → ((wRes.getD i 0).toInt = 0 ↔ 27 ≤ i) := by decide +kernel
def nmx (t : Nat → Int32) (z c : Nat) : Int := if isNm t z c = true then 0 else flt t z c 1
theorem nmx_0 {t : Nat → Int32} {z c : Nat} : nmx t z c = 0 ↔ isNm t z c = true := by
  unfold nmx
  split
  · exact ⟨fun _ => by assumption, fun _ => rfl⟩
  · exact ⟨fun h => absurd h (by have := flt_pos (t := t) (z := z) (c := c) (k := 1) (by decide); omega), fun h => absurd h (by assumption)⟩
theorem nmx_x {t : Nat → Int32} {z c : Nat} (h : ¬ isNm t z c = true) : nmx t z c = flt t z c 1 := if_neg h
theorem nmx_1 {t : Nat → Int32} {z c : Nat} (h : isNm t z c = true) : nmx t z c = 0 := if_pos h
theorem nm_k {t : Nat → Int32} {z c : Nat} (h : isNm t z c = true) : ¬ lxK t z c = 0 := by
  have := (isNm_iff.mp h).1
  omega
-- the names told so far, the class's keys and the model's
def NMC (t : Nat → Int32) (z n : Nat) (M MC : Nat → Int64) : Prop := ∀ k, k < n → ∃ ck, lxK t z ck = 1 ∧ M k = lxV fM t z ck ∧ MC k = lxV fC t z ck
theorem NMC.fnd {t : Nat → Int32} {z c : Nat} {M MC : Nat → Int64} (hk : lxK t z c = 1) : ∀ {n : Nat}, NMC t z n M MC → fnd MC (lxV fC t z c) n = fnd M (lxV fM t z c) n
  | 0, _ => rfl
  | n + 1, h => by
    rw [fnd_s, fnd_s, NMC.fnd hk (n := n) (fun k hn => h k (by omega))]
    obtain ⟨ck, h1, h2, h3⟩ := h n (by omega)
    have e : MC n = lxV fC t z c ↔ M n = lxV fM t z c := by
      rw [h2, h3]
      exact (lxV_same h1 hk).symm
    by_cases q : M n = lxV fM t z c
    · rw [if_pos q, if_pos (e.mpr q)]
    · rw [if_neg q, if_neg (fun g => q (e.mp g))]
def tdE (t : Nat → Int32) (z : Nat) (M : Nat → Int64) (n c : Nat) : Int := if isNm t z c = true then (if 0 ≤ fnd M (lxV fM t z c) n then 0 else flt t z c 2) else flt t z c 1
theorem CSt.keyn {t : Nat → Int32} {z N c : Nat} {a : Nat → Nat → Int32} {b : Nat → Nat → Int64} {v : Nat → Option Nat} (h : CSt t z N c a b v) (hn : isNm t z c = true) : b 1 10 = lxV fC t z c := h.1.2.2.2.2.2.1 (by have := (isNm_iff.mp hn).1; omega) (by have := (isNm_iff.mp hn).1; omega)
def dow (fm : Int) (a : Nat → Nat → Int32) : Prop := (fm = 4 ∧ (a 6 7).toInt = 1) ∨ (fm = 2 ∧ (a 6 7).toInt = 0)
theorem dow.same {fm : Int} {a a' : Nat → Nat → Int32} (h : dow fm a) (e : a' 6 7 = a 6 7) : dow fm a' := by
  unfold dow at h ⊢
  rw [e]
  exact h
theorem wSw_v : ∀ i, i < 31 → ((wSw.getD i 0).toInt = 7 ↔ i = 27) ∧ ((wSw.getD i 0).toInt = 8 ↔ i = 28) ∧ ((wSw.getD i 0).toInt = 9 ↔ i = 29) ∧ ((wSw.getD i 0).toInt = 10 ↔ i = 30) := by decide +kernel
theorem CSt.end {t : Nat → Int32} {z N c : Nat} {a : Nat → Nat → Int32} {b : Nat → Nat → Int64} {v : Nat → Option Nat} (h : CSt t z N c a b v) (hc : 1000 ≤ c) : lxK t z c = 0 := by
  have h1 := h.pl
  have e : c = N := by omega
  rw [e]
  exact h.1.1.2.2.2
theorem cmp_0 {x y : Int64} {z : Int32} (hz : z = lg_cmp x y) : z.toInt = 0 ↔ x = y := by
  have h := cmp_ti hz
  constructor
  · intro h0
    exact Int64.toInt_inj.mp (by omega)
  · intro h0
    subst h0
    omega
def CXrow (d m md : Nat) : Prop := ∀ (a : Nat → Nat → Int32) (b : Nat → Nat → Int64) (v : Nat → Option Nat) (z N c : Nat) (t : Nat → Int32) (fm : Int) (dd F : Nat) (e : Int32), f_wdb (v 2) = true → v 4 = some F → (F = 26 ∨ F = 29 ∨ F = 50 ∨ F = 53) → e.toInt = (dd : Nat) → dd ≤ 5 → dow fm a → CSt t z N c a b v → f_pc mtC d m [.inr (.inr (some 6)), .inl e] (cH a b v) (fun v9 h' => ∃ (a' : Nat → Nat → Int32) (b' : Nat → Nat → Int64) (v' : Nat → Option Nat), h' = cH a' b' v' ∧ (FR [1, 6, F, F + 1] a a' ∧ ((∀ i, i ∉ [2] → v' i = v i) ∧ f_wdb (v' 2) = true) ∧ ((∀ j, j ≠ 10 → a' 6 j = a 6 j) ∧ BF b b')) ∧ ∃ x : Int32, v9 = some (.inl x) ∧ (∃ r : Int × Nat, EX t z fm md dd c r ∧ PSt t z N r.2 r.1 x a' b' v'))
theorem CXrow.z {m md : Nat} : CXrow 0 m md := fun _ _ _ _ _ _ _ _ _ _ _ _ _ _ _ _ _ _ z hz => by cases hz
theorem fnd_lo (M : Nat → Int64) (v : Int64) : ∀ n : Nat, -1 ≤ fnd M v n
  | 0 => by show (-1 : Int) ≤ -1; omega
  | n + 1 => by
    rw [fnd_s]
    split
    · omega
    · split <;> omega
theorem PSt.fr {t : Nat → Int32} {z N c : Nat} {F : Int} {x : Int32} {a a' : Nat → Nat → Int32} {b : Nat → Nat → Int64} {v : Nat → Option Nat} (h : PSt t z N c F x a b v) (h1 : a' 1 = a 1) (h3 : a' 3 = a 3) (h4 : a' 4 = a 4) (h6 : a' 6 10 = a 6 10) : PSt t z N c F x a' b v := by
  rcases h with h | h
  · exact Or.inl ⟨h.1, h.2.1, h.2.2.fr h1 h3 h4 h6⟩
  · exact Or.inr ⟨h.1, h.2.1, by rw [h6]; exact h.2.2⟩
theorem isFa_w {t : Nat → Int32} {z c u : Nat} {fm : Int} (k : ∀ w, w < 31 → (tkW t z c w ↔ w = u)) : isFa t z fm c ↔ (u = 27 ∨ u = 28 ∨ (fm = 4 ∧ (u = 29 ∨ u = 30))) := by
  unfold isFa
  rw [k 27 (by omega), k 28 (by omega), k 29 (by omega), k 30 (by omega)]
  constructor <;> (intro h; omega)
theorem CSt.wu {t : Nat → Int32} {z N c u : Nat} {a : Nat → Nat → Int32} {b : Nat → Nat → Int64} {v : Nat → Option Nat} (h : CSt t z N c a b v) (hu : v 2 = some u) (h1 : 1000 ≤ u) (w : Nat) (hw : w < 31) : tkW t z c w ↔ w = u - 1000 := by
  rw [h.1.wrd hw, hu]
  constructor
  · intro q
    injection q with q
    omega
  · intro q
    congr 1
    omega
theorem CSt.w0 {t : Nat → Int32} {z N c : Nat} {a : Nat → Nat → Int32} {b : Nat → Nat → Int64} {v : Nat → Option Nat} (h : CSt t z N c a b v) (hu : v 2 = none) (w : Nat) (hw : w < 31) : ¬ tkW t z c w := by
  rw [h.1.wrd hw, hu]
  exact fun q => by cases q
theorem tkS_nw {t : Nat → Int32} {z c : Nat} {p : Int} {w : Nat} (h : tkS t z c p) : ¬ tkW t z c w := fun q => by
  have h1 := h.1
  have h2 := q.1
  omega
theorem isPa_f {t : Nat → Int32} {z c : Nat} {fm : Int} : isPa t z fm c = true ↔ lxK t z c = 2 ∨ isFa t z fm c ∨ tkS t z c 40 ∨ tkW t z c 20 := by
  unfold isPa isFa
  rw [decide_eq_true_eq]
  constructor
  · intro h
    rcases h with h | h | h | h | h | h
    · exact Or.inl h
    · exact Or.inr (Or.inl (Or.inl h))
    · exact Or.inr (Or.inl (Or.inr (Or.inl h)))
    · exact Or.inr (Or.inl (Or.inr (Or.inr h)))
    · exact Or.inr (Or.inr (Or.inl h))
    · exact Or.inr (Or.inr (Or.inr h))
  · intro h
    rcases h with h | (h | h | h) | h | h
    · exact Or.inl h
    · exact Or.inr (Or.inl h)
    · exact Or.inr (Or.inr (Or.inl h))
    · exact Or.inr (Or.inr (Or.inr (Or.inl h)))
    · exact Or.inr (Or.inr (Or.inr (Or.inr (Or.inl h))))
    · exact Or.inr (Or.inr (Or.inr (Or.inr (Or.inr h))))
theorem wSw_10 : ∀ i, i < 31 → 0 ≤ (wSw.getD i 0).toInt ∧ (wSw.getD i 0).toInt ≤ 10 := by decide +kernel
theorem PSt.bv {t : Nat → Int32} {z N c : Nat} {F : Int} {x : Int32} {a : Nat → Nat → Int32} {b : Nat → Nat → Int64} {v : Nat → Option Nat} (h : PSt t z N c F x a b v) : x = 0 ∨ x = 1 := h.bl.imp (fun q => Int32.toInt_inj.mp q) (fun q => Int32.toInt_inj.mp q)
theorem ckd_k2 {k : Nat} : (ckd k = 3 ↔ k = 2) := by
  unfold ckd
  split <;> simp_all
