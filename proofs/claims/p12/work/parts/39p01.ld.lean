-- the tokens hang on the signs of the tape alone
theorem lxT_same {t t' : Nat → Int32} {z s : Nat} (hs : s < z) (h : ∀ j, j < z → t j = t' j) : lxT t z s = lxT t' z s := by
  unfold lxT
  rw [h s hs, lxe_same hs h]
theorem lxU_same {f : Int64 → Int32 → Int64} {t t' : Nat → Int32} {z s : Nat} (hs : s < z) (h : ∀ j, j < z → t j = t' j) : lxU f t z s = lxU f t' z s := by
  have hg := lxe_gt (t := t) hs
  have e := lxe_same hs h
  have e1 : ∀ g : Int64 → Int32 → Int64, lxv g t (lxe t z s - s) s 0 = lxv g t' (lxe t' z s - s) s 0 := fun g => by
    rw [← e]
    exact lxv_same _ _ _ (fun j hj => h j (by omega))
  unfold lxU
  rw [h s hs, e1 f, e1 fD]
theorem tok_same {t t' : Nat → Int32} {z i : Nat} (h : ∀ j, j < z → t j = t' j) (hi : ∀ j, j < i → lxP t z j < z) : lxK t z i = lxK t' z i ∧ lxP t z i = lxP t' z i ∧ (1 ≤ lxK t z i → lxV fM t z i = lxV fM t' z i) := by
  have e := lxP_same h i hi
  refine ⟨?_, e, fun hk => ?_⟩
  · unfold lxK
    rw [← e]
    by_cases hp : lxP t z i < z
    · rw [if_pos hp, if_pos hp]
      exact lxT_same hp h
    · rw [if_neg hp, if_neg hp]
  · have hp := lxK_lt hk
    unfold lxV
    rw [← e]
    exact lxU_same hp h
theorem tkW_same {t t' : Nat → Int32} {z i : Nat} (h : ∀ j, j < z → t j = t' j) (hi : ∀ j, j < i → lxP t z j < z) (w : Nat) : tkW t z i w ↔ tkW t' z i w := by
  obtain ⟨e1, -, e3⟩ := tok_same h hi
  constructor
  · intro ⟨p, q⟩
    exact ⟨by rw [← e1]; exact p, by rw [← e3 (by omega)]; exact q⟩
  · intro ⟨p, q⟩
    have p1 : lxK t z i = 1 := by rw [e1]; exact p
    exact ⟨p1, by rw [e3 (by omega)]; exact q⟩
theorem tkG_same {t t' : Nat → Int32} {z i : Nat} (h : ∀ j, j < z → t j = t' j) (hi : ∀ j, j < i → lxP t z j < z) (c : Int) : tkG t z i c = tkG t' z i c := by
  obtain ⟨e1, e2, e3⟩ := tok_same h hi
  have e : tkS t z i c ↔ tkS t' z i c := by
    constructor
    · intro ⟨p, q⟩
      exact ⟨by rw [← e1]; exact p, by rw [← e3 (by omega)]; exact q⟩
    · intro ⟨p, q⟩
      have p1 : lxK t z i = 3 := by rw [e1]; exact p
      exact ⟨p1, by rw [e3 (by omega)]; exact q⟩
  unfold tkG
  rw [e2]
  by_cases hk : tkS t z i c
  · rw [if_pos hk, if_pos (e.mp hk)]
  · rw [if_neg hk, if_neg (fun h9 => hk (e.mpr h9))]
theorem tkN_same {t t' : Nat → Int32} {z i : Nat} (h : ∀ j, j < z → t j = t' j) (hi : ∀ j, j < i → lxP t z j < z) (lo hi9 : Int) : tkN t z i lo hi9 = tkN t' z i lo hi9 := by
  obtain ⟨e1, e2, e3⟩ := tok_same h hi
  unfold tkN
  rw [e2]
  by_cases hk : lxK t z i = 2
  · have hk' : lxK t' z i = 2 := by rw [← e1]; exact hk
    rw [if_pos hk, if_pos hk', e3 (by omega)]
  · have hk' : ¬ lxK t' z i = 2 := by rw [← e1]; exact hk
    rw [if_neg hk, if_neg hk']
theorem tk_more {t : Nat → Int32} {z i : Nat} (hi : ∀ j, j < i → lxP t z j < z) (hk : ¬ lxK t z i = 0) : ∀ j, j < i + 1 → lxP t z j < z := fun j hj => by
  rcases Nat.lt_or_ge j i with h1 | h1
  · exact hi j h1
  · have e : j = i := by omega
    subst e
    exact lxK_lt (by omega)
theorem hlF_same {t t' : Nat → Int32} {z c : Nat} (h : ∀ j, j < z → t j = t' j) (hi : ∀ j, j < c → lxP t z j < z) (n : Nat) : hlF t z c n = hlF t' z c n := by
  obtain ⟨e1, e2, -⟩ := tok_same h hi
  have e := tkW_same h hi 19
  unfold hlF
  rw [e2]
  by_cases hk : tkW t z c 19
  · have k0 : ¬ lxK t z c = 0 := by
      have := hk.1
      omega
    rw [if_pos hk, if_pos (e.mp hk), tkN_same h (tk_more hi k0)]
  · rw [if_neg hk, if_neg (fun h9 => hk (e.mpr h9))]
theorem hlF_0 {t : Nat → Int32} {z c n : Nat} (h : hlF t z c n = 0) : ¬ lxK t z c = 0 ∧ tkN t z (c + 1) 0 99 = 0 := by
  unfold hlF at h
  split at h
  · rename_i hk
    have k1 := hk.1
    split at h
    · omega
    · exact ⟨by omega, h⟩
  · omega
theorem wlF_same {t t' : Nat → Int32} {z : Nat} (h : ∀ j, j < z → t j = t' j) : ∀ f c n : Nat, (∀ j, j < c → lxP t z j < z) → wlF t z f c n = wlF t' z f c n
  | 0, _, _, _ => rfl
  | f + 1, c, n, hi => by
    obtain ⟨e1, -, -⟩ := tok_same h hi
    by_cases hk : lxK t z c = 0
    · rw [wlF_end hk, wlF_end (by rw [← e1]; exact hk)]
    · have hk' : ¬ lxK t' z c = 0 := by rw [← e1]; exact hk
      have eh := hlF_same h hi n
      by_cases h0 : hlF t z c n = 0
      · have h0' : hlF t' z c n = 0 := by rw [← eh]; exact h0
        have i2 := tk_more (tk_more hi hk) (tkN_k (hlF_0 h0).2)
        have eg := tkG_same h i2 59
        by_cases hg : tkG t z (c + 2) 59 = 0
        · have hg' : tkG t' z (c + 2) 59 = 0 := by rw [← eg]; exact hg
          rw [wlF_go hk h0 hg, wlF_go hk' h0' hg']
          exact wlF_same h f (c + 3) (n + 1) (tk_more i2 (tkG_k hg))
        · have hg' : ¬ tkG t' z (c + 2) 59 = 0 := by rw [← eg]; exact hg
          rw [wlF_sg hk h0 hg, wlF_sg hk' h0' hg', eg]
      · have h0' : ¬ hlF t' z c n = 0 := by rw [← eh]; exact h0
        rw [wlF_bad hk h0, wlF_bad hk' h0', eh]
-- the reading of a LAND over tokens
def nvT (t : Nat → Int32) (z c : Nat) : Int := (lxV fM t z c).toInt
def flt (t : Nat → Int32) (z c : Nat) (k : Int) : Int := k + 16 * (lxP t z c : Int)
def xW (t : Nat → Int32) (z c w : Nat) : Int := if tkW t z c w then 0 else flt t z c 1
def fz : List Int → Int
  | [] => 0
  | x :: l => if x = 0 then fz l else x
theorem fz_0 {x : Int} {l : List Int} (h : x = 0) : fz (x :: l) = fz l := if_pos h
theorem fz_x {x : Int} {l : List Int} (h : ¬ x = 0) : fz (x :: l) = x := if_neg h
theorem fz_app {l : List Int} {m : List Int} : fz (l ++ m) = if fz l = 0 then fz m else fz l := by
  induction l with
  | nil => exact (if_pos rfl).symm
  | cons x l ih =>
    by_cases h : x = 0
    · rw [List.cons_append, fz_0 h, fz_0 h]
      exact ih
    · rw [List.cons_append, fz_x h, fz_x h, if_neg h]
def isNm (t : Nat → Int32) (z c : Nat) : Bool := decide (lxK t z c = 1) && (List.range 27).all (fun w => !decide (tkW t z c w))
theorem isNm_iff {t : Nat → Int32} {z c : Nat} : isNm t z c = true ↔ lxK t z c = 1 ∧ ∀ w, w < 27 → ¬ tkW t z c w := by
  unfold isNm
  simp only [Bool.and_eq_true, decide_eq_true_eq, List.all_eq_true, List.mem_range, Bool.not_eq_true', decide_eq_false_iff_not]
-- a KIND: 0 to 3, -1: none
def kdF (t : Nat → Int32) (z c : Nat) : Int := if tkW t z c 26 then 3 else if tkW t z c 25 then 2 else if tkW t z c 24 then 1 else if tkW t z c 23 then 0 else -1
def fnd (M : Nat → Int64) (v : Int64) : Nat → Int
  | 0 => -1
  | n + 1 => if 0 ≤ fnd M v n then fnd M v n else if M n = v then n else -1
theorem fnd_s {M : Nat → Int64} {v : Int64} {n : Nat} : fnd M v (n + 1) = if 0 ≤ fnd M v n then fnd M v n else if M n = v then n else -1 := rfl
theorem fnd_no {M : Nat → Int64} {v : Int64} : ∀ n : Nat, (∀ k, k < n → M k ≠ v) → fnd M v n = -1
  | 0, _ => rfl
  | n + 1, h => by
    rw [fnd_s, fnd_no n (fun k hk => h k (by omega)), if_neg (by decide), if_neg (h n (by omega))]
theorem fnd_at {M : Nat → Int64} {v : Int64} {k : Nat} (hk : M k = v) : ∀ n : Nat, k < n → (∀ j, j < k → M j ≠ v) → fnd M v n = k
  | 0, h, _ => absurd h (by omega)
  | n + 1, h, h0 => by
    rw [fnd_s]
    rcases Nat.lt_or_ge k n with h1 | h1
    · rw [fnd_at hk n h1 h0, if_pos (by omega)]
    · have e : k = n := by omega
      subst e
      rw [fnd_no k h0, if_neg (by decide), if_pos hk]
def upI (L : Nat → Int) (i : Nat) (x : Int) : Nat → Int := fun j => if j = i then x else L j
def upN (M : Nat → Int64) (i : Nat) (x : Int64) : Nat → Int64 := fun j => if j = i then x else M j
def nmE (t : Nat → Int32) (z : Nat) (M : Nat → Int64) (n c : Nat) : Int := if isNm t z c = true then (if 0 ≤ fnd M (lxV fM t z c) n then flt t z c 3 else 0) else flt t z c 1
def kdE (t : Nat → Int32) (z c : Nat) : Int := if kdF t z c < 0 then flt t z c 1 else 0
-- a river's line: c its first word, n rivers so far
def hdE (t : Nat → Int32) (z : Nat) (M : Nat → Int64) (n c : Nat) : List Int := [nmE t z M n (c + 1), kdE t z (c + 2), xW t z (c + 3) 1, tkN t z (c + 4) 1 99, xW t z (c + 5) 2, tkN t z (c + 6) 0 (nvT t z (c + 4) - 1), xW t z (c + 7) 3, tkN t z (c + 8) 0 99, xW t z (c + 9) 4, tkN t z (c + 10) 0 99, tkN t z (c + 11) 0 99, tkN t z (c + 12) 0 99, tkN t z (c + 13) 0 99]
def opE (t : Nat → Int32) (z w : Nat) (lo0 : Int) (lo hi : Int) (d : Nat) : List Int := if tkW t z d w then [tkN t z (d + 1) lo0 999, xW t z (d + 2) 7, tkN t z (d + 3) lo hi] else []
def opC (t : Nat → Int32) (z w d : Nat) : Nat := if tkW t z d w then d + 4 else d
def ofE (t : Nat → Int32) (z : Nat) (M : Nat → Int64) (n d : Nat) : List Int := if tkW t z d 8 then [if isNm t z (d + 1) = true then (if 0 ≤ fnd M (lxV fM t z (d + 1)) n then 0 else flt t z (d + 1) 2) else flt t z (d + 1) 1] else []
def ofC (t : Nat → Int32) (z d : Nat) : Nat := if tkW t z d 8 then d + 2 else d
def rvE (t : Nat → Int32) (z : Nat) (M : Nat → Int64) (n c : Nat) : Int := if n = 6 then flt t z c 5 else fz (hdE t z M n c ++ opE t z 5 1 (nvT t z (c + 6)) (nvT t z (c + 4)) (c + 14) ++ opE t z 6 0 (nvT t z (c + 6)) (nvT t z (c + 4)) (opC t z 5 (c + 14)) ++ ofE t z M n (opC t z 6 (opC t z 5 (c + 14))))
def rvC (t : Nat → Int32) (z c : Nat) : Nat := ofC t z (opC t z 6 (opC t z 5 (c + 14)))
def rvV (t : Nat → Int32) (z : Nat) (M : Nat → Int64) (n c w : Nat) : Int := match w with
  | 0 => kdF t z (c + 2)
  | 1 => nvT t z (c + 4)
  | 2 => nvT t z (c + 6)
  | 3 => nvT t z (c + 8)
  | 4 => nvT t z (c + 10)
  | 5 => nvT t z (c + 11)
  | 6 => nvT t z (c + 12)
  | 7 => nvT t z (c + 13)
  | 8 => if tkW t z (c + 14) 5 then nvT t z (c + 15) else -1
  | 9 => if tkW t z (c + 14) 5 then nvT t z (c + 17) else 0
  | 10 => if tkW t z (opC t z 5 (c + 14)) 6 then nvT t z (opC t z 5 (c + 14) + 1) else -1
  | 11 => if tkW t z (opC t z 5 (c + 14)) 6 then nvT t z (opC t z 5 (c + 14) + 3) else 0
  | _ => if tkW t z (opC t z 6 (opC t z 5 (c + 14))) 8 then fnd M (lxV fM t z (opC t z 6 (opC t z 5 (c + 14)) + 1)) n else -1
-- a range's line
def rgH (L : Nat → Int) (v : Int) : Nat → Bool
  | 0 => false
  | n + 1 => rgH L v n || decide (L (91 + 2 * n) = v)
def rgE (t : Nat → Int32) (z : Nat) (L : Nat → Int) (c : Nat) : Int := if L 1 = 4 then flt t z c 5 else fz [tkN t z (c + 1) 0 99, if rgH L (nvT t z (c + 1)) (L 1).toNat = true then flt t z (c + 1) 3 else 0, xW t z (c + 2) 10, tkN t z (c + 3) 1 99]
def rgL (t : Nat → Int32) (z : Nat) (L : Nat → Int) (c : Nat) : Nat → Int := upI (upI (upI L (91 + 2 * (L 1).toNat) (nvT t z (c + 1))) (92 + 2 * (L 1).toNat) (nvT t z (c + 3))) 1 (L 1 + 1)
-- an E
def xsq (r : Int × Nat) (g : Nat → Int × Nat) : Int × Nat := if r.1 = 0 then g r.2 else r
def isFa (t : Nat → Int32) (z : Nat) (fm : Int) (c : Nat) : Prop := tkW t z c 27 ∨ tkW t z c 28 ∨ (fm = 4 ∧ (tkW t z c 29 ∨ tkW t z c 30))
def isPa (t : Nat → Int32) (z : Nat) (fm : Int) (c : Nat) : Bool := decide (lxK t z c = 2 ∨ tkW t z c 27 ∨ tkW t z c 28 ∨ (fm = 4 ∧ (tkW t z c 29 ∨ tkW t z c 30)) ∨ tkS t z c 40 ∨ tkW t z c 20)
def exF (t : Nat → Int32) (z : Nat) (fm : Int) : Nat → Nat → Nat → Nat → Int × Nat
  | 0, _, _, c => (0, c)
  | f + 1, 0, d, c => xsq (exF t z fm f 2 d c) (exF t z fm f 1 d)
  | f + 1, 1, d, c => if tkW t z c 21 ∨ tkW t z c 22 then xsq (exF t z fm f 2 d (c + 1)) (exF t z fm f 1 d) else (0, c)
  | f + 1, 2, d, c => xsq (exF t z fm f 3 d c) (fun c => if tkS t z c 60 ∨ tkS t z c 61 then exF t z fm f 3 d (c + 1) else (0, c))
  | f + 1, 3, d, c => xsq (exF t z fm f 5 d c) (exF t z fm f 4 d)
  | f + 1, 4, d, c => if tkS t z c 43 ∨ tkS t z c 45 then xsq (exF t z fm f 5 d (c + 1)) (exF t z fm f 4 d) else (0, c)
  | f + 1, 5, d, c => xsq (exF t z fm f 7 d c) (exF t z fm f 6 d)
  | f + 1, 6, d, c => if tkS t z c 42 then xsq (exF t z fm f 7 d (c + 1)) (exF t z fm f 6 d) else (0, c)
  | f + 1, _, d, c => if isPa t z fm c = false then (flt t z c 1, c) else if d = 5 then (flt t z c 5, c) else if tkW t z c 20 then exF t z fm f 7 (d + 1) (c + 1) else if tkS t z c 40 then xsq (exF t z fm f 0 (d + 1) (c + 1)) (fun c => (tkG t z c 41, c + 1)) else (0, c + 1)
-- it comes to r, whatever the turns, if they are enough
def EX (t : Nat → Int32) (z : Nat) (fm : Int) (md d c : Nat) (r : Int × Nat) : Prop := ∃ f0, ∀ f, f0 ≤ f → exF t z fm f md d c = r
section EXS
variable {t : Nat → Int32} {z : Nat} {fm : Int} {d c c1 : Nat} {r r' : Int × Nat} {md : Nat}
theorem EX.one (h : EX t z fm md d c r) (h' : EX t z fm md d c r') : r = r' := by
  obtain ⟨f, hf⟩ := h
  obtain ⟨g, hg⟩ := h'
  rw [← hf (max f g) (by omega), hg (max f g) (by omega)]
theorem EX.mk1 (w : ∀ f, exF t z fm (f + 1) md d c = r) : EX t z fm md d c r := ⟨1, fun f hf => by
  obtain ⟨g, rfl⟩ : ∃ g, f = g + 1 := ⟨f - 1, by omega⟩
  exact w g⟩
theorem EX.mk2 {m1 d1 : Nat} (h : EX t z fm m1 d1 c1 r') (w : ∀ f, exF t z fm f m1 d1 c1 = r' → exF t z fm (f + 1) md d c = r) : EX t z fm md d c r := by
  obtain ⟨f0, h0⟩ := h
  refine ⟨f0 + 1, fun f hf => ?_⟩
  obtain ⟨g, rfl⟩ : ∃ g, f = g + 1 := ⟨f - 1, by omega⟩
  exact w g (h0 g (by omega))
theorem EX.mk3 {m1 d1 m2 d2 c2 : Nat} {r2 : Int × Nat} (h : EX t z fm m1 d1 c1 r') (h2 : EX t z fm m2 d2 c2 r2) (w : ∀ f, exF t z fm f m1 d1 c1 = r' → exF t z fm f m2 d2 c2 = r2 → exF t z fm (f + 1) md d c = r) : EX t z fm md d c r := by
  obtain ⟨f0, h0⟩ := h
  obtain ⟨g0, k0⟩ := h2
  refine ⟨max f0 g0 + 1, fun f hf => ?_⟩
  obtain ⟨g, rfl⟩ : ∃ g, f = g + 1 := ⟨f - 1, by omega⟩
  exact w g (h0 g (by omega)) (k0 g (by omega))
theorem xsq_0 {g : Nat → Int × Nat} {n : Nat} {x : Int} (h : x = 0) : xsq (x, n) g = g n := if_pos h
theorem xsq_x {g : Nat → Int × Nat} {n : Nat} {x : Int} (h : ¬ x = 0) : xsq (x, n) g = (x, n) := if_neg h
-- a list: its first, then its tail; both kinds of joints
theorem EX.seq {m1 m2 : Nat} (hm : ∀ f, exF t z fm (f + 1) md d c = xsq (exF t z fm f m1 d c1) (exF t z fm f m2 d)) {n : Nat} (h : EX t z fm m1 d c1 (0, n)) (h2 : EX t z fm m2 d n r) : EX t z fm md d c r := h.mk3 h2 (fun f e1 e2 => by rw [hm, e1, xsq_0 rfl, e2])
theorem EX.sqx {m1 m2 : Nat} (hm : ∀ f, exF t z fm (f + 1) md d c = xsq (exF t z fm f m1 d c1) (exF t z fm f m2 d)) {n : Nat} {x : Int} (h : EX t z fm m1 d c1 (x, n)) (hx : ¬ x = 0) : EX t z fm md d c (x, n) := h.mk2 (fun f e1 => by rw [hm, e1, xsq_x hx])
theorem ex_all (f : Nat) : exF t z fm (f + 1) 0 d c = xsq (exF t z fm f 2 d c) (exF t z fm f 1 d) := rfl
theorem ex_allT (h : tkW t z c 21 ∨ tkW t z c 22) (f : Nat) : exF t z fm (f + 1) 1 d c = xsq (exF t z fm f 2 d (c + 1)) (exF t z fm f 1 d) := if_pos h
theorem ex_allE (h : ¬ (tkW t z c 21 ∨ tkW t z c 22)) : EX t z fm 1 d c (0, c) := EX.mk1 (fun _ => if_neg h)
theorem ex_sum (f : Nat) : exF t z fm (f + 1) 3 d c = xsq (exF t z fm f 5 d c) (exF t z fm f 4 d) := rfl
theorem ex_sumT (h : tkS t z c 43 ∨ tkS t z c 45) (f : Nat) : exF t z fm (f + 1) 4 d c = xsq (exF t z fm f 5 d (c + 1)) (exF t z fm f 4 d) := if_pos h
theorem ex_sumE (h : ¬ (tkS t z c 43 ∨ tkS t z c 45)) : EX t z fm 4 d c (0, c) := EX.mk1 (fun _ => if_neg h)
theorem ex_prd (f : Nat) : exF t z fm (f + 1) 5 d c = xsq (exF t z fm f 7 d c) (exF t z fm f 6 d) := rfl
theorem ex_prdT (h : tkS t z c 42) (f : Nat) : exF t z fm (f + 1) 6 d c = xsq (exF t z fm f 7 d (c + 1)) (exF t z fm f 6 d) := if_pos h
theorem ex_prdE (h : ¬ tkS t z c 42) : EX t z fm 6 d c (0, c) := EX.mk1 (fun _ => if_neg h)
theorem ex_tstX {n : Nat} {x : Int} (h : EX t z fm 3 d c (x, n)) (hx : ¬ x = 0) : EX t z fm 2 d c (x, n) := h.mk2 (fun f e1 => by
  show xsq (exF t z fm f 3 d c) _ = _
  rw [e1, xsq_x hx])
theorem ex_tst1 {n : Nat} (h : EX t z fm 3 d c (0, n)) (hs : ¬ (tkS t z n 60 ∨ tkS t z n 61)) : EX t z fm 2 d c (0, n) := h.mk2 (fun f e1 => by
  show xsq (exF t z fm f 3 d c) _ = _
  rw [e1, xsq_0 rfl]
  exact if_neg hs)
theorem ex_tst2 {n : Nat} (h : EX t z fm 3 d c (0, n)) (hs : tkS t z n 60 ∨ tkS t z n 61) (h2 : EX t z fm 3 d (n + 1) r) : EX t z fm 2 d c r := h.mk3 h2 (fun f e1 e2 => by
  show xsq (exF t z fm f 3 d c) _ = _
  rw [e1, xsq_0 rfl, ← e2]
  exact if_pos hs)
theorem ex_par (f : Nat) : exF t z fm (f + 1) 7 d c = if isPa t z fm c = false then (flt t z c 1, c) else if d = 5 then (flt t z c 5, c) else if tkW t z c 20 then exF t z fm f 7 (d + 1) (c + 1) else if tkS t z c 40 then xsq (exF t z fm f 0 (d + 1) (c + 1)) (fun c => (tkG t z c 41, c + 1)) else (0, c + 1) := rfl
theorem ex_p1 (h : isPa t z fm c = false) : EX t z fm 7 d c (flt t z c 1, c) := EX.mk1 (fun f => by rw [ex_par, if_pos h])
theorem ex_p5 (h : isPa t z fm c = true) (hd : d = 5) : EX t z fm 7 d c (flt t z c 5, c) := EX.mk1 (fun f => by rw [ex_par, if_neg (by rw [h]; decide), if_pos hd])
theorem ex_pn (h : isPa t z fm c = true) (hd : ¬ d = 5) (hn : tkW t z c 20) (h2 : EX t z fm 7 (d + 1) (c + 1) r) : EX t z fm 7 d c r := h2.mk2 (fun f e => by rw [ex_par, if_neg (by rw [h]; decide), if_neg hd, if_pos hn, e])
theorem ex_pb (h : isPa t z fm c = true) (hd : ¬ d = 5) (hn : ¬ tkW t z c 20) (hs : tkS t z c 40) {n : Nat} (h2 : EX t z fm 0 (d + 1) (c + 1) (0, n)) : EX t z fm 7 d c (tkG t z n 41, n + 1) := h2.mk2 (fun f e => by rw [ex_par, if_neg (by rw [h]; decide), if_neg hd, if_neg hn, if_pos hs, e, xsq_0 rfl])
theorem ex_pbx (h : isPa t z fm c = true) (hd : ¬ d = 5) (hn : ¬ tkW t z c 20) (hs : tkS t z c 40) {n : Nat} {x : Int} (h2 : EX t z fm 0 (d + 1) (c + 1) (x, n)) (hx : ¬ x = 0) : EX t z fm 7 d c (x, n) := h2.mk2 (fun f e => by rw [ex_par, if_neg (by rw [h]; decide), if_neg hd, if_neg hn, if_pos hs, e, xsq_x hx])
theorem ex_p0 (h : isPa t z fm c = true) (hd : ¬ d = 5) (hn : ¬ tkW t z c 20) (hs : ¬ tkS t z c 40) : EX t z fm 7 d c (0, c + 1) := EX.mk1 (fun f => by rw [ex_par, if_neg (by rw [h]; decide), if_neg hd, if_neg hn, if_neg hs])
end EXS
-- a line that stands once: 0 kin, 1 storm, 2 dowry, 3 silt, -1 none
def onW (t : Nat → Int32) (z c : Nat) : Int := if tkW t z c 11 then 0 else if tkW t z c 12 then 1 else if tkW t z c 14 then 2 else if tkW t z c 15 then 3 else -1
-- what has been read: the token, the fields, the names, what stands once
abbrev LDS : Type := Nat × (Nat → Int) × (Nat → Int64) × (Nat → Bool)
def upO (o : Nat → Bool) (i : Nat) : Nat → Bool := fun j => if j = i then true else o j
def rvL (t : Nat → Int32) (z : Nat) (s : LDS) : Nat → Int := fun j => if j = 0 then s.2.1 0 + 1 else if 7 + 14 * (s.2.1 0).toNat ≤ j ∧ j < 7 + 14 * (s.2.1 0).toNat + 13 then rvV t z (upN s.2.2.1 (s.2.1 0).toNat (lxV fM t z (s.1 + 1))) (s.2.1 0).toNat s.1 (j - (7 + 14 * (s.2.1 0).toNat)) else s.2.1 j
-- a line ahead of its ;
def lnF (t : Nat → Int32) (z f : Nat) (s : LDS) : Int × LDS :=
  if tkW t z s.1 0 then (rvE t z s.2.2.1 (s.2.1 0).toNat s.1, rvC t z s.1, rvL t z s, upN s.2.2.1 (s.2.1 0).toNat (lxV fM t z (s.1 + 1)), s.2.2.2)
  else if tkW t z s.1 9 then (rgE t z s.2.1 s.1, s.1 + 4, rgL t z s.2.1 s.1, s.2.2)
  else if onW t z s.1 < 0 then (flt t z s.1 1, s)
  else if s.2.2.2 (onW t z s.1).toNat = true then (flt t z s.1 3, s)
  else if onW t z s.1 = 0 then (tkN t z (s.1 + 1) 0 9, s.1 + 2, upI s.2.1 2 (nvT t z (s.1 + 1)), s.2.2.1, upO s.2.2.2 0)
  else if onW t z s.1 = 1 then (fz [tkN t z (s.1 + 1) 0 10, xW t z (s.1 + 2) 13, tkN t z (s.1 + 3) 0 99], s.1 + 4, upI (upI s.2.1 3 (nvT t z (s.1 + 1))) 4 (nvT t z (s.1 + 3)), s.2.2.1, upO s.2.2.2 1)
  else ((exF t z (if onW t z s.1 = 2 then 4 else 2) f 0 0 (s.1 + 1)).1, (exF t z (if onW t z s.1 = 2 then 4 else 2) f 0 0 (s.1 + 1)).2, s.2.1, s.2.2.1, upO s.2.2.2 (onW t z s.1).toNat)
def ldF (t : Nat → Int32) (z : Nat) : Nat → LDS → Int × LDS
  | 0, s => (0, s)
  | f + 1, s => if lxK t z s.1 = 0 then (0, s) else if (lnF t z f s).1 = 0 then (if tkG t z (lnF t z f s).2.1 59 = 0 then ldF t z f ((lnF t z f s).2.1 + 1, (lnF t z f s).2.2) else (tkG t z (lnF t z f s).2.1 59, (lnF t z f s).2)) else ((lnF t z f s).1, (lnF t z f s).2)
def LNL (t : Nat → Int32) (z : Nat) (s : LDS) (r : Int × LDS) : Prop := ∃ f0, ∀ f, f0 ≤ f → lnF t z f s = r
def LD (t : Nat → Int32) (z : Nat) (s : LDS) (r : Int × LDS) : Prop := ∃ f0, ∀ f, f0 ≤ f → ldF t z f s = r
theorem LD.one {t : Nat → Int32} {z : Nat} {s : LDS} {r r' : Int × LDS} (h : LD t z s r) (h' : LD t z s r') : r = r' := by
  obtain ⟨f, hf⟩ := h
  obtain ⟨g, hg⟩ := h'
  rw [← hf (max f g) (by omega), hg (max f g) (by omega)]
theorem LD.end {t : Nat → Int32} {z : Nat} {s : LDS} (h : lxK t z s.1 = 0) : LD t z s (0, s) := ⟨1, fun f hf => by
  obtain ⟨g, rfl⟩ : ∃ g, f = g + 1 := ⟨f - 1, by omega⟩
  exact if_pos h⟩
theorem LD.bad {t : Nat → Int32} {z : Nat} {s s1 : LDS} {e : Int} (hk : ¬ lxK t z s.1 = 0) (h : LNL t z s (e, s1)) (he : ¬ e = 0) : LD t z s (e, s1) := by
  obtain ⟨f0, h0⟩ := h
  refine ⟨f0 + 1, fun f hf => ?_⟩
  obtain ⟨g, rfl⟩ : ∃ g, f = g + 1 := ⟨f - 1, by omega⟩
  unfold ldF
  rw [if_neg hk, h0 g (by omega), if_neg he]
theorem LD.sign {t : Nat → Int32} {z : Nat} {s s1 : LDS} (hk : ¬ lxK t z s.1 = 0) (h : LNL t z s (0, s1)) (he : ¬ tkG t z s1.1 59 = 0) : LD t z s (tkG t z s1.1 59, s1) := by
  obtain ⟨f0, h0⟩ := h
  refine ⟨f0 + 1, fun f hf => ?_⟩
  obtain ⟨g, rfl⟩ : ∃ g, f = g + 1 := ⟨f - 1, by omega⟩
  unfold ldF
  rw [if_neg hk, h0 g (by omega), if_pos rfl, if_neg he]
theorem LD.next {t : Nat → Int32} {z : Nat} {s s1 : LDS} {r : Int × LDS} (hk : ¬ lxK t z s.1 = 0) (h : LNL t z s (0, s1)) (he : tkG t z s1.1 59 = 0) (h2 : LD t z (s1.1 + 1, s1.2) r) : LD t z s r := by
  obtain ⟨f0, h0⟩ := h
  obtain ⟨g0, k0⟩ := h2
  refine ⟨max f0 g0 + 1, fun f hf => ?_⟩
  obtain ⟨g, rfl⟩ : ∃ g, f = g + 1 := ⟨f - 1, by omega⟩
  unfold ldF
  rw [if_neg hk, h0 g (by omega), if_pos rfl, if_pos he]
  exact k0 g (by omega)
-- the model's reader: the tokens are cut; the next one is the c-th, the fault is e
def MW (b : Nat → Nat → Int64) : Prop := ∀ w, w < 31 → b 5 (wMi.getD w 0) = wMd.getD w 0
def eE (e g : Int) : Int := if e = 0 then g else e
theorem eE_0 {e g : Int} (h : e = 0) : eE e g = g := if_pos h
theorem eE_x {e g : Int} (h : ¬ e = 0) : eE e g = e := if_neg h
theorem eE_z {e g : Int} (h : eE e g = 0) : e = 0 ∧ g = 0 := by
  unfold eE at h
  split at h
  · rename_i h1
    exact ⟨h1, h⟩
  · rename_i h1
    exact absurd h h1
theorem eE_nn {e g : Int} (h : 0 ≤ e) (h' : 0 ≤ g) : 0 ≤ eE e g := by
  unfold eE
  split <;> assumption
theorem flt_pos {t : Nat → Int32} {z c : Nat} {k : Int} (h : 1 ≤ k) : 1 ≤ flt t z c k := by
  unfold flt
  omega
def MS (t : Nat → Int32) (z N c : Nat) (e : Int) (a : Nat → Nat → Int32) (b : Nat → Nat → Int64) : Prop := TKM t z N a b ∧ MW b ∧ z ≤ 1000 ∧ 0 ≤ e ∧ (a 0 8).toInt = e ∧ (e = 0 → (a 0 7).toInt = (c : Nat) ∧ c ≤ N) ∧ (0 ≤ (a 0 7).toInt ∧ (a 0 7).toInt ≤ 1000)
section MSS
variable {t : Nat → Int32} {z N c : Nat} {e : Int} {a a' : Nat → Nat → Int32} {b b' : Nat → Nat → Int64}
theorem MS.pa (h : MS t z N c e a b) (he : e = 0) : PA t z N a b := ⟨h.1, by have := (h.2.2.2.2.2.1 he).1; omega, by have := h.2.2.2.2.2.1 he; omega, h.2.1⟩
theorem MS.tok (h : MS t z N c e a b) (he : e = 0) : (a 0 7).toInt = (c : Nat) ∧ (a 0 7).toInt.toNat = c ∧ c ≤ N ∧ (a 2 c).toInt = (lxK t z c : Nat) ∧ (a 3 c).toInt = (lxP t z c : Nat) ∧ lxP t z c ≤ 1000 ∧ (lxK t z c ≠ 0 → c < N) ∧ N ≤ 1000 := by
  obtain ⟨h7, hN⟩ := h.2.2.2.2.2.1 he
  obtain ⟨k1, k2, k3, -⟩ := (h.pa he).tok
  have e7 : (a 0 7).toInt.toNat = c := by omega
  rw [e7] at k1 k2 k3
  have hp : lxP t z c ≤ z := lxP_le c (fun m hm => lxK_lt ((h.1.2.1 m (by omega)).2.2.1 (by omega)))
  have hz := h.2.2.1
  have hn := h.1.1
  exact ⟨h7, e7, hN, k1, k2, by omega, fun q => by have := k3 q; omega, by omega⟩
theorem MS.sgn (h : MS t z N c e a b) (he : e = 0) (p : Int) : tkS t z c p ↔ ((a 2 c).toInt = 3 ∧ (b 4 c).toInt = p) := by
  have g := (h.pa he).sgn p
  rw [(h.tok he).2.1] at g
  exact g
theorem MS.wrd (h : MS t z N c e a b) (he : e = 0) {w : Nat} (hw : w < 31) : tkW t z c w ↔ ((a 2 c).toInt = 1 ∧ (b 4 c).toInt = (b 5 (wMi.getD w 0)).toInt) := by
  have g := (h.pa he).wrd hw
  rw [(h.tok he).2.1] at g
  exact g
theorem MS.val (h : MS t z N c e a b) (he : e = 0) (hk : lxK t z c < 4) (hk0 : 0 < lxK t z c) : b 4 c = lxV fM t z c := by
  have g := (h.pa he).tok.2.2.2
  rw [(h.tok he).2.1] at g
  exact g hk hk0
theorem MS.num (h : MS t z N c e a b) (he : e = 0) (lo hi : Int) : tkN t z c lo hi = if (a 2 c).toInt = 2 then (if (b 4 c).toInt < lo ∨ hi < (b 4 c).toInt then 4 + 16 * (a 3 c).toInt else 0) else 1 + 16 * (a 3 c).toInt := by
  have g := (h.pa he).num lo hi
  rw [(h.tok he).2.1] at g
  exact g
theorem MS.step {c' : Nat} {e' : Int} (h : MS t z N c e a b) (h2 : a' 2 = a 2) (h3 : a' 3 = a 3) (he : 0 ≤ e') (h8 : (a' 0 8).toInt = e') (h7 : e' = 0 → (a' 0 7).toInt = (c' : Nat) ∧ c' ≤ N) (hr : 0 ≤ (a' 0 7).toInt ∧ (a' 0 7).toInt ≤ 1000) : MS t z N c' e' a' b := by
  refine ⟨⟨h.1.1, fun m hm => ?_, h.1.2.2⟩, h.2.1, h.2.2.1, he, h8, h7, hr⟩
  rw [h2, h3]
  exact h.1.2.1 m hm
theorem MS.keep (h : MS t z N c e a b) (h2 : a' 2 = a 2) (h3 : a' 3 = a 3) (h8 : a' 0 8 = a 0 8) (h7 : a' 0 7 = a 0 7) : MS t z N c e a' b := h.step h2 h3 h.2.2.2.1 (by rw [h8]; exact h.2.2.2.2.1) (fun he => by rw [h7]; exact h.2.2.2.2.2.1 he) (by rw [h7]; exact h.2.2.2.2.2.2)
theorem MS.at (h : MS t z N c e a b) : 0 ≤ (a 0 7).toInt ∧ (a 0 7).toInt ≤ 1000 := h.2.2.2.2.2.2
theorem MS.e8 (h : MS t z N c e a b) : (a 0 8).toInt = e ∧ 0 ≤ e := ⟨h.2.2.2.2.1, h.2.2.2.1⟩
end MSS
-- where the class's order has a word of the model's
def wCi : List Nat := [0, 1, 2, 3, 4, 5, 6, 7, 8, 9, 10, 11, 12, 13, 14, 15, 16, 17, 18, 19, 23, 24, 25, 26, 20, 21, 22, 27, 28, 29, 30]
theorem wCi_ok : ∀ m, m < 31 → wCi.getD m 0 < 31 ∧ wMi.getD (wCi.getD m 0) 0 = m := by decide
theorem wMi_ok : ∀ w, w < 31 → wMi.getD w 0 < 31 ∧ wCi.getD (wMi.getD w 0) 0 = w := by decide
-- the last of m words from the f-th (by the model's order) that stands at c
def whF (t : Nat → Int32) (z c f : Nat) : Nat → Int
  | 0 => -1
  | n + 1 => if tkW t z c (wCi.getD (f + n) 0) then n else whF t z c f n
theorem whF_s {t : Nat → Int32} {z c f n : Nat} : whF t z c f (n + 1) = if tkW t z c (wCi.getD (f + n) 0) then (n : Int) else whF t z c f n := rfl
theorem whF_rng {t : Nat → Int32} {z c f : Nat} : ∀ n : Nat, -1 ≤ whF t z c f n ∧ whF t z c f n < n
  | 0 => ⟨Int.le_refl _, by show (-1 : Int) < ((0 : Nat) : Int); decide⟩
  | n + 1 => by
    have h := whF_rng (t := t) (z := z) (c := c) (f := f) n
    rw [whF_s]
    split <;> omega
theorem whF_no {t : Nat → Int32} {z c f : Nat} : ∀ n : Nat, whF t z c f n < 0 ↔ ∀ k, k < n → ¬ tkW t z c (wCi.getD (f + k) 0)
  | 0 => ⟨fun _ k hk => absurd hk (by omega), fun _ => by show (-1 : Int) < 0; decide⟩
  | n + 1 => by
    rw [whF_s]
    have ih := whF_no (t := t) (z := z) (c := c) (f := f) n
    by_cases h : tkW t z c (wCi.getD (f + n) 0)
    · rw [if_pos h]
      exact ⟨fun h9 => absurd h9 (by omega), fun h9 => absurd h (h9 n (by omega))⟩
    · rw [if_neg h, ih]
      refine ⟨fun h9 k hk => ?_, fun h9 k hk => h9 k (by omega)⟩
      rcases Nat.lt_or_ge k n with h1 | h1
      · exact h9 k h1
      · have e : k = n := by omega
        rw [e]
        exact h
theorem wh_kind {t : Nat → Int32} {z c : Nat} : whF t z c 20 4 = kdF t z c := rfl
theorem w27 : ∀ w, w < 27 → wMi.getD w 0 < 27 ∧ wCi.getD w 0 < 27 := by decide
theorem wh_name {t : Nat → Int32} {z c : Nat} (hk : lxK t z c = 1) : whF t z c 0 27 < 0 ↔ isNm t z c = true := by
  rw [whF_no, isNm_iff]
  constructor
  · intro h
    refine ⟨hk, fun w hw h9 => ?_⟩
    have g := h (wMi.getD w 0) (w27 w hw).1
    rw [Nat.zero_add, (wMi_ok w (by omega)).2] at g
    exact g h9
  · intro h k h1 h9
    rw [Nat.zero_add] at h9
    exact h.2 _ (w27 k h1).2 h9
theorem tkN_v {t : Nat → Int32} {z c : Nat} {lo hi : Int} (h : tkN t z c lo hi = 0) : lxK t z c = 2 ∧ lo ≤ nvT t z c ∧ nvT t z c ≤ hi := by
  unfold tkN at h
  split at h
  · rename_i h1
    split at h
    · omega
    · rename_i h2
      unfold nvT
      exact ⟨h1, by omega, by omega⟩
  · omega
theorem MS.any {t : Nat → Int32} {z N c c' : Nat} {e : Int} {a : Nat → Nat → Int32} {b : Nat → Nat → Int64} (h : MS t z N c e a b) (he : ¬ e = 0) : MS t z N c' e a b := h.step rfl rfl h.e8.2 h.e8.1 (fun h9 => absurd h9 he) h.at
theorem rh_x {e f1 G : Int} {P : Prop} [Decidable P] (h : ¬ eE e (if P then 0 else f1) = 0) : eE e (if P then G else f1) = eE e (if P then 0 else f1) := by
  by_cases he : e = 0
  · rw [eE_0 he] at h
    rw [eE_0 he, eE_0 he]
    by_cases hp : P
    · rw [if_pos hp] at h
      exact absurd rfl h
    · rw [if_neg hp, if_neg hp]
  · rw [eE_x he, eE_x he]
-- what an E leaves: what it comes to, or the fault that stood
def EQ (t : Nat → Int32) (z N c : Nat) (fm e : Int) (md dd : Nat) (a' : Nat → Nat → Int32) (b : Nat → Nat → Int64) : Prop := ∃ r : Int × Nat, (e = 0 → EX t z fm md dd c r) ∧ (¬ e = 0 → r.1 = e) ∧ MS t z N r.2 r.1 a' b
theorem EQ.bad {t : Nat → Int32} {z N c md dd : Nat} {fm e : Int} {a : Nat → Nat → Int32} {b : Nat → Nat → Int64} (h : MS t z N c e a b) (he : ¬ e = 0) : EQ t z N c fm e md dd a b := ⟨(e, c), fun h9 => absurd h9 he, fun _ => rfl, h⟩
theorem EQ.of {t : Nat → Int32} {z N c md dd n : Nat} {fm e x : Int} {a : Nat → Nat → Int32} {b : Nat → Nat → Int64} (he : e = 0) (w : EX t z fm md dd c (x, n)) (h : MS t z N n x a b) : EQ t z N c fm e md dd a b := ⟨(x, n), fun _ => w, fun h9 => absurd he h9, h⟩
-- a row of the E's group, d calls deep
def EXrow (d m md : Nat) : Prop := ∀ (a : Nat → Nat → Int32) (b : Nat → Nat → Int64) (z N c : Nat) (e fm : Int) (t : Nat → Int32) (dd : Nat) (p : Int32), p.toInt = (dd : Nat) → dd ≤ 5 → (fm = 2 ∨ fm = 4) → (a 0 16).toInt = fm → MS t z N c e a b → f_pc mtM d m [.inr (.inr (some 0)), .inl p] (mH a b) (fun v9 h' => ∃ (a' : Nat → Nat → Int32), h' = mH a' b ∧ (FR [0, 7, 8] a a' ∧ ((∀ j, j ≠ 7 → j ≠ 8 → j ≠ 13 → a' 0 j = a 0 j) ∧ EQ t z N c fm e md dd a' b)) ∧ v9 = none)
theorem EXrow.z {m md : Nat} : EXrow 0 m md := fun _ _ _ _ _ _ _ _ _ _ _ _ _ _ _ z hz => by cases hz
theorem EX.z0 {t : Nat → Int32} {z : Nat} {fm : Int} {d c md : Nat} {r : Int × Nat} (h : EX t z fm md d c r) (hr : r.1 = 0) : EX t z fm md d c (0, r.2) := by
  obtain ⟨x, n⟩ := r
  have hr : x = 0 := hr
  subst hr
  exact h
theorem EX.r0 {t : Nat → Int32} {z : Nat} {fm : Int} {d c md : Nat} {r : Int × Nat} (h : EX t z fm md d c (0, r.2)) (hr : r.1 = 0) : EX t z fm md d c r := by
  obtain ⟨x, n⟩ := r
  have hr : x = 0 := hr
  subst hr
  exact h
theorem MS.adv {t : Nat → Int32} {z N c : Nat} {e : Int} {a a' : Nat → Nat → Int32} {b : Nat → Nat → Int64} {x : Int32} (h : MS t z N c e a b) (he : e = 0) (hk : ¬ lxK t z c = 0) (e1 : a' = mU a 0 7 x) (hx : x.toInt = (a 0 7).toInt + 1) : MS t z N (c + 1) 0 a' b := by
  have k := h.tok he
  have k1 := k.2.2.2.2.2.2.1 hk
  have k8 := h.e8
  refine h.step (by rw [e1, mU_cell (by decide)]) (by rw [e1, mU_cell (by decide)]) (by decide) (by rw [e1, mU_slot (by decide)]; omega) (fun _ => by rw [e1, mU_same]; omega) (by rw [e1, mU_same]; omega)
theorem MS.zero {t : Nat → Int32} {z N c : Nat} {e : Int} {a : Nat → Nat → Int32} {b : Nat → Nat → Int64} (h : MS t z N c e a b) (he : e = 0) : MS t z N c 0 a b := by
  subst he
  exact h
theorem tkW_k {t : Nat → Int32} {z c w : Nat} (h : tkW t z c w) : ¬ lxK t z c = 0 := by
  have := h.1
  omega
theorem tkS_k {t : Nat → Int32} {z c : Nat} {p : Int} (h : tkS t z c p) : ¬ lxK t z c = 0 := by
  have := h.1
  omega
theorem tkG_0 {t : Nat → Int32} {z c : Nat} {p : Int} (h : tkS t z c p) : tkG t z c p = 0 := if_pos h
theorem wh_27 {t : Nat → Int32} {z c : Nat} {fm : Int} (h : fm = 2 ∨ fm = 4) : 0 ≤ whF t z c 27 fm.toNat ↔ (tkW t z c 27 ∨ tkW t z c 28 ∨ (fm = 4 ∧ (tkW t z c 29 ∨ tkW t z c 30))) := by
  have hno := whF_no (t := t) (z := z) (c := c) (f := 27) fm.toNat
  constructor
  · intro h0
    by_cases g1 : tkW t z c 27
    · exact Or.inl g1
    by_cases g2 : tkW t z c 28
    · exact Or.inr (Or.inl g2)
    rcases h with rfl | rfl
    · exfalso
      have h9 := hno.mpr (fun k hk => by
        match k, hk with
        | 0, _ => exact g1
        | 1, _ => exact g2
        | k + 2, hk => exact absurd hk (by show ¬ k + 2 < 2; omega))
      omega
    · by_cases g3 : tkW t z c 29
      · exact Or.inr (Or.inr ⟨rfl, Or.inl g3⟩)
      by_cases g4 : tkW t z c 30
      · exact Or.inr (Or.inr ⟨rfl, Or.inr g4⟩)
      exfalso
      have h9 := hno.mpr (fun k hk => by
        match k, hk with
        | 0, _ => exact g1
        | 1, _ => exact g2
        | 2, _ => exact g3
        | 3, _ => exact g4
        | k + 4, hk => exact absurd hk (by show ¬ k + 4 < 4; omega))
      omega
  · intro h0
    rcases Int.lt_or_le (whF t z c 27 fm.toNat) 0 with h9 | h9
    · exfalso
      have g := hno.mp h9
      rcases h0 with q | q | ⟨q0, q | q⟩
      · exact g 0 (by rcases h with rfl | rfl <;> decide) q
      · exact g 1 (by rcases h with rfl | rfl <;> decide) q
      · exact g 2 (by subst q0; decide) q
      · exact g 3 (by subst q0; decide) q
    · exact h9
theorem isPa_iff {t : Nat → Int32} {z c : Nat} {fm : Int} (h : fm = 2 ∨ fm = 4) : isPa t z fm c = true ↔ (lxK t z c = 2 ∨ 0 ≤ whF t z c 27 fm.toNat ∨ tkS t z c 40 ∨ tkW t z c 20) := by
  unfold isPa
  rw [decide_eq_true_iff, wh_27 h]
  constructor
  · intro q
    rcases q with q | q | q | q | q | q
    · exact Or.inl q
    · exact Or.inr (Or.inl (Or.inl q))
    · exact Or.inr (Or.inl (Or.inr (Or.inl q)))
    · exact Or.inr (Or.inl (Or.inr (Or.inr q)))
    · exact Or.inr (Or.inr (Or.inl q))
    · exact Or.inr (Or.inr (Or.inr q))
  · intro q
    rcases q with q | (q | q | q) | q | q
    · exact Or.inl q
    · exact Or.inr (Or.inl q)
    · exact Or.inr (Or.inr (Or.inl q))
    · exact Or.inr (Or.inr (Or.inr (Or.inl q)))
    · exact Or.inr (Or.inr (Or.inr (Or.inr (Or.inl q))))
    · exact Or.inr (Or.inr (Or.inr (Or.inr (Or.inr q))))
theorem isPa_k {t : Nat → Int32} {z c : Nat} {fm : Int} (h : isPa t z fm c = true) : ¬ lxK t z c = 0 := by
  unfold isPa at h
  rw [decide_eq_true_iff] at h
  intro h0
  rcases h with q | q | q | ⟨-, q | q⟩ | q | q
  · omega
  · exact tkW_k q h0
  · exact tkW_k q h0
  · exact tkW_k q h0
  · exact tkW_k q h0
  · exact tkS_k q h0
  · exact tkW_k q h0
-- the land that is being read: its fields (but the letters), its names
def LR (L : Nat → Int) (a : Nat → Nat → Int32) : Prop := ∀ j, j < 110 → ¬ (j = 5 ∨ j = 6 ∨ (7 ≤ j ∧ j < 91 ∧ (j - 7) % 14 = 13)) → (a 6 (110 + j)).toInt = L j
theorem LR.same {L : Nat → Int} {a a' : Nat → Nat → Int32} (h : LR L a) (e : a' 6 = a 6) : LR L a' := fun j h1 h2 => by
  rw [e]
  exact h j h1 h2
theorem LR.put {L : Nat → Int} {a a' : Nat → Nat → Int32} {i k : Nat} {x : Int32} (h : LR L a) (e : a' = mU a 6 i x) (hi : i = 110 + k) : LR (upI L k x.toInt) a' := fun j h1 h2 => by
  rw [e]
  unfold upI
  by_cases hj : j = k
  · rw [if_pos hj, hj, hi, mU_same]
  · rw [if_neg hj, mU_slot (by omega)]
    exact h j h1 h2
theorem LR.ext {L L' : Nat → Int} {a : Nat → Nat → Int32} (h : LR L a) (e : ∀ j, j < 110 → ¬ (j = 5 ∨ j = 6 ∨ (7 ≤ j ∧ j < 91 ∧ (j - 7) % 14 = 13)) → L j = L' j) : LR L' a := fun j h1 h2 => by
  rw [← e j h1 h2]
  exact h j h1 h2
theorem rgH_s {L : Nat → Int} {v : Int} {n : Nat} : rgH L v (n + 1) = true ↔ (rgH L v n = true ∨ L (91 + 2 * n) = v) := by
  show (rgH L v n || decide (L (91 + 2 * n) = v)) = true ↔ _
  rw [Bool.or_eq_true, decide_eq_true_iff]
theorem rgH_mono {L : Nat → Int} {v : Int} {n : Nat} : ∀ m : Nat, n ≤ m → rgH L v n = true → rgH L v m = true
  | 0, h, g => by
    have e : n = 0 := by omega
    rw [e] at g
    exact g
  | m + 1, h, g => by
    rcases Nat.lt_or_ge m n with h1 | h1
    · have e : n = m + 1 := by omega
      rw [← e]
      exact g
    · exact rgH_s.mpr (Or.inl (rgH_mono m h1 g))
theorem fz4 {p q r s : Int} : fz [p, q, r, s] = eE (eE (eE p q) r) s := by
  unfold fz fz fz fz fz eE
  repeat' split
  all_goals first | rfl | omega
theorem fz3 {p q r : Int} : fz [p, q, r] = eE (eE p q) r := by
  unfold fz fz fz fz eE
  repeat' split
  all_goals first | rfl | omega
-- what stands once, as the model's bits
def OB (o : Nat → Bool) (x : Int32) : Prop := ∃ k : Nat, k < 16 ∧ x = nI k ∧ ∀ i, i < 4 → (o i = true ↔ k.testBit i = true)
theorem ob_get : ∀ k, k < 16 → ∀ i, i < 4 → (((nI k >>> (nI i &&& 31)) &&& 1).toInt = 1 ↔ k.testBit i = true) := by decide +kernel
theorem ob_set : ∀ k, k < 16 → ∀ i, i < 4 → (nI k ||| ((1 : Int32) <<< (nI i &&& 31))) = nI (k ||| (1 <<< i)) ∧ (k ||| (1 <<< i)) < 16 ∧ ∀ j, j < 4 → ((k ||| (1 <<< i)).testBit j = true ↔ (k.testBit j = true ∨ j = i)) := by decide +kernel
theorem OB.get {o : Nat → Bool} {x w : Int32} {i : Nat} (h : OB o x) (hi : i < 4) (hw : w.toInt = (i : Nat)) : ((x >>> (w &&& 31)) &&& 1).toInt = 1 ↔ o i = true := by
  obtain ⟨k, hk, rfl, h⟩ := h
  have e : w = nI i := ti_eq (by rw [hw, nI_toInt (by omega)])
  rw [e, h i hi]
  exact ob_get k hk i hi
theorem OB.set {o : Nat → Bool} {x w y : Int32} {i : Nat} (h : OB o x) (hi : i < 4) (hw : w.toInt = (i : Nat)) (e1 : y = (x ||| ((1 : Int32) <<< (w &&& 31)))) : OB (upO o i) y := by
  obtain ⟨k, hk, rfl, h⟩ := h
  have e : w = nI i := ti_eq (by rw [hw, nI_toInt (by omega)])
  obtain ⟨g1, g2, g3⟩ := ob_set k hk i hi
  refine ⟨_, g2, by rw [e1, e, g1], fun j hj => ?_⟩
  rw [g3 j hj]
  unfold upO
  by_cases hx : j = i
  · rw [if_pos hx]
    exact ⟨fun _ => Or.inr hx, fun _ => rfl⟩
  · rw [if_neg hx, h j hj]
    exact ⟨Or.inl, fun q => q.resolve_right hx⟩
theorem OB.zero : OB (fun _ => false) 0 := ⟨0, by decide, rfl, fun i _ => by rw [Nat.zero_testBit]⟩
theorem onW_rng {t : Nat → Int32} {z c : Nat} : -1 ≤ onW t z c ∧ onW t z c ≤ 3 := by
  unfold onW
  repeat' split
  all_goals omega
theorem onW_k {t : Nat → Int32} {z c : Nat} (h : 0 ≤ onW t z c) : ¬ lxK t z c = 0 := by
  unfold onW at h
  intro h0
  split at h
  · rename_i q
    exact tkW_k q h0
  · split at h
    · rename_i q
      exact tkW_k q h0
    · split at h
      · rename_i q
        exact tkW_k q h0
      · split at h
        · rename_i q
          exact tkW_k q h0
        · omega
-- a line, by its kinds
section LNS
variable {t : Nat → Int32} {z : Nat} {s : LDS}
theorem ln_r (h : tkW t z s.1 0) : LNL t z s (rvE t z s.2.2.1 (s.2.1 0).toNat s.1, rvC t z s.1, rvL t z s, upN s.2.2.1 (s.2.1 0).toNat (lxV fM t z (s.1 + 1)), s.2.2.2) := ⟨0, fun f _ => by unfold lnF; rw [if_pos h]⟩
theorem ln_g (h0 : ¬ tkW t z s.1 0) (h : tkW t z s.1 9) : LNL t z s (rgE t z s.2.1 s.1, s.1 + 4, rgL t z s.2.1 s.1, s.2.2) := ⟨0, fun f _ => by unfold lnF; rw [if_neg h0, if_pos h]⟩
theorem ln_1 (h0 : ¬ tkW t z s.1 0) (h9 : ¬ tkW t z s.1 9) (h : onW t z s.1 < 0) : LNL t z s (flt t z s.1 1, s) := ⟨0, fun f _ => by unfold lnF; rw [if_neg h0, if_neg h9, if_pos h]⟩
theorem ln_3 (h0 : ¬ tkW t z s.1 0) (h9 : ¬ tkW t z s.1 9) (h : ¬ onW t z s.1 < 0) (ho : s.2.2.2 (onW t z s.1).toNat = true) : LNL t z s (flt t z s.1 3, s) := ⟨0, fun f _ => by unfold lnF; rw [if_neg h0, if_neg h9, if_neg h, if_pos ho]⟩
theorem ln_k (h0 : ¬ tkW t z s.1 0) (h9 : ¬ tkW t z s.1 9) (ho : ¬ s.2.2.2 (onW t z s.1).toNat = true) (hw : onW t z s.1 = 0) : LNL t z s (tkN t z (s.1 + 1) 0 9, s.1 + 2, upI s.2.1 2 (nvT t z (s.1 + 1)), s.2.2.1, upO s.2.2.2 0) := ⟨0, fun f _ => by unfold lnF; rw [if_neg h0, if_neg h9, if_neg (by omega), if_neg ho, if_pos hw]⟩
theorem ln_s (h0 : ¬ tkW t z s.1 0) (h9 : ¬ tkW t z s.1 9) (ho : ¬ s.2.2.2 (onW t z s.1).toNat = true) (hw : onW t z s.1 = 1) : LNL t z s (fz [tkN t z (s.1 + 1) 0 10, xW t z (s.1 + 2) 13, tkN t z (s.1 + 3) 0 99], s.1 + 4, upI (upI s.2.1 3 (nvT t z (s.1 + 1))) 4 (nvT t z (s.1 + 3)), s.2.2.1, upO s.2.2.2 1) := ⟨0, fun f _ => by unfold lnF; rw [if_neg h0, if_neg h9, if_neg (by omega), if_neg ho, if_neg (by omega), if_pos hw]⟩
theorem ln_e (h0 : ¬ tkW t z s.1 0) (h9 : ¬ tkW t z s.1 9) (ho : ¬ s.2.2.2 (onW t z s.1).toNat = true) {w : Nat} (hw : onW t z s.1 = (w : Nat)) (h2 : w = 2 ∨ w = 3) {fm : Int} (hf : fm = if w = 2 then 4 else 2) {r : Int × Nat} (h : EX t z fm 0 0 (s.1 + 1) r) : LNL t z s (r.1, r.2, s.2.1, s.2.2.1, upO s.2.2.2 w) := by
  obtain ⟨f0, hf0⟩ := h
  refine ⟨f0, fun f hf1 => ?_⟩
  have e : (if onW t z s.1 = 2 then (4 : Int) else 2) = fm := by
    rw [hf]
    rcases h2 with rfl | rfl
    · rw [if_pos (by omega), if_pos rfl]
    · rw [if_neg (by omega), if_neg (by omega)]
  unfold lnF
  rw [if_neg h0, if_neg h9, if_neg (by omega), if_neg ho, if_neg (by omega), if_neg (by omega), e, hf0 f hf1, hw]
  rfl
end LNS
-- a river's line, told step by step
theorem fz_c {x : Int} {l : List Int} : fz (x :: l) = eE x (fz l) := rfl
theorem fz_n : fz [] = 0 := rfl
theorem eE_a {p q r : Int} : eE (eE p q) r = eE p (eE q r) := by
  unfold eE
  repeat' split
  all_goals first | rfl | omega
theorem eE_r {p : Int} : eE p 0 = p := by
  unfold eE
  split <;> omega
theorem eE_sub {e g g' : Int} (h : e = 0 → g = g') : eE e g = eE e g' := by
  unfold eE
  split
  · exact h (by assumption)
  · rfl
theorem eE_sub2 {e x g g' : Int} (h : e = 0 → g = g') : eE (eE e x) g = eE (eE e x) g' := eE_sub (fun h9 => h (eE_z h9).1)
theorem fz_app2 {l m : List Int} : fz (l ++ m) = eE (fz l) (fz m) := fz_app
theorem fnd_same {M M' : Nat → Int64} {v : Int64} : ∀ n : Nat, (∀ k, k < n → M k = M' k) → fnd M v n = fnd M' v n
  | 0, _ => rfl
  | n + 1, h => by
    rw [fnd_s, fnd_s, fnd_same n (fun k hk => h k (by omega)), h n (by omega)]
theorem kd_k {t : Nat → Int32} {z c : Nat} (h : 0 ≤ kdF t z c) : ¬ lxK t z c = 0 := by
  unfold kdF at h
  intro h0
  split at h
  · rename_i q
    exact tkW_k q h0
  · split at h
    · rename_i q
      exact tkW_k q h0
    · split at h
      · rename_i q
        exact tkW_k q h0
      · split at h
        · rename_i q
          exact tkW_k q h0
        · omega
def rE1 (t : Nat → Int32) (z c : Nat) : Int := eE (xW t z (c + 3) 1) (tkN t z (c + 4) 1 99)
def rE2 (t : Nat → Int32) (z c : Nat) : Int := eE (eE (rE1 t z c) (xW t z (c + 5) 2)) (tkN t z (c + 6) 0 (nvT t z (c + 4) - 1))
def rE3 (t : Nat → Int32) (z c : Nat) : Int := eE (eE (rE2 t z c) (xW t z (c + 7) 3)) (tkN t z (c + 8) 0 99)
def wE (t : Nat → Int32) (z c : Nat) : Nat → Int
  | 0 => eE (rE3 t z c) (xW t z (c + 9) 4)
  | k + 1 => eE (wE t z c k) (tkN t z (c + 10 + k) 0 99)
theorem wE_st {t : Nat → Int32} {z c k : Nat} (h : ¬ wE t z c k = 0) : ∀ m : Nat, k ≤ m → wE t z c m = wE t z c k
  | 0, hm => by
    have e : k = 0 := by omega
    rw [e]
  | m + 1, hm => by
    rcases Nat.lt_or_ge m k with h1 | h1
    · have e : k = m + 1 := by omega
      rw [e]
    · have ih := wE_st h m h1
      show eE (wE t z c m) _ = _
      rw [ih, eE_x h]
def opH (t : Nat → Int32) (z w : Nat) (lo0 e : Int) (d : Nat) : Int := if tkW t z d w then eE e (tkN t z (d + 1) lo0 999) else e
def opF (t : Nat → Int32) (z w : Nat) (lo hi e : Int) (d : Nat) : Int := if tkW t z d w then eE (eE e (xW t z (d + 2) 7)) (tkN t z (d + 3) lo hi) else e
def opD (t : Nat → Int32) (z w d : Nat) : Nat := if tkW t z d w then d + 2 else d
def ofG (t : Nat → Int32) (z : Nat) (M : Nat → Int64) (n d : Nat) : Int := if isNm t z d = true then (if 0 ≤ fnd M (lxV fM t z d) n then 0 else flt t z d 2) else flt t z d 1
def ofX (t : Nat → Int32) (z : Nat) (M : Nat → Int64) (n : Nat) (e : Int) (d : Nat) : Int := if tkW t z d 8 then eE e (ofG t z M n (d + 1)) else e
theorem op_fz {t : Nat → Int32} {z w d : Nat} {lo0 lo hi e : Int} : eE e (fz (opE t z w lo0 lo hi d)) = opF t z w lo hi (opH t z w lo0 e d) d := by
  unfold opE opF opH
  split
  · rw [fz_c, fz_c, fz_c, fz_n, eE_r, eE_a, eE_a]
  · rw [fz_n, eE_r]
theorem of_fz {t : Nat → Int32} {z d n : Nat} {M : Nat → Int64} {e : Int} : eE e (fz (ofE t z M n d)) = ofX t z M n e d := by
  unfold ofE ofX
  split
  · rw [fz_c, fz_n, eE_r]
    rfl
  · rw [fz_n, eE_r]
theorem rv_hd {t : Nat → Int32} {z n c : Nat} {M : Nat → Int64} (h1 : nmE t z M n (c + 1) = 0) (h2 : kdE t z (c + 2) = 0) : fz (hdE t z M n c) = wE t z c 4 := by
  unfold hdE
  rw [fz_0 h1, fz_0 h2]
  simp only [fz_c, fz_n, eE_r]
  show _ = eE (eE (eE (eE (eE (rE3 t z c) (xW t z (c + 9) 4)) (tkN t z (c + 10 + 0) 0 99)) (tkN t z (c + 10 + 1) 0 99)) (tkN t z (c + 10 + 2) 0 99)) (tkN t z (c + 10 + 3) 0 99)
  unfold rE3 rE2 rE1
  simp only [eE_a]
theorem rv_E {t : Nat → Int32} {z n c : Nat} {M : Nat → Int64} (hn : ¬ n = 6) (h1 : nmE t z M n (c + 1) = 0) (h2 : kdE t z (c + 2) = 0) : rvE t z M n c = ofX t z M n (opF t z 6 (nvT t z (c + 6)) (nvT t z (c + 4)) (opH t z 6 0 (opF t z 5 (nvT t z (c + 6)) (nvT t z (c + 4)) (opH t z 5 1 (wE t z c 4) (c + 14)) (c + 14)) (opC t z 5 (c + 14))) (opC t z 5 (c + 14))) (opC t z 6 (opC t z 5 (c + 14))) := by
  unfold rvE
  rw [if_neg hn, fz_app2, fz_app2, fz_app2, rv_hd h1 h2, op_fz, op_fz, of_fz]
theorem rv_n {t : Nat → Int32} {z n c : Nat} {M : Nat → Int64} (hn : ¬ n = 6) (h1 : ¬ nmE t z M n (c + 1) = 0) : rvE t z M n c = nmE t z M n (c + 1) := by
  unfold rvE hdE
  rw [if_neg hn, List.cons_append, List.cons_append, List.cons_append, fz_x h1]
theorem rv_k {t : Nat → Int32} {z n c : Nat} {M : Nat → Int64} (hn : ¬ n = 6) (h1 : nmE t z M n (c + 1) = 0) (h2 : ¬ kdE t z (c + 2) = 0) : rvE t z M n c = kdE t z (c + 2) := by
  unfold rvE hdE
  rw [if_neg hn, List.cons_append, List.cons_append, List.cons_append, fz_0 h1, List.cons_append, List.cons_append, List.cons_append, fz_x h2]
-- the model in the middle of a river's line: K fields are set, the next token is the C-th, the fault e
def RJ (t : Nat → Int32) (z N c n : Nat) (M : Nat → Int64) (K C : Nat) (e : Int) (a0 a : Nat → Nat → Int32) (b : Nat → Nat → Int64) : Prop := MS t z N C e a b ∧ (∀ j, ¬ (117 + 14 * n ≤ j ∧ j < 117 + 14 * n + 14) → a 6 j = a0 6 j) ∧ (e = 0 → ∀ w, w < K → (a 6 (117 + 14 * n + w)).toInt = rvV t z M n c w) ∧ (2 ≤ K → 0 ≤ (a 6 (117 + 14 * n + 1)).toInt ∧ (a 6 (117 + 14 * n + 1)).toInt ≤ 99) ∧ (3 ≤ K → 0 ≤ (a 6 (117 + 14 * n + 2)).toInt ∧ (a 6 (117 + 14 * n + 2)).toInt ≤ 99) ∧ (∀ k, k ≤ n → b 10 k = M k) ∧ (∀ j, j ≠ 7 → j ≠ 8 → a 0 j = a0 0 j)
section RJS
variable {t : Nat → Int32} {z N c n K C : Nat} {M : Nat → Int64} {e : Int} {a0 a a' : Nat → Nat → Int32} {b : Nat → Nat → Int64}
theorem RJ.call {C' : Nat} {e' : Int} (h : RJ t z N c n M K C e a0 a b) (hF : FR [0] a a') (hk : ∀ j, j ≠ 7 → j ≠ 8 → a' 0 j = a 0 j) (hM : MS t z N C' e' a' b) (he : e' = 0 → e = 0) : RJ t z N c n M K C' e' a0 a' b := by
  obtain ⟨-, h2, h3, h4, h5, h6, h7⟩ := h
  have e6 : a' 6 = a 6 := hF 6 (by decide)
  exact ⟨hM, fun j hj => by rw [e6]; exact h2 j hj, fun q w hw => by rw [e6]; exact h3 (he q) w hw, fun q => by rw [e6]; exact h4 q, fun q => by rw [e6]; exact h5 q, h6, fun j j7 j8 => by rw [hk j j7 j8]; exact h7 j j7 j8⟩
theorem RJ.put {i : Nat} {x : Int32} (h : RJ t z N c n M K C e a0 a b) (e1 : a' = mU a 6 i x) (hi : i = 117 + 14 * n + K) (hK : K < 14) (hx : e = 0 → x.toInt = rvV t z M n c K) (hb : K = 1 ∨ K = 2 → 0 ≤ x.toInt ∧ x.toInt ≤ 99) : RJ t z N c n M (K + 1) C e a0 a' b := by
  obtain ⟨h1, h2, h3, h4, h5, h6, h7⟩ := h
  subst hi
  refine ⟨h1.keep (by rw [e1, mU_cell (by decide)]) (by rw [e1, mU_cell (by decide)]) (by rw [e1, mU_cell (by decide)]) (by rw [e1, mU_cell (by decide)]), fun j hj => by rw [e1, mU_slot (by omega)]; exact h2 j hj, fun q w hw => ?_, fun q => ?_, fun q => ?_, h6, fun j j7 j8 => by rw [e1, mU_cell (by decide)]; exact h7 j j7 j8⟩
  · by_cases hw2 : w = K
    · subst hw2
      rw [e1, mU_same]
      exact hx q
    · rw [e1, mU_slot (by omega)]
      exact h3 q w (by omega)
  · by_cases hk : K = 1
    · subst hk
      rw [e1, mU_same]
      exact hb (Or.inl rfl)
    · rw [e1, mU_slot (by omega)]
      exact h4 (by omega)
  · by_cases hk : K = 2
    · subst hk
      rw [e1, mU_same]
      exact hb (Or.inr rfl)
    · rw [e1, mU_slot (by omega)]
      exact h5 (by omega)
theorem RJ.any {K' C' : Nat} (h : RJ t z N c n M K C e a0 a b) (he : ¬ e = 0) (hK : 3 ≤ K) : RJ t z N c n M K' C' e a0 a b := ⟨h.1.any he, h.2.1, fun q => absurd q he, fun _ => h.2.2.2.1 (by omega), fun _ => h.2.2.2.2.1 hK, h.2.2.2.2.2.1, h.2.2.2.2.2.2⟩
theorem RJ.get (h : RJ t z N c n M K C e a0 a b) (he : e = 0) {w i : Nat} (hw : w < K) (hi : i = 117 + 14 * n + w) : (a 6 i).toInt = rvV t z M n c w := by
  subst hi
  exact h.2.2.1 he w hw
theorem RJ.r1 (h : RJ t z N c n M K C e a0 a b) {i : Nat} (hK : 2 ≤ K) (hi : i = 117 + 14 * n + 1) : 0 ≤ (a 6 i).toInt ∧ (a 6 i).toInt ≤ 99 := by
  subst hi
  exact h.2.2.2.1 hK
theorem RJ.r2 (h : RJ t z N c n M K C e a0 a b) {i : Nat} (hK : 3 ≤ K) (hi : i = 117 + 14 * n + 2) : 0 ≤ (a 6 i).toInt ∧ (a 6 i).toInt ≤ 99 := by
  subst hi
  exact h.2.2.2.2.1 hK
end RJS
theorem MS.bb {t : Nat → Int32} {z N c : Nat} {e : Int} {a : Nat → Nat → Int32} {b b' : Nat → Nat → Int64} (h : MS t z N c e a b) (h4 : b' 4 = b 4) (h5 : b' 5 = b 5) : MS t z N c e a b' := by
  obtain ⟨h1, h2, h3⟩ := h
  refine ⟨⟨h1.1, fun m hm => ?_, h1.2.2⟩, fun w hw => by rw [h5]; exact h2 w hw, h3⟩
  rw [h4]
  exact h1.2.1 m hm
theorem rv_wat {t : Nat → Int32} {z n c : Nat} {M : Nat → Int64} : ∀ k, k < 4 → rvV t z M n c (4 + k) = nvT t z (c + 10 + k) := fun k hk => by
  match k, hk with
  | 0, _ => rfl
  | 1, _ => rfl
  | 2, _ => rfl
  | 3, _ => rfl
  | k + 4, h => exact absurd h (by omega)
theorem opH_0 {t : Nat → Int32} {z w d : Nat} {lo0 e : Int} (h : opH t z w lo0 e d = 0) : e = 0 := by
  unfold opH at h
  split at h
  · exact (eE_z h).1
  · exact h
theorem opF_0 {t : Nat → Int32} {z w d : Nat} {lo hi e : Int} (h : opF t z w lo hi e d = 0) : e = 0 := by
  unfold opF at h
  split at h
  · exact (eE_z (eE_z h).1).1
  · exact h
section RJT
variable {t : Nat → Int32} {z N c n K C : Nat} {M : Nat → Int64} {e : Int} {a0 a a' : Nat → Nat → Int32} {b : Nat → Nat → Int64}
-- an optional part: no word, no number
theorem RJ.noH {w d : Nat} {lo0 : Int} (h : RJ t z N c n M K (if tkW t z d w then d + 1 else d) e a0 a b) (hn : ¬ (e = 0 ∧ tkW t z d w)) (hK : 3 ≤ K) : RJ t z N c n M K (opD t z w d) (opH t z w lo0 e d) a0 a b := by
  by_cases hw : tkW t z d w
  · have ne : ¬ e = 0 := fun q => hn ⟨q, hw⟩
    have e1 : opH t z w lo0 e d = e := by
      unfold opH
      rw [if_pos hw, eE_x ne]
    rw [e1]
    exact h.any ne hK
  · have e1 : opH t z w lo0 e d = e := if_neg hw
    have e2 : opD t z w d = d := if_neg hw
    rw [if_neg hw] at h
    rw [e1, e2]
    exact h
theorem RJ.noF {w d : Nat} {lo0 lo hi : Int} (h : RJ t z N c n M K (opD t z w d) (opH t z w lo0 e d) a0 a b) (hn : ¬ (e = 0 ∧ tkW t z d w)) (hK : 3 ≤ K) : RJ t z N c n M K (opC t z w d) (opF t z w lo hi (opH t z w lo0 e d) d) a0 a b := by
  by_cases hw : tkW t z d w
  · have ne : ¬ opH t z w lo0 e d = 0 := fun q => hn ⟨opH_0 q, hw⟩
    have e1 : opF t z w lo hi (opH t z w lo0 e d) d = opH t z w lo0 e d := by
      unfold opF
      rw [if_pos hw, eE_x (e := opH t z w lo0 e d) ne, eE_x ne]
    rw [e1]
    exact h.any ne hK
  · have e1 : opF t z w lo hi (opH t z w lo0 e d) d = opH t z w lo0 e d := if_neg hw
    have e2 : opC t z w d = d := if_neg hw
    have e3 : opD t z w d = d := if_neg hw
    rw [e3] at h
    rw [e1, e2]
    exact h
theorem RJ.noX {d : Nat} {M' : Nat → Int64} {n' : Nat} (h : RJ t z N c n M K (if tkW t z d 8 then d + 1 else d) e a0 a b) (hn : ¬ (e = 0 ∧ tkW t z d 8)) (hK : 3 ≤ K) : RJ t z N c n M K (if tkW t z d 8 then d + 1 else d) (ofX t z M' n' e d) a0 a b := by
  by_cases hw : tkW t z d 8
  · have ne : ¬ e = 0 := fun q => hn ⟨q, hw⟩
    have e1 : ofX t z M' n' e d = e := by
      unfold ofX
      rw [if_pos hw, eE_x ne]
    rw [e1]
    exact h
  · have e1 : ofX t z M' n' e d = e := if_neg hw
    rw [e1]
    exact h
theorem RJ.let9 {i : Nat} {x : Int32} (h : RJ t z N c n M 13 C e a0 a b) (e1 : a' = mU a 6 i x) (hi : i = 117 + 14 * n + 13) : RJ t z N c n M 13 C e a0 a' b := by
  obtain ⟨h1, h2, h3, h4, h5, h6, h7⟩ := h
  subst hi
  exact ⟨h1.keep (by rw [e1, mU_cell (by decide)]) (by rw [e1, mU_cell (by decide)]) (by rw [e1, mU_cell (by decide)]) (by rw [e1, mU_cell (by decide)]), fun j hj => by rw [e1, mU_slot (by omega)]; exact h2 j hj, fun q w hw => by rw [e1, mU_slot (by omega)]; exact h3 q w hw, fun q => by rw [e1, mU_slot (by omega)]; exact h4 q, fun q => by rw [e1, mU_slot (by omega)]; exact h5 q, h6, fun j j7 j8 => by rw [e1, mU_cell (by decide)]; exact h7 j j7 j8⟩
theorem RJ.fin {L : Nat → Int} {M0 : Nat → Int64} {o : Nat → Bool} {x : Int32} (h : RJ t z N c (L 0).toNat (upN M0 (L 0).toNat (lxV fM t z (c + 1))) 13 C e a0 a b) (he : e = 0) (e1 : a' = mU a 6 110 x) (hx : x.toInt = L 0 + 1) (hL : LR L a0) (h0 : 0 ≤ L 0 ∧ L 0 ≤ 5) : LR (rvL t z (c, L, M0, o)) a' := fun j j1 j2 => by
  rw [e1]
  show _ = if j = 0 then L 0 + 1 else if 7 + 14 * (L 0).toNat ≤ j ∧ j < 7 + 14 * (L 0).toNat + 13 then rvV t z (upN M0 (L 0).toNat (lxV fM t z (c + 1))) (L 0).toNat c (j - (7 + 14 * (L 0).toNat)) else L j
  by_cases hj : j = 0
  · subst hj
    rw [mU_same, if_pos rfl, hx]
  · rw [mU_slot (by omega), if_neg hj]
    by_cases hr : 7 + 14 * (L 0).toNat ≤ j ∧ j < 7 + 14 * (L 0).toNat + 13
    · rw [if_pos hr]
      exact h.get he (w := j - (7 + 14 * (L 0).toNat)) (by omega) (by omega)
    · rw [if_neg hr, h.2.1 (110 + j) (by omega)]
      exact hL j j1 j2
end RJT
theorem f_call.tp {mt : Nat → Option f_T} {d0 d m : Nat} {as : List f_V} {h : f_H} {Q : Option f_V → f_H → Prop} (w : f_call mt d0 m as h Q) (hd : d0 ≤ d) : f_pc mt d m as h Q := fun z hz => by
  obtain ⟨z1, h1, h2⟩ := w d hd
  rw [hz] at h1
  cases h1
  exact h2
theorem TKM.cv {t t' : Nat → Int32} {z N : Nat} {a : Nat → Nat → Int32} {b : Nat → Nat → Int64} (h : TKM t z N a b) (e : ∀ j, j < z → t j = t' j) : TKM t' z N a b := by
  have pf : ∀ m, m ≤ N → ∀ j, j < m → lxP t z j < z := fun m hm j hj => lxK_lt ((h.2.1 j (by omega)).2.2.1 (by omega))
  refine ⟨h.1, fun m hm => ?_, ?_⟩
  · obtain ⟨e1, e2, e3⟩ := tok_same e (pf m hm)
    obtain ⟨k1, k2, k3, k4⟩ := h.2.1 m hm
    refine ⟨by rw [← e1]; exact k1, by rw [← e2]; exact k2, fun q => by rw [← e1]; exact k3 q, fun q1 q2 => ?_⟩
    rw [← e1] at q1 q2
    rw [← e3 (by omega)]
    exact k4 q1 q2
  · rw [← (tok_same e (pf N (Nat.le_refl _))).1]
    exact h.2.2
-- at first
abbrev ld0 : LDS := (0, fun _ => 0, fun _ => 0, fun _ => false)
-- what has been read, where there is no fault
def LDD (s : LDS) (a : Nat → Nat → Int32) (b : Nat → Nat → Int64) : Prop := LR s.2.1 a ∧ (0 ≤ s.2.1 0 ∧ s.2.1 0 ≤ 6) ∧ (0 ≤ s.2.1 1 ∧ s.2.1 1 ≤ 4) ∧ (∀ k : Nat, (k : Int) < s.2.1 0 → b 10 k = s.2.2.1 k) ∧ OB s.2.2.2 (a 0 17)
def LDI (t : Nat → Int32) (z N : Nat) (a : Nat → Nat → Int32) (b : Nat → Nat → Int64) : Prop := ∃ (s : LDS) (e : Int), MS t z N s.1 e a b ∧ (e = 0 → LDD s a b ∧ ∀ r, LD t z s r → LD t z ld0 r) ∧ (¬ e = 0 → ∃ s1, LD t z ld0 (e, s1))
def LDJ (t : Nat → Int32) (z N : Nat) (a : Nat → Nat → Int32) (b : Nat → Nat → Int64) : Prop := ∃ (s : LDS) (e : Int), MS t z N s.1 e a b ∧ (e = 0 → LDD s a b ∧ LD t z ld0 (0, s)) ∧ (¬ e = 0 → ∃ s1, LD t z ld0 (e, s1))
theorem LDD.same {s : LDS} {a a' : Nat → Nat → Int32} {b : Nat → Nat → Int64} (h : LDD s a b) (e6 : a' 6 = a 6) (e17 : a' 0 17 = a 0 17) : LDD s a' b := ⟨h.1.same e6, h.2.1, h.2.2.1, h.2.2.2.1, by rw [e17]; exact h.2.2.2.2⟩
theorem LDD.cur {c : Nat} {s : LDS} {a : Nat → Nat → Int32} {b : Nat → Nat → Int64} (h : LDD s a b) : LDD (c, s.2) a b := h
-- behind a line: its sign
theorem LDI.line {t : Nat → Int32} {z N : Nat} {s : LDS} {r : Int × LDS} {a a' : Nat → Nat → Int32} {b : Nat → Nat → Int64} (hk : ¬ lxK t z s.1 = 0) (hs : ∀ q, LD t z s q → LD t z ld0 q) (hl : LNL t z s r) (hd : r.1 = 0 → LDD r.2 a b) (hM : MS t z N (r.2.1 + 1) (eE r.1 (tkG t z r.2.1 59)) a' b) (e6 : a' 6 = a 6) (e17 : a' 0 17 = a 0 17) : LDI t z N a' b := by
  refine ⟨(r.2.1 + 1, r.2.2), eE r.1 (tkG t z r.2.1 59), hM, fun he => ?_, fun he => ?_⟩
  · obtain ⟨q1, q2⟩ := eE_z he
    refine ⟨(hd q1).same e6 e17, fun q hq => hs q (LD.next hk ?_ q2 hq)⟩
    obtain ⟨x, r2⟩ := r
    have q1 : x = 0 := q1
    subst q1
    exact hl
  · obtain ⟨x, r2⟩ := r
    by_cases q1 : x = 0
    · subst q1
      rw [eE_0 rfl] at he ⊢
      exact ⟨r2, hs _ (LD.sign hk hl he)⟩
    · rw [eE_x q1]
      exact ⟨r2, hs _ (LD.bad hk hl q1)⟩
theorem TKM.fr9 {t : Nat → Int32} {z N : Nat} {a a' : Nat → Nat → Int32} {b : Nat → Nat → Int64} (h : TKM t z N a b) (h2 : a' 2 = a 2) (h3 : a' 3 = a 3) : TKM t z N a' b := by
  refine ⟨h.1, fun m hm => ?_, h.2.2⟩
  rw [h2, h3]
  exact h.2.1 m hm
theorem rgL_0 {t : Nat → Int32} {z c : Nat} {L : Nat → Int} : rgL t z L c 0 = L 0 := by
  unfold rgL upI
  rw [if_neg (by decide), if_neg (by omega), if_neg (by omega)]
theorem rvL_1 {t : Nat → Int32} {z : Nat} {s : LDS} : rvL t z s 1 = s.2.1 1 := by
  unfold rvL
  rw [if_neg (by decide), if_neg (by omega)]
