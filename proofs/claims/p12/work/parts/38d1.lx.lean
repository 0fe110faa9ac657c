theorem mV_same {b : Nat → Nat → Int64} {i j : Nat} {x : Int64} : mV b i j x i j = x := by simp [mV, vp_updL]
-- the tokens of a tape: t its signs, n how many there are
def lxL (x : Int32) : Bool := decide (97 ≤ x.toInt ∧ x.toInt ≤ 122)
def lxD (x : Int32) : Bool := decide (48 ≤ x.toInt ∧ x.toInt ≤ 57)
def lxB (x : Int32) : Bool := decide (x.toInt = 10 ∨ x.toInt = 32)
def lxS (x : Int32) : Bool := decide (x.toInt = 40 ∨ x.toInt = 41 ∨ x.toInt = 60 ∨ x.toInt = 61 ∨ x.toInt = 43 ∨ x.toInt = 45 ∨ x.toInt = 42 ∨ x.toInt = 59)
def lxr (p : Int32 → Bool) (t : Nat → Int32) : Nat → Nat → Nat
  | 0, k => k
  | f + 1, k => if p (t k) = true then lxr p t f (k + 1) else k
theorem lxr_ge {p : Int32 → Bool} {t : Nat → Int32} : ∀ f k : Nat, k ≤ lxr p t f k
  | 0, _ => Nat.le_refl _
  | f + 1, k => by
    unfold lxr
    split
    · have := lxr_ge (p := p) (t := t) f (k + 1)
      omega
    · omega
theorem lxr_le {p : Int32 → Bool} {t : Nat → Int32} : ∀ f k : Nat, lxr p t f k ≤ k + f
  | 0, _ => Nat.le_refl _
  | f + 1, k => by
    unfold lxr
    split
    · have := lxr_le (p := p) (t := t) f (k + 1)
      omega
    · omega
theorem lxr_all {p : Int32 → Bool} {t : Nat → Int32} : ∀ f k j : Nat, k ≤ j → j < lxr p t f k → p (t j) = true
  | 0, k, j, h1, h2 => by
    unfold lxr at h2
    omega
  | f + 1, k, j, h1, h2 => by
    unfold lxr at h2
    split at h2
    · rename_i hp
      rcases Nat.lt_or_ge k j with h | h
      · exact lxr_all f (k + 1) j h h2
      · have e : j = k := by omega
        rw [e]
        exact hp
    · omega
theorem lxr_same {p : Int32 → Bool} {t t' : Nat → Int32} : ∀ f k : Nat, (∀ j, j < k + f → t j = t' j) → lxr p t f k = lxr p t' f k
  | 0, _, _ => rfl
  | f + 1, k, h => by
    unfold lxr
    rw [h k (by omega), lxr_same f (k + 1) (fun j hj => h j (by omega))]
def lxq (p : Int32 → Bool) (t : Nat → Int32) (n k : Nat) : Nat := lxr p t (n - k) k
theorem lxq_step {p : Int32 → Bool} {t : Nat → Int32} {n k : Nat} (h : k < n) (hp : p (t k) = true) : lxq p t n k = lxq p t n (k + 1) := by
  unfold lxq
  obtain ⟨f, hf⟩ : ∃ f, n - k = f + 1 := ⟨n - k - 1, by omega⟩
  rw [hf, show n - (k + 1) = f by omega]
  conv => lhs; unfold lxr
  rw [if_pos hp]
theorem lxq_stop {p : Int32 → Bool} {t : Nat → Int32} {n k : Nat} (hp : p (t k) = false) : lxq p t n k = k := by
  unfold lxq
  cases n - k with
  | zero => rfl
  | succ f =>
    unfold lxr
    rw [if_neg (by rw [hp]; decide)]
theorem lxq_end {p : Int32 → Bool} {t : Nat → Int32} {n k : Nat} (h : n ≤ k) : lxq p t n k = k := by
  unfold lxq
  rw [show n - k = 0 by omega]
  rfl
theorem lxq_ge {p : Int32 → Bool} {t : Nat → Int32} {n k : Nat} : k ≤ lxq p t n k := lxr_ge _ _
theorem lxq_le {p : Int32 → Bool} {t : Nat → Int32} {n k : Nat} (h : k ≤ n) : lxq p t n k ≤ n := by
  have := lxr_le (p := p) (t := t) (n - k) k
  unfold lxq
  omega
theorem lxq_same {p : Int32 → Bool} {t t' : Nat → Int32} {n k : Nat} (hk : k ≤ n) (h : ∀ j, j < n → t j = t' j) : lxq p t n k = lxq p t' n k := lxr_same _ _ (fun j hj => h j (by omega))
-- where the token that begins at k ends
def lxe (t : Nat → Int32) (n k : Nat) : Nat := if lxL (t k) = true then lxq lxL t n k else if lxD (t k) = true then lxq lxD t n k else k + 1
theorem lxe_gt {t : Nat → Int32} {n k : Nat} (h : k < n) : k < lxe t n k ∧ lxe t n k ≤ n := by
  unfold lxe
  split
  · rename_i hp
    rw [lxq_step h hp]
    have h1 := lxq_ge (p := lxL) (t := t) (n := n) (k := k + 1)
    have h2 := lxq_le (p := lxL) (t := t) (n := n) (k := k + 1) (by omega)
    omega
  · split
    · rename_i hp
      rw [lxq_step h hp]
      have h1 := lxq_ge (p := lxD) (t := t) (n := n) (k := k + 1)
      have h2 := lxq_le (p := lxD) (t := t) (n := n) (k := k + 1) (by omega)
      omega
    · omega
-- where the i-th token begins (n: behind the last one)
def lxP (t : Nat → Int32) (n : Nat) : Nat → Nat
  | 0 => lxq lxB t n 0
  | i + 1 => lxq lxB t n (lxe t n (lxP t n i))
theorem lxP_succ {t : Nat → Int32} {n i : Nat} : lxP t n (i + 1) = lxq lxB t n (lxe t n (lxP t n i)) := rfl
-- what the token at s is: 1 a word, 2 a number, 3 a sign, 4 none; the i-th one: 0 the end
def lxT (t : Nat → Int32) (n s : Nat) : Nat := if lxL (t s) = true then (if lxe t n s - s ≤ 8 then 1 else 4) else if lxD (t s) = true then (if lxe t n s - s ≤ 4 then 2 else 4) else if lxS (t s) = true then 3 else 4
def lxK (t : Nat → Int32) (n i : Nat) : Nat := if lxP t n i < n then lxT t n (lxP t n i) else 0
theorem lxT_le {t : Nat → Int32} {n s : Nat} : 1 ≤ lxT t n s ∧ lxT t n s ≤ 4 := by
  unfold lxT
  repeat' split
  all_goals decide
-- a value out of the signs of a token
def lxv (f : Int64 → Int32 → Int64) (t : Nat → Int32) : Nat → Nat → Int64 → Int64
  | 0, _, v => v
  | m + 1, k, v => lxv f t m (k + 1) (f v (t k))
theorem lxv_succ {f : Int64 → Int32 → Int64} {t : Nat → Int32} : ∀ (m k : Nat) (v : Int64), lxv f t (m + 1) k v = f (lxv f t m k v) (t (k + m))
  | 0, k, v => rfl
  | m + 1, k, v => by
    show lxv f t (m + 1) (k + 1) (f v (t k)) = f (lxv f t m (k + 1) (f v (t k))) (t (k + (m + 1)))
    rw [lxv_succ m (k + 1) (f v (t k)), show k + 1 + m = k + (m + 1) by omega]
theorem lxv_same {f : Int64 → Int32 → Int64} {t t' : Nat → Int32} : ∀ (m k : Nat) (v : Int64), (∀ j, j < k + m → t j = t' j) → lxv f t m k v = lxv f t' m k v
  | 0, _, _, _ => rfl
  | m + 1, k, v, h => by
    show lxv f t m (k + 1) (f v (t k)) = lxv f t' m (k + 1) (f v (t' k))
    rw [h k (by omega)]
    exact lxv_same m (k + 1) _ (fun j hj => h j (by omega))
theorem lxe_same {t t' : Nat → Int32} {n k : Nat} (hk : k < n) (h : ∀ j, j < n → t j = t' j) : lxe t n k = lxe t' n k := by
  unfold lxe
  rw [h k hk, lxq_same (p := lxL) (by omega) h, lxq_same (p := lxD) (by omega) h]
theorem lxP_same {t t' : Nat → Int32} {n : Nat} (h : ∀ j, j < n → t j = t' j) : ∀ i : Nat, (∀ j, j < i → lxP t n j < n) → lxP t n i = lxP t' n i
  | 0, _ => lxq_same (Nat.zero_le _) h
  | i + 1, hi => by
    have e := lxP_same h i (fun j hj => hi j (by omega))
    have h1 := hi i (by omega)
    have h2 := (lxe_gt (t := t) h1).2
    rw [lxP_succ, lxP_succ, ← e, ← lxe_same h1 h, lxq_same h2 h]
-- what a token is worth: words by 37 (the model) or 32 (the class), numbers by 10
def fM (v : Int64) (x : Int32) : Int64 := Int64.ofInt 37 * v + Int64.ofInt (x.toInt - 96)
def fC (v : Int64) (x : Int32) : Int64 := Int64.ofInt 32 * v + Int64.ofInt (x.toInt - 96)
def fD (v : Int64) (x : Int32) : Int64 := Int64.ofInt 10 * v + Int64.ofInt (x.toInt - 48)
def lxU (f : Int64 → Int32 → Int64) (t : Nat → Int32) (n s : Nat) : Int64 := if lxL (t s) = true then lxv f t (lxe t n s - s) s 0 else if lxD (t s) = true then lxv fD t (lxe t n s - s) s 0 else Int64.ofInt (t s).toInt
def lxV (f : Int64 → Int32 → Int64) (t : Nat → Int32) (n i : Nat) : Int64 := lxU f t n (lxP t n i)
-- the ranks of its letters, the last one first
def rk (t : Nat → Int32) (s : Nat) : Nat → List Nat
  | 0 => []
  | m + 1 => ((t (s + m)).toInt - 96).toNat :: rk t s m
def nvr (B : Nat) : List Nat → Nat
  | [] => 0
  | r :: l => r + B * nvr B l
def rkok (l : List Nat) : Prop := ∀ r ∈ l, 1 ≤ r ∧ r ≤ 26
theorem nvr_inj {B : Nat} (hB : B = 37 ∨ B = 32) : ∀ l l' : List Nat, rkok l → rkok l' → nvr B l = nvr B l' → l = l'
  | [], [], _, _, _ => rfl
  | [], r :: l, _, h, e => by
    have h1 := h r List.mem_cons_self
    have e : 0 = r + B * nvr B l := e
    omega
  | r :: l, [], h, _, e => by
    have h1 := h r List.mem_cons_self
    have e : r + B * nvr B l = 0 := e
    omega
  | r :: l, q :: m, h, h', e => by
    have h1 := h r List.mem_cons_self
    have h2 := h' q List.mem_cons_self
    have e : r + B * nvr B l = q + B * nvr B m := e
    have e2 : r = q ∧ nvr B l = nvr B m := by
      rcases hB with rfl | rfl <;> omega
    rw [e2.1, nvr_inj hB l m (fun x hx => h x (List.mem_cons_of_mem _ hx)) (fun x hx => h' x (List.mem_cons_of_mem _ hx)) e2.2]
theorem nvr_lt {B : Nat} (hB : B = 37 ∨ B = 32) : ∀ l : List Nat, rkok l → nvr B l < 37 ^ l.length
  | [], _ => by
    show 0 < 37 ^ 0
    decide
  | r :: l, h => by
    have h1 := h r List.mem_cons_self
    have h2 := nvr_lt hB l (fun x hx => h x (List.mem_cons_of_mem _ hx))
    show r + B * nvr B l < 37 ^ (l.length + 1)
    rw [Nat.pow_succ]
    rcases hB with rfl | rfl <;> omega
theorem nvr_lt8 {B : Nat} (hB : B = 37 ∨ B = 32) {l : List Nat} (h : rkok l) (h8 : l.length ≤ 8) : nvr B l < 3512479453921 + 1 := by
  have h1 := nvr_lt hB l h
  have h2 : 37 ^ l.length ≤ 37 ^ 8 := Nat.pow_le_pow_right (by decide) h8
  have h3 : 37 ^ 8 = 3512479453921 := by decide
  omega
theorem rk_len {t : Nat → Int32} {s : Nat} : ∀ m, (rk t s m).length = m
  | 0 => rfl
  | m + 1 => by
    show (rk t s m).length + 1 = m + 1
    rw [rk_len m]
theorem lxL_iff {x : Int32} : lxL x = true ↔ 97 ≤ x.toInt ∧ x.toInt ≤ 122 := by
  unfold lxL
  exact decide_eq_true_iff
theorem lxD_iff {x : Int32} : lxD x = true ↔ 48 ≤ x.toInt ∧ x.toInt ≤ 57 := by
  unfold lxD
  exact decide_eq_true_iff
theorem lxB_iff {x : Int32} : lxB x = true ↔ x.toInt = 10 ∨ x.toInt = 32 := by
  unfold lxB
  exact decide_eq_true_iff
theorem lxS_iff {x : Int32} : lxS x = true ↔ x.toInt = 40 ∨ x.toInt = 41 ∨ x.toInt = 60 ∨ x.toInt = 61 ∨ x.toInt = 43 ∨ x.toInt = 45 ∨ x.toInt = 42 ∨ x.toInt = 59 := by
  unfold lxS
  exact decide_eq_true_iff
theorem rk_ok {t : Nat → Int32} {s : Nat} : ∀ m, (∀ j, s ≤ j → j < s + m → lxL (t j) = true) → rkok (rk t s m)
  | 0, _ => fun _ h => nomatch h
  | m + 1, h => fun r hr => by
    rcases List.mem_cons.mp hr with e | hr
    · have h1 := lxL_iff.mp (h (s + m) (by omega) (by omega))
      rw [e]
      omega
    · exact rk_ok m (fun j h1 h2 => h j h1 (by omega)) r hr
theorem lxv_nvr {t : Nat → Int32} {B : Nat} {f : Int64 → Int32 → Int64} (hf : ∀ (v : Int64) (x : Int32), f v x = Int64.ofInt B * v + Int64.ofInt (x.toInt - 96)) {s : Nat} : ∀ m, (∀ j, s ≤ j → j < s + m → lxL (t j) = true) → lxv f t m s 0 = Int64.ofInt (nvr B (rk t s m) : Nat)
  | 0, _ => rfl
  | m + 1, h => by
    have h1 := lxL_iff.mp (h (s + m) (by omega) (by omega))
    have e : ((nvr B (rk t s (m + 1)) : Nat) : Int) = (B : Int) * (nvr B (rk t s m) : Nat) + ((t (s + m)).toInt - 96) := by
      show (((((t (s + m)).toInt - 96).toNat + B * nvr B (rk t s m) : Nat)) : Int) = _
      rw [Int.natCast_add, Int.natCast_mul]
      omega
    rw [lxv_succ, hf, lxv_nvr hf m (fun j h2 h3 => h j h2 (by omega)), e, Int64.ofInt_add, Int64.ofInt_mul]
theorem i64_inj {x y : Int} (hx : 0 ≤ x ∧ x < 4000000000000) (hy : 0 ≤ y ∧ y < 4000000000000) (e : Int64.ofInt x = Int64.ofInt y) : x = y := by
  have h := congrArg Int64.toInt e
  rw [Int64.toInt_ofInt_of_le (by omega) (by omega), Int64.toInt_ofInt_of_le (by omega) (by omega)] at h
  exact h
-- a word, by both
theorem lxU_word {t : Nat → Int32} {n s : Nat} (hp : s < n) (hk : lxT t n s = 1) : ∃ l : List Nat, rkok l ∧ l.length ≤ 8 ∧ lxU fM t n s = Int64.ofInt (nvr 37 l : Nat) ∧ lxU fC t n s = Int64.ofInt (nvr 32 l : Nat) := by
  unfold lxT at hk
  split at hk
  · rename_i hL
    split at hk
    · rename_i h8
      have hge := lxe_gt (t := t) hp
      have hal : ∀ j, s ≤ j → j < s + (lxe t n s - s) → lxL (t j) = true := fun j h1 h2 => by
        have e : lxe t n s = lxr lxL t (n - s) s := by
          unfold lxe
          rw [if_pos hL]
          rfl
        exact lxr_all _ _ j h1 (by rw [← e]; omega)
      refine ⟨rk t s (lxe t n s - s), rk_ok _ hal, by rw [rk_len]; exact h8, ?_, ?_⟩
      · unfold lxU
        rw [if_pos hL]
        exact lxv_nvr (B := 37) (fun _ _ => rfl) _ hal
      · unfold lxU
        rw [if_pos hL]
        exact lxv_nvr (B := 32) (fun _ _ => rfl) _ hal
    · cases hk
  · split at hk
    · split at hk <;> cases hk
    · split at hk <;> cases hk
theorem lxV_word {t : Nat → Int32} {n i : Nat} (hk : lxK t n i = 1) : ∃ l : List Nat, rkok l ∧ l.length ≤ 8 ∧ lxV fM t n i = Int64.ofInt (nvr 37 l : Nat) ∧ lxV fC t n i = Int64.ofInt (nvr 32 l : Nat) := by
  unfold lxK at hk
  split at hk
  · rename_i hp
    exact lxU_word hp hk
  · cases hk
theorem nvr_both {l l' : List Nat} (h : rkok l) (h8 : l.length ≤ 8) (h' : rkok l') (h8' : l'.length ≤ 8) : Int64.ofInt (nvr 37 l : Nat) = Int64.ofInt (nvr 37 l' : Nat) ↔ Int64.ofInt (nvr 32 l : Nat) = Int64.ofInt (nvr 32 l' : Nat) := by
  have a1 := nvr_lt8 (B := 37) (Or.inl rfl) h h8
  have a2 := nvr_lt8 (B := 37) (Or.inl rfl) h' h8'
  have a3 := nvr_lt8 (B := 32) (Or.inr rfl) h h8
  have a4 := nvr_lt8 (B := 32) (Or.inr rfl) h' h8'
  constructor
  · intro e
    have e1 := i64_inj ⟨by omega, by omega⟩ ⟨by omega, by omega⟩ e
    rw [nvr_inj (B := 37) (Or.inl rfl) l l' h h' (by omega)]
  · intro e
    have e1 := i64_inj ⟨by omega, by omega⟩ ⟨by omega, by omega⟩ e
    rw [nvr_inj (B := 32) (Or.inr rfl) l l' h h' (by omega)]
-- two words are alike by both or by none
theorem lxV_same {t t' : Nat → Int32} {n n' i i' : Nat} (hk : lxK t n i = 1) (hk' : lxK t' n' i' = 1) : lxV fM t n i = lxV fM t' n' i' ↔ lxV fC t n i = lxV fC t' n' i' := by
  obtain ⟨l, h1, h2, h3, h4⟩ := lxV_word hk
  obtain ⟨l', g1, g2, g3, g4⟩ := lxV_word hk'
  rw [h3, h4, g3, g4]
  exact nvr_both h1 h2 g1 g2
-- the words that are told ahead: their letters, the last one first; what both hold of them
def wLt : List (List Nat) := [[18, 5, 22, 9, 18], [13, 15, 18, 6], [15, 20], [5, 3, 1, 12, 16], [18, 5, 20, 1, 23], [12, 12, 9, 13], [14, 23, 15, 20], [20, 1], [6, 15], [5, 7, 14, 1, 18], [11, 3, 9, 8, 20], [14, 9, 11], [13, 18, 15, 20, 19], [25, 2], [25, 18, 23, 15, 4], [20, 12, 9, 19], [4, 5, 23], [20, 18, 1, 16], [14, 15, 19, 1, 5, 19], [18, 9, 5, 8], [20, 15, 14], [4, 14, 1], [18, 15], [11, 15, 15, 18, 2], [4, 21, 15, 18, 16], [18, 1, 5, 12, 3], [20, 12, 1, 19], [23, 15, 12, 6], [12, 12, 1, 6], [18, 1, 5, 14], [7, 9, 4]]
def wMd : List Int64 := [34221096, 329128, 755, 30595897, 43183939, 671266, 1034460, 57, 561, 33804981, 37900887, 15406, 36643333, 99, 8288617, 975192, 31676, 812503, 1326983221, 412420, 19741, 1891, 573, 4681177, 30919646, 6237219, 964240, 320924, 305743, 716042, 5816]
theorem wLt_ok : ∀ w, w < 31 → rkok (wLt.getD w []) ∧ (wLt.getD w []).length ≤ 8 ∧ wMd.getD w 0 = Int64.ofInt (nvr 37 (wLt.getD w []) : Nat) ∧ wKey.getD w 0 = Int64.ofInt (nvr 32 (wLt.getD w []) : Nat) := by
  unfold rkok
  decide +kernel
-- a word of those (by the class's numbers) is the same to both
theorem lx_word {t : Nat → Int32} {n i w : Nat} (hk : lxK t n i = 1) (hw : w < 31) : lxV fM t n i = wMd.getD w 0 ↔ lxV fC t n i = wKey.getD w 0 := by
  obtain ⟨l, h1, h2, h3, h4⟩ := lxV_word hk
  obtain ⟨g1, g2, g3, g4⟩ := wLt_ok w hw
  rw [h3, h4, g3, g4]
  exact nvr_both h1 h2 g1 g2
theorem mV_slot {b : Nat → Nat → Int64} {i j k : Nat} {x : Int64} (h : k ≠ j) : mV b i j x i k = b i k := by simp [mV, vp_updL, h]
theorem mV_cell {b : Nat → Nat → Int64} {i j c : Nat} {x : Int64} (h : c ≠ i) : mV b i j x c = b c := by simp [mV, h]
theorem lxq_next {p : Int32 → Bool} {t : Nat → Int32} {n k k' : Nat} (h : k < n) (hp : p (t k) = true) (e : k' = k + 1) : lxq p t n k = lxq p t n k' := by
  subst e
  exact lxq_step h hp
-- the model's cutting: n tokens are cut, the next sign is the i-th
def LXM (t : Nat → Int32) (z n i : Nat) (a : Nat → Nat → Int32) (b : Nat → Nat → Int64) : Prop := n ≤ i ∧ i ≤ z ∧ lxP t z n = lxq lxB t z i ∧ ∀ m, m < n → lxP t z m < z ∧ (a 2 m).toInt = (lxK t z m : Nat) ∧ (a 3 m).toInt = (lxP t z m : Nat) ∧ (lxK t z m < 4 → b 4 m = lxV fM t z m)
theorem LXM.init {t : Nat → Int32} {z : Nat} {a : Nat → Nat → Int32} {b : Nat → Nat → Int64} : LXM t z 0 0 a b := ⟨Nat.le_refl _, Nat.zero_le _, rfl, fun m h => absurd h (by omega)⟩
theorem LXM.blank {t : Nat → Int32} {z n i i' : Nat} {a : Nat → Nat → Int32} {b : Nat → Nat → Int64} (h : LXM t z n i a b) (hi : i < z) (hb : lxB (t i) = true) (e : i' = i + 1) : LXM t z n i' a b := by
  subst e
  exact ⟨by have := h.1; omega, by omega, h.2.2.1.trans (lxq_step hi hb), h.2.2.2⟩
theorem LXM.tok {t : Nat → Int32} {z n i i' n' : Nat} {a a1 a2 : Nat → Nat → Int32} {b b1 : Nat → Nat → Int64} {iv kv : Int32} {v : Int64} (h : LXM t z n i a b) (hi : i < z) (hb : ¬ lxB (t i) = true) (he : lxe t z i = i') (hn : n' = n + 1) (e1 : a1 = mU a 3 n iv) (e2 : a2 = mU a1 2 n kv) (e3 : b1 = mV b 4 n v) (hiv : iv.toInt = (i : Nat)) (hk : kv.toInt = (lxT t z i : Nat)) (hv : lxT t z i < 4 → v = lxU fM t z i) : LXM t z n' i' a2 b1 := by
  subst hn
  have hge := lxe_gt (t := t) hi
  have hP : lxP t z n = i := h.2.2.1.trans (lxq_stop (by cases hx : lxB (t i) with | true => exact absurd hx hb | false => rfl))
  refine ⟨by have := h.1; omega, by omega, by rw [lxP_succ, hP, he], fun m hm => ?_⟩
  rcases Nat.lt_or_ge m n with h9 | h9
  · obtain ⟨g1, g2, g3, g4⟩ := h.2.2.2 m h9
    refine ⟨g1, ?_, ?_, fun hx => ?_⟩
    · rw [e2, mU_slot (by omega), e1, mU_cell (by decide)]
      exact g2
    · rw [e2, mU_cell (by decide), e1, mU_slot (by omega)]
      exact g3
    · rw [e3, mV_slot (by omega)]
      exact g4 hx
  · have e9 : m = n := by omega
    subst e9
    have hK : lxK t z m = lxT t z i := by
      unfold lxK
      rw [hP, if_pos hi]
    refine ⟨by omega, ?_, ?_, fun hx => ?_⟩
    · rw [e2, mU_same, hK]
      exact hk
    · rw [e2, mU_cell (by decide), e1, mU_same, hP]
      exact hiv
    · rw [e3, mV_same]
      unfold lxV
      rw [hP]
      exact hv (by rw [← hK]; exact hx)
-- what stands behind the cutting
def TKM (t : Nat → Int32) (z N : Nat) (a : Nat → Nat → Int32) (b : Nat → Nat → Int64) : Prop := N ≤ z ∧ (∀ m, m ≤ N → (a 2 m).toInt = (lxK t z m : Nat) ∧ (a 3 m).toInt = (lxP t z m : Nat) ∧ (m < N → 1 ≤ lxK t z m) ∧ (lxK t z m < 4 → 0 < lxK t z m → b 4 m = lxV fM t z m)) ∧ lxK t z N = 0
theorem LXM.done {t : Nat → Int32} {z n i : Nat} {a a1 a2 : Nat → Nat → Int32} {b : Nat → Nat → Int64} {kv pv : Int32} (h : LXM t z n i a b) (hi : z ≤ i) (e1 : a1 = mU a 2 n kv) (e2 : a2 = mU a1 3 n pv) (hk : kv.toInt = 0) (hp : pv.toInt = (z : Nat)) : TKM t z n a2 b := by
  have hP : lxP t z n = z := by
    have h1 := h.2.1
    have e : i = z := by omega
    rw [h.2.2.1, e]
    exact lxq_end (Nat.le_refl _)
  have hK : lxK t z n = 0 := by
    unfold lxK
    rw [if_neg (by omega)]
  refine ⟨by have := h.1; have := h.2.1; omega, fun m hm => ?_, hK⟩
  rcases Nat.lt_or_ge m n with h9 | h9
  · obtain ⟨g1, g2, g3, g4⟩ := h.2.2.2 m h9
    have hK1 : lxK t z m = lxT t z (lxP t z m) := by
      unfold lxK
      rw [if_pos g1]
    have hT := lxT_le (t := t) (n := z) (s := lxP t z m)
    refine ⟨?_, ?_, fun _ => by omega, fun hx _ => g4 hx⟩
    · rw [e2, mU_cell (by decide), e1, mU_slot (by omega)]
      exact g2
    · rw [e2, mU_slot (by omega), e1, mU_cell (by decide)]
      exact g3
  · have e9 : m = n := by omega
    subst e9
    refine ⟨?_, ?_, fun h => absurd h (by omega), fun _ h => absurd h (by omega)⟩
    · rw [e2, mU_cell (by decide), e1, mU_same, hK]
      exact hk
    · rw [e2, mU_same, hP]
      exact hp
-- one token of either kind
theorem lx_let {t : Nat → Int32} {z i i1 : Nat} (hL : lxL (t i) = true) (hq : lxq lxL t z i = lxq lxL t z i1) (hx : z ≤ i1 ∨ ¬ lxL (t i1) = true) : lxe t z i = i1 := by
  unfold lxe
  rw [if_pos hL, hq]
  rcases hx with h | h
  · exact lxq_end h
  · exact lxq_stop (by cases hx : lxL (t i1) with | true => exact absurd hx h | false => rfl)
theorem lx_dig {t : Nat → Int32} {z i i1 : Nat} (hL : ¬ lxL (t i) = true) (hD : lxD (t i) = true) (hq : lxq lxD t z i = lxq lxD t z i1) (hx : z ≤ i1 ∨ ¬ lxD (t i1) = true) : lxe t z i = i1 := by
  unfold lxe
  rw [if_neg hL, if_pos hD, hq]
  rcases hx with h | h
  · exact lxq_end h
  · exact lxq_stop (by cases hx : lxD (t i1) with | true => exact absurd hx h | false => rfl)
theorem lx_one {t : Nat → Int32} {z i : Nat} (hL : ¬ lxL (t i) = true) (hD : ¬ lxD (t i) = true) : lxe t z i = i + 1 := by
  unfold lxe
  rw [if_neg hL, if_neg hD]
theorem lxT_let {t : Nat → Int32} {z i : Nat} (hL : lxL (t i) = true) : lxT t z i = if lxe t z i - i ≤ 8 then 1 else 4 := by
  unfold lxT
  rw [if_pos hL]
theorem lxT_dig {t : Nat → Int32} {z i : Nat} (hL : ¬ lxL (t i) = true) (hD : lxD (t i) = true) : lxT t z i = if lxe t z i - i ≤ 4 then 2 else 4 := by
  unfold lxT
  rw [if_neg hL, if_pos hD]
theorem lxT_one {t : Nat → Int32} {z i : Nat} (hL : ¬ lxL (t i) = true) (hD : ¬ lxD (t i) = true) : lxT t z i = if lxS (t i) = true then 3 else 4 := by
  unfold lxT
  rw [if_neg hL, if_neg hD]
theorem lxU_let {f : Int64 → Int32 → Int64} {t : Nat → Int32} {z i : Nat} (hL : lxL (t i) = true) : lxU f t z i = lxv f t (lxe t z i - i) i 0 := by
  unfold lxU
  rw [if_pos hL]
theorem lxU_dig {f : Int64 → Int32 → Int64} {t : Nat → Int32} {z i : Nat} (hL : ¬ lxL (t i) = true) (hD : lxD (t i) = true) : lxU f t z i = lxv fD t (lxe t z i - i) i 0 := by
  unfold lxU
  rw [if_neg hL, if_pos hD]
theorem lxU_one {f : Int64 → Int32 → Int64} {t : Nat → Int32} {z i : Nat} (hL : ¬ lxL (t i) = true) (hD : ¬ lxD (t i) = true) : lxU f t z i = Int64.ofInt (t i).toInt := by
  unfold lxU
  rw [if_neg hL, if_neg hD]
theorem i64_of {y : Int64} {x : Int} (h : y.toInt = x) : y = Int64.ofInt x := by rw [← h, Int64.ofInt_toInt]
-- a tape as a list
def TL (t : Nat → Int32) (n : Nat) : List Int32 := (List.range n).map t
theorem TL_len {t : Nat → Int32} {n : Nat} : (TL t n).length = n := by
  unfold TL
  rw [List.length_map, List.length_range]
theorem TL_succ {t : Nat → Int32} {n : Nat} : TL t (n + 1) = TL t n ++ [t n] := by
  unfold TL
  rw [List.range_succ, List.map_append]
  rfl
theorem TL_same {t t' : Nat → Int32} {n : Nat} (h : ∀ j, j < n → t j = t' j) : TL t n = TL t' n := by
  unfold TL
  exact List.map_congr_left (fun j hj => h j (List.mem_range.mp hj))
theorem TL_get {t t' : Nat → Int32} {n n' : Nat} (h : TL t n = TL t' n') : n = n' ∧ ∀ j, j < n → t j = t' j := by
  have e : n = n' := by
    have h1 := congrArg List.length h
    rw [TL_len, TL_len] at h1
    exact h1
  subst e
  refine ⟨rfl, fun j hj => ?_⟩
  have h1 := congrArg (fun l => l[j]?) h
  unfold TL at h1
  simp only [List.getElem?_map, List.getElem?_range hj, Option.map_some, Option.some.injEq] at h1
  exact h1
def fP (c : Int32) : Prop := c.toInt = 10 ∨ (32 ≤ c.toInt ∧ c.toInt ≤ 126)
def fT (l : List Int32) (c : Int32) : List Int32 := if (c.toInt = 10 ∨ (32 ≤ c.toInt ∧ c.toInt ≤ 126)) ∧ l.length < 1000 then l ++ [c] else l
theorem fT_ok {l : List Int32} {c : Int32} (h : ∀ x ∈ l, fP x) : ∀ x ∈ fT l c, fP x := by
  unfold fT
  split
  · rename_i h1
    intro x hx
    rcases List.mem_append.mp hx with h2 | h2
    · exact h x h2
    · rw [List.mem_singleton.mp h2]
      exact h1.1
  · exact h
theorem fT_put {a a1 a2 : Nat → Nat → Int32} {i co jo : Nat} {c z : Int32} (e1 : a1 = mU a i (a co jo).toInt.toNat c) (e2 : a2 = mU a1 co jo z) (hi : i ≠ co) (hz : z.toInt = (a co jo).toInt + 1) (h0 : 0 ≤ (a co jo).toInt ∧ (a co jo).toInt < 1000) (hp : c.toInt = 10 ∨ (32 ≤ c.toInt ∧ c.toInt ≤ 126)) : TL (a2 i) (a2 co jo).toInt.toNat = fT (TL (a i) (a co jo).toInt.toNat) c := by
  unfold fT
  rw [if_pos ⟨hp, by rw [TL_len]; omega⟩, e2, mU_cell hi, mU_same, show z.toInt.toNat = (a co jo).toInt.toNat + 1 by omega, TL_succ, e1, mU_same, TL_same (t' := a i) (fun k hk => mU_slot (by omega))]
theorem fT_skip {l : List Int32} {c : Int32} {n : Int} (hn : (l.length : Int) = n) (h : ¬ ((c.toInt = 10 ∨ (32 ≤ c.toInt ∧ c.toInt ≤ 126)) ∧ n < 1000)) : l = fT l c := by
  unfold fT
  rw [if_neg (by omega)]
def gMl (x : Int64) (l : List Int32) : Nat → List Int32
  | 0 => l
  | m + 1 => fT (gMl x l m) (byM x (Int32.ofNat (56 - 8 * m)))
theorem gMl_s {x : Int64} {l : List Int32} {m : Nat} {s : Int32} (h : s.toInt = 56 - 8 * m) (h0 : 0 ≤ s.toInt) : gMl x l (m + 1) = fT (gMl x l m) (byM x s) := by
  have e : Int32.ofNat (56 - 8 * m) = s := Int32.toInt_inj.mp (by rw [Int32.toInt_ofNat_of_lt (by omega)]; omega)
  show fT (gMl x l m) (byM x (Int32.ofNat (56 - 8 * m))) = _
  rw [e]
theorem gMl_ok {x : Int64} {l : List Int32} (h : ∀ y ∈ l, fP y) : ∀ m, ∀ y ∈ gMl x l m, fP y
  | 0 => h
  | m + 1 => fT_ok (gMl_ok h m)
theorem TKM.up {t : Nat → Int32} {z N j : Nat} {a a' : Nat → Nat → Int32} {b : Nat → Nat → Int64} {x : Int32} (h : TKM t z N a b) (e : a' = mU a 0 j x) : TKM t z N a' b := by
  refine ⟨h.1, fun m hm => ?_, h.2.2⟩
  rw [e, mU_cell (by decide), mU_cell (by decide)]
  exact h.2.1 m hm
theorem fM_step {v y1 y2 y3 : Int64} {x r : Int32} (h1 : y1 = 37 * v) (hr : r.toInt = x.toInt - 96) (h2 : y2 = r.toInt64) (h3 : y3 = y1 + y2) : y3 = fM v x := by
  rw [h3, h1, i64_of (i2l_ti h2), hr]
  rfl
theorem fD_step {v y1 y2 y3 y4 : Int64} {x : Int32} (h1 : y1 = 10 * v) (h2 : y2 = x.toInt64) (h3 : y3 = y1 + y2) (h4 : y4 = y3 - 48) : y4 = fD v x := by
  rw [h4, h3, h1, i64_of (i2l_ti h2)]
  unfold fD
  rw [Int64.ofInt_sub, Int64.sub_eq_add_neg, Int64.sub_eq_add_neg, Int64.add_assoc]
  rfl
