-- the model's state: ints a, longs b; its references never change
abbrev mH (a : Nat → Nat → Int32) (b : Nat → Nat → Int64) : f_H := (a, b, rM)
def mU (a : Nat → Nat → Int32) (i j : Nat) (x : Int32) : Nat → Nat → Int32 := fun c => if c = i then upd (a i) j x else a c
def mV (b : Nat → Nat → Int64) (i j : Nat) (x : Int64) : Nat → Nat → Int64 := fun c => if c = i then vp_updL (b i) j x else b c
theorem mU_same {a : Nat → Nat → Int32} {i j : Nat} {x : Int32} : mU a i j x i j = x := by simp [mU, upd]
theorem mU_cell {a : Nat → Nat → Int32} {i j c : Nat} {x : Int32} (h : c ≠ i) : mU a i j x c = a c := by simp [mU, h]
theorem mU_slot {a : Nat → Nat → Int32} {i j k : Nat} {x : Int32} (h : k ≠ j) : mU a i j x i k = a i k := by simp [mU, upd, h]
theorem mU_get {a : Nat → Nat → Int32} {i j c k : Nat} {x : Int32} : mU a i j x c k = if c = i ∧ k = j then x else a c k := by
  by_cases h : c = i
  · subst h
    by_cases h2 : k = j
    · subst h2; simp [mU, upd]
    · simp [mU, upd, h2]
  · simp [mU, h]
section M1
variable {code : Nat → Option f_I} {pc : Nat} {lo : List (Option f_V)} {st r : List f_V} {Q : Option f_V → f_H → Prop} {n i N : Nat} {sh : List f_X} {a : Nat → Nat → Int32} {b : Nat → Nat → Int64} {j : Int32}
theorem m_iald (hc : code pc = some (i_iaload sh n)) (hs : sh[i]? = some (.inl (1, N))) (hj : 0 ≤ j.toInt ∧ j.toInt < N) (w : ∀ z : Int32, z = a i j.toInt.toNat → f_wp code (n, lo, .inl z :: r, mH a b) Q) : f_wp code (pc, lo, .inl j :: .inr (.inr (some i)) :: r, mH a b) Q := wp_iaload hc hs hj (w _ rfl)
theorem m_bald (hc : code pc = some (i_baload sh n)) (hs : sh[i]? = some (.inl (3, N))) (hj : 0 ≤ j.toInt ∧ j.toInt < N) (w : ∀ z : Int32, z = a i j.toInt.toNat → f_wp code (n, lo, .inl z :: r, mH a b) Q) : f_wp code (pc, lo, .inl j :: .inr (.inr (some i)) :: r, mH a b) Q := wp_baload hc hs hj (w _ rfl)
theorem m_lald (hc : code pc = some (i_laload sh n)) (hs : sh[i]? = some (.inl (2, N))) (hj : 0 ≤ j.toInt ∧ j.toInt < N) (w : ∀ z : Int64, z = b i j.toInt.toNat → f_wp code (n, lo, .inr (.inl z) :: r, mH a b) Q) : f_wp code (pc, lo, .inl j :: .inr (.inr (some i)) :: r, mH a b) Q := wp_laload hc hs hj (w _ rfl)
theorem m_iast {x : Int32} (hc : code pc = some (i_iastore sh n)) (hs : sh[i]? = some (.inl (1, N))) (hj : 0 ≤ j.toInt ∧ j.toInt < N) (w : ∀ a1, a1 = mU a i j.toInt.toNat x → f_wp code (n, lo, r, mH a1 b) Q) : f_wp code (pc, lo, .inl x :: .inl j :: .inr (.inr (some i)) :: r, mH a b) Q := wp_iastore hc hs hj (w _ rfl)
theorem m_bast {x : Int32} (hc : code pc = some (i_bastore sh n)) (hs : sh[i]? = some (.inl (3, N))) (hj : 0 ≤ j.toInt ∧ j.toInt < N) (w : ∀ a1, a1 = mU a i j.toInt.toNat (vp_nar .boolean x) → f_wp code (n, lo, r, mH a1 b) Q) : f_wp code (pc, lo, .inl x :: .inl j :: .inr (.inr (some i)) :: r, mH a b) Q := wp_bastore hc hs hj (w _ rfl)
theorem m_last {x : Int64} (hc : code pc = some (i_lastore sh n)) (hs : sh[i]? = some (.inl (2, N))) (hj : 0 ≤ j.toInt ∧ j.toInt < N) (w : ∀ b1, b1 = mV b i j.toInt.toNat x → f_wp code (n, lo, r, mH a b1) Q) : f_wp code (pc, lo, .inr (.inl x) :: .inl j :: .inr (.inr (some i)) :: r, mH a b) Q := wp_lastore hc hs hj (w _ rfl)
end M1
-- the ranges of all that the model's ints hold; K: how many calls there were
def laLo (j : Nat) : Int := if j % 110 < 7 then (if j % 110 = 5 ∨ j % 110 = 6 then -1 else 0) else if j % 110 < 91 then (if (j % 110 - 7) % 14 = 8 ∨ (j % 110 - 7) % 14 = 10 ∨ (j % 110 - 7) % 14 = 12 then -1 else if (j % 110 - 7) % 14 = 13 then -2147483648 else 0) else 0
def laHi (j : Nat) : Int := if j % 110 < 7 then (match j % 110 with
    | 0 => 6
    | 1 => 4
    | 2 => 9
    | 3 => 10
    | 4 => 99
    | _ => 1099) else if j % 110 < 91 then (match (j % 110 - 7) % 14 with
    | 0 => 3
    | 8 => 999
    | 10 => 999
    | 12 => 5
    | 13 => 2147483647
    | _ => 99) else 99
def stLo (j : Nat) : Int := if j % 60 = 0 then 0 else if j % 60 < 7 then -1 else if j % 60 < 19 then -2147483648 else if j % 60 = 19 then -1 else 0
def stHi (K : Nat) (j : Nat) : Int := if j % 60 = 0 then min (100 * K) 1000000 else if j % 60 < 7 then 5 else if j % 60 < 19 then 2147483647 else if j % 60 = 19 then 6 else if j % 60 < 26 then 99 else if j % 60 = 26 then 10 else if j % 3 = 0 then 5 else if j % 3 = 1 then 3 else 9999
def loM (c j : Nat) : Int := match c with
  | 0 => (match j with
    | 2 => 0
    | 3 => 0
    | 7 => 0
    | 8 => 0
    | 13 => 0
    | 16 => 0
    | 23 => 0
    | 25 => 0
    | 37 => -1
    | _ => -2147483648)
  | 2 => 0
  | 3 => 0
  | 6 => laLo j
  | 7 => 0
  | 11 => if j = 0 then 0 else -1
  | 12 => 0
  | 15 => stLo j
  | 16 => 0
  | 21 => 0
  | 25 => 0
  | _ => -2147483648
def hiM (K c j : Nat) : Int := match c with
  | 0 => (match j with
    | 2 => 1000
    | 3 => 1000
    | 7 => 1000
    | 13 => 1000
    | 16 => 4
    | 23 => 16
    | 25 => 1
    | 37 => 5
    | _ => 2147483647)
  | 2 => 4
  | 3 => 1000
  | 6 => laHi j
  | 7 => 10
  | 11 => if j = 0 then 24 else 5
  | 12 => 99
  | 15 => stHi K j
  | 16 => 1
  | 21 => 5
  | 25 => 1
  | _ => 2147483647
def RM (K : Nat) (a : Nat → Nat → Int32) : Prop := ∀ c j, loM c j ≤ (a c j).toInt ∧ (a c j).toInt ≤ hiM K c j
theorem RM.up {K : Nat} {a a1 : Nat → Nat → Int32} {i j : Nat} {x : Int32} (h : RM K a) (e : a1 = mU a i j x) (hx : loM i j ≤ x.toInt ∧ x.toInt ≤ hiM K i j) : RM K a1 := by
  intro c k
  subst e
  rw [mU_get]
  split
  · rename_i hc
    obtain ⟨rfl, rfl⟩ := hc
    exact hx
  · exact h c k
theorem la_riv {r w : Nat} (hr : r < 6) (hw : w < 14) : laLo (7 + 14 * r + w) = laLo (7 + w) ∧ laHi (7 + 14 * r + w) = laHi (7 + w) := by
  have h : ∀ r, r < 6 → ∀ w, w < 14 → laLo (7 + 14 * r + w) = laLo (7 + w) ∧ laHi (7 + 14 * r + w) = laHi (7 + w) := by decide
  exact h r hr w hw
