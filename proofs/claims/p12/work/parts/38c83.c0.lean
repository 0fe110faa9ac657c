-- the class's state: ints a, longs b, the references that change v (0 country, 1 draft, 2 the word, 3 the reader's land, 4 its formula, 5 the net's land)
def rL (b i j : Nat) : Option Nat := match i - b with
  | 0 => (match j with
    | 0 => some (b + 1)
    | 1 => some (b + 2)
    | 2 => some (b + 3)
    | 3 => some (b + 4)
    | 4 => some (b + 7)
    | 5 => some (b + 10)
    | 6 => some (b + 11)
    | _ => none)
  | 1 => some (b + 12 + 2 * j)
  | 4 => (match j with
    | 0 => some (b + 5)
    | 1 => some (b + 6)
    | _ => none)
  | 7 => (match j with
    | 0 => some (b + 8)
    | 1 => some (b + 9)
    | _ => none)
  | k => if 12 ≤ k ∧ k % 2 = 0 ∧ j = 0 then some (i + 1) else none
def rC0 (i j : Nat) : Option Nat := if i = 0 then (match j with
    | 0 => some 1
    | 1 => some 6
    | 2 => some 70
    | 3 => some 17
    | 4 => some 18
    | 5 => some 19
    | 6 => some 9
    | 7 => some 12
    | 8 => some 14
    | 9 => some 20
    | 10 => some 21
    | _ => none)
  else if i = 1 then (match j with
    | 0 => some 2
    | 1 => some 3
    | 2 => some 4
    | 3 => some 5
    | _ => none)
  else if i = 6 then (match j with
    | 0 => some 7
    | 1 => some 8
    | 4 => some 1
    | _ => none)
  else if i = 9 then (match j with
    | 0 => some 10
    | 1 => some 11
    | _ => none)
  else if i = 12 then (match j with
    | 0 => some 9
    | 1 => some 13
    | _ => none)
  else if i = 14 then (match j with
    | 0 => some 9
    | 1 => some 15
    | 5 => some 70
    | 6 => some 16
    | _ => none)
  else if i = 17 then some (78 + 8 * j)
  else if i = 18 then some (206 + 8 * j)
  else if 22 ≤ i ∧ i < 46 then rL 22 i j
  else if 46 ≤ i ∧ i < 70 then rL 46 i j
  else if 70 ≤ i ∧ i % 8 = 6 then some (i + 1 + j)
  else none
def rC (v : Nat → Option Nat) (i j : Nat) : Option Nat := if i = 0 ∧ j = 11 then v 0 else if i = 0 ∧ j = 12 then v 1 else if i = 1 ∧ j = 11 then v 2 else if i = 6 ∧ j = 5 then v 3 else if i = 6 ∧ j = 6 then v 4 else if i = 9 ∧ j = 2 then v 5 else rC0 i j
abbrev cH (a : Nat → Nat → Int32) (b : Nat → Nat → Int64) (v : Nat → Option Nat) : f_H := (a, b, rC v)
def vU (v : Nat → Option Nat) (k : Nat) (x : Option Nat) : Nat → Option Nat := fun i => if i = k then x else v i
theorem vU_same {v : Nat → Option Nat} {k : Nat} {x : Option Nat} : vU v k x k = x := if_pos rfl
theorem vU_ne {v : Nat → Option Nat} {k i : Nat} {x : Option Nat} (h : i ≠ k) : vU v k x i = v i := if_neg h
theorem rC_put0 {a : Nat → Nat → Int32} {b : Nat → Nat → Int64} {v : Nat → Option Nat} {x : Option Nat} : f_uR (cH a b v) 0 11 x = cH a b (vU v 0 x) := by
  refine congrArg (fun r => (a, b, r)) (funext fun i => funext fun j => ?_)
  show (if i = 0 then va_up (rC v 0) 11 x else rC v i) j = rC (vU v 0 x) i j
  by_cases hi : i = 0
  · subst hi
    rw [if_pos rfl]
    by_cases hj : j = 11
    · subst hj
      simp [va_up, rC, vU]
    · simp [va_up, rC, vU, hj]
  · rw [if_neg hi]
    simp [rC, vU, hi]
theorem rC_put1 {a : Nat → Nat → Int32} {b : Nat → Nat → Int64} {v : Nat → Option Nat} {x : Option Nat} : f_uR (cH a b v) 0 12 x = cH a b (vU v 1 x) := by
  refine congrArg (fun r => (a, b, r)) (funext fun i => funext fun j => ?_)
  show (if i = 0 then va_up (rC v 0) 12 x else rC v i) j = rC (vU v 1 x) i j
  by_cases hi : i = 0
  · subst hi
    rw [if_pos rfl]
    by_cases hj : j = 12
    · subst hj
      simp [va_up, rC, vU]
    · simp [va_up, rC, vU, hj]
  · rw [if_neg hi]
    simp [rC, vU, hi]
theorem rC_put2 {a : Nat → Nat → Int32} {b : Nat → Nat → Int64} {v : Nat → Option Nat} {x : Option Nat} : f_uR (cH a b v) 1 11 x = cH a b (vU v 2 x) := by
  refine congrArg (fun r => (a, b, r)) (funext fun i => funext fun j => ?_)
  show (if i = 1 then va_up (rC v 1) 11 x else rC v i) j = rC (vU v 2 x) i j
  by_cases hi : i = 1
  · subst hi
    rw [if_pos rfl]
    by_cases hj : j = 11
    · subst hj
      simp [va_up, rC, vU]
    · simp [va_up, rC, vU, hj]
  · rw [if_neg hi]
    simp [rC, vU, hi]
theorem rC_put3 {a : Nat → Nat → Int32} {b : Nat → Nat → Int64} {v : Nat → Option Nat} {x : Option Nat} : f_uR (cH a b v) 6 5 x = cH a b (vU v 3 x) := by
  refine congrArg (fun r => (a, b, r)) (funext fun i => funext fun j => ?_)
  show (if i = 6 then va_up (rC v 6) 5 x else rC v i) j = rC (vU v 3 x) i j
  by_cases hi : i = 6
  · subst hi
    rw [if_pos rfl]
    by_cases hj : j = 5
    · subst hj
      simp [va_up, rC, vU]
    · simp [va_up, rC, vU, hj]
  · rw [if_neg hi]
    simp [rC, vU, hi]
theorem rC_put4 {a : Nat → Nat → Int32} {b : Nat → Nat → Int64} {v : Nat → Option Nat} {x : Option Nat} : f_uR (cH a b v) 6 6 x = cH a b (vU v 4 x) := by
  refine congrArg (fun r => (a, b, r)) (funext fun i => funext fun j => ?_)
  show (if i = 6 then va_up (rC v 6) 6 x else rC v i) j = rC (vU v 4 x) i j
  by_cases hi : i = 6
  · subst hi
    rw [if_pos rfl]
    by_cases hj : j = 6
    · subst hj
      simp [va_up, rC, vU]
    · simp [va_up, rC, vU, hj]
  · rw [if_neg hi]
    simp [rC, vU, hi]
theorem rC_put5 {a : Nat → Nat → Int32} {b : Nat → Nat → Int64} {v : Nat → Option Nat} {x : Option Nat} : f_uR (cH a b v) 9 2 x = cH a b (vU v 5 x) := by
  refine congrArg (fun r => (a, b, r)) (funext fun i => funext fun j => ?_)
  show (if i = 9 then va_up (rC v 9) 2 x else rC v i) j = rC (vU v 5 x) i j
  by_cases hi : i = 9
  · subst hi
    rw [if_pos rfl]
    by_cases hj : j = 2
    · subst hj
      simp [va_up, rC, vU]
    · simp [va_up, rC, vU, hj]
  · rw [if_neg hi]
    simp [rC, vU, hi]
theorem sh_land {i : Nat} (h : i = 22 ∨ i = 46) : shC[i]? = some (.inr (2, [2, 2, 2, 2, 2, 2, 2, 0, 0, 0, 0, 0])) := by
  rcases h with rfl | rfl <;> rfl
theorem sh_row {i : Nat} (h : i = 23 ∨ i = 47) : shC[i]? = some (.inl (5, 6)) := by
  rcases h with rfl | rfl <;> rfl
theorem sh_rng {i : Nat} (h : i = 24 ∨ i = 25 ∨ i = 48 ∨ i = 49) : shC[i]? = some (.inl (1, 4)) := by
  rcases h with rfl | rfl | rfl | rfl <;> rfl
theorem sh_form {i : Nat} (h : i = 26 ∨ i = 29 ∨ i = 50 ∨ i = 53) : shC[i]? = some (.inr (1, [2, 2, 0])) := by
  rcases h with rfl | rfl | rfl | rfl <;> rfl
theorem sh_steps {i : Nat} (h : i = 27 ∨ i = 30 ∨ i = 51 ∨ i = 54) : shC[i]? = some (.inl (1, 1000)) := by
  rcases h with rfl | rfl | rfl | rfl <;> rfl
theorem sh_stack {i : Nat} (h : i = 28 ∨ i = 31 ∨ i = 52 ∨ i = 55) : shC[i]? = some (.inl (1, 32)) := by
  rcases h with rfl | rfl | rfl | rfl <;> rfl
theorem sh_fits {i : Nat} (h : i = 32 ∨ i = 56) : shC[i]? = some (.inl (1, 6)) := by
  rcases h with rfl | rfl <;> rfl
theorem sh_sums {i : Nat} (h : i = 33 ∨ i = 57) : shC[i]? = some (.inl (1, 640)) := by
  rcases h with rfl | rfl <;> rfl
theorem sr_a : ∀ k, k < 6 → shC[34 + 2 * k]? = some (.inr (6, [2, 1, 0, 0, 0, 0, 0, 0, 0, 0, 0, 0]))
  | 0, _ => rfl
  | 1, _ => rfl
  | 2, _ => rfl
  | 3, _ => rfl
  | 4, _ => rfl
  | 5, _ => rfl
  | k + 6, h => absurd h (by omega)
theorem sr_b : ∀ k, k < 6 → shC[58 + 2 * k]? = some (.inr (6, [2, 1, 0, 0, 0, 0, 0, 0, 0, 0, 0, 0]))
  | 0, _ => rfl
  | 1, _ => rfl
  | 2, _ => rfl
  | 3, _ => rfl
  | 4, _ => rfl
  | 5, _ => rfl
  | k + 6, h => absurd h (by omega)
theorem sw_a : ∀ k, k < 6 → shC[35 + 2 * k]? = some (.inl (1, 4))
  | 0, _ => rfl
  | 1, _ => rfl
  | 2, _ => rfl
  | 3, _ => rfl
  | 4, _ => rfl
  | 5, _ => rfl
  | k + 6, h => absurd h (by omega)
theorem sw_b : ∀ k, k < 6 → shC[59 + 2 * k]? = some (.inl (1, 4))
  | 0, _ => rfl
  | 1, _ => rfl
  | 2, _ => rfl
  | 3, _ => rfl
  | 4, _ => rfl
  | 5, _ => rfl
  | k + 6, h => absurd h (by omega)
theorem sh_riv {i : Nat} (h : (34 ≤ i ∧ i < 46 ∨ 58 ≤ i ∧ i < 70) ∧ i % 2 = 0) : shC[i]? = some (.inr (6, [2, 1, 0, 0, 0, 0, 0, 0, 0, 0, 0, 0])) := by
  have e : i < 46 ∨ 58 ≤ i := by omega
  rcases e with e | e
  · have g := sr_a ((i - 34) / 2) (by omega)
    rw [show 34 + 2 * ((i - 34) / 2) = i from by omega] at g
    exact g
  · have g := sr_b ((i - 58) / 2) (by omega)
    rw [show 58 + 2 * ((i - 58) / 2) = i from by omega] at g
    exact g
theorem sh_wat {i : Nat} (h : (34 ≤ i ∧ i < 46 ∨ 58 ≤ i ∧ i < 70) ∧ i % 2 = 1) : shC[i]? = some (.inl (1, 4)) := by
  have e : i < 46 ∨ 58 ≤ i := by omega
  rcases e with e | e
  · have g := sw_a ((i - 35) / 2) (by omega)
    rw [show 35 + 2 * ((i - 35) / 2) = i from by omega] at g
    exact g
  · have g := sw_b ((i - 59) / 2) (by omega)
    rw [show 59 + 2 * ((i - 59) / 2) = i from by omega] at g
    exact g
theorem ss_0 : ∀ k, k < 21 → shC[70 + 8 * k]? = some (.inr (8, [2, 2, 2, 2, 2, 2, 2, 0, 0, 0, 0]))
  | 0, _ => rfl
  | 1, _ => rfl
  | 2, _ => rfl
  | 3, _ => rfl
  | 4, _ => rfl
  | 5, _ => rfl
  | 6, _ => rfl
  | 7, _ => rfl
  | 8, _ => rfl
  | 9, _ => rfl
  | 10, _ => rfl
  | 11, _ => rfl
  | 12, _ => rfl
  | 13, _ => rfl
  | 14, _ => rfl
  | 15, _ => rfl
  | 16, _ => rfl
  | 17, _ => rfl
  | 18, _ => rfl
  | 19, _ => rfl
  | 20, _ => rfl
  | k + 21, h => absurd h (by omega)
theorem ss_1 : ∀ k, k < 21 → shC[71 + 8 * k]? = some (.inl (1, 6))
  | 0, _ => rfl
  | 1, _ => rfl
  | 2, _ => rfl
  | 3, _ => rfl
  | 4, _ => rfl
  | 5, _ => rfl
  | 6, _ => rfl
  | 7, _ => rfl
  | 8, _ => rfl
  | 9, _ => rfl
  | 10, _ => rfl
  | 11, _ => rfl
  | 12, _ => rfl
  | 13, _ => rfl
  | 14, _ => rfl
  | 15, _ => rfl
  | 16, _ => rfl
  | 17, _ => rfl
  | 18, _ => rfl
  | 19, _ => rfl
  | 20, _ => rfl
  | k + 21, h => absurd h (by omega)
theorem ss_2 : ∀ k, k < 21 → shC[72 + 8 * k]? = some (.inl (1, 6))
  | 0, _ => rfl
  | 1, _ => rfl
  | 2, _ => rfl
  | 3, _ => rfl
  | 4, _ => rfl
  | 5, _ => rfl
  | 6, _ => rfl
  | 7, _ => rfl
  | 8, _ => rfl
  | 9, _ => rfl
  | 10, _ => rfl
  | 11, _ => rfl
  | 12, _ => rfl
  | 13, _ => rfl
  | 14, _ => rfl
  | 15, _ => rfl
  | 16, _ => rfl
  | 17, _ => rfl
  | 18, _ => rfl
  | 19, _ => rfl
  | 20, _ => rfl
  | k + 21, h => absurd h (by omega)
theorem ss_3 : ∀ k, k < 21 → shC[73 + 8 * k]? = some (.inl (1, 6))
  | 0, _ => rfl
  | 1, _ => rfl
  | 2, _ => rfl
  | 3, _ => rfl
  | 4, _ => rfl
  | 5, _ => rfl
  | 6, _ => rfl
  | 7, _ => rfl
  | 8, _ => rfl
  | 9, _ => rfl
  | 10, _ => rfl
  | 11, _ => rfl
  | 12, _ => rfl
  | 13, _ => rfl
  | 14, _ => rfl
  | 15, _ => rfl
  | 16, _ => rfl
  | 17, _ => rfl
  | 18, _ => rfl
  | 19, _ => rfl
  | 20, _ => rfl
  | k + 21, h => absurd h (by omega)
theorem ss_4 : ∀ k, k < 21 → shC[74 + 8 * k]? = some (.inl (1, 6))
  | 0, _ => rfl
  | 1, _ => rfl
  | 2, _ => rfl
  | 3, _ => rfl
  | 4, _ => rfl
  | 5, _ => rfl
  | 6, _ => rfl
  | 7, _ => rfl
  | 8, _ => rfl
  | 9, _ => rfl
  | 10, _ => rfl
  | 11, _ => rfl
  | 12, _ => rfl
  | 13, _ => rfl
  | 14, _ => rfl
  | 15, _ => rfl
  | 16, _ => rfl
  | 17, _ => rfl
  | 18, _ => rfl
  | 19, _ => rfl
  | 20, _ => rfl
  | k + 21, h => absurd h (by omega)
theorem ss_5 : ∀ k, k < 21 → shC[75 + 8 * k]? = some (.inl (1, 10))
  | 0, _ => rfl
  | 1, _ => rfl
  | 2, _ => rfl
  | 3, _ => rfl
  | 4, _ => rfl
  | 5, _ => rfl
  | 6, _ => rfl
  | 7, _ => rfl
  | 8, _ => rfl
  | 9, _ => rfl
  | 10, _ => rfl
  | 11, _ => rfl
  | 12, _ => rfl
  | 13, _ => rfl
  | 14, _ => rfl
  | 15, _ => rfl
  | 16, _ => rfl
  | 17, _ => rfl
  | 18, _ => rfl
  | 19, _ => rfl
  | 20, _ => rfl
  | k + 21, h => absurd h (by omega)
theorem ss_6 : ∀ k, k < 21 → shC[76 + 8 * k]? = some (.inl (1, 10))
  | 0, _ => rfl
  | 1, _ => rfl
  | 2, _ => rfl
  | 3, _ => rfl
  | 4, _ => rfl
  | 5, _ => rfl
  | 6, _ => rfl
  | 7, _ => rfl
  | 8, _ => rfl
  | 9, _ => rfl
  | 10, _ => rfl
  | 11, _ => rfl
  | 12, _ => rfl
  | 13, _ => rfl
  | 14, _ => rfl
  | 15, _ => rfl
  | 16, _ => rfl
  | 17, _ => rfl
  | 18, _ => rfl
  | 19, _ => rfl
  | 20, _ => rfl
  | k + 21, h => absurd h (by omega)
theorem ss_7 : ∀ k, k < 21 → shC[77 + 8 * k]? = some (.inl (1, 10))
  | 0, _ => rfl
  | 1, _ => rfl
  | 2, _ => rfl
  | 3, _ => rfl
  | 4, _ => rfl
  | 5, _ => rfl
  | 6, _ => rfl
  | 7, _ => rfl
  | 8, _ => rfl
  | 9, _ => rfl
  | 10, _ => rfl
  | 11, _ => rfl
  | 12, _ => rfl
  | 13, _ => rfl
  | 14, _ => rfl
  | 15, _ => rfl
  | 16, _ => rfl
  | 17, _ => rfl
  | 18, _ => rfl
  | 19, _ => rfl
  | 20, _ => rfl
  | k + 21, h => absurd h (by omega)
theorem sh_sta {i : Nat} (h : 70 ≤ i ∧ i < 238 ∧ i % 8 = 6) : shC[i]? = some (.inr (8, [2, 2, 2, 2, 2, 2, 2, 0, 0, 0, 0])) := by
  have e : i % 8 = 6 ∨ i % 8 = 6 := by omega
  rcases e with e | e
  · have g := ss_0 ((i - 70) / 8) (by omega)
    rw [show 70 + 8 * ((i - 70) / 8) = i from by omega] at g
    exact g
  · have g := ss_0 ((i - 70) / 8) (by omega)
    rw [show 70 + 8 * ((i - 70) / 8) = i from by omega] at g
    exact g
theorem sh_sa6 {i : Nat} (h : 70 ≤ i ∧ i < 238 ∧ (i % 8 = 7 ∨ i % 8 = 0 ∨ i % 8 = 1 ∨ i % 8 = 2)) : shC[i]? = some (.inl (1, 6)) := by
  have e : i % 8 = 7 ∨ i % 8 = 0 ∨ i % 8 = 1 ∨ i % 8 = 2 := by omega
  rcases e with e | e | e | e
  · have g := ss_1 ((i - 71) / 8) (by omega)
    rw [show 71 + 8 * ((i - 71) / 8) = i from by omega] at g
    exact g
  · have g := ss_2 ((i - 72) / 8) (by omega)
    rw [show 72 + 8 * ((i - 72) / 8) = i from by omega] at g
    exact g
  · have g := ss_3 ((i - 73) / 8) (by omega)
    rw [show 73 + 8 * ((i - 73) / 8) = i from by omega] at g
    exact g
  · have g := ss_4 ((i - 74) / 8) (by omega)
    rw [show 74 + 8 * ((i - 74) / 8) = i from by omega] at g
    exact g
theorem sh_sa10 {i : Nat} (h : 70 ≤ i ∧ i < 238 ∧ (i % 8 = 3 ∨ i % 8 = 4 ∨ i % 8 = 5)) : shC[i]? = some (.inl (1, 10)) := by
  have e : i % 8 = 3 ∨ i % 8 = 4 ∨ i % 8 = 5 := by omega
  rcases e with e | e | e
  · have g := ss_5 ((i - 75) / 8) (by omega)
    rw [show 75 + 8 * ((i - 75) / 8) = i from by omega] at g
    exact g
  · have g := ss_6 ((i - 76) / 8) (by omega)
    rw [show 76 + 8 * ((i - 76) / 8) = i from by omega] at g
    exact g
  · have g := ss_7 ((i - 77) / 8) (by omega)
    rw [show 77 + 8 * ((i - 77) / 8) = i from by omega] at g
    exact g
theorem rC_hi {v : Nat → Option Nat} {i j : Nat} (h : 10 ≤ i) : rC v i j = rC0 i j := by
  unfold rC
  rw [if_neg (by omega), if_neg (by omega), if_neg (by omega), if_neg (by omega), if_neg (by omega), if_neg (by omega)]
theorem rC_land0 {v : Nat → Option Nat} {i : Nat} (h : i = 22 ∨ i = 46) : rC v i 0 = some (i + 1) := by
  rcases h with rfl | rfl <;> rfl
theorem rC_land1 {v : Nat → Option Nat} {i : Nat} (h : i = 22 ∨ i = 46) : rC v i 1 = some (i + 2) := by
  rcases h with rfl | rfl <;> rfl
theorem rC_land2 {v : Nat → Option Nat} {i : Nat} (h : i = 22 ∨ i = 46) : rC v i 2 = some (i + 3) := by
  rcases h with rfl | rfl <;> rfl
theorem rC_land3 {v : Nat → Option Nat} {i : Nat} (h : i = 22 ∨ i = 46) : rC v i 3 = some (i + 4) := by
  rcases h with rfl | rfl <;> rfl
theorem rC_land4 {v : Nat → Option Nat} {i : Nat} (h : i = 22 ∨ i = 46) : rC v i 4 = some (i + 7) := by
  rcases h with rfl | rfl <;> rfl
theorem rC_land5 {v : Nat → Option Nat} {i : Nat} (h : i = 22 ∨ i = 46) : rC v i 5 = some (i + 10) := by
  rcases h with rfl | rfl <;> rfl
theorem rC_land6 {v : Nat → Option Nat} {i : Nat} (h : i = 22 ∨ i = 46) : rC v i 6 = some (i + 11) := by
  rcases h with rfl | rfl <;> rfl
theorem rC_row {v : Nat → Option Nat} {i j : Nat} (h : i = 23 ∨ i = 47) : rC v i j = some (i + 11 + 2 * j) := by
  rcases h with rfl | rfl <;> rfl
theorem rC_form0 {v : Nat → Option Nat} {i : Nat} (h : i = 26 ∨ i = 29 ∨ i = 50 ∨ i = 53) : rC v i 0 = some (i + 1) := by
  rcases h with rfl | rfl | rfl | rfl <;> rfl
theorem rC_form1 {v : Nat → Option Nat} {i : Nat} (h : i = 26 ∨ i = 29 ∨ i = 50 ∨ i = 53) : rC v i 1 = some (i + 2) := by
  rcases h with rfl | rfl | rfl | rfl <;> rfl
theorem rC_riv0 {v : Nat → Option Nat} {i : Nat} (h : (34 ≤ i ∧ i < 46 ∨ 58 ≤ i ∧ i < 70) ∧ i % 2 = 0) : rC v i 0 = some (i + 1) := (rC_hi (by omega)).trans ((by decide +kernel : ∀ i, i < 238 → ((34 ≤ i ∧ i < 46 ∨ 58 ≤ i ∧ i < 70) ∧ i % 2 = 0) → rC0 i 0 = some (i + 1)) i (by omega) h)
theorem rC_sta0 {v : Nat → Option Nat} {i : Nat} (h : 70 ≤ i ∧ i < 238 ∧ i % 8 = 6) : rC v i 0 = some (i + 1) := (rC_hi (by omega)).trans ((by decide +kernel : ∀ i, i < 238 → (70 ≤ i ∧ i < 238 ∧ i % 8 = 6) → rC0 i 0 = some (i + 1)) i (by omega) h)
theorem rC_sta1 {v : Nat → Option Nat} {i : Nat} (h : 70 ≤ i ∧ i < 238 ∧ i % 8 = 6) : rC v i 1 = some (i + 2) := (rC_hi (by omega)).trans ((by decide +kernel : ∀ i, i < 238 → (70 ≤ i ∧ i < 238 ∧ i % 8 = 6) → rC0 i 1 = some (i + 2)) i (by omega) h)
theorem rC_sta2 {v : Nat → Option Nat} {i : Nat} (h : 70 ≤ i ∧ i < 238 ∧ i % 8 = 6) : rC v i 2 = some (i + 3) := (rC_hi (by omega)).trans ((by decide +kernel : ∀ i, i < 238 → (70 ≤ i ∧ i < 238 ∧ i % 8 = 6) → rC0 i 2 = some (i + 3)) i (by omega) h)
theorem rC_sta3 {v : Nat → Option Nat} {i : Nat} (h : 70 ≤ i ∧ i < 238 ∧ i % 8 = 6) : rC v i 3 = some (i + 4) := (rC_hi (by omega)).trans ((by decide +kernel : ∀ i, i < 238 → (70 ≤ i ∧ i < 238 ∧ i % 8 = 6) → rC0 i 3 = some (i + 4)) i (by omega) h)
theorem rC_sta4 {v : Nat → Option Nat} {i : Nat} (h : 70 ≤ i ∧ i < 238 ∧ i % 8 = 6) : rC v i 4 = some (i + 5) := (rC_hi (by omega)).trans ((by decide +kernel : ∀ i, i < 238 → (70 ≤ i ∧ i < 238 ∧ i % 8 = 6) → rC0 i 4 = some (i + 5)) i (by omega) h)
theorem rC_sta5 {v : Nat → Option Nat} {i : Nat} (h : 70 ≤ i ∧ i < 238 ∧ i % 8 = 6) : rC v i 5 = some (i + 6) := (rC_hi (by omega)).trans ((by decide +kernel : ∀ i, i < 238 → (70 ≤ i ∧ i < 238 ∧ i % 8 = 6) → rC0 i 5 = some (i + 6)) i (by omega) h)
theorem rC_sta6 {v : Nat → Option Nat} {i : Nat} (h : 70 ≤ i ∧ i < 238 ∧ i % 8 = 6) : rC v i 6 = some (i + 7) := (rC_hi (by omega)).trans ((by decide +kernel : ∀ i, i < 238 → (70 ≤ i ∧ i < 238 ∧ i % 8 = 6) → rC0 i 6 = some (i + 7)) i (by omega) h)
-- the ranges
def lcC (c j : Nat) : Int := if 70 ≤ c then (if c % 8 = 6 then (if j = 7 ∨ j = 9 then 0 else if j = 8 then -1 else -2147483648) else if c % 8 = 7 then -1 else if c % 8 = 3 then 0 else -2147483648)
  else if 22 ≤ c then (if c = 22 ∨ c = 46 then (if j = 7 ∨ j = 8 then 0 else -2147483648) else if c = 26 ∨ c = 29 ∨ c = 50 ∨ c = 53 then (if j = 2 then 0 else -2147483648) else if (34 ≤ c ∧ c < 46 ∨ 58 ≤ c) ∧ c % 2 = 0 ∧ j = 11 then -1 else -2147483648)
  else if c = 0 then (if 13 ≤ j ∧ j ≤ 15 then 0 else -2147483648) else if c = 1 then (if 4 ≤ j ∧ j ≤ 6 then 0 else -2147483648) else if c = 6 then (if j = 2 ∨ j = 3 then 0 else -2147483648) else if c = 11 then 0 else -2147483648
def hcC (K c j : Nat) : Int := if 70 ≤ c then (if c % 8 = 6 then (if j = 7 then min (100 * K) 1000000 else if j = 8 then 6 else if j = 9 then 10 else 2147483647) else if c % 8 = 7 then 5 else if c % 8 = 3 then 5 else 2147483647)
  else if 22 ≤ c then (if c = 22 ∨ c = 46 then (if j = 7 then 6 else if j = 8 then 4 else 2147483647) else if c = 26 ∨ c = 29 ∨ c = 50 ∨ c = 53 then (if j = 2 then 1000 else 2147483647) else if (34 ≤ c ∧ c < 46 ∨ 58 ≤ c) ∧ c % 2 = 0 ∧ j = 11 then 5 else 2147483647)
  else if c = 0 then (if j = 13 then 24 else if j = 14 then 15 else if j = 15 then 16 else 2147483647) else if c = 1 then (if j = 4 then 1001 else if j = 5 then 1000 else if j = 6 then 1000 else 2147483647) else if c = 6 then (if j = 2 then 24 else if j = 3 then 6 else 2147483647) else if c = 11 then 63 else 2147483647
def RC (K : Nat) (a : Nat → Nat → Int32) : Prop := ∀ c j, lcC c j ≤ (a c j).toInt ∧ (a c j).toInt ≤ hcC K c j
theorem RC.up {K : Nat} {a a1 : Nat → Nat → Int32} {i j : Nat} {x : Int32} (h : RC K a) (e : a1 = mU a i j x) (hx : lcC i j ≤ x.toInt ∧ x.toInt ≤ hcC K i j) : RC K a1 := by
  intro c k
  subst e
  rw [mU_get]
  split
  · rename_i hc
    obtain ⟨rfl, rfl⟩ := hc
    exact hx
  · exact h c k
theorem lc_any {K c j : Nat} (x : Int32) (h : (c < 22 ∧ c ≠ 0 ∧ c ≠ 1 ∧ c ≠ 6 ∧ c ≠ 11) ∨ (c = 0 ∧ ¬ (13 ≤ j ∧ j ≤ 15)) ∨ (c = 1 ∧ ¬ (4 ≤ j ∧ j ≤ 6)) ∨ (c = 6 ∧ j ≠ 2 ∧ j ≠ 3) ∨ ((c = 22 ∨ c = 46) ∧ j ≠ 7 ∧ j ≠ 8) ∨ ((c = 26 ∨ c = 29 ∨ c = 50 ∨ c = 53) ∧ j ≠ 2) ∨ ((23 ≤ c ∧ c < 34 ∨ 47 ≤ c ∧ c < 58) ∧ c ≠ 26 ∧ c ≠ 29 ∧ c ≠ 50 ∧ c ≠ 53) ∨ ((34 ≤ c ∧ c < 46 ∨ 58 ≤ c ∧ c < 70) ∧ (c % 2 = 1 ∨ j ≠ 11)) ∨ (70 ≤ c ∧ ((c % 8 = 6 ∧ j ≠ 7 ∧ j ≠ 8 ∧ j ≠ 9) ∨ (c % 8 ≠ 6 ∧ c % 8 ≠ 7 ∧ c % 8 ≠ 3)))) : lcC c j ≤ x.toInt ∧ x.toInt ≤ hcC K c j := by
  have h1 := ti_lo x
  have h2 := ti_hi x
  unfold lcC hcC
  constructor <;> (repeat' split) <;> omega
theorem RC.riv {K : Nat} {a : Nat → Nat → Int32} {L : Nat} (h : RC K a) (hL : L = 22 ∨ L = 46) : 0 ≤ (a L 7).toInt ∧ (a L 7).toInt ≤ 6 := by
  rcases hL with rfl | rfl
  · exact h 22 7
  · exact h 46 7
theorem RC.ran {K : Nat} {a : Nat → Nat → Int32} {L : Nat} (h : RC K a) (hL : L = 22 ∨ L = 46) : 0 ≤ (a L 8).toInt ∧ (a L 8).toInt ≤ 4 := by
  rcases hL with rfl | rfl
  · exact h 22 8
  · exact h 46 8
theorem RC.len {K : Nat} {a : Nat → Nat → Int32} {F : Nat} (h : RC K a) (hF : F = 26 ∨ F = 29 ∨ F = 50 ∨ F = 53) : 0 ≤ (a F 2).toInt ∧ (a F 2).toInt ≤ 1000 := by
  rcases hF with rfl | rfl | rfl | rfl
  · exact h 26 2
  · exact h 29 2
  · exact h 50 2
  · exact h 53 2
theorem RC.mot {K : Nat} {a : Nat → Nat → Int32} {i : Nat} (h : RC K a) (hi : (34 ≤ i ∧ i < 46 ∨ 58 ≤ i ∧ i < 70) ∧ i % 2 = 0) : -1 ≤ (a i 11).toInt ∧ (a i 11).toInt ≤ 5 := by
  have h1 := h i 11
  unfold lcC hcC at h1
  rw [if_neg (by omega), if_pos (by omega), if_neg (by omega), if_neg (by omega), if_pos (by omega), if_neg (by omega), if_pos (by omega), if_neg (by omega), if_neg (by omega), if_pos (by omega)] at h1
  exact h1
theorem RC.pas {K : Nat} {a : Nat → Nat → Int32} {i : Nat} (h : RC K a) (hi : 70 ≤ i ∧ i % 8 = 6) : 0 ≤ (a i 7).toInt ∧ (a i 7).toInt ≤ 100 * K ∧ (a i 7).toInt ≤ 1000000 := by
  have h1 := h i 7
  unfold lcC hcC at h1
  rw [if_pos (by omega), if_pos (by omega), if_pos (by omega), if_pos (by omega), if_pos (by omega), if_pos (by omega)] at h1
  omega
theorem RC.hei {K : Nat} {a : Nat → Nat → Int32} {i : Nat} (h : RC K a) (hi : 70 ≤ i ∧ i % 8 = 6) : -1 ≤ (a i 8).toInt ∧ (a i 8).toInt ≤ 6 := by
  have h1 := h i 8
  unfold lcC hcC at h1
  rw [if_pos (by omega), if_pos (by omega), if_neg (by omega), if_pos (by omega), if_pos (by omega), if_pos (by omega), if_neg (by omega), if_pos (by omega)] at h1
  exact h1
theorem RC.tol {K : Nat} {a : Nat → Nat → Int32} {i : Nat} (h : RC K a) (hi : 70 ≤ i ∧ i % 8 = 6) : 0 ≤ (a i 9).toInt ∧ (a i 9).toInt ≤ 10 := by
  have h1 := h i 9
  unfold lcC hcC at h1
  rw [if_pos (by omega), if_pos (by omega), if_pos (by omega), if_pos (by omega), if_pos (by omega), if_neg (by omega), if_neg (by omega), if_pos (by omega)] at h1
  exact h1
theorem RC.hus {K : Nat} {a : Nat → Nat → Int32} {i : Nat} (h : RC K a) (j : Nat) (hi : 70 ≤ i ∧ i % 8 = 7) : -1 ≤ (a i j).toInt ∧ (a i j).toInt ≤ 5 := by
  have h1 := h i j
  unfold lcC hcC at h1
  rw [if_pos (by omega), if_neg (by omega), if_pos (by omega), if_pos (by omega), if_neg (by omega), if_pos (by omega)] at h1
  exact h1
theorem RC.tri {K : Nat} {a : Nat → Nat → Int32} {i : Nat} (h : RC K a) (j : Nat) (hi : 70 ≤ i ∧ i % 8 = 3) : 0 ≤ (a i j).toInt ∧ (a i j).toInt ≤ 5 := by
  have h1 := h i j
  unfold lcC hcC at h1
  rw [if_pos (by omega), if_neg (by omega), if_neg (by omega), if_pos (by omega), if_pos (by omega), if_neg (by omega), if_neg (by omega), if_pos (by omega)] at h1
  exact h1
theorem RC.who {K : Nat} {a : Nat → Nat → Int32} (h : RC K a) (j : Nat) : 0 ≤ (a 11 j).toInt ∧ (a 11 j).toInt ≤ 63 := h 11 j
theorem lc_riv {K i : Nat} {x : Int32} (hi : i = 22 ∨ i = 46) (hx : 0 ≤ x.toInt ∧ x.toInt ≤ 6) : lcC i 7 ≤ x.toInt ∧ x.toInt ≤ hcC K i 7 := by
  unfold lcC hcC
  constructor <;> (repeat' split) <;> omega
theorem lc_ran {K i : Nat} {x : Int32} (hi : i = 22 ∨ i = 46) (hx : 0 ≤ x.toInt ∧ x.toInt ≤ 4) : lcC i 8 ≤ x.toInt ∧ x.toInt ≤ hcC K i 8 := by
  unfold lcC hcC
  constructor <;> (repeat' split) <;> omega
theorem lc_len {K i : Nat} {x : Int32} (hi : i = 26 ∨ i = 29 ∨ i = 50 ∨ i = 53) (hx : 0 ≤ x.toInt ∧ x.toInt ≤ 1000) : lcC i 2 ≤ x.toInt ∧ x.toInt ≤ hcC K i 2 := by
  unfold lcC hcC
  constructor <;> (repeat' split) <;> omega
theorem lc_mot {K i : Nat} {x : Int32} (hi : (34 ≤ i ∧ i < 46 ∨ 58 ≤ i ∧ i < 70) ∧ i % 2 = 0) (hx : -1 ≤ x.toInt ∧ x.toInt ≤ 5) : lcC i 11 ≤ x.toInt ∧ x.toInt ≤ hcC K i 11 := by
  unfold lcC hcC
  constructor <;> (repeat' split) <;> omega
theorem lc_pas {K i : Nat} {x : Int32} (hi : 70 ≤ i ∧ i % 8 = 6) (hx : 0 ≤ x.toInt ∧ x.toInt ≤ 100 * K ∧ x.toInt ≤ 1000000) : lcC i 7 ≤ x.toInt ∧ x.toInt ≤ hcC K i 7 := by
  unfold lcC hcC
  constructor <;> (repeat' split) <;> omega
theorem lc_hei {K i : Nat} {x : Int32} (hi : 70 ≤ i ∧ i % 8 = 6) (hx : -1 ≤ x.toInt ∧ x.toInt ≤ 6) : lcC i 8 ≤ x.toInt ∧ x.toInt ≤ hcC K i 8 := by
  unfold lcC hcC
  constructor <;> (repeat' split) <;> omega
theorem lc_tol {K i : Nat} {x : Int32} (hi : 70 ≤ i ∧ i % 8 = 6) (hx : 0 ≤ x.toInt ∧ x.toInt ≤ 10) : lcC i 9 ≤ x.toInt ∧ x.toInt ≤ hcC K i 9 := by
  unfold lcC hcC
  constructor <;> (repeat' split) <;> omega
theorem lc_hus {K i j : Nat} {x : Int32} (hi : 70 ≤ i ∧ i % 8 = 7) (hx : -1 ≤ x.toInt ∧ x.toInt ≤ 5) : lcC i j ≤ x.toInt ∧ x.toInt ≤ hcC K i j := by
  unfold lcC hcC
  constructor <;> (repeat' split) <;> omega
theorem lc_tri {K i j : Nat} {x : Int32} (hi : 70 ≤ i ∧ i % 8 = 3) (hx : 0 ≤ x.toInt ∧ x.toInt ≤ 5) : lcC i j ≤ x.toInt ∧ x.toInt ≤ hcC K i j := by
  unfold lcC hcC
  constructor <;> (repeat' split) <;> omega
theorem RC.cp {K x y N : Nat} {a a1 : Nat → Nat → Int32} (h : RC K a) (n : ∀ c, c ≠ y → a1 c = a c) (m : ∀ j, j < N → a1 y j = a x j) (o : ∀ j, ¬ j < N → a1 y j = a y j) (hb : ∀ j, lcC y j ≤ lcC x j ∧ hcC K x j ≤ hcC K y j) : RC K a1 := fun c j => by
  by_cases hc : c = y
  · subst hc
    by_cases hj : j < N
    · rw [m j hj]
      have h1 := h x j
      have h2 := hb j
      omega
    · rw [o j hj]
      exact h c j
  · rw [n c hc]
    exact h c j
theorem FR.cp {cs : List Nat} {a a1 a2 : Nat → Nat → Int32} {y : Nat} (h : FR cs a a1) (hy : y ∈ cs) (n : ∀ c, c ≠ y → a2 c = a1 c) : FR cs a a2 := fun c hc => (n c (fun z => hc (by rw [z]; exact hy))).trans (h c hc)
def cB : List Nat := List.range' 0 238
def cA : List Nat := 0 :: List.range' 6 232
theorem cA_out {c : Nat} (h : c = 1 ∨ c = 2 ∨ c = 3 ∨ c = 4 ∨ c = 5) : c ∉ cA := by
  rcases h with rfl | rfl | rfl | rfl | rfl <;> decide
def VC (v : Nat → Option Nat) : Prop := ((v 0 = some 22 ∧ v 1 = some 46) ∨ (v 0 = some 46 ∧ v 1 = some 22)) ∧ f_wdb (v 2) = true ∧ (v 3 = some 22 ∨ v 3 = some 46) ∧ (v 4 = some 26 ∨ v 4 = some 29 ∨ v 4 = some 50 ∨ v 4 = some 53) ∧ (v 5 = some 22 ∨ v 5 = some 46)
theorem VC.cty {v : Nat → Option Nat} (h : VC v) : ∃ L, v 0 = some L ∧ (L = 22 ∨ L = 46) := by
  rcases h.1 with h | h
  · exact ⟨22, h.1, Or.inl rfl⟩
  · exact ⟨46, h.1, Or.inr rfl⟩
theorem VC.drf {v : Nat → Option Nat} (h : VC v) : ∃ L, v 1 = some L ∧ (L = 22 ∨ L = 46) := by
  rcases h.1 with h | h
  · exact ⟨46, h.2, Or.inr rfl⟩
  · exact ⟨22, h.2, Or.inl rfl⟩
theorem VC.rla {v : Nat → Option Nat} (h : VC v) : ∃ L, v 3 = some L ∧ (L = 22 ∨ L = 46) := by
  rcases h.2.2.1 with h | h
  · exact ⟨22, h, Or.inl rfl⟩
  · exact ⟨46, h, Or.inr rfl⟩
theorem VC.frm {v : Nat → Option Nat} (h : VC v) : ∃ L, v 4 = some L ∧ (L = 26 ∨ L = 29 ∨ L = 50 ∨ L = 53) := by
  rcases h.2.2.2.1 with h | h | h | h
  · exact ⟨26, h, Or.inl rfl⟩
  · exact ⟨29, h, Or.inr (Or.inl rfl)⟩
  · exact ⟨50, h, Or.inr (Or.inr (Or.inl rfl))⟩
  · exact ⟨53, h, Or.inr (Or.inr (Or.inr rfl))⟩
theorem VC.nla {v : Nat → Option Nat} (h : VC v) : ∃ L, v 5 = some L ∧ (L = 22 ∨ L = 46) := by
  rcases h.2.2.2.2 with h | h
  · exact ⟨22, h, Or.inl rfl⟩
  · exact ⟨46, h, Or.inr rfl⟩
section C1
variable {code : Nat → Option f_I} {pc : Nat} {lo : List (Option f_V)} {st r : List f_V} {Q : Option f_V → f_H → Prop} {n i N : Nat} {sh : List f_X} {a : Nat → Nat → Int32} {b : Nat → Nat → Int64} {v : Nat → Option Nat} {j : Int32} {h : f_H}
theorem c_iald (hc : code pc = some (i_iaload sh n)) (hs : sh[i]? = some (.inl (1, N))) (hj : 0 ≤ j.toInt ∧ j.toInt < N) (w : ∀ z : Int32, z = a i j.toInt.toNat → f_wp code (n, lo, .inl z :: r, cH a b v) Q) : f_wp code (pc, lo, .inl j :: .inr (.inr (some i)) :: r, cH a b v) Q := wp_iaload hc hs hj (w _ rfl)
theorem c_bald (hc : code pc = some (i_baload sh n)) (hs : sh[i]? = some (.inl (3, N))) (hj : 0 ≤ j.toInt ∧ j.toInt < N) (w : ∀ z : Int32, z = a i j.toInt.toNat → f_wp code (n, lo, .inl z :: r, cH a b v) Q) : f_wp code (pc, lo, .inl j :: .inr (.inr (some i)) :: r, cH a b v) Q := wp_baload hc hs hj (w _ rfl)
theorem c_cald (hc : code pc = some (i_caload sh n)) (hs : sh[i]? = some (.inl (0, N))) (hj : 0 ≤ j.toInt ∧ j.toInt < N) (w : ∀ z : Int32, z = a i j.toInt.toNat → f_wp code (n, lo, .inl z :: r, cH a b v) Q) : f_wp code (pc, lo, .inl j :: .inr (.inr (some i)) :: r, cH a b v) Q := wp_caload hc hs hj (w _ rfl)
theorem c_lald (hc : code pc = some (i_laload sh n)) (hs : sh[i]? = some (.inl (2, N))) (hj : 0 ≤ j.toInt ∧ j.toInt < N) (w : ∀ z : Int64, z = b i j.toInt.toNat → f_wp code (n, lo, .inr (.inl z) :: r, cH a b v) Q) : f_wp code (pc, lo, .inl j :: .inr (.inr (some i)) :: r, cH a b v) Q := wp_laload hc hs hj (w _ rfl)
theorem c_aald4 {t : Option Nat} (hc : code pc = some (i_aald4 sh n)) (hs : sh[i]? = some (.inl (4, N))) (hj : 0 ≤ j.toInt ∧ j.toInt < N) (ht : rC v i j.toInt.toNat = t) (w : f_wp code (n, lo, .inr (.inr t) :: r, cH a b v) Q) : f_wp code (pc, lo, .inl j :: .inr (.inr (some i)) :: r, cH a b v) Q := wp_aald4 hc hs hj (by subst ht; exact w)
theorem c_aald5 {t : Option Nat} (hc : code pc = some (i_aald5 sh n)) (hs : sh[i]? = some (.inl (5, N))) (hj : 0 ≤ j.toInt ∧ j.toInt < N) (ht : rC v i j.toInt.toNat = t) (w : f_wp code (n, lo, .inr (.inr t) :: r, cH a b v) Q) : f_wp code (pc, lo, .inl j :: .inr (.inr (some i)) :: r, cH a b v) Q := wp_aald5 hc hs hj (by subst ht; exact w)
theorem c_iast {x : Int32} (hc : code pc = some (i_iastore sh n)) (hs : sh[i]? = some (.inl (1, N))) (hj : 0 ≤ j.toInt ∧ j.toInt < N) (w : ∀ a1, a1 = mU a i j.toInt.toNat x → f_wp code (n, lo, r, cH a1 b v) Q) : f_wp code (pc, lo, .inl x :: .inl j :: .inr (.inr (some i)) :: r, cH a b v) Q := wp_iastore hc hs hj (w _ rfl)
theorem c_cast {x : Int32} (hc : code pc = some (i_castore sh n)) (hs : sh[i]? = some (.inl (0, N))) (hj : 0 ≤ j.toInt ∧ j.toInt < N) (w : ∀ a1, a1 = mU a i j.toInt.toNat (vp_nar .char x) → f_wp code (n, lo, r, cH a1 b v) Q) : f_wp code (pc, lo, .inl x :: .inl j :: .inr (.inr (some i)) :: r, cH a b v) Q := wp_castore hc hs hj (w _ rfl)
theorem c_last {x : Int64} (hc : code pc = some (i_lastore sh n)) (hs : sh[i]? = some (.inl (2, N))) (hj : 0 ≤ j.toInt ∧ j.toInt < N) (w : ∀ b1, b1 = mV b i j.toInt.toNat x → f_wp code (n, lo, r, cH a b1 v) Q) : f_wp code (pc, lo, .inr (.inl x) :: .inl j :: .inr (.inr (some i)) :: r, cH a b v) Q := wp_lastore hc hs hj (w _ rfl)
theorem c_getI {j ci : Nat} {fl : Nat → Option Nat} {ks : List Nat} (hc : code pc = some (i_getI sh fl n)) (hs : sh[i]? = some (.inr (ci, ks))) (hci : fl ci = some j) (hk : ks[j]? = some 0) (w : f_wp code (n, lo, .inl (a i j) :: r, cH a b v) Q) : f_wp code (pc, lo, .inr (.inr (some i)) :: r, cH a b v) Q := wp_s hc (by unfold i_getI; dsimp only; rw [hs]; dsimp only; rw [hci]; dsimp only; rw [if_pos hk]) w
theorem c_getL {j ci : Nat} {fl : Nat → Option Nat} {ks : List Nat} (hc : code pc = some (i_getL sh fl n)) (hs : sh[i]? = some (.inr (ci, ks))) (hci : fl ci = some j) (hk : ks[j]? = some 1) (w : f_wp code (n, lo, .inr (.inl (b i j)) :: r, cH a b v) Q) : f_wp code (pc, lo, .inr (.inr (some i)) :: r, cH a b v) Q := wp_s hc (by unfold i_getL; dsimp only; rw [hs]; dsimp only; rw [hci]; dsimp only; rw [if_pos hk]) w
theorem c_getR {j ci : Nat} {fl : Nat → Option Nat} {ks : List Nat} {t : Option Nat} (hc : code pc = some (i_getR sh fl n)) (hs : sh[i]? = some (.inr (ci, ks))) (hci : fl ci = some j) (hk : ks[j]? = some 2) (ht : rC v i j = t) (w : f_wp code (n, lo, .inr (.inr t) :: r, cH a b v) Q) : f_wp code (pc, lo, .inr (.inr (some i)) :: r, cH a b v) Q := wp_s hc (by unfold i_getR; dsimp only; rw [hs]; dsimp only; rw [hci]; dsimp only; rw [if_pos hk]) (by subst ht; exact w)
theorem c_putI {z : Bool} {j ci : Nat} {fl : Nat → Option Nat} {ks : List Nat} {x : Int32} (hc : code pc = some (i_putI z sh fl n)) (hs : sh[i]? = some (.inr (ci, ks))) (hci : fl ci = some j) (hk : ks[j]? = some 0) (hz : z = true → x = 0 ∨ x = 1) (w : ∀ a1, a1 = mU a i j x → f_wp code (n, lo, r, cH a1 b v) Q) : f_wp code (pc, lo, .inl x :: .inr (.inr (some i)) :: r, cH a b v) Q := wp_s hc (by unfold i_putI; dsimp only; rw [hs]; dsimp only; rw [hci]; dsimp only; rw [if_pos ⟨hk, hz⟩]; rfl) (w _ rfl)
theorem c_putL {j ci : Nat} {fl : Nat → Option Nat} {ks : List Nat} {x : Int64} (hc : code pc = some (i_putL sh fl n)) (hs : sh[i]? = some (.inr (ci, ks))) (hci : fl ci = some j) (hk : ks[j]? = some 1) (w : ∀ b1, b1 = mV b i j x → f_wp code (n, lo, r, cH a b1 v) Q) : f_wp code (pc, lo, .inr (.inl x) :: .inr (.inr (some i)) :: r, cH a b v) Q := wp_s hc (by unfold i_putL; dsimp only; rw [hs]; dsimp only; rw [hci]; dsimp only; rw [if_pos hk]; rfl) (w _ rfl)
theorem c_putR {j ci k : Nat} {fl : Nat → Option Nat} {ks : List Nat} {x : Option Nat} (hc : code pc = some (i_putR sh fl n)) (hs : sh[i]? = some (.inr (ci, ks))) (hci : fl ci = some j) (hk : ks[j]? = some 2) (hu : f_uR (cH a b v) i j x = cH a b (vU v k x)) (w : ∀ v1, v1 = vU v k x → f_wp code (n, lo, r, cH a b v1) Q) : f_wp code (pc, lo, .inr (.inr x) :: .inr (.inr (some i)) :: r, cH a b v) Q := wp_s hc (by unfold i_putR; dsimp only; rw [hs]; dsimp only; rw [hci]; dsimp only; rw [if_pos hk, hu]) (w _ rfl)
theorem c_alen {t : Nat} (hc : code pc = some (i_alen sh n)) (hs : sh[i]? = some (.inl (t, N))) (ht : t < 6) (w : f_wp code (n, lo, .inl (Int32.ofNat N) :: r, h) Q) : f_wp code (pc, lo, .inr (.inr (some i)) :: r, h) Q := wp_s hc (by unfold i_alen; dsimp only; rw [hs]; dsimp only; rw [if_pos ht]) w
theorem c_sfld {g : Nat → Option f_V} {x : f_V} (hc : code pc = some (i_sfld g n)) (hg : g i = some x) (w : f_wp code (n, lo, x :: r, h) Q) : f_wp code (pc, lo, .inr (.inr (some i)) :: r, h) Q := wp_s hc (by unfold i_sfld; dsimp only; rw [hg]) w
theorem c_sel {pl : Nat} {g : Nat → f_V} (hc : code pc = some (i_sel N pl g n)) (hj : 0 ≤ j.toInt ∧ j.toInt < N) (w : f_wp code (n, lo, g j.toInt.toNat :: r, h) Q) : f_wp code (pc, lo, .inl j :: .inr (.inr (some pl)) :: r, h) Q := wp_s hc (by unfold i_sel; dsimp only; rw [if_pos ⟨rfl, Int32.le_iff_toInt_le.mpr hj.1, by show j.toInt.toNat < N; omega⟩]; rfl) w
theorem c_slen {pl : Nat} (hc : code pc = some (i_slen N pl n)) (w : f_wp code (n, lo, .inl (Int32.ofNat N) :: r, h) Q) : f_wp code (pc, lo, .inr (.inr (some pl)) :: r, h) Q := wp_s hc (by unfold i_slen; dsimp only; rw [if_pos rfl]) w
theorem c_ifnull {t : Nat} {x : Option Nat} (hc : code pc = some (i_ifnull t n)) (h1 : x = none → f_wp code (t, lo, r, h) Q) (h2 : ∀ y, x = some y → f_wp code (n, lo, r, h) Q) : f_wp code (pc, lo, .inr (.inr x) :: r, h) Q := by
  cases x with
  | none => exact wp_s hc rfl (h1 rfl)
  | some y => exact wp_s hc rfl (h2 y rfl)
theorem c_aw_eq {t : Nat} {x y : Option Nat} (hc : code pc = some (i_aw_eq t n)) (hw : f_wdb x = true ∧ f_wdb y = true) (h1 : x = y → f_wp code (t, lo, r, h) Q) (h2 : ¬ x = y → f_wp code (n, lo, r, h) Q) : f_wp code (pc, lo, .inr (.inr y) :: .inr (.inr x) :: r, h) Q := by
  by_cases e : x = y
  · exact wp_s hc (by unfold i_aw_eq; dsimp only; rw [if_pos (by rw [hw.1, hw.2]; rfl), if_pos e]) (h1 e)
  · exact wp_s hc (by unfold i_aw_eq; dsimp only; rw [if_pos (by rw [hw.1, hw.2]; rfl), if_neg e]) (h2 e)
theorem c_aw_ne {t : Nat} {x y : Option Nat} (hc : code pc = some (i_aw_ne t n)) (hw : f_wdb x = true ∧ f_wdb y = true) (h1 : x = y → f_wp code (n, lo, r, h) Q) (h2 : ¬ x = y → f_wp code (t, lo, r, h) Q) : f_wp code (pc, lo, .inr (.inr y) :: .inr (.inr x) :: r, h) Q := by
  by_cases e : x = y
  · exact wp_s hc (by unfold i_aw_ne; dsimp only; rw [if_pos (by rw [hw.1, hw.2]; rfl), if_pos e]) (h1 e)
  · exact wp_s hc (by unfold i_aw_ne; dsimp only; rw [if_pos (by rw [hw.1, hw.2]; rfl), if_neg e]) (h2 e)
theorem c_aret {x : Option Nat} (hc : code pc = some i_areturn) (hq : Q (some (.inr (.inr x))) h) : f_wp code (pc, lo, [.inr (.inr x)], h) Q := wp_r hc rfl hq
theorem c_copy {x y : Nat} {k : Int32} (hc : code pc = some (i_copy sh n)) (hx : sh[x]? = some (.inl (1, N))) (hy : sh[y]? = some (.inl (1, N))) (hk : k.toInt = N) (hr : f_cats r ≤ 16) (w : ∀ a1, (∀ c, c ≠ y → a1 c = a c) → (∀ j, j < N → a1 y j = a x j) → (∀ j, ¬ j < N → a1 y j = a y j) → f_wp code (n, lo, r, cH a1 b v) Q) : f_wp code (pc, lo, .inl k :: .inl 0 :: .inr (.inr (some y)) :: .inl 0 :: .inr (.inr (some x)) :: r, cH a b v) Q := by
  have hkN : k.toNatClampNeg = N := by show k.toInt.toNat = N; omega
  refine wp_s hc (s' := (n, lo, r, cH (fun c => if c = y then va_cpy (a x) (a y) 0 0 N else a c) b v)) ?_ (w _ (fun c h => if_neg h) (fun j hj => ?_) (fun j hj => ?_))
  · unfold i_copy
    (try dsimp only)
    rw [hx, hy]
    (try dsimp only)
    have h0 : (0 : Int32) ≤ k := Int32.le_iff_toInt_le.mpr (by have e0 : (0 : Int32).toInt = 0 := rfl; omega)
    show (if (0 : Int32) = 0 ∧ (0 : Int32) = 0 ∧ 0 ≤ k ∧ k.toNatClampNeg = N ∧ N = N ∧ f_cats r ≤ 16 then _ else _) = _
    rw [if_pos ⟨rfl, rfl, h0, hkN, rfl, hr⟩]
    rfl
  · rw [if_pos rfl]
    unfold va_cpy
    rw [if_pos ⟨Nat.zero_le _, by omega⟩]
    congr 1
    omega
  · rw [if_pos rfl]
    unfold va_cpy
    rw [if_neg (by omega)]
theorem c_invW {mt : Nat → Option f_T} {d d0 mm np : Nat} {pp : Nat → Bool} {as rest : List f_V} {Qc : Option f_V → f_H → Prop} (hc : code pc = some (i_invW (f_ev mt d) pp mm np n)) (hi : st[np]? = some (.inr (.inr (some i)))) (hp : pp i = true) (hr : st.drop (np + 1) = rest) (hcat : f_cats rest ≤ 8) (ha : (st.take (np + 1)).reverse = as) (hd : d0 ≤ d) (hC : f_call mt d0 mm as h Qc) (w : ∀ v h', Qc v h' → f_wp code (n, lo, v.toList ++ rest, h') Q) : f_wp code (pc, lo, st, h) Q := by
  subst hr; subst ha
  obtain ⟨z, hz, hq⟩ := hC d hd
  exact wp_s hc (by unfold i_invW; dsimp only; rw [hi]; dsimp only; rw [if_pos ⟨hp, hcat⟩, hz]) (w z.1 z.2 hq)
theorem c_invU {mt : Nat → Option f_T} {d d0 mm np ci : Nat} {mi : Nat → Option Nat} {ks : List Nat} {as rest : List f_V} {Qc : Option f_V → f_H → Prop} (hc : code pc = some (i_invU (f_ev mt d) sh mi np n)) (hi : st[np]? = some (.inr (.inr (some i)))) (hs : sh[i]? = some (.inr (ci, ks))) (hm : mi ci = some mm) (hr : st.drop (np + 1) = rest) (hcat : f_cats rest ≤ 8) (ha : (st.take (np + 1)).reverse = as) (hd : d0 ≤ d) (hC : f_call mt d0 mm as h Qc) (w : ∀ v h', Qc v h' → f_wp code (n, lo, v.toList ++ rest, h') Q) : f_wp code (pc, lo, st, h) Q := by
  subst hr; subst ha
  obtain ⟨z, hz, hq⟩ := hC d hd
  exact wp_s hc (by unfold i_invU; dsimp only; rw [hi]; dsimp only; rw [hs]; dsimp only; rw [hm]; dsimp only; rw [if_pos hcat, hz]) (w z.1 z.2 hq)
theorem c_invT {mt : Nat → Option f_T} {d d0 mm np : Nat} {as rest : List f_V} {Qc : Option f_V → f_H → Prop} (hc : code pc = some (i_invT (f_ev mt d) mm np n)) (hl : np ≤ st.length) (hr : st.drop np = rest) (hcat : f_cats rest ≤ 8) (ha : (st.take np).reverse = as) (hd : d0 ≤ d) (hC : f_call mt d0 mm as h Qc) (w : ∀ v h', Qc v h' → f_wp code (n, lo, v.toList ++ rest, h') Q) : f_wp code (pc, lo, st, h) Q := by
  subst hr; subst ha
  obtain ⟨z, hz, hq⟩ := hC d hd
  exact wp_s hc (by unfold i_invT; dsimp only; rw [if_pos ⟨hl, hcat⟩, hz]) (w z.1 z.2 hq)
theorem c_mmax {x y : Int32} (hc : code pc = some (i_mm (fun x y => if x < y then y else x) n)) (hr : f_cats r ≤ 16) (w : ∀ z : Int32, (z.toInt = x.toInt ∧ y.toInt ≤ x.toInt) ∨ (z.toInt = y.toInt ∧ x.toInt ≤ y.toInt) → f_wp code (n, lo, .inl z :: r, h) Q) : f_wp code (pc, lo, .inl y :: .inl x :: r, h) Q := wp_s hc (by unfold i_mm; dsimp only; rw [if_pos hr]) (w _ (by
  (try dsimp only)
  split
  · rename_i c; rw [Int32.lt_iff_toInt_lt] at c; exact Or.inr ⟨rfl, by omega⟩
  · rename_i c; rw [Int32.lt_iff_toInt_lt] at c; exact Or.inl ⟨rfl, by omega⟩))
theorem c_mmin {x y : Int32} (hc : code pc = some (i_mm (fun x y => if y < x then y else x) n)) (hr : f_cats r ≤ 16) (w : ∀ z : Int32, (z.toInt = x.toInt ∧ x.toInt ≤ y.toInt) ∨ (z.toInt = y.toInt ∧ y.toInt ≤ x.toInt) → f_wp code (n, lo, .inl z :: r, h) Q) : f_wp code (pc, lo, .inl y :: .inl x :: r, h) Q := wp_s hc (by unfold i_mm; dsimp only; rw [if_pos hr]) (w _ (by
  (try dsimp only)
  split
  · rename_i c; rw [Int32.lt_iff_toInt_lt] at c; exact Or.inr ⟨rfl, by omega⟩
  · rename_i c; rw [Int32.lt_iff_toInt_lt] at c; exact Or.inl ⟨rfl, by omega⟩))
theorem c_mabs {x : Int32} {op : Int32 → Int32} (hc : code pc = some (i_m1 op n)) (hr : f_cats r ≤ 16) (w : ∀ z : Int32, True → f_wp code (n, lo, .inl z :: r, h) Q) : f_wp code (pc, lo, .inl x :: r, h) Q := wp_s hc (by unfold i_m1; dsimp only; rw [if_pos hr]) (w _ trivial)
end C1
