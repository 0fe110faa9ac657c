-- NEAR: by mothers it is as by the shortest ways (all forests of six)
def pNq (l : List Nat) : Nat → Nat
  | 0 => 0
  | c + 1 => l.getD c 0
def anN (l : List Nat) (c : Nat) : Nat → Nat
  | 0 => c
  | n + 1 => pNq l (anN l c n)
def inX (l : List Nat) (u : Nat) : Nat → Nat → Nat → Nat
  | 0, _, _ => 100
  | f + 1, c, b => match c with
    | 0 => 100
    | c + 1 => bif Nat.beq (c + 1) u then b else inX l u f (pNq l (c + 1)) (b + 1)
def outX (l : List Nat) (j : Nat) : Nat → Nat → Nat → Nat
  | 0, _, _ => 99
  | f + 1, u, s => match u with
    | 0 => 99
    | u + 1 => bif Nat.beq (inX l (u + 1) 6 (j + 1) 0) 100 then outX l j f (pNq l (u + 1)) (s + 1) else s + inX l (u + 1) 6 (j + 1) 0
-- lists that are wholly reckoned when they are looked at
def stN (n : Nat) (g : Nat → List Nat) : List Nat := match n with
  | 0 => g 0
  | m + 1 => g (m + 1)
theorem stN_e {n : Nat} {g : Nat → List Nat} : stN n g = g n := by cases n <;> rfl
def bld (f : Nat → Nat) : Nat → List Nat → List Nat
  | 0, acc => acc
  | n + 1, acc => stN (f n) (fun x => bld f n (x :: acc))
theorem bld_e {f : Nat → Nat} : ∀ (n : Nat) (acc : List Nat), bld f n acc = (List.range n).map f ++ acc
  | 0, _ => rfl
  | n + 1, acc => by
    show stN (f n) (fun x => bld f n (x :: acc)) = _
    rw [stN_e, bld_e n, List.range_succ, List.map_append, List.append_assoc]
    rfl
def stM (l : List Nat) (g : List Nat → List (List Nat)) : List (List Nat) := match l with
  | [] => g []
  | h :: t => g (h :: t)
theorem stM_e {l : List Nat} {g : List Nat → List (List Nat)} : stM l g = g l := by cases l <;> rfl
def bldL (f : Nat → List Nat) : Nat → List (List Nat) → List (List Nat)
  | 0, acc => acc
  | n + 1, acc => stM (f n) (fun x => bldL f n (x :: acc))
theorem bldL_e {f : Nat → List Nat} : ∀ (n : Nat) (acc : List (List Nat)), bldL f n acc = (List.range n).map f ++ acc
  | 0, _ => rfl
  | n + 1, acc => by
    show stM (f n) (fun x => bldL f n (x :: acc)) = _
    rw [stM_e, bldL_e n, List.range_succ, List.map_append, List.append_assoc]
    rfl
def stW (l : List (List Nat)) (g : List (List Nat) → List (List Nat)) : List (List Nat) := match l with
  | [] => g []
  | h :: t => g (h :: t)
theorem stW_e {l : List (List Nat)} {g : List (List Nat) → List (List Nat)} : stW l g = g l := by cases l <;> rfl
def gtR (F : List (List Nat)) (i j : Nat) : Nat := (F.getD i []).getD j 0
def nxR (F : List (List Nat)) (k i j : Nat) : Nat := bif Nat.ble (gtR F i j) (gtR F i k + gtR F k j) then gtR F i j else gtR F i k + gtR F k j
def ajR (l : List Nat) (i j : Nat) : Nat := bif Nat.beq i j then 0 else bif (Nat.beq (pNq l (i + 1)) (j + 1) || Nat.beq (pNq l (j + 1)) (i + 1)) then 1 else 99
def fwR (l : List Nat) : Nat → List (List Nat)
  | 0 => bldL (fun i => bld (fun j => ajR l i j) 6 []) 6 []
  | k + 1 => stW (fwR l k) (fun F => bldL (fun i => bld (fun j => nxR F k i j) 6 []) 6 [])
def chkN (l : List Nat) : Bool := match fwR l 6 with
  | [] => false
  | h :: t => (List.range 36).all (fun q => Nat.beq (gtR (h :: t) (q / 6) (q % 6)) (outX l (q % 6) 6 (q / 6 + 1) 0))
set_option maxRecDepth 100000 in
theorem bf_000 : ∀ p4, p4 < 5 → ∀ p5, p5 < 6 → chkN [0, 0, 0, 0, p4, p5] = true := by decide +kernel
set_option maxRecDepth 100000 in
theorem bf_001 : ∀ p4, p4 < 5 → ∀ p5, p5 < 6 → chkN [0, 0, 0, 1, p4, p5] = true := by decide +kernel
set_option maxRecDepth 100000 in
theorem bf_002 : ∀ p4, p4 < 5 → ∀ p5, p5 < 6 → chkN [0, 0, 0, 2, p4, p5] = true := by decide +kernel
set_option maxRecDepth 100000 in
theorem bf_003 : ∀ p4, p4 < 5 → ∀ p5, p5 < 6 → chkN [0, 0, 0, 3, p4, p5] = true := by decide +kernel
set_option maxRecDepth 100000 in
theorem bf_010 : ∀ p4, p4 < 5 → ∀ p5, p5 < 6 → chkN [0, 0, 1, 0, p4, p5] = true := by decide +kernel
set_option maxRecDepth 100000 in
theorem bf_011 : ∀ p4, p4 < 5 → ∀ p5, p5 < 6 → chkN [0, 0, 1, 1, p4, p5] = true := by decide +kernel
set_option maxRecDepth 100000 in
theorem bf_012 : ∀ p4, p4 < 5 → ∀ p5, p5 < 6 → chkN [0, 0, 1, 2, p4, p5] = true := by decide +kernel
set_option maxRecDepth 100000 in
theorem bf_013 : ∀ p4, p4 < 5 → ∀ p5, p5 < 6 → chkN [0, 0, 1, 3, p4, p5] = true := by decide +kernel
set_option maxRecDepth 100000 in
theorem bf_020 : ∀ p4, p4 < 5 → ∀ p5, p5 < 6 → chkN [0, 0, 2, 0, p4, p5] = true := by decide +kernel
set_option maxRecDepth 100000 in
theorem bf_021 : ∀ p4, p4 < 5 → ∀ p5, p5 < 6 → chkN [0, 0, 2, 1, p4, p5] = true := by decide +kernel
set_option maxRecDepth 100000 in
theorem bf_022 : ∀ p4, p4 < 5 → ∀ p5, p5 < 6 → chkN [0, 0, 2, 2, p4, p5] = true := by decide +kernel
set_option maxRecDepth 100000 in
theorem bf_023 : ∀ p4, p4 < 5 → ∀ p5, p5 < 6 → chkN [0, 0, 2, 3, p4, p5] = true := by decide +kernel
set_option maxRecDepth 100000 in
theorem bf_100 : ∀ p4, p4 < 5 → ∀ p5, p5 < 6 → chkN [0, 1, 0, 0, p4, p5] = true := by decide +kernel
set_option maxRecDepth 100000 in
theorem bf_101 : ∀ p4, p4 < 5 → ∀ p5, p5 < 6 → chkN [0, 1, 0, 1, p4, p5] = true := by decide +kernel
set_option maxRecDepth 100000 in
theorem bf_102 : ∀ p4, p4 < 5 → ∀ p5, p5 < 6 → chkN [0, 1, 0, 2, p4, p5] = true := by decide +kernel
set_option maxRecDepth 100000 in
theorem bf_103 : ∀ p4, p4 < 5 → ∀ p5, p5 < 6 → chkN [0, 1, 0, 3, p4, p5] = true := by decide +kernel
set_option maxRecDepth 100000 in
theorem bf_110 : ∀ p4, p4 < 5 → ∀ p5, p5 < 6 → chkN [0, 1, 1, 0, p4, p5] = true := by decide +kernel
set_option maxRecDepth 100000 in
theorem bf_111 : ∀ p4, p4 < 5 → ∀ p5, p5 < 6 → chkN [0, 1, 1, 1, p4, p5] = true := by decide +kernel
set_option maxRecDepth 100000 in
theorem bf_112 : ∀ p4, p4 < 5 → ∀ p5, p5 < 6 → chkN [0, 1, 1, 2, p4, p5] = true := by decide +kernel
set_option maxRecDepth 100000 in
theorem bf_113 : ∀ p4, p4 < 5 → ∀ p5, p5 < 6 → chkN [0, 1, 1, 3, p4, p5] = true := by decide +kernel
set_option maxRecDepth 100000 in
theorem bf_120 : ∀ p4, p4 < 5 → ∀ p5, p5 < 6 → chkN [0, 1, 2, 0, p4, p5] = true := by decide +kernel
set_option maxRecDepth 100000 in
theorem bf_121 : ∀ p4, p4 < 5 → ∀ p5, p5 < 6 → chkN [0, 1, 2, 1, p4, p5] = true := by decide +kernel
set_option maxRecDepth 100000 in
theorem bf_122 : ∀ p4, p4 < 5 → ∀ p5, p5 < 6 → chkN [0, 1, 2, 2, p4, p5] = true := by decide +kernel
set_option maxRecDepth 100000 in
theorem bf_123 : ∀ p4, p4 < 5 → ∀ p5, p5 < 6 → chkN [0, 1, 2, 3, p4, p5] = true := by decide +kernel
theorem bfN : ∀ p1, p1 < 2 → ∀ p2, p2 < 3 → ∀ p3, p3 < 4 → ∀ p4, p4 < 5 → ∀ p5, p5 < 6 → chkN [0, p1, p2, p3, p4, p5] = true := fun p1 h1 p2 h2 p3 h3 => by
  match p1, h1, p2, h2, p3, h3 with
  | 0, _, 0, _, 0, _ => exact bf_000
  | 0, _, 0, _, 1, _ => exact bf_001
  | 0, _, 0, _, 2, _ => exact bf_002
  | 0, _, 0, _, 3, _ => exact bf_003
  | 0, _, 1, _, 0, _ => exact bf_010
  | 0, _, 1, _, 1, _ => exact bf_011
  | 0, _, 1, _, 2, _ => exact bf_012
  | 0, _, 1, _, 3, _ => exact bf_013
  | 0, _, 2, _, 0, _ => exact bf_020
  | 0, _, 2, _, 1, _ => exact bf_021
  | 0, _, 2, _, 2, _ => exact bf_022
  | 0, _, 2, _, 3, _ => exact bf_023
  | 1, _, 0, _, 0, _ => exact bf_100
  | 1, _, 0, _, 1, _ => exact bf_101
  | 1, _, 0, _, 2, _ => exact bf_102
  | 1, _, 0, _, 3, _ => exact bf_103
  | 1, _, 1, _, 0, _ => exact bf_110
  | 1, _, 1, _, 1, _ => exact bf_111
  | 1, _, 1, _, 2, _ => exact bf_112
  | 1, _, 1, _, 3, _ => exact bf_113
  | 1, _, 2, _, 0, _ => exact bf_120
  | 1, _, 2, _, 1, _ => exact bf_121
  | 1, _, 2, _, 2, _ => exact bf_122
  | 1, _, 2, _, 3, _ => exact bf_123
  | p1 + 2, h1, _, _, _, _ => exact absurd h1 (by omega)
  | _, _, p2 + 3, h2, _, _ => exact absurd h2 (by omega)
  | _, _, _, _, p3 + 4, h3 => exact absurd h3 (by omega)
theorem getD_mg {α : Type} {f : Nat → α} {d : α} {n j : Nat} (h : j < n) : ((List.range n).map f).getD j d = f j := by
  rw [List.getD_eq_getElem?_getD, List.getElem?_map, List.getElem?_range h]
  rfl
theorem gt_b {f : Nat → Nat → Nat} {i j : Nat} (hi : i < 6) (hj : j < 6) : gtR (bldL (fun i => bld (fun j => f i j) 6 []) 6 []) i j = f i j := by
  unfold gtR
  rw [bldL_e, List.append_nil, getD_mg hi, bld_e, List.append_nil, getD_mg hj]
theorem gt_0 {l : List Nat} {i j : Nat} (hi : i < 6) (hj : j < 6) : gtR (fwR l 0) i j = ajR l i j := gt_b hi hj
theorem gt_s {l : List Nat} {k i j : Nat} (hi : i < 6) (hj : j < 6) : gtR (fwR l (k + 1)) i j = nxR (fwR l k) k i j := by
  show gtR (stW (fwR l k) _) i j = _
  rw [stW_e]
  exact gt_b hi hj
theorem chk_e {l : List Nat} (h : chkN l = true) {i j : Nat} (hi : i < 6) (hj : j < 6) : gtR (fwR l 6) i j = outX l j 6 (i + 1) 0 := by
  unfold chkN at h
  cases e : fwR l 6 with
  | nil =>
    rw [e] at h
    cases h
  | cons a t =>
    rw [e] at h
    have h1 := List.all_eq_true.mp h (6 * i + j) (List.mem_range.mpr (by omega))
    have h2 := Nat.eq_of_beq_eq_true h1
    rw [show (6 * i + j) / 6 = i from by omega, show (6 * i + j) % 6 = j from by omega] at h2
    exact h2
def cdV (V : Nat → Int) (i : Nat) : Nat := if (i : Int) < V 0 then (V (7 + 14 * i + 12) + 1).toNat else 0
def ldV (V : Nat → Int) : List Nat := [cdV V 0, cdV V 1, cdV V 2, cdV V 3, cdV V 4, cdV V 5]
theorem cdV_le {V : Nat → Int} (hG : GV V) (i : Nat) : cdV V i ≤ i := by
  unfold cdV
  split
  · rename_i h
    have g := (hG.2.2.2.2.2.1 i h).2.2.2.2.2.2.2
    have g : -1 ≤ V (7 + 14 * i + 12) ∧ V (7 + 14 * i + 12) < (i : Int) := g
    omega
  · omega
theorem ldV_get {V : Nat → Int} {i : Nat} (h : i < 6) : (ldV V).getD i 0 = cdV V i := by
  match i, h with
  | 0, _ => rfl
  | 1, _ => rfl
  | 2, _ => rfl
  | 3, _ => rfl
  | 4, _ => rfl
  | 5, _ => rfl
  | n + 6, h => exact absurd h (by omega)
theorem ldV_chk {V : Nat → Int} (hG : GV V) : chkN (ldV V) = true := by
  have c0 : cdV V 0 = 0 := by have := cdV_le hG 0; omega
  unfold ldV
  rw [c0]
  have c1 := cdV_le hG 1
  have c2 := cdV_le hG 2
  have c3 := cdV_le hG 3
  have c4 := cdV_le hG 4
  have c5 := cdV_le hG 5
  exact bfN _ (by omega) _ (by omega) _ (by omega) _ (by omega) _ (by omega)
theorem pNq_s {l : List Nat} {c : Nat} : pNq l (c + 1) = l.getD c 0 := rfl
theorem anN_s {l : List Nat} {c n : Nat} : anN l c (n + 1) = pNq l (anN l c n) := rfl
theorem anc_N {V : Nat → Int} (hG : GV V) {i : Nat} (hi : (i : Int) < V 0) : ∀ n : Nat, ((anN (ldV V) (i + 1) n : Nat) : Int) = anc V i n + 1
  | 0 => by
    show ((i + 1 : Nat) : Int) = (i : Int) + 1
    omega
  | n + 1 => by
    have ih := anc_N hG hi n
    have r := anc_r hG (i := (i : Int)) (by omega) n
    have g0 := hG.1
    rw [anN_s]
    by_cases h : anc V i n = -1
    · have e : anN (ldV V) (i + 1) n = 0 := by omega
      rw [e, anc_s, if_pos h]
      rfl
    · obtain ⟨u, hu⟩ : ∃ u : Nat, anN (ldV V) (i + 1) n = u + 1 := ⟨anN (ldV V) (i + 1) n - 1, by omega⟩
      have e : anc V i n = (u : Int) := by omega
      have g := (hG.2.2.2.2.2.1 u (by omega)).2.2.2.2.2.2.2
      have g : -1 ≤ V (7 + 14 * u + 12) ∧ V (7 + 14 * u + 12) < (u : Int) := g
      rw [hu, pNq_s, ldV_get (by omega), anc_y h, e]
      unfold cdV
      rw [if_pos (by omega), show ((u : Int)).toNat = u from by omega]
      omega
theorem beq_f {m n : Nat} (h : ¬ m = n) : Nat.beq m n = false := by
  cases e : Nat.beq m n with
  | true => exact absurd (Nat.eq_of_beq_eq_true e) h
  | false => rfl
theorem bif_beq {m n : Nat} {a b : Nat} : (bif Nat.beq m n then a else b) = if m = n then a else b := by
  by_cases h : m = n
  · rw [if_pos h, h, show Nat.beq n n = true from Nat.beq_refl n]
    rfl
  · rw [if_neg h, show Nat.beq m n = false from beq_f h]
    rfl
theorem fw_N {V : Nat → Int} (hG : GV V) : ∀ k : Nat, k ≤ 6 → ∀ j, j < 36 → FW V k j = ((gtR (fwR (ldV V) k) (j / 6) (j % 6) : Nat) : Int)
  | 0, _, j, hj => by
    show adjV V (j / 6) (j % 6) = _
    rw [gt_0 (by omega) (by omega)]
    have c1 := cdV_le hG (j / 6)
    have c2 := cdV_le hG (j % 6)
    have iff : (((j / 6 : Nat) : Int) < V 0 ∧ ((j % 6 : Nat) : Int) < V 0) ∧ (V (7 + 14 * (j / 6) + 12) = ((j % 6 : Nat) : Int) ∨ V (7 + 14 * (j % 6) + 12) = ((j / 6 : Nat) : Int)) ↔ (cdV V (j / 6) = j % 6 + 1 ∨ cdV V (j % 6) = j / 6 + 1) := by
      constructor
      · intro ⟨⟨h1, h2⟩, h3⟩
        rcases h3 with h3 | h3
        · left
          unfold cdV
          rw [if_pos h1, h3]
          omega
        · right
          unfold cdV
          rw [if_pos h2, h3]
          omega
      · intro h
        rcases h with h | h
        · have h1 : ((j / 6 : Nat) : Int) < V 0 := by
            refine Decidable.byContradiction (fun q => ?_)
            unfold cdV at h
            rw [if_neg q] at h
            omega
          have g := (hG.2.2.2.2.2.1 (j / 6) h1).2.2.2.2.2.2.2
          have g : -1 ≤ V (7 + 14 * (j / 6) + 12) ∧ V (7 + 14 * (j / 6) + 12) < ((j / 6 : Nat) : Int) := g
          unfold cdV at h
          rw [if_pos h1] at h
          exact ⟨⟨h1, by omega⟩, Or.inl (by omega)⟩
        · have h1 : ((j % 6 : Nat) : Int) < V 0 := by
            refine Decidable.byContradiction (fun q => ?_)
            unfold cdV at h
            rw [if_neg q] at h
            omega
          have g := (hG.2.2.2.2.2.1 (j % 6) h1).2.2.2.2.2.2.2
          have g : -1 ≤ V (7 + 14 * (j % 6) + 12) ∧ V (7 + 14 * (j % 6) + 12) < ((j % 6 : Nat) : Int) := g
          unfold cdV at h
          rw [if_pos h1] at h
          exact ⟨⟨by omega, h1⟩, Or.inr (by omega)⟩
    unfold adjV ajR
    rw [bif_beq, pNq_s, pNq_s, ldV_get (by omega), ldV_get (by omega)]
    by_cases q : j / 6 = j % 6
    · rw [if_pos q, if_pos q]
      rfl
    · rw [if_neg q, if_neg q]
      by_cases q2 : cdV V (j / 6) = j % 6 + 1 ∨ cdV V (j % 6) = j / 6 + 1
      · rw [if_pos (iff.mpr q2)]
        have e : (Nat.beq (cdV V (j / 6)) (j % 6 + 1) || Nat.beq (cdV V (j % 6)) (j / 6 + 1)) = true := by
          rw [Bool.or_eq_true]
          exact q2.imp (fun h => by rw [h]; exact Nat.beq_refl _) (fun h => by rw [h]; exact Nat.beq_refl _)
        rw [e]
        rfl
      · rw [if_neg (fun h => q2 (iff.mp h))]
        have e : (Nat.beq (cdV V (j / 6)) (j % 6 + 1) || Nat.beq (cdV V (j % 6)) (j / 6 + 1)) = false := by
          rw [Bool.or_eq_false_iff]
          exact ⟨beq_f (fun h => q2 (Or.inl h)), beq_f (fun h => q2 (Or.inr h))⟩
        rw [e]
        rfl
  | k + 1, hk, j, hj => by
    have h1 := fw_N hG k (by omega) j hj
    have h2 := fw_N hG k (by omega) (j / 6 * 6 + k) (by omega)
    have h3 := fw_N hG k (by omega) (6 * k + j % 6) (by omega)
    rw [show (j / 6 * 6 + k) / 6 = j / 6 from by omega, show (j / 6 * 6 + k) % 6 = k from by omega] at h2
    rw [show (6 * k + j % 6) / 6 = k from by omega, show (6 * k + j % 6) % 6 = j % 6 from by omega] at h3
    rw [gt_s (by omega) (by omega), FW_s, h1, h2, h3]
    unfold nxR
    cases e : Nat.ble (gtR (fwR (ldV V) k) (j / 6) (j % 6)) (gtR (fwR (ldV V) k) (j / 6) k + gtR (fwR (ldV V) k) k (j % 6)) with
    | true =>
      have g := Nat.le_of_ble_eq_true e
      rw [if_neg (by omega)]
      rfl
    | false =>
      have g : ¬ gtR (fwR (ldV V) k) (j / 6) (j % 6) ≤ gtR (fwR (ldV V) k) (j / 6) k + gtR (fwR (ldV V) k) k (j % 6) := fun h => by
        rw [Nat.ble_eq_true_of_le h] at e
        cases e
      rw [if_pos (by omega)]
      rfl
theorem mtc_N {V : Nat → Int} (hG : GV V) {i j : Nat} (hi : (i : Int) < V 0) (hj : (j : Int) < V 0) (k : Nat) : mtc V i j k ↔ (anN (ldV V) (i + 1) (k / 6) ≠ 0 ∧ anN (ldV V) (i + 1) (k / 6) = anN (ldV V) (j + 1) (k % 6)) := by
  have h1 := anc_N hG hi (k / 6)
  have h2 := anc_N hG hj (k % 6)
  unfold mtc
  constructor
  · intro ⟨p, q⟩
    exact ⟨by omega, by omega⟩
  · intro ⟨p, q⟩
    exact ⟨by omega, by omega⟩
theorem anN_sh {l : List Nat} {c : Nat} : ∀ n : Nat, anN l (pNq l c) n = anN l c (n + 1)
  | 0 => rfl
  | n + 1 => by rw [anN_s, anN_sh n, ← anN_s]
theorem anN_0 {l : List Nat} : ∀ n : Nat, anN l 0 n = 0
  | 0 => rfl
  | n + 1 => by
    rw [anN_s, anN_0 n]
    rfl
theorem inX_no {l : List Nat} {u : Nat} : ∀ (f c b : Nat), (∀ n, n < f → ¬ anN l c n = u) → inX l u f c b = 100
  | 0, _, _, _ => rfl
  | f + 1, 0, _, _ => rfl
  | f + 1, c + 1, b, h => by
    show (bif Nat.beq (c + 1) u then b else inX l u f (pNq l (c + 1)) (b + 1)) = 100
    have h0 : ¬ c + 1 = u := h 0 (by omega)
    rw [beq_f h0]
    exact inX_no f _ _ (fun n hn => by
      rw [anN_sh]
      exact h (n + 1) (by omega))
theorem inX_at {l : List Nat} {u : Nat} (hu : ¬ u = 0) : ∀ (f c b n : Nat), n < f → anN l c n = u → (∀ m, m < n → ¬ anN l c m = u) → inX l u f c b = b + n
  | 0, _, _, _, h, _, _ => absurd h (Nat.not_lt_zero _)
  | f + 1, 0, _, n, _, h, _ => absurd ((anN_0 n).symm.trans h).symm hu
  | f + 1, c + 1, b, 0, _, h, _ => by
    have h : c + 1 = u := h
    show (bif Nat.beq (c + 1) u then b else inX l u f (pNq l (c + 1)) (b + 1)) = b + 0
    rw [h, Nat.beq_refl]
    rfl
  | f + 1, c + 1, b, n + 1, hn, h, hm => by
    show (bif Nat.beq (c + 1) u then b else inX l u f (pNq l (c + 1)) (b + 1)) = b + (n + 1)
    have h0 : ¬ c + 1 = u := hm 0 (by omega)
    rw [beq_f h0]
    have g := inX_at hu f (pNq l (c + 1)) (b + 1) n (by omega) (by rw [anN_sh]; exact h) (fun m hm' => by
      rw [anN_sh]
      exact hm (m + 1) (by omega))
    show inX l u f (pNq l (c + 1)) (b + 1) = b + (n + 1)
    rw [g]
    omega
theorem outX_no {l : List Nat} {j : Nat} : ∀ (f u s : Nat), (∀ n, n < f → anN l u n = 0 ∨ ∀ r, r < 6 → ¬ anN l (j + 1) r = anN l u n) → outX l j f u s = 99
  | 0, _, _, _ => rfl
  | f + 1, 0, _, _ => rfl
  | f + 1, u + 1, s, h => by
    show (bif Nat.beq (inX l (u + 1) 6 (j + 1) 0) 100 then outX l j f (pNq l (u + 1)) (s + 1) else s + inX l (u + 1) 6 (j + 1) 0) = 99
    have h0 : ∀ r, r < 6 → ¬ anN l (j + 1) r = u + 1 := (h 0 (by omega)).resolve_left (Nat.succ_ne_zero u)
    rw [inX_no 6 (j + 1) 0 h0]
    exact outX_no f _ _ (fun n hn => by
      rw [anN_sh]
      exact h (n + 1) (by omega))
theorem outX_at {l : List Nat} {j r : Nat} (hr : r < 6) : ∀ (f u s n : Nat), n < f → ¬ anN l u n = 0 → anN l (j + 1) r = anN l u n → (∀ b, b < r → ¬ anN l (j + 1) b = anN l u n) → (∀ m, m < n → ∀ b, b < 6 → ¬ anN l (j + 1) b = anN l u m) → outX l j f u s = s + n + r
  | 0, _, _, _, h, _, _, _, _ => absurd h (Nat.not_lt_zero _)
  | f + 1, 0, _, n, _, h, _, _, _ => absurd (anN_0 n) h
  | f + 1, u + 1, s, 0, _, h, e, hb, _ => by
    show (bif Nat.beq (inX l (u + 1) 6 (j + 1) 0) 100 then outX l j f (pNq l (u + 1)) (s + 1) else s + inX l (u + 1) 6 (j + 1) 0) = s + 0 + r
    rw [inX_at (Nat.succ_ne_zero u) 6 (j + 1) 0 r hr e hb, beq_f (by omega)]
    show s + (0 + r) = s + 0 + r
    omega
  | f + 1, u + 1, s, n + 1, hn, h, e, hb, hm => by
    show (bif Nat.beq (inX l (u + 1) 6 (j + 1) 0) 100 then outX l j f (pNq l (u + 1)) (s + 1) else s + inX l (u + 1) 6 (j + 1) 0) = s + (n + 1) + r
    have h0 : ∀ r, r < 6 → ¬ anN l (j + 1) r = u + 1 := hm 0 (by omega)
    rw [inX_no 6 (j + 1) 0 h0]
    have g := outX_at hr f (pNq l (u + 1)) (s + 1) n (by omega) (by rw [anN_sh]; exact h) (by rw [anN_sh]; exact e) (by rw [anN_sh]; exact hb) (fun m hm' => by
      rw [anN_sh]
      exact hm (m + 1) (by omega))
    show outX l j f (pNq l (u + 1)) (s + 1) = s + (n + 1) + r
    rw [g]
    omega
theorem ks_fw {V : Nat → Int} (hG : GV V) {i j : Nat} {x : Int} (hi : (i : Int) < V 0) (hj : (j : Int) < V 0) (h : KSR V i j x) : x = FW V 6 (6 * i + j) := by
  have g0 := hG.1
  rw [fw_N hG 6 (by omega) (6 * i + j) (by omega), show (6 * i + j) / 6 = i from by omega, show (6 * i + j) % 6 = j from by omega, chk_e (ldV_chk hG) (by omega) (by omega)]
  rcases h with ⟨k, h1, h2, h3, h4⟩ | ⟨h1, h2⟩
  · obtain ⟨m1, m2⟩ := (mtc_N hG hi hj k).mp h2
    have nz : ∀ m, m ≤ k / 6 → ¬ anN (ldV V) (i + 1) m = 0 := fun m hm e => m1 (by
      obtain ⟨d, hd⟩ : ∃ d, k / 6 = m + d := ⟨k / 6 - m, by omega⟩
      rw [hd]
      clear hd
      induction d with
      | zero => exact e
      | succ d ih =>
        show pNq (ldV V) (anN (ldV V) (i + 1) (m + d)) = 0
        rw [ih]
        rfl)
    rw [outX_at (r := k % 6) (by omega) 6 (i + 1) 0 (k / 6) (by omega) m1 m2.symm (fun b hb e => h4 (6 * (k / 6) + b) (by omega) ((mtc_N hG hi hj _).mpr (by
      rw [show (6 * (k / 6) + b) / 6 = k / 6 from by omega, show (6 * (k / 6) + b) % 6 = b from by omega]
      exact ⟨m1, e.symm⟩))) (fun m hm b hb e => h4 (6 * m + b) (by omega) ((mtc_N hG hi hj _).mpr (by
      rw [show (6 * m + b) / 6 = m from by omega, show (6 * m + b) % 6 = b from by omega]
      exact ⟨nz m (by omega), e.symm⟩))), h3]
    omega
  · rw [outX_no 6 (i + 1) 0 (fun n hn => Classical.byContradiction (fun q => by
      have q1 : ¬ anN (ldV V) (i + 1) n = 0 := fun e => q (Or.inl e)
      exact q (Or.inr (fun r hr e => h2 (6 * n + r) (by omega) ((mtc_N hG hi hj _).mpr (by
        rw [show (6 * n + r) / 6 = n from by omega, show (6 * n + r) % 6 = r from by omega]
        exact ⟨q1, e.symm⟩))))))]
    exact h1
theorem NEARR.two {V : Nat → Int} (hG : GV V) {i j x y : Int32} (h : ((0 ≤ i.toInt ∧ i.toInt < V 0) ∧ (0 ≤ j.toInt ∧ j.toInt < V 0)) ∧ KSR V i.toInt j.toInt x.toInt ∨ ¬ ((0 ≤ i.toInt ∧ i.toInt < V 0) ∧ (0 ≤ j.toInt ∧ j.toInt < V 0)) ∧ x.toInt = -1) (g : NEARR V i j y) : x.toInt = y.toInt := by
  rcases h with ⟨h1, h2⟩ | ⟨h1, h2⟩ <;> rcases g with ⟨g1, g2⟩ | ⟨g1, g2⟩
  · rw [g2]
    have ei : i.toInt = ((i.toInt.toNat : Nat) : Int) := by omega
    have ej : j.toInt = ((j.toInt.toNat : Nat) : Int) := by omega
    rw [ei, ej] at h2
    exact ks_fw hG (by omega) (by omega) h2
  · exact absurd h1 g1
  · exact absurd g1 h1
  · rw [h2, g2]
