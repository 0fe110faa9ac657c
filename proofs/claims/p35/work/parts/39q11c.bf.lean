-- NEAR: by mothers it is as by the shortest ways (all forests of six)
def pN (l : List Nat) : Nat → Nat
  | 0 => 0
  | c + 1 => l.getD c 0
def anN (l : List Nat) (c : Nat) : Nat → Nat
  | 0 => c
  | n + 1 => pN l (anN l c n)
def ksS (l : List Nat) (i j : Nat) : Nat → Nat
  | 0 => 99
  | m + 1 => if anN l (i + 1) ((35 - m) / 6) ≠ 0 ∧ anN l (i + 1) ((35 - m) / 6) = anN l (j + 1) ((35 - m) % 6) then (35 - m) / 6 + (35 - m) % 6 else ksS l i j m
def fwN (l : List Nat) : Nat → List Nat
  | 0 => (List.range 36).map (fun q => if q / 6 = q % 6 then 0 else if pN l (q / 6 + 1) = q % 6 + 1 ∨ pN l (q % 6 + 1) = q / 6 + 1 then 1 else 99)
  | k + 1 => (List.range 36).map (fun j => if (fwN l k).getD (j / 6 * 6 + k) 0 + (fwN l k).getD (6 * k + j % 6) 0 < (fwN l k).getD j 0 then (fwN l k).getD (j / 6 * 6 + k) 0 + (fwN l k).getD (6 * k + j % 6) 0 else (fwN l k).getD j 0)
def chkN (l : List Nat) : Bool := (List.range 36).all (fun q => (fwN l 6).getD q 0 == ksS l (q / 6) (q % 6) 36)
set_option maxRecDepth 100000 in
theorem bfN : ∀ p1, p1 < 2 → ∀ p2, p2 < 3 → ∀ p3, p3 < 4 → ∀ p4, p4 < 5 → ∀ p5, p5 < 6 → chkN [0, p1, p2, p3, p4, p5] = true := by decide +kernel
theorem getD_mr {f : Nat → Nat} {n j : Nat} (h : j < n) : ((List.range n).map f).getD j 0 = f j := by
  rw [List.getD_eq_getElem?_getD, List.getElem?_map, List.getElem?_range h]
  rfl
def cdV (V : Nat → Int) (i : Nat) : Nat := if (i : Int) < V 0 then (V (7 + 14 * i + 12) + 1).toNat else 0
def ldV (V : Nat → Int) : List Nat := [cdV V 0, cdV V 1, cdV V 2, cdV V 3, cdV V 4, cdV V 5]
theorem cdV_le {V : Nat → Int} (hG : GV V) (i : Nat) : cdV V i ≤ i := by
  unfold cdV
  split
  · rename_i h
    have g := (hG.2.2.2.2.2.1 i h).2.2.2.2.2.2.2
    have g : -1 ≤ V (7 + 14 * i + 12) ∧ V (7 + 14 * i + 12) < (i : Int) := g
    omega
  · omega
theorem ldV_get {V : Nat → Int} {i : Nat} (h : i < 6) : (ldV V).getD i 0 = cdV V i := by
  match i, h with
  | 0, _ => rfl
  | 1, _ => rfl
  | 2, _ => rfl
  | 3, _ => rfl
  | 4, _ => rfl
  | 5, _ => rfl
  | n + 6, h => exact absurd h (by omega)
theorem ldV_chk {V : Nat → Int} (hG : GV V) : chkN (ldV V) = true := by
  have c0 : cdV V 0 = 0 := by have := cdV_le hG 0; omega
  unfold ldV
  rw [c0]
  have c1 := cdV_le hG 1
  have c2 := cdV_le hG 2
  have c3 := cdV_le hG 3
  have c4 := cdV_le hG 4
  have c5 := cdV_le hG 5
  exact bfN _ (by omega) _ (by omega) _ (by omega) _ (by omega) _ (by omega)
theorem pN_s {l : List Nat} {c : Nat} : pN l (c + 1) = l.getD c 0 := rfl
theorem anN_s {l : List Nat} {c n : Nat} : anN l c (n + 1) = pN l (anN l c n) := rfl
theorem anc_N {V : Nat → Int} (hG : GV V) {i : Nat} (hi : (i : Int) < V 0) : ∀ n : Nat, ((anN (ldV V) (i + 1) n : Nat) : Int) = anc V i n + 1
  | 0 => by
    show ((i + 1 : Nat) : Int) = (i : Int) + 1
    omega
  | n + 1 => by
    have ih := anc_N hG hi n
    have r := anc_r hG (i := (i : Int)) (by omega) n
    have g0 := hG.1
    rw [anN_s]
    by_cases h : anc V i n = -1
    · have e : anN (ldV V) (i + 1) n = 0 := by omega
      rw [e, anc_s, if_pos h]
      rfl
    · obtain ⟨u, hu⟩ : ∃ u : Nat, anN (ldV V) (i + 1) n = u + 1 := ⟨anN (ldV V) (i + 1) n - 1, by omega⟩
      have e : anc V i n = (u : Int) := by omega
      have g := (hG.2.2.2.2.2.1 u (by omega)).2.2.2.2.2.2.2
      have g : -1 ≤ V (7 + 14 * u + 12) ∧ V (7 + 14 * u + 12) < (u : Int) := g
      rw [hu, pN_s, ldV_get (by omega), anc_y h, e]
      unfold cdV
      rw [if_pos (by omega), show ((u : Int)).toNat = u from by omega]
      omega
theorem fw_N {V : Nat → Int} (hG : GV V) : ∀ k : Nat, k ≤ 6 → ∀ j, j < 36 → FW V k j = (((fwN (ldV V) k).getD j 0 : Nat) : Int)
  | 0, _, j, hj => by
    show adjV V (j / 6) (j % 6) = (((List.map _ (List.range 36)).getD j 0 : Nat) : Int)
    rw [getD_mr hj]
    have c1 := cdV_le hG (j / 6)
    have c2 := cdV_le hG (j % 6)
    rw [pN_s, pN_s, ldV_get (by omega), ldV_get (by omega)]
    have iff : (((j / 6 : Nat) : Int) < V 0 ∧ ((j % 6 : Nat) : Int) < V 0) ∧ (V (7 + 14 * (j / 6) + 12) = ((j % 6 : Nat) : Int) ∨ V (7 + 14 * (j % 6) + 12) = ((j / 6 : Nat) : Int)) ↔ (cdV V (j / 6) = j % 6 + 1 ∨ cdV V (j % 6) = j / 6 + 1) := by
      constructor
      · intro ⟨⟨h1, h2⟩, h3⟩
        rcases h3 with h3 | h3
        · left
          unfold cdV
          rw [if_pos h1, h3]
          omega
        · right
          unfold cdV
          rw [if_pos h2, h3]
          omega
      · intro h
        rcases h with h | h
        · have h1 : ((j / 6 : Nat) : Int) < V 0 := by
            refine Decidable.byContradiction (fun q => ?_)
            unfold cdV at h
            rw [if_neg q] at h
            omega
          have g := (hG.2.2.2.2.2.1 (j / 6) h1).2.2.2.2.2.2.2
          have g : -1 ≤ V (7 + 14 * (j / 6) + 12) ∧ V (7 + 14 * (j / 6) + 12) < ((j / 6 : Nat) : Int) := g
          unfold cdV at h
          rw [if_pos h1] at h
          exact ⟨⟨h1, by omega⟩, Or.inl (by omega)⟩
        · have h1 : ((j % 6 : Nat) : Int) < V 0 := by
            refine Decidable.byContradiction (fun q => ?_)
            unfold cdV at h
            rw [if_neg q] at h
            omega
          have g := (hG.2.2.2.2.2.1 (j % 6) h1).2.2.2.2.2.2.2
          have g : -1 ≤ V (7 + 14 * (j % 6) + 12) ∧ V (7 + 14 * (j % 6) + 12) < ((j % 6 : Nat) : Int) := g
          unfold cdV at h
          rw [if_pos h1] at h
          exact ⟨⟨by omega, h1⟩, Or.inr (by omega)⟩
    unfold adjV
    by_cases q : j / 6 = j % 6
    · rw [if_pos q, if_pos q]
      rfl
    · rw [if_neg q, if_neg q]
      by_cases q2 : cdV V (j / 6) = j % 6 + 1 ∨ cdV V (j % 6) = j / 6 + 1
      · rw [if_pos (iff.mpr q2), if_pos q2]
        rfl
      · rw [if_neg (fun h => q2 (iff.mp h)), if_neg q2]
        rfl
  | k + 1, hk, j, hj => by
    have h1 := fw_N hG k (by omega) j hj
    have h2 := fw_N hG k (by omega) (j / 6 * 6 + k) (by omega)
    have h3 := fw_N hG k (by omega) (6 * k + j % 6) (by omega)
    show FW V (k + 1) j = (((List.map _ (List.range 36)).getD j 0 : Nat) : Int)
    rw [getD_mr hj, FW_s, h1, h2, h3]
    split
    · rw [if_pos (by omega)]
      omega
    · rw [if_neg (by omega)]
theorem mtc_N {V : Nat → Int} (hG : GV V) {i j : Nat} (hi : (i : Int) < V 0) (hj : (j : Int) < V 0) (k : Nat) : mtc V i j k ↔ (anN (ldV V) (i + 1) (k / 6) ≠ 0 ∧ anN (ldV V) (i + 1) (k / 6) = anN (ldV V) (j + 1) (k % 6)) := by
  have h1 := anc_N hG hi (k / 6)
  have h2 := anc_N hG hj (k % 6)
  unfold mtc
  constructor
  · intro ⟨p, q⟩
    exact ⟨by omega, by omega⟩
  · intro ⟨p, q⟩
    exact ⟨by omega, by omega⟩
theorem ksS_s {l : List Nat} {i j m : Nat} : ksS l i j (m + 1) = if anN l (i + 1) ((35 - m) / 6) ≠ 0 ∧ anN l (i + 1) ((35 - m) / 6) = anN l (j + 1) ((35 - m) % 6) then (35 - m) / 6 + (35 - m) % 6 else ksS l i j m := rfl
theorem ksS_at {V : Nat → Int} (hG : GV V) {i j : Nat} (hi : (i : Int) < V 0) (hj : (j : Int) < V 0) {k : Nat} (hk : k < 36) (hm : mtc V i j k) (hn : ∀ q, q < k → ¬ mtc V i j q) : ∀ m : Nat, m ≤ 36 → 36 - m ≤ k → ksS (ldV V) i j m = k / 6 + k % 6
  | 0, _, h => absurd h (by omega)
  | m + 1, hm1, h => by
    rw [ksS_s]
    rcases (by omega : 35 - m = k ∨ 35 - m < k) with q | q
    · rw [q, if_pos ((mtc_N hG hi hj k).mp hm)]
    · rw [if_neg (fun z => hn _ q ((mtc_N hG hi hj _).mpr z))]
      exact ksS_at hG hi hj hk hm hn m (by omega) (by omega)
theorem ksS_no {V : Nat → Int} (hG : GV V) {i j : Nat} (hi : (i : Int) < V 0) (hj : (j : Int) < V 0) (hn : ∀ q, q < 36 → ¬ mtc V i j q) : ∀ m : Nat, ksS (ldV V) i j m = 99
  | 0 => rfl
  | m + 1 => by
    rw [ksS_s, if_neg (fun z => hn _ (by omega) ((mtc_N hG hi hj _).mpr z))]
    exact ksS_no hG hi hj hn m
theorem ks_fw {V : Nat → Int} (hG : GV V) {i j : Nat} {x : Int} (hi : (i : Int) < V 0) (hj : (j : Int) < V 0) (h : KSR V i j x) : x = FW V 6 (6 * i + j) := by
  have g0 := hG.1
  have e : x = ((ksS (ldV V) i j 36 : Nat) : Int) := by
    rcases h with ⟨k, h1, h2, h3, h4⟩ | ⟨h1, h2⟩
    · rw [h3, ksS_at hG hi hj h1 h2 h4 36 (by omega) (by omega)]
    · rw [h1, ksS_no hG hi hj h2 36]
      rfl
  have c := ldV_chk hG
  unfold chkN at c
  have c1 := List.all_eq_true.mp c (6 * i + j) (List.mem_range.mpr (by omega))
  have c2 := eq_of_beq c1
  rw [e, fw_N hG 6 (by omega) (6 * i + j) (by omega), c2, show (6 * i + j) / 6 = i from by omega, show (6 * i + j) % 6 = j from by omega]
theorem NEARR.two {V : Nat → Int} (hG : GV V) {i j x y : Int32} (h : ((0 ≤ i.toInt ∧ i.toInt < V 0) ∧ (0 ≤ j.toInt ∧ j.toInt < V 0)) ∧ KSR V i.toInt j.toInt x.toInt ∨ ¬ ((0 ≤ i.toInt ∧ i.toInt < V 0) ∧ (0 ≤ j.toInt ∧ j.toInt < V 0)) ∧ x.toInt = -1) (g : NEARR V i j y) : x.toInt = y.toInt := by
  rcases h with ⟨h1, h2⟩ | ⟨h1, h2⟩ <;> rcases g with ⟨g1, g2⟩ | ⟨g1, g2⟩
  · rw [g2]
    have ei : i.toInt = ((i.toInt.toNat : Nat) : Int) := by omega
    have ej : j.toInt = ((j.toInt.toNat : Nat) : Int) := by omega
    rw [ei, ej] at h2
    exact ks_fw hG (by omega) (by omega) h2
  · exact absurd h1 g1
  · exact absurd g1 h1
  · rw [h2, g2]
