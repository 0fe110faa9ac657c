-- the class's and the model's land, as numbers
def CLI (L : Nat) (V : Nat → Int) (a : Nat → Nat → Int32) : Prop := (a L 7).toInt = V 0 ∧ (a L 8).toInt = V 1 ∧ ((a L 9).toInt = V 2 ∧ (a L 10).toInt = V 3 ∧ (a L 11).toInt = V 4) ∧ (∀ k : Nat, (k : Int) < V 1 → (a (L + 2) k).toInt = V (91 + 2 * k) ∧ (a (L + 3) k).toInt = V (92 + 2 * k)) ∧ (∀ i : Nat, (i : Int) < V 0 → RVC (L + 1 + 11 + 2 * i) (fun w => V (7 + 14 * i + w)) a)
def LRL (V : Nat → Int) (a : Nat → Nat → Int32) : Prop := ∀ j, j < 110 → ¬ (j = 5 ∨ j = 6 ∨ (7 ≤ j ∧ j < 91 ∧ (j - 7) % 14 = 13)) → (a 6 j).toInt = V j
theorem CLN.ci {t : Nat → Int32} {z L : Nat} {V : Nat → Int} {M : Nat → Int64} {a : Nat → Nat → Int32} {b : Nat → Nat → Int64} (h : CLN t z L V M a b) : CLI L V a := ⟨h.1.1, h.2.1.1, h.2.2.1, h.2.2.2.1, h.2.2.2.2.2⟩
theorem CLI.same {L : Nat} {V : Nat → Int} {a a' : Nat → Nat → Int32} (h : CLI L V a) (ha : ∀ i, i = L ∨ i = L + 2 ∨ i = L + 3 ∨ (L + 12 ≤ i ∧ i < L + 24) → a' i = a i) (hG : GV V) : CLI L V a' := by
  obtain ⟨h1, h2, h3, h4, h5⟩ := h
  have g := hG.1
  unfold CLI
  rw [ha L (by omega), ha (L + 2) (by omega), ha (L + 3) (by omega)]
  exact ⟨h1, h2, h3, h4, fun i hi => (h5 i hi).same (ha _ (by omega)) (ha _ (by omega)) (fun _ _ => rfl)⟩
theorem LRL.same {V : Nat → Int} {a a' : Nat → Nat → Int32} (h : LRL V a) (e : ∀ j, j < 110 → a' 6 j = a 6 j) : LRL V a' := fun j q1 q2 => by rw [e j q1]; exact h j q1 q2
-- DIGGING
def thk (V : Nat → Int) (p q : Int) : Nat → Int
  | 0 => 0
  | k + 1 => thk V p q k + if (p < V (91 + 2 * k) ∧ V (91 + 2 * k) < q) ∨ (q < V (91 + 2 * k) ∧ V (91 + 2 * k) < p) then V (92 + 2 * k) else 0
theorem thk_s {V : Nat → Int} {p q : Int} {k : Nat} : thk V p q (k + 1) = thk V p q k + if (p < V (91 + 2 * k) ∧ V (91 + 2 * k) < q) ∨ (q < V (91 + 2 * k) ∧ V (91 + 2 * k) < p) then V (92 + 2 * k) else 0 := rfl
theorem thk_y {V : Nat → Int} {p q : Int} {k : Nat} (h : (p < V (91 + 2 * k) ∧ V (91 + 2 * k) < q) ∨ (q < V (91 + 2 * k) ∧ V (91 + 2 * k) < p)) : thk V p q (k + 1) = thk V p q k + V (92 + 2 * k) := by rw [thk_s, if_pos h]
theorem thk_n {V : Nat → Int} {p q : Int} {k : Nat} (h : ¬ ((p < V (91 + 2 * k) ∧ V (91 + 2 * k) < q) ∨ (q < V (91 + 2 * k) ∧ V (91 + 2 * k) < p))) : thk V p q (k + 1) = thk V p q k := by rw [thk_s, if_neg h, Int.add_zero]
abbrev plc (V : Nat → Int) (i : Nat) : Int := V (7 + 14 * i + 3)
def dgV (V : Nat → Int) (i j : Nat) : Int := (if plc V i < plc V j then plc V j - plc V i else plc V i - plc V j) + thk V (plc V i) (plc V j) (V 1).toNat
def DIGR (V : Nat → Int) (i j x : Int32) : Prop := (((0 ≤ i.toInt ∧ i.toInt < V 0) ∧ (0 ≤ j.toInt ∧ j.toInt < V 0) ∧ ¬ i.toInt = j.toInt) ∧ x.toInt = dgV V i.toInt.toNat j.toInt.toNat) ∨ (¬ ((0 ≤ i.toInt ∧ i.toInt < V 0) ∧ (0 ≤ j.toInt ∧ j.toInt < V 0) ∧ ¬ i.toInt = j.toInt) ∧ x.toInt = -1)
theorem DIGR.one {V : Nat → Int} {i j x y : Int32} (h : DIGR V i j x) (g : DIGR V i j y) : x.toInt = y.toInt := by
  rcases h with ⟨h1, h2⟩ | ⟨h1, h2⟩ <;> rcases g with ⟨g1, g2⟩ | ⟨g1, g2⟩
  · rw [h2, g2]
  · exact absurd h1 g1
  · exact absurd g1 h1
  · rw [h2, g2]
theorem abs_ti {x z : Int32} (h : z = (if (0 : Int32) ≤ x then x else 0 - x)) (hx : -1000 ≤ x.toInt ∧ x.toInt ≤ 1000) : (0 ≤ x.toInt ∧ z.toInt = x.toInt) ∨ (x.toInt < 0 ∧ z.toInt = -x.toInt) := by
  by_cases g : (0 : Int32) ≤ x
  · rw [if_pos g] at h
    have g1 := Int32.le_iff_toInt_le.mp g
    have e : (0 : Int32).toInt = 0 := rfl
    subst h
    exact Or.inl ⟨by omega, rfl⟩
  · rw [if_neg g] at h
    have g1 := mt Int32.le_iff_toInt_le.mpr g
    have e : (0 : Int32).toInt = 0 := rfl
    have e2 := ti_sub (x := 0) (y := x) (by omega)
    rw [← h] at e2
    exact Or.inr ⟨by omega, by omega⟩
theorem neg_ti {x z : Int32} (h : z = -x) (hx : -1000 ≤ x.toInt ∧ x.toInt ≤ 1000) : z.toInt = -x.toInt := by
  have e : (0 : Int32).toInt = 0 := rfl
  have e2 := ti_sub (x := 0) (y := x) (by omega)
  rw [Int32.zero_sub, ← h] at e2
  omega
theorem qc_mabsE {code : Nat → Option f_I} {fu pc n : Nat} {lo : List (Option f_V)} {r : List f_V} {h : f_H} {Q : Option f_V → f_H → Prop} {x : Int32} {op : Int32 → Int32} (hc : code pc = some (i_m1 op n)) (hr : f_cats r ≤ 16) (w : ∀ z : Int32, z = op x → f_pq code fu (n, lo, .inl z :: r, h) Q) : f_pq code fu (pc, lo, .inl x :: r, h) Q := pq_s hc (by unfold i_m1; dsimp only; rw [if_pos hr]) (w _ rfl)
-- NEAR, by mothers
def anc (V : Nat → Int) (i : Int) : Nat → Int
  | 0 => i
  | n + 1 => if anc V i n = -1 then -1 else V (7 + 14 * (anc V i n).toNat + 12)
theorem anc_s {V : Nat → Int} {i : Int} {n : Nat} : anc V i (n + 1) = if anc V i n = -1 then -1 else V (7 + 14 * (anc V i n).toNat + 12) := rfl
theorem anc_y {V : Nat → Int} {i : Int} {n : Nat} (h : ¬ anc V i n = -1) : anc V i (n + 1) = V (7 + 14 * (anc V i n).toNat + 12) := if_neg h
theorem anc_none {V : Nat → Int} {i : Int} {n : Nat} (h : anc V i n = -1) : ∀ m, n ≤ m → anc V i m = -1
  | 0, hm => by
    have e : n = 0 := by omega
    subst e
    exact h
  | m + 1, hm => by
    rcases Nat.lt_or_ge m n with g | g
    · have e : n = m + 1 := by omega
      rw [← e]
      exact h
    · rw [anc_s, if_pos (anc_none h m g)]
theorem anc_r {V : Nat → Int} (hG : GV V) {i : Int} (hi : -1 ≤ i ∧ i < V 0) : ∀ n : Nat, -1 ≤ anc V i n ∧ anc V i n < V 0
  | 0 => hi
  | n + 1 => by
    have ih := anc_r hG hi n
    have g0 := hG.1
    by_cases h : anc V i n = -1
    · rw [anc_s, if_pos h]
      omega
    · rw [anc_y h]
      have g := (hG.2.2.2.2.2.1 (anc V i n).toNat (by omega)).2.2.2.2.2.2.2
      have g : -1 ≤ V (7 + 14 * (anc V i n).toNat + 12) ∧ V (7 + 14 * (anc V i n).toNat + 12) < ((anc V i n).toNat : Int) := g
      omega
def mtc (V : Nat → Int) (i j : Int) (k : Nat) : Prop := ¬ anc V i (k / 6) = -1 ∧ anc V i (k / 6) = anc V j (k % 6)
def KSR (V : Nat → Int) (i j x : Int) : Prop := (∃ k, k < 36 ∧ mtc V i j k ∧ x = ((k / 6 + k % 6 : Nat) : Int) ∧ ∀ q, q < k → ¬ mtc V i j q) ∨ (x = 99 ∧ ∀ q, q < 36 → ¬ mtc V i j q)
-- NEAR, by the shortest ways
def adjV (V : Nat → Int) (x y : Nat) : Int := if x = y then 0 else if ((x : Int) < V 0 ∧ (y : Int) < V 0) ∧ (V (7 + 14 * x + 12) = y ∨ V (7 + 14 * y + 12) = x) then 1 else 99
def FW (V : Nat → Int) : Nat → Nat → Int
  | 0, j => adjV V (j / 6) (j % 6)
  | k + 1, j => if FW V k (j / 6 * 6 + k) + FW V k (6 * k + j % 6) < FW V k j then FW V k (j / 6 * 6 + k) + FW V k (6 * k + j % 6) else FW V k j
theorem FW_s {V : Nat → Int} {k j : Nat} : FW V (k + 1) j = if FW V k (j / 6 * 6 + k) + FW V k (6 * k + j % 6) < FW V k j then FW V k (j / 6 * 6 + k) + FW V k (6 * k + j % 6) else FW V k j := rfl
theorem FW_r {V : Nat → Int} : ∀ k j : Nat, 0 ≤ FW V k j ∧ FW V k j ≤ 99
  | 0, j => by
    show 0 ≤ adjV V (j / 6) (j % 6) ∧ adjV V (j / 6) (j % 6) ≤ 99
    unfold adjV
    split
    · omega
    · split <;> omega
  | k + 1, j => by
    have h1 := FW_r (V := V) k j
    have h2 := FW_r (V := V) k (j / 6 * 6 + k)
    have h3 := FW_r (V := V) k (6 * k + j % 6)
    rw [FW_s]
    split <;> omega
theorem FW_d {V : Nat → Int} {x : Nat} (hx : x < 6) : ∀ k : Nat, FW V k (7 * x) = 0
  | 0 => by
    show adjV V (7 * x / 6) (7 * x % 6) = 0
    unfold adjV
    rw [if_pos (by omega)]
  | k + 1 => by
    have h1 := FW_d (V := V) hx k
    have h2 := FW_r (V := V) k (7 * x / 6 * 6 + k)
    have h3 := FW_r (V := V) k (6 * k + 7 * x % 6)
    rw [FW_s, h1]
    split <;> omega
theorem FW_col {V : Nat → Int} {k x : Nat} (hk : k < 6) : FW V (k + 1) (x * 6 + k) = FW V k (x * 6 + k) := by
  have h := FW_d (V := V) hk k
  rw [FW_s, show (x * 6 + k) / 6 * 6 + k = x * 6 + k from by omega, show 6 * k + (x * 6 + k) % 6 = 7 * k from by omega, h]
  split <;> omega
theorem FW_row {V : Nat → Int} {k y : Nat} (hk : k < 6) (hy : y < 6) : FW V (k + 1) (6 * k + y) = FW V k (6 * k + y) := by
  have h := FW_d (V := V) hk k
  rw [FW_s, show (6 * k + y) / 6 * 6 + k = 7 * k from by omega, show 6 * k + (6 * k + y) % 6 = 6 * k + y from by omega, h]
  split <;> omega
def NEARR (V : Nat → Int) (i j x : Int32) : Prop := (((0 ≤ i.toInt ∧ i.toInt < V 0) ∧ (0 ≤ j.toInt ∧ j.toInt < V 0)) ∧ x.toInt = FW V 6 (6 * i.toInt.toNat + j.toInt.toNat)) ∨ (¬ ((0 ≤ i.toInt ∧ i.toInt < V 0) ∧ (0 ≤ j.toInt ∧ j.toInt < V 0)) ∧ x.toInt = -1)
theorem NEARR.one {V : Nat → Int} {i j x y : Int32} (h : NEARR V i j x) (g : NEARR V i j y) : x.toInt = y.toInt := by
  rcases h with ⟨h1, h2⟩ | ⟨h1, h2⟩ <;> rcases g with ⟨g1, g2⟩ | ⟨g1, g2⟩
  · rw [h2, g2]
  · exact absurd h1 g1
  · exact absurd g1 h1
  · rw [h2, g2]
-- the land: kept by the class, by the model
def LCK (a : Nat → Nat → Int32) (v : Nat → Option Nat) (a' : Nat → Nat → Int32) (v' : Nat → Option Nat) : Prop := v' 0 = v 0 ∧ ∀ L, v 0 = some L → (L = 22 ∨ L = 46) → ∀ c, ((L ≤ c ∧ c < L + 4) ∨ (L + 10 ≤ c ∧ c < L + 24)) → a' c = a c
def LMK (a a' : Nat → Nat → Int32) : Prop := ∀ j, j < 110 → a' 6 j = a 6 j
theorem LCK.rf {a : Nat → Nat → Int32} {v : Nat → Option Nat} : LCK a v a v := ⟨rfl, fun _ _ _ _ _ => rfl⟩
theorem LMK.rf {a : Nat → Nat → Int32} : LMK a a := fun _ _ => rfl
theorem cH_inj {a a2 : Nat → Nat → Int32} {b b2 : Nat → Nat → Int64} {v v2 : Nat → Option Nat} (h : cH a b v = cH a2 b2 v2) : a = a2 ∧ v 0 = v2 0 := by
  have e : rC v = rC v2 := congrArg (fun q => q.2.2) h
  have e2 := congrFun (congrFun e 0) 11
  exact ⟨congrArg Prod.fst h, e2⟩
