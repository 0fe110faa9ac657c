-- where the model holds a word of the class's order
def wMi : List Nat := [0, 1, 2, 3, 4, 5, 6, 7, 8, 9, 10, 11, 12, 13, 14, 15, 16, 17, 18, 19, 24, 25, 26, 20, 21, 22, 23, 27, 28, 29, 30]
-- what the readers see of the tokens
abbrev tkW (t : Nat → Int32) (z i w : Nat) : Prop := lxK t z i = 1 ∧ lxV fM t z i = wMd.getD w 0
abbrev tkS (t : Nat → Int32) (z i : Nat) (c : Int) : Prop := lxK t z i = 3 ∧ (lxV fM t z i).toInt = c
def tkG (t : Nat → Int32) (z i : Nat) (c : Int) : Int := if tkS t z i c then 0 else 1 + 16 * (lxP t z i : Int)
def tkN (t : Nat → Int32) (z i : Nat) (lo hi : Int) : Int := if lxK t z i = 2 then (if (lxV fM t z i).toInt < lo ∨ hi < (lxV fM t z i).toInt then 4 + 16 * (lxP t z i : Int) else 0) else 1 + 16 * (lxP t z i : Int)
-- the fault of a line of a will, n heirs so far; of a will: f turns are left, the token c
def hlF (t : Nat → Int32) (z c n : Nat) : Int := if tkW t z c 19 then (if n = 6 then 5 + 16 * (lxP t z c : Int) else tkN t z (c + 1) 0 99) else 1 + 16 * (lxP t z c : Int)
def wlF (t : Nat → Int32) (z : Nat) : Nat → Nat → Nat → Int
  | 0, _, _ => 0
  | f + 1, c, n => if lxK t z c = 0 then 0 else if hlF t z c n = 0 then (if tkG t z (c + 2) 59 = 0 then wlF t z f (c + 3) (n + 1) else tkG t z (c + 2) 59) else hlF t z c n
theorem wlF_end {t : Nat → Int32} {z f c n : Nat} (h : lxK t z c = 0) : wlF t z f c n = 0 := by
  cases f with
  | zero => rfl
  | succ f =>
    show (if lxK t z c = 0 then (0 : Int) else _) = 0
    rw [if_pos h]
theorem wlF_bad {t : Nat → Int32} {z f c n : Nat} (hk : ¬ lxK t z c = 0) (h : ¬ hlF t z c n = 0) : wlF t z (f + 1) c n = hlF t z c n := by
  show (if lxK t z c = 0 then (0 : Int) else if hlF t z c n = 0 then _ else _) = _
  rw [if_neg hk, if_neg h]
theorem wlF_sg {t : Nat → Int32} {z f c n : Nat} (hk : ¬ lxK t z c = 0) (h : hlF t z c n = 0) (hg : ¬ tkG t z (c + 2) 59 = 0) : wlF t z (f + 1) c n = tkG t z (c + 2) 59 := by
  show (if lxK t z c = 0 then (0 : Int) else if hlF t z c n = 0 then (if tkG t z (c + 2) 59 = 0 then _ else _) else _) = _
  rw [if_neg hk, if_pos h, if_neg hg]
theorem wlF_go {t : Nat → Int32} {z f c n : Nat} (hk : ¬ lxK t z c = 0) (h : hlF t z c n = 0) (hg : tkG t z (c + 2) 59 = 0) : wlF t z (f + 1) c n = wlF t z f (c + 3) (n + 1) := by
  show (if lxK t z c = 0 then (0 : Int) else if hlF t z c n = 0 then (if tkG t z (c + 2) 59 = 0 then _ else _) else _) = _
  rw [if_neg hk, if_pos h, if_pos hg]
theorem tkG_nn {t : Nat → Int32} {z i : Nat} {c : Int} : 0 ≤ tkG t z i c := by
  unfold tkG
  split <;> omega
theorem hl_nn {t : Nat → Int32} {z c n : Nat} : 0 ≤ hlF t z c n := by
  unfold hlF tkN
  repeat' split
  all_goals omega
theorem tkN_nn {t : Nat → Int32} {z i : Nat} {lo hi : Int} : 0 ≤ tkN t z i lo hi := by
  unfold tkN
  repeat' split
  all_goals omega
-- what the model's parser does to its place and its fault
def PA (t : Nat → Int32) (z N : Nat) (a : Nat → Nat → Int32) (b : Nat → Nat → Int64) : Prop := TKM t z N a b ∧ 0 ≤ (a 0 7).toInt ∧ (a 0 7).toInt ≤ N ∧ (∀ w, w < 31 → b 5 (wMi.getD w 0) = wMd.getD w 0)
-- one step: the fault stays if there was one; e is the step's own, which goes on by k tokens if it is 0
def PF (a a' : Nat → Nat → Int32) (e : Int) (k : Int) : Prop := (∀ j, j ≠ 7 → j ≠ 8 → a' 0 j = a 0 j) ∧ ((0 < (a 0 8).toInt ∧ a' 0 8 = a 0 8 ∧ a' 0 7 = a 0 7) ∨ ((a 0 8).toInt = 0 ∧ (a' 0 8).toInt = e ∧ (a' 0 7).toInt = (a 0 7).toInt + (if e = 0 then k else 0)))
theorem PA.fr {t : Nat → Int32} {z N : Nat} {a a' : Nat → Nat → Int32} {b : Nat → Nat → Int64} (h : PA t z N a b) (hF : FR [0] a a') (h7 : 0 ≤ (a' 0 7).toInt ∧ (a' 0 7).toInt ≤ N) : PA t z N a' b := by
  refine ⟨⟨h.1.1, fun m hm => ?_, h.1.2.2⟩, h7.1, h7.2, h.2.2.2⟩
  rw [hF 2 (by decide), hF 3 (by decide)]
  exact h.1.2.1 m hm
theorem PA.tok {t : Nat → Int32} {z N : Nat} {a : Nat → Nat → Int32} {b : Nat → Nat → Int64} (h : PA t z N a b) : (a 2 (a 0 7).toInt.toNat).toInt = (lxK t z (a 0 7).toInt.toNat : Nat) ∧ (a 3 (a 0 7).toInt.toNat).toInt = (lxP t z (a 0 7).toInt.toNat : Nat) ∧ (lxK t z (a 0 7).toInt.toNat ≠ 0 → (a 0 7).toInt < N) ∧ (lxK t z (a 0 7).toInt.toNat < 4 → 0 < lxK t z (a 0 7).toInt.toNat → b 4 (a 0 7).toInt.toNat = lxV fM t z (a 0 7).toInt.toNat) := by
  have h1 := h.1.2.1 (a 0 7).toInt.toNat (by have := h.2.1; have := h.2.2.1; omega)
  refine ⟨h1.1, h1.2.1, fun hk => ?_, h1.2.2.2⟩
  rcases Int.lt_or_le (a 0 7).toInt N with h9 | h9
  · exact h9
  · have e : (a 0 7).toInt.toNat = N := by have := h.2.2.1; omega
    rw [e] at hk
    exact absurd h.1.2.2 hk
theorem PA.sgn {t : Nat → Int32} {z N : Nat} {a : Nat → Nat → Int32} {b : Nat → Nat → Int64} (h : PA t z N a b) (c : Int) : tkS t z (a 0 7).toInt.toNat c ↔ ((a 2 (a 0 7).toInt.toNat).toInt = 3 ∧ (b 4 (a 0 7).toInt.toNat).toInt = c) := by
  obtain ⟨k1, -, -, k4⟩ := h.tok
  constructor
  · intro ⟨h1, h2⟩
    refine ⟨by rw [k1, h1]; rfl, ?_⟩
    rw [k4 (by omega) (by omega)]
    exact h2
  · intro ⟨h1, h2⟩
    have e : lxK t z (a 0 7).toInt.toNat = 3 := by omega
    rw [k4 (by omega) (by omega)] at h2
    exact ⟨e, h2⟩
theorem PA.wrd {t : Nat → Int32} {z N : Nat} {a : Nat → Nat → Int32} {b : Nat → Nat → Int64} (h : PA t z N a b) {w : Nat} (hw : w < 31) : tkW t z (a 0 7).toInt.toNat w ↔ ((a 2 (a 0 7).toInt.toNat).toInt = 1 ∧ (b 4 (a 0 7).toInt.toNat).toInt = (b 5 (wMi.getD w 0)).toInt) := by
  obtain ⟨k1, -, -, k4⟩ := h.tok
  rw [h.2.2.2 w hw]
  constructor
  · intro ⟨h1, h2⟩
    refine ⟨by rw [k1, h1]; rfl, ?_⟩
    rw [k4 (by omega) (by omega), h2]
  · intro ⟨h1, h2⟩
    have e : lxK t z (a 0 7).toInt.toNat = 1 := by omega
    rw [k4 (by omega) (by omega)] at h2
    exact ⟨e, Int64.toInt_inj.mp h2⟩
theorem PA.num {t : Nat → Int32} {z N : Nat} {a : Nat → Nat → Int32} {b : Nat → Nat → Int64} (h : PA t z N a b) (lo hi : Int) : tkN t z (a 0 7).toInt.toNat lo hi = if (a 2 (a 0 7).toInt.toNat).toInt = 2 then (if (b 4 (a 0 7).toInt.toNat).toInt < lo ∨ hi < (b 4 (a 0 7).toInt.toNat).toInt then 4 + 16 * (a 3 (a 0 7).toInt.toNat).toInt else 0) else 1 + 16 * (a 3 (a 0 7).toInt.toNat).toInt := by
  obtain ⟨k1, k2, -, k4⟩ := h.tok
  unfold tkN
  rw [k2]
  by_cases hk : lxK t z (a 0 7).toInt.toNat = 2
  · have e2 : (a 2 (a 0 7).toInt.toNat).toInt = 2 := by omega
    rw [if_pos hk, if_pos e2, k4 (by omega) (by omega)]
  · have e2 : ¬ (a 2 (a 0 7).toInt.toNat).toInt = 2 := by omega
    rw [if_neg hk, if_neg e2]
theorem PA.sg {t : Nat → Int32} {z N : Nat} {a : Nat → Nat → Int32} {b : Nat → Nat → Int64} (h : PA t z N a b) (c : Int) : tkG t z (a 0 7).toInt.toNat c = if ((a 2 (a 0 7).toInt.toNat).toInt = 3 ∧ (b 4 (a 0 7).toInt.toNat).toInt = c) then 0 else 1 + 16 * (a 3 (a 0 7).toInt.toNat).toInt := by
  obtain ⟨-, k2, -, -⟩ := h.tok
  unfold tkG
  rw [k2]
  by_cases hk : tkS t z (a 0 7).toInt.toNat c
  · rw [if_pos hk, if_pos ((h.sgn c).mp hk)]
  · rw [if_neg hk, if_neg (fun h9 => hk ((h.sgn c).mpr h9))]
theorem PF.good {a a' : Nat → Nat → Int32} {e : Int} {x : Int32} {N : Nat} (e1 : a' = mU a 0 7 x) (hf : (a 0 8).toInt = 0) (he : e = 0) (hx : x.toInt = (a 0 7).toInt + 1) (h0 : 0 ≤ (a 0 7).toInt) (hN : (a 0 7).toInt < N) : PF a a' e 1 ∧ (0 ≤ (a' 0 7).toInt ∧ (a' 0 7).toInt ≤ N) := by
  have e7 : (a' 0 7).toInt = (a 0 7).toInt + 1 := by rw [e1, mU_same, hx]
  refine ⟨⟨fun j h7 _ => by rw [e1, mU_slot h7], Or.inr ⟨hf, ?_, ?_⟩⟩, by omega, by omega⟩
  · rw [e1, mU_slot (by decide), he]
    exact hf
  · rw [e7, if_pos he]
theorem PF.bad {a a' : Nat → Nat → Int32} {e w k p : Int} {N : Nat} (h8 : ∀ j, j ≠ 8 → a' 0 j = a 0 j) (h : ((a 0 8).toInt = 0 ∧ (a' 0 8).toInt = w + 16 * p) ∨ (0 < (a 0 8).toInt ∧ a' 0 8 = a 0 8)) (he : (a 0 8).toInt = 0 → e = w + 16 * p ∧ e ≠ 0) (h0 : 0 ≤ (a 0 7).toInt) (hN : (a 0 7).toInt ≤ N) : PF a a' e k ∧ (0 ≤ (a' 0 7).toInt ∧ (a' 0 7).toInt ≤ N) := by
  have e7 : a' 0 7 = a 0 7 := h8 7 (by decide)
  refine ⟨⟨fun j _ hj => h8 j hj, ?_⟩, by rw [e7]; exact h0, by rw [e7]; exact hN⟩
  rcases h with ⟨g1, g2⟩ | ⟨g1, g2⟩
  · obtain ⟨g3, g4⟩ := he g1
    refine Or.inr ⟨g1, by rw [g2, g3], ?_⟩
    rw [e7, if_neg g4]
    omega
  · exact Or.inl ⟨g1, g2, e7⟩
-- the class's side
theorem fC_step {k y1 y2 y3 : Int64} {c r : Int32} (h1 : y1 = k * 32) (hr : r.toInt = c.toInt - 96) (h2 : y2 = r.toInt64) (h3 : y3 = y1 + y2) : y3 = fC k c := by
  rw [h3, h1, i64_of (i2l_ti h2), hr, Int64.mul_comm]
  rfl
theorem fE_step {k y1 y2 y3 : Int64} {c r : Int32} (h1 : y1 = k * 10) (hr : r.toInt = c.toInt - 48) (h2 : y2 = r.toInt64) (h3 : y3 = y1 + y2) : y3 = fD k c := by
  rw [h3, h1, i64_of (i2l_ti h2), hr, Int64.mul_comm]
  rfl
theorem ch_nI : ∀ j, j < 256 → vp_nar .char (((nI j).toUInt32 % 65536).toInt32) = nI j := by decide +kernel
theorem by_nI : ∀ j, j < 128 → (nI j).toInt8.toInt32 = nI j := by decide +kernel
theorem nI_rng {c : Int32} (h : 0 ≤ c.toInt ∧ c.toInt ≤ 255) : c = nI c.toInt.toNat := Int32.toInt_inj.mp (by rw [nI_toInt (by omega)]; omega)
theorem ch_id {c x : Int32} (e : x = (c.toUInt32 % 65536).toInt32) (h : 0 ≤ c.toInt ∧ c.toInt ≤ 255) : vp_nar .char x = c := by
  have h1 := ch_nI c.toInt.toNat (by omega)
  rw [← nI_rng h] at h1
  rw [e, h1]
theorem by_id {c x : Int32} (e : x = c.toInt8.toInt32) (h : 0 ≤ c.toInt ∧ c.toInt ≤ 127) : x.toInt = c.toInt := by
  have h1 := by_nI c.toInt.toNat (by omega)
  rw [← nI_rng (by omega)] at h1
  rw [e, h1]
theorem sg_in : ∀ j, j < 8 → lxS (sgB.getD j 0) = true := by decide +kernel
theorem sg_is {p : Int32} {j : Nat} (hj : j < 8) (h : (sgB.getD j 0).toInt = p.toInt) : lxS p = true := by
  rw [← Int32.toInt_inj.mp h]
  exact sg_in j hj
theorem sg_out {p : Int32} (h : ∀ j : Nat, j < 8 → (sgB.getD j 0).toInt ≠ p.toInt) : ¬ lxS p = true := fun hs => by
  have h0 := h 0 (by decide)
  have h1 := h 1 (by decide)
  have h2 := h 2 (by decide)
  have h3 := h 3 (by decide)
  have h4 := h 4 (by decide)
  have h5 := h 5 (by decide)
  have h6 := h 6 (by decide)
  have h7 := h 7 (by decide)
  have e0 : (sgB.getD 0 0).toInt = 40 := by decide
  have e1 : (sgB.getD 1 0).toInt = 41 := by decide
  have e2 : (sgB.getD 2 0).toInt = 60 := by decide
  have e3 : (sgB.getD 3 0).toInt = 61 := by decide
  have e4 : (sgB.getD 4 0).toInt = 43 := by decide
  have e5 : (sgB.getD 5 0).toInt = 45 := by decide
  have e6 : (sgB.getD 6 0).toInt = 42 := by decide
  have e7 : (sgB.getD 7 0).toInt = 59 := by decide
  rcases lxS_iff.mp hs with g | g | g | g | g | g | g | g <;> omega
-- keeping one token
def KEP (a a' : Nat → Nat → Int32) (b b' : Nat → Nat → Int64) (p q : Int32) (k : Int64) : Prop := (∀ j, j ≠ 4 → a' 1 j = a 1 j) ∧ (a' 1 4).toInt = (a 1 4).toInt + 1 ∧ (∀ j, a' 3 j = if j = (a 1 4).toInt.toNat then p else a 3 j) ∧ (∀ j, a' 4 j = if j = (a 1 4).toInt.toNat then q else a 4 j) ∧ (∀ j, b' 5 j = if j = (a 1 4).toInt.toNat then k else b 5 j) ∧ ∀ c, c ≠ 5 → b' c = b c
theorem mV_get {b : Nat → Nat → Int64} {i j k : Nat} {x : Int64} : mV b i j x i k = if k = j then x else b i k := by simp [mV, vp_updL]
theorem KEP.mk {a a1 a2 a3 : Nat → Nat → Int32} {b b1 : Nat → Nat → Int64} {p q z : Int32} {k : Int64} (e0 : a1 = mU a 3 (a 1 4).toInt.toNat p) (e1 : a2 = mU a1 4 (a1 1 4).toInt.toNat q) (eb : b1 = mV b 5 (a2 1 4).toInt.toNat k) (e2 : a3 = mU a2 1 4 z) (hz : z.toInt = (a2 1 4).toInt + 1) : KEP a a3 b b1 p q k := by
  have h1 : a1 1 4 = a 1 4 := by rw [e0, mU_cell (by decide)]
  have h2 : a2 1 4 = a 1 4 := by rw [e1, mU_cell (by decide), h1]
  rw [h1] at e1
  rw [h2] at eb hz
  refine ⟨fun j hj => by rw [e2, mU_slot hj, e1, mU_cell (by decide), e0, mU_cell (by decide)], by rw [e2, mU_same]; exact hz, fun j => ?_, fun j => ?_, fun j => by rw [eb, mV_get], fun c hc => by rw [eb, mV_cell hc]⟩
  · rw [e2, mU_cell (by decide), e1, mU_cell (by decide), e0, mU_get]
    by_cases h : j = (a 1 4).toInt.toNat
    · rw [if_pos ⟨rfl, h⟩, if_pos h]
    · rw [if_neg (fun h9 => h h9.2), if_neg h]
  · rw [e2, mU_cell (by decide), e1, mU_get]
    by_cases h : j = (a 1 4).toInt.toNat
    · rw [if_pos ⟨rfl, h⟩, if_pos h]
    · rw [if_neg (fun h9 => h h9.2), if_neg h, e0, mU_cell (by decide)]
def ckd (k : Nat) : Nat := match k with
  | 0 => 0
  | 1 => 2
  | 2 => 3
  | 3 => 4
  | _ => 1
-- cutting one token
def CT (t : Nat → Int32) (z i : Nat) (a a' : Nat → Nat → Int32) (b b' : Nat → Nat → Int64) (x : Int) : Prop := x = (lxe t z i : Nat) ∧ ∃ (p q : Int32) (k : Int64), KEP a a' b b' p q k ∧ p.toInt = (ckd (lxT t z i) : Nat) ∧ q.toInt = (i : Nat) ∧ (lxT t z i < 4 → k = lxU fC t z i)
def LXC (t : Nat → Int32) (z i : Nat) (a : Nat → Nat → Int32) (b : Nat → Nat → Int64) : Prop := 0 ≤ (a 1 4).toInt ∧ (a 1 4).toInt ≤ i ∧ i ≤ z ∧ lxP t z (a 1 4).toInt.toNat = lxq lxB t z i ∧ ∀ m, m < (a 1 4).toInt.toNat → lxP t z m < z ∧ (a 3 m).toInt = (ckd (lxK t z m) : Nat) ∧ (a 4 m).toInt = (lxP t z m : Nat) ∧ (lxK t z m < 4 → b 5 m = lxV fC t z m)
theorem LXC.init {t : Nat → Int32} {z : Nat} {a : Nat → Nat → Int32} {b : Nat → Nat → Int64} (h : (a 1 4).toInt = 0) : LXC t z 0 a b := ⟨by omega, by omega, Nat.zero_le _, by rw [show (a 1 4).toInt.toNat = 0 by omega]; rfl, fun m hm => absurd hm (by omega)⟩
theorem LXC.blank {t : Nat → Int32} {z i i' : Nat} {a : Nat → Nat → Int32} {b : Nat → Nat → Int64} (h : LXC t z i a b) (hi : i < z) (hb : lxB (t i) = true) (e : i' = i + 1) : LXC t z i' a b := by
  subst e
  exact ⟨h.1, by have := h.2.1; omega, by omega, h.2.2.2.1.trans (lxq_step hi hb), h.2.2.2.2⟩
theorem LXC.tok {t : Nat → Int32} {z i i' : Nat} {a a' : Nat → Nat → Int32} {b b' : Nat → Nat → Int64} {x : Int} (h : LXC t z i a b) (hi : i < z) (hb : ¬ lxB (t i) = true) (hc : CT t z i a a' b b' x) (he : (i' : Int) = x) : LXC t z i' a' b' := by
  obtain ⟨h0, h1, h2, h3, h4⟩ := h
  obtain ⟨hx, p, q, k, ⟨-, k2, k3, k4, k5, -⟩, hp, hq, hv⟩ := hc
  have hge := lxe_gt (t := t) hi
  have hP : lxP t z (a 1 4).toInt.toNat = i := h3.trans (lxq_stop (by cases hx : lxB (t i) with | true => exact absurd hx hb | false => rfl))
  have e1 : (a' 1 4).toInt.toNat = (a 1 4).toInt.toNat + 1 := by omega
  have ei : i' = lxe t z i := by omega
  refine ⟨by omega, by omega, by omega, by rw [e1, lxP_succ, hP, ei], fun m hm => ?_⟩
  rcases Nat.lt_or_ge m (a 1 4).toInt.toNat with h9 | h9
  · obtain ⟨g1, g2, g3, g4⟩ := h4 m h9
    refine ⟨g1, by rw [k3, if_neg (by omega)]; exact g2, by rw [k4, if_neg (by omega)]; exact g3, fun hx => by rw [k5, if_neg (by omega)]; exact g4 hx⟩
  · have e9 : m = (a 1 4).toInt.toNat := by omega
    have hK : lxK t z m = lxT t z i := by
      unfold lxK
      rw [e9, hP, if_pos hi]
    refine ⟨by rw [e9, hP]; exact hi, by rw [k3, if_pos e9, hK]; exact hp, by rw [k4, if_pos e9, e9, hP]; exact hq, fun hx => ?_⟩
    rw [k5, if_pos e9]
    unfold lxV
    rw [e9, hP]
    exact hv (by rw [← hK]; exact hx)
-- what stands behind the class's cutting
def TKC (t : Nat → Int32) (z N : Nat) (a : Nat → Nat → Int32) (b : Nat → Nat → Int64) : Prop := N ≤ z ∧ (a 1 4).toInt = (N : Int) + 1 ∧ (∀ m, m ≤ N → (a 3 m).toInt = (ckd (lxK t z m) : Nat) ∧ (a 4 m).toInt = (lxP t z m : Nat) ∧ (m < N → 1 ≤ lxK t z m) ∧ (lxK t z m < 4 → 0 < lxK t z m → b 5 m = lxV fC t z m)) ∧ lxK t z N = 0
theorem LXC.done {t : Nat → Int32} {z i : Nat} {a a' : Nat → Nat → Int32} {b b' : Nat → Nat → Int64} {p q : Int32} {k : Int64} (h : LXC t z i a b) (hi : z ≤ i) (hk : KEP a a' b b' p q k) (hp : p.toInt = 0) (hq : q.toInt = (z : Nat)) : TKC t z (a 1 4).toInt.toNat a' b' := by
  obtain ⟨h0, h1, h2, h3, h4⟩ := h
  obtain ⟨-, k2, k3, k4, k5, -⟩ := hk
  have hP : lxP t z (a 1 4).toInt.toNat = z := by
    have e : i = z := by omega
    rw [h3, e]
    exact lxq_end (Nat.le_refl _)
  have hK : lxK t z (a 1 4).toInt.toNat = 0 := by
    unfold lxK
    rw [if_neg (by omega)]
  refine ⟨by omega, by omega, fun m hm => ?_, hK⟩
  rcases Nat.lt_or_ge m (a 1 4).toInt.toNat with h9 | h9
  · obtain ⟨g1, g2, g3, g4⟩ := h4 m h9
    have hK1 : lxK t z m = lxT t z (lxP t z m) := by
      unfold lxK
      rw [if_pos g1]
    have hT := lxT_le (t := t) (n := z) (s := lxP t z m)
    refine ⟨by rw [k3, if_neg (by omega)]; exact g2, by rw [k4, if_neg (by omega)]; exact g3, fun _ => by omega, fun hx _ => by rw [k5, if_neg (by omega)]; exact g4 hx⟩
  · have e9 : m = (a 1 4).toInt.toNat := by omega
    refine ⟨by rw [k3, if_pos e9, e9, hK]; exact hp, by rw [k4, if_pos e9, e9, hP]; exact hq, fun h => absurd h (by omega), fun _ h => absurd h (by rw [e9]; omega)⟩
-- taking the next token
def AV (a a' : Nat → Nat → Int32) (b b' : Nat → Nat → Int64) : Prop := (∀ j, j ≠ 7 → j ≠ 8 → j ≠ 9 → a' 1 j = a 1 j) ∧ a' 1 7 = a 3 (a 1 5).toInt.toNat ∧ a' 1 8 = a 4 (a 1 5).toInt.toNat ∧ b' = mV b 1 10 (b 5 (a 1 5).toInt.toNat)
theorem AV.mk {a a1 a2 a3 : Nat → Nat → Int32} {b b1 : Nat → Nat → Int64} {x y w : Int32} {k : Int64} (e0 : a1 = mU a 1 7 x) (hx : x = a 3 (a 1 5).toInt.toNat) (e1 : a2 = mU a1 1 8 y) (hy : y = a1 4 (a1 1 5).toInt.toNat) (eb : b1 = mV b 1 10 k) (hk : k = b 5 (a2 1 5).toInt.toNat) (e2 : a3 = mU a2 1 9 w) : AV a a3 b b1 := by
  have h1 : a1 1 5 = a 1 5 := by rw [e0, mU_slot (by decide)]
  have h2 : a2 1 5 = a 1 5 := by rw [e1, mU_slot (by decide), h1]
  refine ⟨fun j h7 h8 h9 => by rw [e2, mU_slot h9, e1, mU_slot h8, e0, mU_slot h7], ?_, ?_, by rw [eb, hk, h2]⟩
  · rw [e2, mU_slot (by decide), e1, mU_slot (by decide), e0, mU_same, hx]
  · rw [e2, mU_slot (by decide), e1, mU_same, hy, h1, e0, mU_cell (by decide)]
theorem AV.up {a a' a2 : Nat → Nat → Int32} {b b' : Nat → Nat → Int64} {w : Int32} (h : AV a a' b b') (e : a2 = mU a' 1 9 w) : AV a a2 b b' := ⟨fun j h7 h8 h9 => by rw [e, mU_slot h9]; exact h.1 j h7 h8 h9, by rw [e, mU_slot (by decide)]; exact h.2.1, by rw [e, mU_slot (by decide)]; exact h.2.2.1, h.2.2.2⟩
-- which word it is, looked up from the first one on
def WD (v : Nat → Option Nat) (i : Int) (k : Int64) : Prop := ∀ w : Nat, w < 31 → (v 2 = some (1000 + w) ↔ ((w : Int) < i ∧ k = wKey.getD w 0))
theorem wKey_inj : ∀ i, i < 31 → ∀ j, j < 31 → wKey.getD i 0 = wKey.getD j 0 → i = j := by decide +kernel
theorem WD.init {v v' : Nat → Option Nat} {k : Int64} (e : v' = vU v 2 none) : WD v' 0 k := fun w hw => by
  rw [e, vU_same]
  constructor
  · intro h
    cases h
  · intro h
    have := h.1
    omega
theorem WD.miss {v : Nat → Option Nat} {i i' : Int} {k : Int64} (h : WD v i k) (hi : 0 ≤ i ∧ i < 31) (hk : ¬ k = wKey.getD i.toNat 0) (e : i' = i + 1) : WD v i' k := fun w hw => by
  rw [h w hw]
  constructor
  · intro h1
    exact ⟨by omega, h1.2⟩
  · intro h1
    refine ⟨?_, h1.2⟩
    rcases (by omega : (w : Int) < i ∨ w = i.toNat) with h2 | h2
    · exact h2
    · rw [h2] at h1
      exact absurd h1.2 hk
theorem WD.hit {v v' : Nat → Option Nat} {i i' : Int} {k : Int64} (h : WD v i k) (hi : 0 ≤ i ∧ i < 31) (hk : k = wKey.getD i.toNat 0) (e : i' = i + 1) (ev : v' = vU v 2 (some (1000 + i.toNat))) : WD v' i' k := fun w hw => by
  rw [ev, vU_same]
  constructor
  · intro h1
    have e1 : i.toNat = w := by
      have h2 := Option.some.inj h1
      omega
    rw [← e1]
    exact ⟨by omega, hk⟩
  · intro h1
    have e1 := wKey_inj i.toNat (by omega) w hw (by rw [← hk, h1.2])
    rw [e1]
-- the class's parser: the token c is at hand
def PC (t : Nat → Int32) (z N c : Nat) (a : Nat → Nat → Int32) (b : Nat → Nat → Int64) (v : Nat → Option Nat) : Prop := TKC t z N a b ∧ c ≤ N ∧ (a 1 5).toInt = (if c < N then (c : Int) + 1 else N) ∧ (a 1 7).toInt = (ckd (lxK t z c) : Nat) ∧ (a 1 8).toInt = (lxP t z c : Nat) ∧ (0 < lxK t z c → lxK t z c < 4 → b 1 10 = lxV fC t z c) ∧ ∀ w, w < 31 → (v 2 = some (1000 + w) ↔ lxK t z c = 1 ∧ lxV fC t z c = wKey.getD w 0)
def AVX (a a' : Nat → Nat → Int32) (b b' : Nat → Nat → Int64) : Prop := (∀ j, j ≠ 5 → j ≠ 7 → j ≠ 8 → j ≠ 9 → a' 1 j = a 1 j) ∧ a' 1 7 = a 3 (a 1 5).toInt.toNat ∧ a' 1 8 = a 4 (a 1 5).toInt.toNat ∧ b' = mV b 1 10 (b 5 (a 1 5).toInt.toNat) ∧ (a' 1 5).toInt = if (a 1 5).toInt < (a 1 4).toInt - 1 then (a 1 5).toInt + 1 else (a 1 5).toInt
theorem AVX.of0 {a a' : Nat → Nat → Int32} {b b' : Nat → Nat → Int64} (h : AV a a' b b') (hn : ¬ (a' 1 5).toInt < (a' 1 4).toInt - 1) : AVX a a' b b' := by
  have h5 := h.1 5 (by decide) (by decide) (by decide)
  have h4 := h.1 4 (by decide) (by decide) (by decide)
  rw [h5, h4] at hn
  exact ⟨fun j _ h7 h8 h9 => h.1 j h7 h8 h9, h.2.1, h.2.2.1, h.2.2.2, by rw [if_neg hn, h5]⟩
theorem AVX.of1 {a a' a2 : Nat → Nat → Int32} {b b' : Nat → Nat → Int64} {x : Int32} (h : AV a a' b b') (hn : (a' 1 5).toInt < (a' 1 4).toInt - 1) (e : a2 = mU a' 1 5 x) (hx : x.toInt = (a' 1 5).toInt + 1) : AVX a a2 b b' := by
  have h5 := h.1 5 (by decide) (by decide) (by decide)
  have h4 := h.1 4 (by decide) (by decide) (by decide)
  rw [h5, h4] at hn
  rw [h5] at hx
  exact ⟨fun j hj h7 h8 h9 => by rw [e, mU_slot hj]; exact h.1 j h7 h8 h9, by rw [e, mU_slot (by decide)]; exact h.2.1, by rw [e, mU_slot (by decide)]; exact h.2.2.1, h.2.2.2, by rw [if_pos hn, e, mU_same]; exact hx⟩
def VX (a : Nat → Nat → Int32) (b : Nat → Nat → Int64) (v' : Nat → Option Nat) : Prop := ∀ w : Nat, w < 31 → (v' 2 = some (1000 + w) ↔ ((a 3 (a 1 5).toInt.toNat).toInt = 2 ∧ b 5 (a 1 5).toInt.toNat = wKey.getD w 0))
theorem VX.of31 {a : Nat → Nat → Int32} {b : Nat → Nat → Int64} {v : Nat → Option Nat} {i : Int} (h : WD v i (b 5 (a 1 5).toInt.toNat)) (hi : 31 ≤ i) (hk : (a 3 (a 1 5).toInt.toNat).toInt = 2) : VX a b v := fun w hw => by
  rw [h w hw]
  constructor
  · intro h1
    exact ⟨hk, h1.2⟩
  · intro h1
    exact ⟨by omega, h1.2⟩
theorem VX.of0 {a : Nat → Nat → Int32} {b : Nat → Nat → Int64} {v : Nat → Option Nat} {i : Int} (h : WD v i (b 5 (a 1 5).toInt.toNat)) (hi : i = 0) (hk : ¬ (a 3 (a 1 5).toInt.toNat).toInt = 2) : VX a b v := fun w hw => by
  rw [h w hw]
  constructor
  · intro h1
    have := h1.1
    omega
  · intro h1
    exact absurd h1.1 hk
theorem PC.adv {t : Nat → Int32} {z N n : Nat} {a a' : Nat → Nat → Int32} {b b' : Nat → Nat → Int64} {v' : Nat → Option Nat} (h : TKC t z N a b) (hF : FR [1] a a') (hA : AVX a a' b b') (hv : VX a b v') (hn : (a 1 5).toInt = n) (hN : n ≤ N) : PC t z N n a' b' v' := by
  obtain ⟨h1, h2, h3, h4⟩ := h
  obtain ⟨g1, g2, g3, g4, g5⟩ := hA
  have e0 : (a 1 5).toInt.toNat = n := by omega
  have hn1 : (a 1 4).toInt - 1 = N := by omega
  rw [e0] at g2 g3 g4
  obtain ⟨k1, k2, k3, k4⟩ := h3 n hN
  have hb5 : ∀ m, b' 5 m = b 5 m := fun m => by rw [g4, mV_cell (by decide)]
  refine ⟨⟨h1, by rw [g1 4 (by decide) (by decide) (by decide) (by decide)]; exact h2, fun m hm => ?_, h4⟩, hN, ?_, by rw [g2]; exact k1, by rw [g3]; exact k2, fun p1 p2 => ?_, fun w hw => ?_⟩
  · rw [hF 3 (by decide), hF 4 (by decide), hb5]
    exact h3 m hm
  · rw [g5, hn1, hn]
    by_cases hc : n < N
    · rw [if_pos hc, if_pos (by omega)]
    · rw [if_neg hc, if_neg (by omega)]
      omega
  · rw [g4, mV_same]
    exact k4 p2 p1
  · rw [hv w hw, e0]
    have hk : (a 3 n).toInt = 2 ↔ lxK t z n = 1 := by
      rw [k1]
      unfold ckd
      split <;> simp_all
    constructor
    · intro q
      have q1 := hk.mp q.1
      exact ⟨q1, by rw [← k4 (by omega) (by omega)]; exact q.2⟩
    · intro q
      exact ⟨hk.mpr q.1, by rw [k4 (by omega) (by omega)]; exact q.2⟩
theorem LXC.cast {t : Nat → Int32} {z m m' : Nat} {a : Nat → Nat → Int32} {b : Nat → Nat → Int64} (h : LXC t z m a b) (e : m' = m) : LXC t z m' a b := e ▸ h
theorem TKC.up5 {t : Nat → Int32} {z N : Nat} {a a' : Nat → Nat → Int32} {b : Nat → Nat → Int64} {x : Int32} (h : TKC t z N a b) (e : a' = mU a 1 5 x) : TKC t z N a' b := by
  refine ⟨h.1, by rw [e, mU_slot (by decide)]; exact h.2.1, fun m hm => ?_, h.2.2.2⟩
  rw [e, mU_cell (by decide), mU_cell (by decide)]
  exact h.2.2.1 m hm
theorem lxP_le {t : Nat → Int32} {z : Nat} : ∀ N : Nat, (∀ m, m < N → lxP t z m < z) → lxP t z N ≤ z
  | 0, _ => lxq_le (Nat.zero_le _)
  | N + 1, h => by
    rw [lxP_succ]
    exact lxq_le (lxe_gt (h N (by omega))).2
theorem lxK_lt {t : Nat → Int32} {z i : Nat} (h : 1 ≤ lxK t z i) : lxP t z i < z := by
  unfold lxK at h
  split at h
  · assumption
  · omega
-- signs and numbers are worth the same to both
theorem lxV_sn {t : Nat → Int32} {z i : Nat} (h : lxK t z i = 2 ∨ lxK t z i = 3) : lxV fC t z i = lxV fM t z i := by
  unfold lxV lxU
  by_cases hL : lxL (t (lxP t z i)) = true
  · exfalso
    unfold lxK at h
    split at h
    · rw [lxT_let hL] at h
      split at h <;> omega
    · omega
  · rw [if_neg hL, if_neg hL]
theorem PC.le {t : Nat → Int32} {z N c : Nat} {a : Nat → Nat → Int32} {b : Nat → Nat → Int64} {v : Nat → Option Nat} (h : PC t z N c a b v) : lxP t z c ≤ z := lxP_le c (fun m hm => lxK_lt ((h.1.2.2.1 m (by have := h.2.1; omega)).2.2.1 (by have := h.2.1; omega)))
theorem PC.lt {t : Nat → Int32} {z N c : Nat} {a : Nat → Nat → Int32} {b : Nat → Nat → Int64} {v : Nat → Option Nat} (h : PC t z N c a b v) (hk : ¬ lxK t z c = 0) : c < N := by
  rcases Nat.lt_or_ge c N with h1 | h1
  · exact h1
  · have e : c = N := by have := h.2.1; omega
    rw [e] at hk
    exact absurd h.1.2.2.2 hk
theorem ckd_3 {k : Nat} : ckd k = 4 ↔ k = 3 := by
  unfold ckd
  split <;> simp_all
theorem ckd_2 {k : Nat} : ckd k = 3 ↔ k = 2 := by
  unfold ckd
  split <;> simp_all
theorem ckd_0 {k : Nat} : ckd k = 0 ↔ k = 0 := by
  unfold ckd
  split <;> simp_all
theorem PC.sg {t : Nat → Int32} {z N c : Nat} {a : Nat → Nat → Int32} {b : Nat → Nat → Int64} {v : Nat → Option Nat} (h : PC t z N c a b v) (p : Int) : tkG t z c p = if ((a 1 7).toInt = 4 ∧ (b 1 10).toInt = p) then 0 else 1 + 16 * (a 1 8).toInt := by
  obtain ⟨-, -, -, h7, h8, h10, -⟩ := h
  unfold tkG
  rw [h8]
  have e : tkS t z c p ↔ ((a 1 7).toInt = 4 ∧ (b 1 10).toInt = p) := by
    rw [h7]
    constructor
    · intro ⟨g1, g2⟩
      refine ⟨by rw [g1]; rfl, ?_⟩
      rw [h10 (by omega) (by omega), lxV_sn (Or.inr g1)]
      exact g2
    · intro ⟨g1, g2⟩
      have g3 : lxK t z c = 3 := ckd_3.mp (by omega)
      rw [h10 (by omega) (by omega), lxV_sn (Or.inr g3)] at g2
      exact ⟨g3, g2⟩
  by_cases hk : tkS t z c p
  · rw [if_pos hk, if_pos (e.mp hk)]
  · rw [if_neg hk, if_neg (fun h9 => hk (e.mpr h9))]
theorem PC.num {t : Nat → Int32} {z N c : Nat} {a : Nat → Nat → Int32} {b : Nat → Nat → Int64} {v : Nat → Option Nat} (h : PC t z N c a b v) (lo hi : Int) : tkN t z c lo hi = if (a 1 7).toInt = 3 then (if (b 1 10).toInt < lo ∨ hi < (b 1 10).toInt then 4 + 16 * (a 1 8).toInt else 0) else 1 + 16 * (a 1 8).toInt := by
  obtain ⟨-, -, -, h7, h8, h10, -⟩ := h
  unfold tkN
  rw [h8, h7]
  by_cases hk : lxK t z c = 2
  · have e3 : ((ckd (lxK t z c) : Nat) : Int) = 3 := by rw [hk]; rfl
    rw [if_pos hk, if_pos e3, h10 (by omega) (by omega), lxV_sn (Or.inl hk)]
  · have e3 : ¬ ((ckd (lxK t z c) : Nat) : Int) = 3 := fun h9 => hk (ckd_2.mp (by omega))
    rw [if_neg hk, if_neg e3]
theorem PC.wrd {t : Nat → Int32} {z N c : Nat} {a : Nat → Nat → Int32} {b : Nat → Nat → Int64} {v : Nat → Option Nat} (h : PC t z N c a b v) {w : Nat} (hw : w < 31) : tkW t z c w ↔ v 2 = some (1000 + w) := by
  rw [h.2.2.2.2.2.2 w hw]
  constructor
  · intro ⟨g1, g2⟩
    exact ⟨g1, (lx_word g1 hw).mp g2⟩
  · intro ⟨g1, g2⟩
    exact ⟨g1, (lx_word g1 hw).mpr g2⟩
theorem PC.kin {t : Nat → Int32} {z N c : Nat} {a : Nat → Nat → Int32} {b : Nat → Nat → Int64} {v : Nat → Option Nat} (h : PC t z N c a b v) : (a 1 7).toInt = 0 ↔ lxK t z c = 0 := by
  rw [h.2.2.2.1]
  constructor
  · intro g
    exact ckd_0.mp (by omega)
  · intro g
    rw [g]
    rfl
theorem PC.next {t : Nat → Int32} {z N c : Nat} {a a' : Nat → Nat → Int32} {b b' : Nat → Nat → Int64} {v v' : Nat → Option Nat} (h : PC t z N c a b v) (hk : ¬ lxK t z c = 0) (hF : FR [1] a a') (hA : AVX a a' b b') (hv : VX a b v') : PC t z N (c + 1) a' b' v' := PC.adv h.1 hF hA hv (by rw [h.2.2.1, if_pos (h.lt hk)]; omega) (h.lt hk)
theorem PC.fr {t : Nat → Int32} {z N c : Nat} {a a' : Nat → Nat → Int32} {b : Nat → Nat → Int64} {v : Nat → Option Nat} (h : PC t z N c a b v) (h1 : a' 1 = a 1) (h3 : a' 3 = a 3) (h4 : a' 4 = a 4) : PC t z N c a' b v := by
  unfold PC TKC at h ⊢
  rw [h1, h3, h4]
  exact h
theorem tkG_k {t : Nat → Int32} {z c : Nat} {p : Int} (h : tkG t z c p = 0) : ¬ lxK t z c = 0 := by
  unfold tkG at h
  split at h
  · rename_i g
    have := g.1
    omega
  · omega
theorem tkN_k {t : Nat → Int32} {z c : Nat} {lo hi : Int} (h : tkN t z c lo hi = 0) : ¬ lxK t z c = 0 := by
  unfold tkN at h
  split at h
  · omega
  · omega
-- the class's will, between two lines
def WIC (t : Nat → Int32) (z N k : Nat) (a : Nat → Nat → Int32) (b : Nat → Nat → Int64) (v : Nat → Option Nat) (R : Int) : Prop := ((a 6 10).toInt = 0 ∧ k ≤ 6 ∧ PC t z N (3 * k) a b v ∧ (a 6 3).toInt = k ∧ wlF t z (8 - k) (3 * k) k = R) ∨ (¬ (a 6 10).toInt = 0 ∧ (a 6 10).toInt = R)
theorem hlF_6 {t : Nat → Int32} {z c : Nat} : ¬ hlF t z c 6 = 0 := by
  unfold hlF
  split
  · rw [if_pos rfl]
    omega
  · omega
theorem WIC.bad {t : Nat → Int32} {z N k k' : Nat} {a a' : Nat → Nat → Int32} {b b' : Nat → Nat → Int64} {v v' : Nat → Option Nat} {R : Int} (h : WIC t z N k a b v R) (h0 : (a 6 10).toInt = 0) (hk : ¬ lxK t z (3 * k) = 0) (he : (a' 6 10).toInt = hlF t z (3 * k) k) (hx : ¬ hlF t z (3 * k) k = 0) : WIC t z N k' a' b' v' R := by
  rcases h with ⟨-, g1, -, -, g4⟩ | ⟨g1, -⟩
  · refine Or.inr ⟨by omega, ?_⟩
    rw [he, ← g4, show 8 - k = (7 - k) + 1 by omega]
    exact (wlF_bad hk hx).symm
  · exact absurd h0 g1
theorem WIC.line {t : Nat → Int32} {z N k k' : Nat} {a a' : Nat → Nat → Int32} {b b' : Nat → Nat → Int64} {v v' : Nat → Option Nat} {R : Int} (h : WIC t z N k a b v R) (h0 : (a 6 10).toInt = 0) (hk : ¬ lxK t z (3 * k) = 0) (hx : hlF t z (3 * k) k = 0) (he : (a' 6 10).toInt = tkG t z (3 * k + 2) 59) (hp : tkG t z (3 * k + 2) 59 = 0 → PC t z N (3 * k + 2 + 1) a' b' v') (hn : (a' 6 3).toInt = (k : Int) + 1) (e : k' = k + 1) : WIC t z N k' a' b' v' R := by
  subst e
  rcases h with ⟨-, g1, -, -, g4⟩ | ⟨g1, -⟩
  · have h6 : k ≠ 6 := fun e => by
      subst e
      exact hlF_6 hx
    rw [show 8 - k = (7 - k) + 1 by omega] at g4
    by_cases hg : tkG t z (3 * k + 2) 59 = 0
    · refine Or.inl ⟨by omega, by omega, hp hg, by omega, ?_⟩
      rw [← g4, wlF_go hk hx hg, show 8 - (k + 1) = 7 - k by omega, show 3 * (k + 1) = 3 * k + 3 by omega]
    · refine Or.inr ⟨by omega, ?_⟩
      rw [he, ← g4, wlF_sg hk hx hg]
  · exact absurd h0 g1
theorem WIC.done {t : Nat → Int32} {z N k : Nat} {a : Nat → Nat → Int32} {b : Nat → Nat → Int64} {v : Nat → Option Nat} {R : Int} (h : WIC t z N k a b v R) (hx : 6 < k ∨ ¬ ((a 6 10).toInt = 0 ∧ ¬ (a 1 7).toInt = 0)) : (a 6 10).toInt = R := by
  rcases h with ⟨g0, g1, g2, -, g4⟩ | ⟨-, g2⟩
  · have hk : lxK t z (3 * k) = 0 := by
      apply g2.kin.mp
      omega
    rw [g0, ← g4, wlF_end hk]
  · exact g2
theorem WIC.go {t : Nat → Int32} {z N k : Nat} {a : Nat → Nat → Int32} {b : Nat → Nat → Int64} {v : Nat → Option Nat} {R : Int} (h : WIC t z N k a b v R) (h0 : (a 6 10).toInt = 0) : PC t z N (3 * k) a b v ∧ (a 6 3).toInt = k ∧ k ≤ 6 := by
  rcases h with ⟨-, g1, g2, g3, -⟩ | ⟨g1, -⟩
  · exact ⟨g2, g3, g1⟩
  · exact absurd h0 g1
-- the model's will, between two lines
def WIM (t : Nat → Int32) (z N k : Nat) (a : Nat → Nat → Int32) (b : Nat → Nat → Int64) (R : Int) : Prop := PA t z N a b ∧ (((a 0 8).toInt = 0 ∧ k ≤ 6 ∧ (a 0 7).toInt = 3 * k ∧ wlF t z (8 - k) (3 * k) k = R) ∨ (0 < (a 0 8).toInt ∧ (a 0 8).toInt = R))
theorem WIM.go {t : Nat → Int32} {z N k : Nat} {a : Nat → Nat → Int32} {b : Nat → Nat → Int64} {R : Int} (h : WIM t z N k a b R) (h0 : (a 0 8).toInt = 0) : (a 0 7).toInt = 3 * k ∧ k ≤ 6 ∧ wlF t z (8 - k) (3 * k) k = R := by
  rcases h.2 with ⟨-, g1, g2, g3⟩ | ⟨g1, -⟩
  · exact ⟨g2, g1, g3⟩
  · omega
theorem WIM.done {t : Nat → Int32} {z N k : Nat} {a : Nat → Nat → Int32} {b : Nat → Nat → Int64} {R : Int} (h : WIM t z N k a b R) (hx : 0 < (a 0 8).toInt ∨ (a 2 (a 0 7).toInt.toNat).toInt = 0) : (a 0 8).toInt = R := by
  rcases h.2 with ⟨g0, g1, g2, g3⟩ | ⟨-, g2⟩
  · have hk := h.1.tok.1
    have e : (a 0 7).toInt.toNat = 3 * k := by omega
    rw [e] at hk hx
    rw [g0, ← g3, wlF_end (by omega)]
  · exact g2
theorem WIM.bad {t : Nat → Int32} {z N k k' : Nat} {a a1 a2 : Nat → Nat → Int32} {b : Nat → Nat → Int64} {R e k9 : Int} (h : WIM t z N k a b R) (h0 : (a 0 8).toInt = 0) (hk : ¬ lxK t z (3 * k) = 0) (h1 : (a1 0 8).toInt = hlF t z (3 * k) k) (hx : ¬ hlF t z (3 * k) k = 0) (hP : PA t z N a2 b) (hF : PF a1 a2 e k9) : WIM t z N k' a2 b R := by
  obtain ⟨g2, g1, g3⟩ := h.go h0
  have hn := hl_nn (t := t) (z := z) (c := 3 * k) (n := k)
  refine ⟨hP, Or.inr ?_⟩
  rcases hF.2 with ⟨f1, f2, -⟩ | ⟨f1, -, -⟩
  · rw [f2, h1]
    refine ⟨by omega, ?_⟩
    rw [← g3, show 8 - k = (7 - k) + 1 by omega]
    exact (wlF_bad hk hx).symm
  · omega
theorem WIM.line {t : Nat → Int32} {z N k k' : Nat} {a a1 a2 a3 a4 : Nat → Nat → Int32} {b : Nat → Nat → Int64} {R : Int} {c : Nat} (h : WIM t z N k a b R) (h0 : (a 0 8).toInt = 0) (hk : ¬ lxK t z (3 * k) = 0) (hl : hlF t z (3 * k) k = tkN t z (3 * k + 1) 0 99) (h1 : (a1 0 8).toInt = 0 ∧ (a1 0 7).toInt = 3 * k + 1) (hN : PF a1 a2 (tkN t z (3 * k + 1) 0 99) 1) (h3 : a3 0 = a2 0) (hS : PF a3 a4 (tkG t z c 59) 1) (hc : c = (a3 0 7).toInt.toNat) (hP : PA t z N a4 b) (hk' : k' = k + 1) : WIM t z N k' a4 b R := by
  subst hk'
  obtain ⟨g2, g1, g3⟩ := h.go h0
  have hn := hl_nn (t := t) (z := z) (c := 3 * k) (n := k)
  rw [show 8 - k = (7 - k) + 1 by omega] at g3
  refine ⟨hP, ?_⟩
  rcases hN.2 with ⟨f1, -, -⟩ | ⟨-, f2, f3⟩
  · omega
  · by_cases hx : hlF t z (3 * k) k = 0
    · have h6 : k ≠ 6 := fun e => by
        subst e
        exact hlF_6 hx
      rw [← hl, hx] at f2
      rw [← hl, if_pos hx] at f3
      have ec : c = 3 * k + 2 := by rw [hc, h3]; omega
      rcases hS.2 with ⟨f4, -, -⟩ | ⟨-, f5, f6⟩
      · rw [h3] at f4
        omega
      · rw [ec] at f5 f6
        have hg := tkG_nn (t := t) (z := z) (i := 3 * k + 2) (c := 59)
        by_cases hgg : tkG t z (3 * k + 2) 59 = 0
        · refine Or.inl ⟨by omega, by omega, ?_, ?_⟩
          · rw [f6, if_pos hgg, h3]
            omega
          · rw [← g3, wlF_go hk hx hgg, show 8 - (k + 1) = 7 - k by omega, show 3 * (k + 1) = 3 * k + 3 by omega]
        · refine Or.inr ⟨by omega, ?_⟩
          rw [f5, ← g3, wlF_sg hk hx hgg]
    · rw [← hl] at f2
      refine Or.inr ?_
      rcases hS.2 with ⟨f4, f5, -⟩ | ⟨f4, -, -⟩
      · rw [f5, h3, f2]
        refine ⟨by omega, ?_⟩
        rw [← g3]
        exact (wlF_bad hk hx).symm
      · rw [h3] at f4
        omega
theorem PF.at {a a' : Nat → Nat → Int32} {e k : Int} (h : PF a a' e k) (hk : 0 ≤ k) : (a 0 7).toInt ≤ (a' 0 7).toInt := by
  rcases h.2 with ⟨-, -, h2⟩ | ⟨-, -, h2⟩
  · rw [h2]
    omega
  · split at h2 <;> omega
theorem PA.other {t : Nat → Int32} {z N i j : Nat} {a a' : Nat → Nat → Int32} {b : Nat → Nat → Int64} {x : Int32} (h : PA t z N a b) (e : a' = mU a i j x) (hi : i ≠ 0 ∧ i ≠ 2 ∧ i ≠ 3) : PA t z N a' b := by
  unfold PA TKM at h ⊢
  rw [e, mU_cell (Ne.symm hi.1), mU_cell (Ne.symm hi.2.1), mU_cell (Ne.symm hi.2.2)]
  exact h
theorem mU_c0 {a a' : Nat → Nat → Int32} {i j : Nat} {x : Int32} (e : a' = mU a i j x) (hi : 0 ≠ i) : a' 0 = a 0 := by rw [e, mU_cell hi]
