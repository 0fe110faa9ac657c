-- more rules
theorem ti_lo (x : Int32) : -2147483648 ≤ x.toInt := by have := Int32.le_toInt x; omega
theorem ti_hi (x : Int32) : x.toInt ≤ 2147483647 := by have := Int32.toInt_lt x; omega
theorem ti_nI {x : Int32} (h : 0 ≤ x.toInt) : x = nI x.toInt.toNat := by
  apply ti_eq
  have := ti_hi x
  rw [nI_toInt (by omega)]
  omega
theorem ti_div {x y : Int32} (hx : 0 ≤ x.toInt) (hy : 0 < y.toInt) : (x / y).toInt = x.toInt / y.toInt := by
  have h1 := ti_hi x
  have h2 := ti_hi y
  have hp : x.toInt.toNat < 2 ^ 31 := by omega
  have hq : y.toInt.toNat < 2 ^ 31 := by omega
  have e : x / y = nI (x.toInt.toNat / y.toInt.toNat) := by
    rw [← pk_div hp (by omega) hq, ← ti_nI hx, ← ti_nI (Int.le_of_lt hy)]
  rw [e, nI_toInt (Nat.lt_of_le_of_lt (Nat.div_le_self _ _) hp), Int.natCast_ediv, Int.toNat_of_nonneg hx, Int.toNat_of_nonneg (Int.le_of_lt hy)]
theorem ti_rem {x y : Int32} (hx : 0 ≤ x.toInt) (hy : 0 < y.toInt) : (x - x / y * y).toInt = x.toInt % y.toInt := by
  have h1 := ti_hi x
  have h2 := ti_hi y
  have hp : x.toInt.toNat < 2 ^ 31 := by omega
  have hq : y.toInt.toNat < 2 ^ 31 := by omega
  have e : x - x / y * y = nI (x.toInt.toNat % y.toInt.toNat) := by
    rw [← pk_rem hp (by omega) hq, ← ti_nI hx, ← ti_nI (Int.le_of_lt hy)]
  rw [e, nI_toInt (Nat.lt_of_le_of_lt (Nat.mod_le _ _) hp), Int.natCast_emod, Int.toNat_of_nonneg hx, Int.toNat_of_nonneg (Int.le_of_lt hy)]
section M2
variable {code : Nat → Option f_I} {pc : Nat} {lo : List (Option f_V)} {st r : List f_V} {h : f_H} {Q : Option f_V → f_H → Prop} {n i : Nat} {sh : List f_X} {a : Nat → Nat → Int32} {b : Nat → Nat → Int64}
theorem w_iiU {op : Int32 → Int32 → Int32} {x y : Int32} (hc : code pc = some (i_ii op n)) (w : ∀ z : Int32, True → f_wp code (n, lo, .inl z :: r, h) Q) : f_wp code (pc, lo, .inl y :: .inl x :: r, h) Q := wp_s hc rfl (w _ trivial)
theorem w_iiE {op : Int32 → Int32 → Int32} {x y : Int32} (hc : code pc = some (i_ii op n)) (w : ∀ z : Int32, z = op x y → f_wp code (n, lo, .inl z :: r, h) Q) : f_wp code (pc, lo, .inl y :: .inl x :: r, h) Q := wp_s hc rfl (w _ rfl)
theorem w_imulR {x y : Int32} (hc : code pc = some (i_ii (fun x y => x * y) n)) {c : Int} (hy : y.toInt = c) (hb : -2147483648 ≤ c * x.toInt ∧ c * x.toInt < 2147483648) (w : ∀ z : Int32, z.toInt = c * x.toInt → f_wp code (n, lo, .inl z :: r, h) Q) : f_wp code (pc, lo, .inl y :: .inl x :: r, h) Q := wp_s hc rfl (w _ (by subst hy; rw [Int.mul_comm] at hb ⊢; exact ti_mul hb))
theorem w_idiv {x y : Int32} {c : Int} (hc : code pc = some (i_iid (fun x y => x / y) n)) (hy : y.toInt = c) (h0 : 0 < c) (hx : 0 ≤ x.toInt) (w : ∀ z : Int32, z.toInt = x.toInt / c → f_wp code (n, lo, .inl z :: r, h) Q) : f_wp code (pc, lo, .inl y :: .inl x :: r, h) Q := wp_iid hc (fun z => by rw [z] at hy; have e : (0 : Int32).toInt = 0 := rfl; omega) (w _ (by subst hy; exact ti_div hx h0))
theorem w_irem {x y : Int32} {c : Int} (hc : code pc = some (i_iid (fun x y => x - x / y * y) n)) (hy : y.toInt = c) (h0 : 0 < c) (hx : 0 ≤ x.toInt) (w : ∀ z : Int32, z.toInt = x.toInt % c → f_wp code (n, lo, .inl z :: r, h) Q) : f_wp code (pc, lo, .inl y :: .inl x :: r, h) Q := wp_iid hc (fun z => by rw [z] at hy; have e : (0 : Int32).toInt = 0 := rfl; omega) (w _ (by subst hy; exact ti_rem hx h0))
theorem w_iidE {op : Int32 → Int32 → Int32} {x y : Int32} (hc : code pc = some (i_iid op n)) (hy : ¬ y.toInt = 0) (w : ∀ z : Int32, z = op x y → f_wp code (n, lo, .inl z :: r, h) Q) : f_wp code (pc, lo, .inl y :: .inl x :: r, h) Q := wp_iid hc (fun z => hy (by rw [z]; rfl)) (w _ rfl)
theorem w_i1U {op : Int32 → Int32} {x : Int32} (hc : code pc = some (i_i1 op n)) (w : ∀ z : Int32, z = op x → f_wp code (n, lo, .inl z :: r, h) Q) : f_wp code (pc, lo, .inl x :: r, h) Q := wp_s hc rfl (w _ rfl)
theorem w_llE {op : Int64 → Int64 → Int64} {x y : Int64} (hc : code pc = some (i_ll op n)) (w : ∀ z : Int64, z = op x y → f_wp code (n, lo, .inr (.inl z) :: r, h) Q) : f_wp code (pc, lo, .inr (.inl y) :: .inr (.inl x) :: r, h) Q := wp_s hc rfl (w _ rfl)
theorem w_lldE {op : Int64 → Int64 → Int64} {x y : Int64} (hc : code pc = some (i_lld op n)) (hy : ¬ y = 0) (w : ∀ z : Int64, z = op x y → f_wp code (n, lo, .inr (.inl z) :: r, h) Q) : f_wp code (pc, lo, .inr (.inl y) :: .inr (.inl x) :: r, h) Q := wp_lld hc hy (w _ rfl)
theorem w_liE {op : Int64 → Int32 → Int64} {x : Int64} {y : Int32} (hc : code pc = some (i_li op n)) (w : ∀ z : Int64, z = op x y → f_wp code (n, lo, .inr (.inl z) :: r, h) Q) : f_wp code (pc, lo, .inl y :: .inr (.inl x) :: r, h) Q := wp_s hc rfl (w _ rfl)
theorem w_i2lE {x : Int32} (hc : code pc = some (i_i2l n)) (w : ∀ z : Int64, z = x.toInt64 → f_wp code (n, lo, .inr (.inl z) :: r, h) Q) : f_wp code (pc, lo, .inl x :: r, h) Q := wp_s hc rfl (w _ rfl)
theorem w_l2iE {x : Int64} (hc : code pc = some (i_l2i n)) (w : ∀ z : Int32, z = x.toInt32 → f_wp code (n, lo, .inl z :: r, h) Q) : f_wp code (pc, lo, .inr (.inl x) :: r, h) Q := wp_s hc rfl (w _ rfl)
theorem w_lcmpE {x y : Int64} (hc : code pc = some (i_lcmp n)) (w : ∀ z : Int32, z = lg_cmp x y → f_wp code (n, lo, .inl z :: r, h) Q) : f_wp code (pc, lo, .inr (.inl y) :: .inr (.inl x) :: r, h) Q := wp_s hc rfl (w _ rfl)
theorem m_putI {z : Bool} {c j ci : Nat} {ks : List Nat} {x : Int32} (hc : code pc = some (i_putI z sh (f_at c j) n)) (hs : sh[i]? = some (.inr (ci, ks))) (hci : f_at c j ci = some j) (hk : ks[j]? = some 0) (hz : z = true → x = 0 ∨ x = 1) (w : ∀ a1, a1 = mU a i j x → f_wp code (n, lo, r, mH a1 b) Q) : f_wp code (pc, lo, .inl x :: .inr (.inr (some i)) :: r, mH a b) Q := w_putI hc hs hci hk hz rfl (w _ rfl)
theorem m_putL {c j ci : Nat} {ks : List Nat} {x : Int64} (hc : code pc = some (i_putL sh (f_at c j) n)) (hs : sh[i]? = some (.inr (ci, ks))) (hci : f_at c j ci = some j) (hk : ks[j]? = some 1) (w : ∀ b1, b1 = mV b i j x → f_wp code (n, lo, r, mH a b1) Q) : f_wp code (pc, lo, .inr (.inl x) :: .inr (.inr (some i)) :: r, mH a b) Q := w_putL hc hs hci hk rfl (w _ rfl)
end M2
-- where a thing stands in the state
theorem RM.wed {K : Nat} {a : Nat → Nat → Int32} {j : Nat} (h : RM K a) (h1 : 1 ≤ j % 60 ∧ j % 60 < 7) : -1 ≤ (a 15 j).toInt ∧ (a 15 j).toInt ≤ 5 := by
  have := h 15 j
  simp only [loM, hiM, stLo, stHi] at this
  rw [if_neg (by omega), if_pos (by omega), if_neg (by omega), if_pos (by omega)] at this
  exact this
theorem RM.now {K : Nat} {a : Nat → Nat → Int32} {j : Nat} (h : RM K a) (h1 : j % 60 = 0) : 0 ≤ (a 15 j).toInt ∧ (a 15 j).toInt ≤ 100 * K ∧ (a 15 j).toInt ≤ 1000000 := by
  have := h 15 j
  simp only [loM, hiM, stLo, stHi] at this
  rw [if_pos h1, if_pos h1] at this
  omega
theorem RM.riv {K : Nat} {a : Nat → Nat → Int32} {r w : Nat} (h : RM K a) (hr : r < 6) (hw : w < 14) : laLo (7 + w) ≤ (a 6 (7 + 14 * r + w)).toInt ∧ (a 6 (7 + 14 * r + w)).toInt ≤ laHi (7 + w) := by
  have h1 := h 6 (7 + 14 * r + w)
  have h2 := la_riv hr hw
  simp only [loM, hiM] at h1
  rw [h2.1, h2.2] at h1
  exact h1
theorem RM.la0 {K : Nat} {a : Nat → Nat → Int32} (h : RM K a) : 0 ≤ (a 6 0).toInt ∧ (a 6 0).toInt ≤ 6 := h 6 0
theorem RM.la1 {K : Nat} {a : Nat → Nat → Int32} (h : RM K a) : 0 ≤ (a 6 1).toInt ∧ (a 6 1).toInt ≤ 4 := h 6 1
theorem RM.any {K : Nat} {a : Nat → Nat → Int32} (h : RM K a) {j : Nat} (h1 : 7 ≤ j % 60 ∧ j % 60 < 19) (x : Int32) : loM 15 j ≤ x.toInt ∧ x.toInt ≤ hiM K 15 j := by
  simp only [loM, hiM, stLo, stHi]
  rw [if_neg (by omega), if_neg (by omega), if_pos (by omega), if_neg (by omega), if_neg (by omega), if_pos (by omega)]
  exact ⟨ti_lo x, ti_hi x⟩
theorem st_wed {K j : Nat} {x : Int32} (h1 : 1 ≤ j % 60 ∧ j % 60 < 7) (hx : -1 ≤ x.toInt ∧ x.toInt ≤ 5) : loM 15 j ≤ x.toInt ∧ x.toInt ≤ hiM K 15 j := by
  simp only [loM, hiM, stLo, stHi]
  rw [if_neg (by omega), if_pos (by omega), if_neg (by omega), if_pos (by omega)]
  exact hx
theorem st_now {K j : Nat} {x : Int32} (h1 : j % 60 = 0) (hx : 0 ≤ x.toInt ∧ x.toInt ≤ 100 * K ∧ x.toInt ≤ 1000000) : loM 15 j ≤ x.toInt ∧ x.toInt ≤ hiM K 15 j := by
  simp only [loM, hiM, stLo, stHi]
  rw [if_pos h1, if_pos h1]
  omega
theorem st_any {K j : Nat} (x : Int32) (h1 : 7 ≤ j % 60 ∧ j % 60 < 19) : loM 15 j ≤ x.toInt ∧ x.toInt ≤ hiM K 15 j := by
  simp only [loM, hiM, stLo, stHi]
  rw [if_neg (by omega), if_neg (by omega), if_pos (by omega), if_neg (by omega), if_neg (by omega), if_pos (by omega)]
  exact ⟨ti_lo x, ti_hi x⟩
theorem la_zero {j : Nat} {x : Int32} {K : Nat} (hx : x.toInt = 0) : loM 6 j ≤ x.toInt ∧ x.toInt ≤ hiM K 6 j := by
  simp only [loM, hiM, laLo, laHi]
  rw [hx]
  constructor
  · split
    · split <;> omega
    · split
      · split
        · omega
        · split <;> omega
      · omega
  · split
    · split <;> omega
    · split
      · split <;> omega
      · omega
theorem la_law {j : Nat} {x : Int32} {K : Nat} (h1 : j % 110 = 5 ∨ j % 110 = 6) (hx : -1 ≤ x.toInt ∧ x.toInt ≤ 1000) : loM 6 j ≤ x.toInt ∧ x.toInt ≤ hiM K 6 j := by
  simp only [loM, hiM, laLo, laHi]
  rw [if_pos (by omega), if_pos h1, if_pos (by omega)]
  rcases h1 with h1 | h1 <;> (rw [h1]; exact ⟨hx.1, show x.toInt ≤ 1099 by omega⟩)
def FR (cs : List Nat) (a a' : Nat → Nat → Int32) : Prop := ∀ c, c ∉ cs → a' c = a c
theorem FR.rf {cs : List Nat} {a : Nat → Nat → Int32} : FR cs a a := fun _ _ => rfl
theorem FR.up {cs : List Nat} {a a1 a2 : Nat → Nat → Int32} {i j : Nat} {x : Int32} (h : FR cs a a1) (hi : i ∈ cs) (e : a2 = mU a1 i j x) : FR cs a a2 := fun c hc => by
  have hne : c ≠ i := fun z => hc (by rw [z]; exact hi)
  rw [e, mU_cell hne]
  exact h c hc
theorem FR.tr {cs : List Nat} {a a1 a2 : Nat → Nat → Int32} (h : FR cs a a1) (h2 : FR cs a1 a2) : FR cs a a2 := fun c hc => (h2 c hc).trans (h c hc)
theorem FR.sub {cs cs' : List Nat} {a a' : Nat → Nat → Int32} (h : FR cs a a') (hs : ∀ c ∈ cs, c ∈ cs') : FR cs' a a' := fun c hc => h c (fun z => hc (hs c z))
theorem ti_and1 (y : Int32) : 0 ≤ (y &&& 1).toInt ∧ (y &&& 1).toInt ≤ 1 := by
  obtain ⟨j, hj, e⟩ := pk_andE y (m := 1) 1 (by decide)
  rw [e, nI_toInt (by omega)]
  omega
theorem RM.water {K : Nat} {a : Nat → Nat → Int32} {r w : Nat} (h : RM K a) (hr : r < 6) (hw : 4 ≤ w ∧ w ≤ 7) : 0 ≤ (a 6 (7 + 14 * r + w)).toInt ∧ (a 6 (7 + 14 * r + w)).toInt ≤ 99 := by
  have h1 := RM.riv h hr (by omega : w < 14)
  have h2 : ∀ w, 4 ≤ w ∧ w ≤ 7 → laLo (7 + w) = 0 ∧ laHi (7 + w) = 99 := fun w hw => by
    have : w = 4 ∨ w = 5 ∨ w = 6 ∨ w = 7 := by omega
    rcases this with rfl | rfl | rfl | rfl <;> decide
  rw [(h2 w hw).1, (h2 w hw).2] at h1
  exact h1
theorem st_copy {K i j : Nat} (h : i % 60 = j % 60) : loM 15 i = loM 15 j ∧ hiM K 15 i = hiM K 15 j := by
  have h3 : i % 3 = j % 3 := by omega
  simp only [loM, hiM, stLo, stHi, h, h3]
  exact ⟨trivial, trivial⟩
theorem ti_nz (x : Int32) : 0 ≤ (vp_nar .boolean x).toInt ∧ (vp_nar .boolean x).toInt ≤ 1 := ti_and1 x
theorem st_told {K j : Nat} {x : Int32} (h1 : 27 ≤ j % 60) (hx : 0 ≤ x.toInt ∧ (j % 3 = 0 → x.toInt ≤ 5) ∧ (j % 3 = 1 → x.toInt ≤ 3) ∧ x.toInt ≤ 9999) : loM 15 j ≤ x.toInt ∧ x.toInt ≤ hiM K 15 j := by
  simp only [loM, hiM, stLo, stHi]
  rw [if_neg (by omega), if_neg (by omega), if_neg (by omega), if_neg (by omega), if_neg (by omega), if_neg (by omega), if_neg (by omega), if_neg (by omega), if_neg (by omega), if_neg (by omega)]
  refine ⟨hx.1, ?_⟩
  split
  · omega
  · split <;> omega
theorem RM.told {K : Nat} {a : Nat → Nat → Int32} {j : Nat} (h : RM K a) (h1 : 27 ≤ j % 60) : 0 ≤ (a 15 j).toInt ∧ (j % 3 = 0 → (a 15 j).toInt ≤ 5) ∧ (j % 3 = 1 → (a 15 j).toInt ≤ 3) := by
  have := h 15 j
  simp only [loM, hiM, stLo, stHi] at this
  rw [if_neg (by omega), if_neg (by omega), if_neg (by omega), if_neg (by omega), if_neg (by omega), if_neg (by omega), if_neg (by omega), if_neg (by omega), if_neg (by omega), if_neg (by omega)] at this
  refine ⟨this.1, fun h3 => ?_, fun h3 => ?_⟩
  · rw [if_pos h3] at this
    exact this.2
  · rw [if_neg (by omega), if_pos h3] at this
    exact this.2
