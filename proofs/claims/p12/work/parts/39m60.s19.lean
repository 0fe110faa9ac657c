theorem tl_lN {x : Int64} (h : 0 ≤ x.toInt) : x = lN x.toInt.toNat ∧ x.toInt.toNat < 2 ^ 63 := by
  have h1 : ¬ x < 0 := by rw [Int64.lt_iff_toInt_lt]; exact fun z => absurd h (by have e : (0 : Int64).toInt = 0 := rfl; omega)
  obtain ⟨k, hk, rfl⟩ := pk_lOf h1
  rw [pk_lT hk, Int.toNat_natCast]
  exact ⟨rfl, hk⟩
theorem dr_g {g : Int64} (h : 0 ≤ g.toInt ∧ g.toInt < 2147483648) : 0 ≤ ((g * 1103515245 + 12345) - (g * 1103515245 + 12345) / 2147483648 * 2147483648).toInt ∧ ((g * 1103515245 + 12345) - (g * 1103515245 + 12345) / 2147483648 * 2147483648).toInt < 2147483648 := by
  obtain ⟨e, hk⟩ := tl_lN h.1
  have hlt : g.toInt.toNat < 2147483648 := by omega
  generalize g.toInt.toNat = k at e hk hlt
  subst e
  have e1 : lN k * 1103515245 + 12345 = lN (k * 1103515245 + 12345) := by
    rw [← lN_add, ← lN_mul]; rfl
  have e2 : (2147483648 : Int64) = lN 2147483648 := rfl
  rw [e1, e2, pk_lRem (by omega) (by omega) (by omega), pk_lT (by omega)]
  omega
theorem dr_m {g y : Int64} {m x : Int32} (hg : 0 ≤ g.toInt ∧ g.toInt < 2147483648) (hm : 1 ≤ m.toInt ∧ m.toInt ≤ 10) (hy : y = m.toInt64) (hx : x = (g / 65536 - g / 65536 / y * y).toInt32) : 0 ≤ x.toInt ∧ x.toInt < m.toInt := by
  have hyt := i2l_ti hy
  obtain ⟨e, hk⟩ := tl_lN hg.1
  obtain ⟨e2, hk2⟩ := tl_lN (x := y) (by omega)
  have h3 : y.toInt.toNat = m.toInt.toNat := by omega
  rw [h3] at e2
  have hlt : g.toInt.toNat < 2147483648 := by omega
  generalize g.toInt.toNat = k at e hk hlt
  have hmm : 1 ≤ m.toInt.toNat ∧ m.toInt.toNat ≤ 10 := by omega
  have e3 : g / 65536 = lN (k / 65536) := by
    rw [e, show (65536 : Int64) = lN 65536 from rfl, pk_lDiv (by omega) (by omega) (by omega)]
  rw [e3, e2, pk_lRem (by omega) (by omega) (by omega), lN_i] at hx
  have h5 : k / 65536 % m.toInt.toNat < m.toInt.toNat := Nat.mod_lt _ (by omega)
  rw [hx, nI_toInt (by omega)]
  omega
set_option maxRecDepth 4000 in
theorem s_draw {K : Nat} (a : Nat → Nat → Int32) (b : Nat → Nat → Int64) (m : Int32) (hR : RM K a) (hm : 1 ≤ m.toInt ∧ m.toInt ≤ 10) (hg : 0 ≤ (b 0 41).toInt ∧ (b 0 41).toInt < 2147483648) : f_call mtM 1 110 [.inr (.inr (some 0)), .inl m] (mH a b) (fun v9 h' => ∃ (a' : Nat → Nat → Int32) (b' : Nat → Nat → Int64), h' = mH a' b' ∧ RM K a' ∧ (FR [] a a' ∧ (a' = a ∧ 0 ≤ (b' 0 41).toInt ∧ (b' 0 41).toInt < 2147483648)) ∧ ∃ x : Int32, v9 = some (.inl x) ∧ (0 ≤ x.toInt ∧ x.toInt < m.toInt)) := by
  refine f_call_of (d0 := 0) rfl (Nat.le_of_ble_eq_true rfl) (fun d hd => ?_)
  show f_wp _ (0, [some (.inr (.inr (some 0))), some (.inl m)], [], mH a b) _
  refine w_aload rfl rfl ?_
  refine w_aload rfl rfl ?_
  refine w_getL (v := .inr (.inl (b 0 41))) rfl rfl rfl rfl rfl ?_
  refine w_const rfl ?_
  refine w_llE rfl (fun y1 ty1 => ?_)
  refine w_const rfl ?_
  refine w_llE rfl (fun y2 ty2 => ?_)
  refine w_const rfl ?_
  refine w_lldE rfl (by decide) (fun y3 ty3 => ?_)
  have d9 : 0 ≤ y3.toInt ∧ y3.toInt < 2147483648 := by have d8 := dr_g hg; subst_vars; exact d8
  refine m_putL rfl rfl rfl rfl (fun b4 eb4 => ?_)
  have gb4 : b4 0 41 = y3 := by rw [eb4]; exact mV_same
  have d7 : 0 ≤ (b4 0 41).toInt ∧ (b4 0 41).toInt < 2147483648 := by rw [gb4]; exact d9
  refine w_aload rfl rfl ?_
  refine w_getL (v := .inr (.inl (b4 0 41))) rfl rfl rfl rfl rfl ?_
  refine w_const rfl ?_
  refine w_lldE rfl (by decide) (fun y5 ty5 => ?_)
  refine w_iload rfl rfl ?_
  refine w_i2lE rfl (fun y6 ty6 => ?_)
  refine w_lldE rfl (fun z9 => by have z8 := i2l_ti ty6; rw [z9] at z8; have z7 : (0 : Int64).toInt = 0 := rfl; omega) (fun y7 ty7 => ?_)
  refine w_l2iE rfl (fun x8 tx8 => ?_)
  have d5 : 0 ≤ x8.toInt ∧ x8.toInt < m.toInt := dr_m (g := b4 0 41) (y := y6) (x := x8) d7 hm ty6 (by subst_vars; rfl)
  exact wp_iret (z := false) rfl (fun h9 => by cases h9) ⟨a, b4, rfl, hR, ⟨FR.rf, ⟨rfl, d7⟩⟩, ⟨_, rfl, d5⟩⟩
