set_option maxRecDepth 4000 in
theorem s_takeAfter {K : Nat} (a : Nat → Nat → Int32) (b : Nat → Nat → Int64) (N : Nat)(c : Int32) (p : Int32) (r : Int32) (hR : RM K a) (hc : 0 ≤ c.toInt ∧ c.toInt ≤ 30) (hp : 0 ≤ p.toInt) (hT : N ≤ 1000 ∧ (a 0 7).toInt ≤ N ∧ (a 2 N).toInt = 0) : f_call mtM 4 17 [.inr (.inr (some 0)), .inl c, .inl p, .inl r] (mH a b) (fun v9 h' => ∃ (a' : Nat → Nat → Int32), h' = mH a' b ∧ RM K a' ∧ (FR [0] a a' ∧ ((∀ j, j ≠ 7 → j ≠ 8 → a' 0 j = a 0 j) ∧ (a 0 7).toInt ≤ (a' 0 7).toInt ∧ (a' 0 7).toInt ≤ N)) ∧ ∃ x : Int32, v9 = some (.inl x) ∧ (((a' 0 8).toInt = 0 ∧ (a 0 8).toInt = 0 ∧ p.toInt ≤ x.toInt ∧ x.toInt ≤ r.toInt ∧ (a' 0 7).toInt = (a 0 7).toInt + 2) ∨ (0 < (a' 0 8).toInt ∧ x.toInt = 0))) := by
  refine f_call_of (d0 := 3) rfl (Nat.le_of_ble_eq_true rfl) (fun d hd => ?_)
  show f_wp _ (0, [some (.inr (.inr (some 0))), some (.inl c), some (.inl p), some (.inl r)], [], mH a b) _
  have z7 : 0 ≤ (a 0 7).toInt ∧ (a 0 7).toInt ≤ 1000 := hR 0 7
  have z8 : 0 ≤ (a 0 8).toInt ∧ (a 0 8).toInt ≤ 2147483647 := hR 0 8
  refine w_aload rfl rfl ?_
  refine w_iload rfl rfl ?_
  refine w_invV (rest := []) rfl rfl rfl rfl rfl (Nat.le_of_ble_eq_true rfl) rfl (by omega) (s_takeWord (K := K) a b N c hR (by omega) (hT)) (fun v1 h9 hq2 => ?_)
  obtain ⟨a3, rfl, ha3, fa3, rfl⟩ := hq2
  show f_wp _ (5, [some (.inr (.inr (some 0))), some (.inl c), some (.inl p), some (.inl r)], [], mH a3 b) _
  refine w_aload rfl rfl ?_
  refine w_iload rfl rfl ?_
  refine w_iload rfl rfl ?_
  refine w_invV (rest := []) rfl rfl rfl rfl rfl (Nat.le_of_ble_eq_true rfl) rfl (by omega) (s_takeNumber (K := K) a3 b N p r ha3 (by omega) (⟨hT.1, by omega, by rw [fa3.1 2 (by decide)]; exact hT.2.2⟩)) (fun v4 h9 hq5 => ?_)
  obtain ⟨a6, rfl, ha6, fa6, x7, rfl, px7⟩ := hq5
  show f_wp _ (11, [some (.inr (.inr (some 0))), some (.inl c), some (.inl p), some (.inl r)], [.inl x7], mH a6 b) _
  exact wp_iret (z := false) rfl (fun h9 => by cases h9) ⟨a6, rfl, ha6, ⟨FR.tr (FR.tr (FR.rf) (FR.sub fa3.1 (by decide))) (FR.sub fa6.1 (by decide)), ⟨fun j h7 h8 => by rw [fa6.2.1 j h7 h8]; exact fa3.2.1.1 j h7 h8, by omega, by omega⟩⟩, ⟨_, rfl, by omega⟩⟩
set_option maxRecDepth 4000 in
theorem s_emit {K : Nat} (a : Nat → Nat → Int32) (b : Nat → Nat → Int64) (c : Int32) (p : Int32) (hR : RM K a) (hc : 0 ≤ c.toInt ∧ c.toInt ≤ 10) (hd9 : (a 0 13).toInt ≤ 999) : f_call mtM 1 29 [.inr (.inr (some 0)), .inl c, .inl p] (mH a b) (fun v9 h' => ∃ (a' : Nat → Nat → Int32), h' = mH a' b ∧ RM K a' ∧ (FR [0, 7, 8] a a' ∧ ((∀ j, j ≠ 13 → a' 0 j = a 0 j) ∧ (a' 0 13).toInt = (a 0 13).toInt + 1)) ∧ v9 = none) := by
  refine f_call_of (d0 := 0) rfl (Nat.le_of_ble_eq_true rfl) (fun d hd => ?_)
  show f_wp _ (0, [some (.inr (.inr (some 0))), some (.inl c), some (.inl p)], [], mH a b) _
  have l1 : (1 : Int32).toInt = 1 := rfl
  have l1100 : (1100 : Int32).toInt = 1100 := rfl
  refine w_aload rfl rfl ?_
  refine w_getR (v := .inr (.inr (some 7))) rfl rfl rfl rfl rfl ?_
  refine w_const rfl ?_
  refine w_aload rfl rfl ?_
  refine w_getI (v := .inl (a 0 13)) rfl rfl rfl rfl rfl ?_
  have q1 : 0 ≤ (a 0 13).toInt ∧ (a 0 13).toInt ≤ 1000 := hR 0 13
  first | refine w_iadd rfl (by omega) (fun x2 tx2 => ?_) | refine w_iiU rfl (fun x2 tx2 => ?_)
  refine w_iload rfl rfl ?_
  refine m_iast rfl rfl (by omega) (fun a3 ea3 => ?_)
  have ha3 : RM K a3 := RM.up hR ea3 (show (0 : Int) ≤ _ ∧ _ ≤ (10 : Int) from by omega)
  have ua3_13 : (a3 0 13).toInt = (a 0 13).toInt := by rw [ea3, mU_cell (by decide)]
  refine w_aload rfl rfl ?_
  refine w_getR (v := .inr (.inr (some 8))) rfl rfl rfl rfl rfl ?_
  refine w_const rfl ?_
  refine w_aload rfl rfl ?_
  refine w_getI (v := .inl (a3 0 13)) rfl rfl rfl rfl rfl ?_
  have q4 : 0 ≤ (a3 0 13).toInt ∧ (a3 0 13).toInt ≤ 1000 := ha3 0 13
  first | refine w_iadd rfl (by omega) (fun x5 tx5 => ?_) | refine w_iiU rfl (fun x5 tx5 => ?_)
  refine w_iload rfl rfl ?_
  refine m_iast rfl rfl (by omega) (fun a6 ea6 => ?_)
  have ha6 : RM K a6 := RM.up ha3 ea6 ⟨ti_lo _, ti_hi _⟩
  have ua6_13 : (a6 0 13).toInt = (a3 0 13).toInt := by rw [ea6, mU_cell (by decide)]
  refine w_aload rfl rfl ?_
  refine w_dup rfl rfl ?_
  refine w_getI (v := .inl (a6 0 13)) rfl rfl rfl rfl rfl ?_
  have q7 : 0 ≤ (a6 0 13).toInt ∧ (a6 0 13).toInt ≤ 1000 := ha6 0 13
  refine w_const rfl ?_
  first | refine w_iadd rfl (by omega) (fun x8 tx8 => ?_) | refine w_iiU rfl (fun x8 tx8 => ?_)
  refine m_putI (z := false) rfl rfl rfl rfl (by first | (intro h9; cases h9; done) | (intro _; first | exact Or.inl rfl | exact Or.inr rfl | assumption)) (fun a9 ea9 => ?_)
  have ha9 : RM K a9 := RM.up ha6 ea9 (show (0 : Int) ≤ _ ∧ _ ≤ (1000 : Int) from by omega)
  have ua9_13 : a9 0 13 = x8 := by rw [ea9, mU_same]
  have wa9_13 := congrArg Int32.toInt ua9_13
  exact w_ret rfl ⟨a9, rfl, ha9, ⟨FR.up (FR.up (FR.up (FR.rf) (by decide) ea3) (by decide) ea6) (by decide) ea9, ⟨fun j h9 => by rw [ea9, mU_slot h9, ea6, mU_cell (by decide), ea3, mU_cell (by decide)], by rw [ea9, mU_same]; omega⟩⟩, rfl⟩
