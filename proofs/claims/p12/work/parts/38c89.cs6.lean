set_option maxRecDepth 4000 in
theorem s_X6_goesOn {K : Nat} (a : Nat → Nat → Int32) (b : Nat → Nat → Int64) (v : Nat → Option Nat)  (hR : RC K a)  : f_call mtC 1 45 [.inr (.inr (some 6))] (cH a b v) (fun v9 h' => h' = cH a b v ∧ ∃ x : Int32, v9 = some (.inl x) ∧ (x.toInt = 0 ∨ x.toInt = 1)) := by
  refine f_call_of (d0 := 0) rfl (Nat.le_of_ble_eq_true rfl) (fun d hd => ?_)
  show f_wp _ (0, [some (.inr (.inr (some 6)))], [], cH a b v) _
  have l0 : (0 : Int32).toInt = 0 := rfl
  have l1 : (1 : Int32).toInt = 1 := rfl
  refine w_aload rfl rfl ?_
  refine c_getI rfl rfl rfl rfl ?_
  refine w_if_ne rfl (fun c1 => ?_) (fun c1 => ?_)
  · skip
    refine w_aload rfl rfl ?_
    refine c_getR (t := some 1) rfl rfl rfl rfl rfl ?_
    refine c_getI rfl rfl rfl rfl ?_
    refine w_if_eq rfl (fun c2 => ?_) (fun c2 => ?_)
    · skip
      refine w_const rfl ?_
      exact wp_iret (z := true) rfl (fun _ => by first | exact Or.inl rfl | exact Or.inr rfl | (rcases (by omega : (0 : Int32).toInt = 0 ∨ (0 : Int32).toInt = 1) with h8 | h8; exact Or.inl (ti_eq h8); exact Or.inr (ti_eq h8))) ⟨rfl, ⟨_, rfl, by omega⟩⟩
    · skip
      refine w_const rfl ?_
      refine w_goto rfl ?_
      exact wp_iret (z := true) rfl (fun _ => by first | exact Or.inl rfl | exact Or.inr rfl | (rcases (by omega : (1 : Int32).toInt = 0 ∨ (1 : Int32).toInt = 1) with h8 | h8; exact Or.inl (ti_eq h8); exact Or.inr (ti_eq h8))) ⟨rfl, ⟨_, rfl, by omega⟩⟩
  · skip
    refine w_const rfl ?_
    exact wp_iret (z := true) rfl (fun _ => by first | exact Or.inl rfl | exact Or.inr rfl | (rcases (by omega : (0 : Int32).toInt = 0 ∨ (0 : Int32).toInt = 1) with h8 | h8; exact Or.inl (ti_eq h8); exact Or.inr (ti_eq h8))) ⟨rfl, ⟨_, rfl, by omega⟩⟩
set_option maxRecDepth 4000 in
theorem s_X6_fail {K : Nat} (a : Nat → Nat → Int32) (b : Nat → Nat → Int64) (v : Nat → Option Nat) (p : Int32) (hR : RC K a)  : f_call mtC 1 46 [.inr (.inr (some 6)), .inl p] (cH a b v) (fun v9 h' => ∃ (a' : Nat → Nat → Int32), h' = cH a' b v ∧ RC K a' ∧ (FR [6] a a' ∧ ((∀ j, j ≠ 10 → a' 6 j = a 6 j))) ∧ ∃ x : Int32, v9 = some (.inl x) ∧ (x.toInt = 0)) := by
  refine f_call_of (d0 := 0) rfl (Nat.le_of_ble_eq_true rfl) (fun d hd => ?_)
  show f_wp _ (0, [some (.inr (.inr (some 6))), some (.inl p)], [], cH a b v) _
  have l0 : (0 : Int32).toInt = 0 := rfl
  have l16 : (16 : Int32).toInt = 16 := rfl
  refine w_aload rfl rfl ?_
  refine w_iload rfl rfl ?_
  refine w_const rfl ?_
  refine w_aload rfl rfl ?_
  refine c_getR (t := some 1) rfl rfl rfl rfl rfl ?_
  refine c_getI rfl rfl rfl rfl ?_
  first | refine w_imul rfl (c := 16) rfl (by omega) (fun x1 tx1 => ?_) | refine w_iiU rfl (fun x1 tx1 => ?_)
  first | refine w_iadd rfl (by omega) (fun x2 tx2 => ?_) | refine w_iiU rfl (fun x2 tx2 => ?_)
  refine c_putI (z := false) rfl rfl rfl rfl (by first | (intro h9; cases h9; done) | (intro _; first | exact Or.inl rfl | exact Or.inr rfl | assumption | (rcases (by omega : x2.toInt = 0 ∨ x2.toInt = 1) with h8 | h8; exact Or.inl (ti_eq h8); exact Or.inr (ti_eq h8)))) (fun a3 ea3 => ?_)
  have ha3 : RC K a3 := RC.up hR ea3 (lc_any _ (by omega))
  have ua3 : a3 6 10 = x2 := by rw [ea3, mU_same]
  have wa3 := congrArg Int32.toInt ua3
  have ra3_18 : (a3 1 8).toInt = (a 1 8).toInt := by rw [ea3, mU_cell (by omega)]
  refine w_const rfl ?_
  exact wp_iret (z := true) rfl (fun _ => by first | exact Or.inl rfl | exact Or.inr rfl | (rcases (by omega : (0 : Int32).toInt = 0 ∨ (0 : Int32).toInt = 1) with h8 | h8; exact Or.inl (ti_eq h8); exact Or.inr (ti_eq h8))) ⟨a3, rfl, ha3, ⟨FR.up (FR.rf) (by first | decide | simp | (simp [cA]; omega) | (simp [cB]; omega)) ea3, fun j h9 => by rw [ea3, mU_slot h9]⟩, ⟨_, rfl, by omega⟩⟩
set_option maxRecDepth 4000 in
theorem s_X6_isSign {K : Nat} (a : Nat → Nat → Int32) (b : Nat → Nat → Int64) (v : Nat → Option Nat) (p : Int32) (hR : RC K a)  : f_call mtC 1 47 [.inr (.inr (some 6)), .inl p] (cH a b v) (fun v9 h' => h' = cH a b v ∧ ∃ x : Int32, v9 = some (.inl x) ∧ (x.toInt = 0 ∨ x.toInt = 1)) := by
  refine f_call_of (d0 := 0) rfl (Nat.le_of_ble_eq_true rfl) (fun d hd => ?_)
  show f_wp _ (0, [some (.inr (.inr (some 6))), some (.inl p)], [], cH a b v) _
  have l0 : (0 : Int32).toInt = 0 := rfl
  have l1 : (1 : Int32).toInt = 1 := rfl
  have l4 : (4 : Int32).toInt = 4 := rfl
  refine w_aload rfl rfl ?_
  refine c_getR (t := some 1) rfl rfl rfl rfl rfl ?_
  refine c_getI rfl rfl rfl rfl ?_
  refine w_const rfl ?_
  refine w_ic_ne rfl (fun c1 => ?_) (fun c1 => ?_)
  · skip
    refine w_aload rfl rfl ?_
    refine c_getR (t := some 1) rfl rfl rfl rfl rfl ?_
    refine c_getL rfl rfl rfl rfl ?_
    refine w_iload rfl rfl ?_
    refine w_i2lE rfl (fun y2 ty2 => ?_)
    refine w_lcmpE rfl (fun x3 tx3 => ?_)
    refine w_if_ne rfl (fun c4 => ?_) (fun c4 => ?_)
    · skip
      refine w_const rfl ?_
      refine w_goto rfl ?_
      exact wp_iret (z := true) rfl (fun _ => by first | exact Or.inl rfl | exact Or.inr rfl | (rcases (by omega : (1 : Int32).toInt = 0 ∨ (1 : Int32).toInt = 1) with h8 | h8; exact Or.inl (ti_eq h8); exact Or.inr (ti_eq h8))) ⟨rfl, ⟨_, rfl, by omega⟩⟩
    · skip
      refine w_const rfl ?_
      exact wp_iret (z := true) rfl (fun _ => by first | exact Or.inl rfl | exact Or.inr rfl | (rcases (by omega : (0 : Int32).toInt = 0 ∨ (0 : Int32).toInt = 1) with h8 | h8; exact Or.inl (ti_eq h8); exact Or.inr (ti_eq h8))) ⟨rfl, ⟨_, rfl, by omega⟩⟩
  · skip
    refine w_const rfl ?_
    exact wp_iret (z := true) rfl (fun _ => by first | exact Or.inl rfl | exact Or.inr rfl | (rcases (by omega : (0 : Int32).toInt = 0 ∨ (0 : Int32).toInt = 1) with h8 | h8; exact Or.inl (ti_eq h8); exact Or.inr (ti_eq h8))) ⟨rfl, ⟨_, rfl, by omega⟩⟩
set_option maxRecDepth 4000 in
theorem s_X6_passSign {K : Nat} (a : Nat → Nat → Int32) (b : Nat → Nat → Int64) (v : Nat → Option Nat) (p : Int32) (hR : RC K a) (hw : f_wdb (v 2) = true) : f_call mtC 2 49 [.inr (.inr (some 6)), .inl p] (cH a b v) (fun v9 h' => ∃ (a' : Nat → Nat → Int32) (b' : Nat → Nat → Int64) (v' : Nat → Option Nat), h' = cH a' b' v' ∧ RC K a' ∧ (FR [1, 6] a a' ∧ ((∀ i, i ∉ [2] → v' i = v i) ∧ f_wdb (v' 2) = true) ∧ ((∀ j, j ≠ 10 → a' 6 j = a 6 j))) ∧ ∃ x : Int32, v9 = some (.inl x) ∧ (x.toInt = 0 ∨ x.toInt = 1)) := by
  refine f_call_of (d0 := 1) rfl (Nat.le_of_ble_eq_true rfl) (fun d hd => ?_)
  show f_wp _ (0, [some (.inr (.inr (some 6))), some (.inl p)], [], cH a b v) _
  have l1 : (1 : Int32).toInt = 1 := rfl
  refine w_aload rfl rfl ?_
  refine w_iload rfl rfl ?_
  refine w_invV (rest := []) rfl rfl rfl rfl rfl (Nat.le_of_ble_eq_true rfl) rfl (by omega) (s_X6_isSign (K := K) a b v  p hR  ) (fun z1 h9 hq2 => ?_)
  obtain ⟨rfl, x3, rfl, px3⟩ := hq2
  show f_wp _ (5, [some (.inr (.inr (some 6))), some (.inl p)], [.inl x3], cH a b v) _
  refine w_if_ne rfl (fun c4 => ?_) (fun c4 => ?_)
  · skip
    refine w_aload rfl rfl ?_
    refine w_const rfl ?_
    refine w_invV (rest := []) rfl rfl rfl rfl rfl (Nat.le_of_ble_eq_true rfl) rfl (by omega) (s_X6_fail (K := K) a b v  1 hR  ) (fun z5 h9 hq6 => ?_)
    obtain ⟨a7, rfl, ha7, fa7, x8, rfl, px8⟩ := hq6
    show f_wp _ (13, [some (.inr (.inr (some 6))), some (.inl p)], [.inl x8], cH a7 b v) _
    exact wp_iret (z := true) rfl (fun _ => by first | exact Or.inl rfl | exact Or.inr rfl | (rcases (by omega : x8.toInt = 0 ∨ x8.toInt = 1) with h8 | h8; exact Or.inl (ti_eq h8); exact Or.inr (ti_eq h8))) ⟨a7, b, v, rfl, ha7, ⟨FR.tr (FR.rf) (FR.sub fa7.1 (by first | exact (fun _ h9 => h9) | decide | (intro c9 h9; simp only [List.mem_cons, List.not_mem_nil, or_false] at h9 ⊢; omega) | (intro c9 h9; simp at h9; simp [cA]; omega) | (intro c9 h9; simp at h9; simp [cB]; omega) | (intro c9 h9; simp [cA] at h9; simp [cB]; omega))), ⟨(fun _ _ => rfl), hw⟩, fun j h9 => by rw [fa7.2 j (by omega)]⟩, ⟨_, rfl, by omega⟩⟩
  · skip
    refine w_aload rfl rfl ?_
    refine c_getR (t := some 1) rfl rfl rfl rfl rfl ?_
    refine w_invV (rest := []) rfl rfl rfl rfl rfl (Nat.le_of_ble_eq_true rfl) rfl (by omega) (s_X8_advance (K := K) a b v   hR  ) (fun z9 h9 hq10 => ?_)
    obtain ⟨a11, b12, v13, rfl, ha11, fa11, rfl⟩ := hq10
    show f_wp _ (21, [some (.inr (.inr (some 6))), some (.inl p)], [], cH a11 b12 v13) _
    refine w_const rfl ?_
    exact wp_iret (z := true) rfl (fun _ => by first | exact Or.inl rfl | exact Or.inr rfl | (rcases (by omega : (1 : Int32).toInt = 0 ∨ (1 : Int32).toInt = 1) with h8 | h8; exact Or.inl (ti_eq h8); exact Or.inr (ti_eq h8))) ⟨a11, b12, v13, rfl, ha11, ⟨FR.tr (FR.rf) (FR.sub fa11.1 (by first | exact (fun _ h9 => h9) | decide | (intro c9 h9; simp only [List.mem_cons, List.not_mem_nil, or_false] at h9 ⊢; omega) | (intro c9 h9; simp at h9; simp [cA]; omega) | (intro c9 h9; simp at h9; simp [cB]; omega) | (intro c9 h9; simp [cA] at h9; simp [cB]; omega))), ⟨fun i9 h9 => (fa11.2.1.1 i9 (fun z9 => h9 (by first | exact z9 | (revert z9; simp; done) | (revert z9; simp; omega)))).trans ((show ∀ i9, i9 ∉ [2] → v i9 = v i9 from (fun _ _ => rfl)) i9 h9), fa11.2.1.2⟩, fun j h9 => by rw [fa11.1 6 (by decide)]⟩, ⟨_, rfl, by omega⟩⟩
set_option maxRecDepth 4000 in
theorem s_X6_lineEnd {K : Nat} (a : Nat → Nat → Int32) (b : Nat → Nat → Int64) (v : Nat → Option Nat)  (hR : RC K a) (hw : f_wdb (v 2) = true) : f_call mtC 3 48 [.inr (.inr (some 6))] (cH a b v) (fun v9 h' => ∃ (a' : Nat → Nat → Int32) (b' : Nat → Nat → Int64) (v' : Nat → Option Nat), h' = cH a' b' v' ∧ RC K a' ∧ (FR [1, 6] a a' ∧ ((∀ i, i ∉ [2] → v' i = v i) ∧ f_wdb (v' 2) = true) ∧ ((∀ j, j ≠ 10 → a' 6 j = a 6 j))) ∧ ∃ x : Int32, v9 = some (.inl x) ∧ (x.toInt = 0 ∨ x.toInt = 1)) := by
  refine f_call_of (d0 := 2) rfl (Nat.le_of_ble_eq_true rfl) (fun d hd => ?_)
  show f_wp _ (0, [some (.inr (.inr (some 6)))], [], cH a b v) _
  have l59 : (59 : Int32).toInt = 59 := rfl
  refine w_aload rfl rfl ?_
  refine w_const rfl ?_
  refine w_invV (rest := []) rfl rfl rfl rfl rfl (Nat.le_of_ble_eq_true rfl) rfl (by omega) (s_X6_passSign (K := K) a b v  59 hR  (hw)) (fun z1 h9 hq2 => ?_)
  obtain ⟨a3, b4, v5, rfl, ha3, fa3, x6, rfl, px6⟩ := hq2
  show f_wp _ (6, [some (.inr (.inr (some 6)))], [.inl x6], cH a3 b4 v5) _
  exact wp_iret (z := true) rfl (fun _ => by first | exact Or.inl rfl | exact Or.inr rfl | (rcases (by omega : x6.toInt = 0 ∨ x6.toInt = 1) with h8 | h8; exact Or.inl (ti_eq h8); exact Or.inr (ti_eq h8))) ⟨a3, b4, v5, rfl, ha3, ⟨FR.tr (FR.rf) (FR.sub fa3.1 (by first | exact (fun _ h9 => h9) | decide | (intro c9 h9; simp only [List.mem_cons, List.not_mem_nil, or_false] at h9 ⊢; omega) | (intro c9 h9; simp at h9; simp [cA]; omega) | (intro c9 h9; simp at h9; simp [cB]; omega) | (intro c9 h9; simp [cA] at h9; simp [cB]; omega))), ⟨fun i9 h9 => (fa3.2.1.1 i9 (fun z9 => h9 (by first | exact z9 | (revert z9; simp; done) | (revert z9; simp; omega)))).trans ((show ∀ i9, i9 ∉ [2] → v i9 = v i9 from (fun _ _ => rfl)) i9 h9), fa3.2.1.2⟩, fun j h9 => by rw [fa3.2.2 j (by omega)]⟩, ⟨_, rfl, by omega⟩⟩
set_option maxRecDepth 4000 in
theorem s_X6_passWord {K : Nat} (a : Nat → Nat → Int32) (b : Nat → Nat → Int64) (v : Nat → Option Nat) (p : Nat) (hR : RC K a) (hw : f_wdb (v 2) = true) (hp : 1000 ≤ p ∧ p < 1031) : f_call mtC 2 50 [.inr (.inr (some 6)), .inr (.inr (some p))] (cH a b v) (fun v9 h' => ∃ (a' : Nat → Nat → Int32) (b' : Nat → Nat → Int64) (v' : Nat → Option Nat), h' = cH a' b' v' ∧ RC K a' ∧ (FR [1, 6] a a' ∧ ((∀ i, i ∉ [2] → v' i = v i) ∧ f_wdb (v' 2) = true) ∧ ((∀ j, j ≠ 10 → a' 6 j = a 6 j))) ∧ ∃ x : Int32, v9 = some (.inl x) ∧ (x.toInt = 0 ∨ x.toInt = 1)) := by
  refine f_call_of (d0 := 1) rfl (Nat.le_of_ble_eq_true rfl) (fun d hd => ?_)
  show f_wp _ (0, [some (.inr (.inr (some 6))), some (.inr (.inr (some p)))], [], cH a b v) _
  have l1 : (1 : Int32).toInt = 1 := rfl
  refine w_aload rfl rfl ?_
  refine c_getR (t := some 1) rfl rfl rfl rfl rfl ?_
  refine c_getR (t := v 2) rfl rfl rfl rfl rfl ?_
  refine w_aload rfl rfl ?_
  refine c_aw_eq rfl ⟨hw, wdb_some (by omega)⟩ (fun c1 => ?_) (fun c1 => ?_)
  · skip
    refine w_aload rfl rfl ?_
    refine c_getR (t := some 1) rfl rfl rfl rfl rfl ?_
    refine w_invV (rest := []) rfl rfl rfl rfl rfl (Nat.le_of_ble_eq_true rfl) rfl (by omega) (s_X8_advance (K := K) a b v   hR  ) (fun z2 h9 hq3 => ?_)
    obtain ⟨a4, b5, v6, rfl, ha4, fa4, rfl⟩ := hq3
    show f_wp _ (24, [some (.inr (.inr (some 6))), some (.inr (.inr (some p)))], [], cH a4 b5 v6) _
    refine w_const rfl ?_
    exact wp_iret (z := true) rfl (fun _ => by first | exact Or.inl rfl | exact Or.inr rfl | (rcases (by omega : (1 : Int32).toInt = 0 ∨ (1 : Int32).toInt = 1) with h8 | h8; exact Or.inl (ti_eq h8); exact Or.inr (ti_eq h8))) ⟨a4, b5, v6, rfl, ha4, ⟨FR.tr (FR.rf) (FR.sub fa4.1 (by first | exact (fun _ h9 => h9) | decide | (intro c9 h9; simp only [List.mem_cons, List.not_mem_nil, or_false] at h9 ⊢; omega) | (intro c9 h9; simp at h9; simp [cA]; omega) | (intro c9 h9; simp at h9; simp [cB]; omega) | (intro c9 h9; simp [cA] at h9; simp [cB]; omega))), ⟨fun i9 h9 => (fa4.2.1.1 i9 (fun z9 => h9 (by first | exact z9 | (revert z9; simp; done) | (revert z9; simp; omega)))).trans ((show ∀ i9, i9 ∉ [2] → v i9 = v i9 from (fun _ _ => rfl)) i9 h9), fa4.2.1.2⟩, fun j h9 => by rw [fa4.1 6 (by decide)]⟩, ⟨_, rfl, by omega⟩⟩
  · skip
    refine w_aload rfl rfl ?_
    refine w_const rfl ?_
    refine w_invV (rest := []) rfl rfl rfl rfl rfl (Nat.le_of_ble_eq_true rfl) rfl (by omega) (s_X6_fail (K := K) a b v  1 hR  ) (fun z7 h9 hq8 => ?_)
    obtain ⟨a9, rfl, ha9, fa9, x10, rfl, px10⟩ := hq8
    show f_wp _ (16, [some (.inr (.inr (some 6))), some (.inr (.inr (some p)))], [.inl x10], cH a9 b v) _
    exact wp_iret (z := true) rfl (fun _ => by first | exact Or.inl rfl | exact Or.inr rfl | (rcases (by omega : x10.toInt = 0 ∨ x10.toInt = 1) with h8 | h8; exact Or.inl (ti_eq h8); exact Or.inr (ti_eq h8))) ⟨a9, b, v, rfl, ha9, ⟨FR.tr (FR.rf) (FR.sub fa9.1 (by first | exact (fun _ h9 => h9) | decide | (intro c9 h9; simp only [List.mem_cons, List.not_mem_nil, or_false] at h9 ⊢; omega) | (intro c9 h9; simp at h9; simp [cA]; omega) | (intro c9 h9; simp at h9; simp [cB]; omega) | (intro c9 h9; simp [cA] at h9; simp [cB]; omega))), ⟨(fun _ _ => rfl), hw⟩, fun j h9 => by rw [fa9.2 j (by omega)]⟩, ⟨_, rfl, by omega⟩⟩
set_option maxRecDepth 4000 in
theorem s_X6_isNumber {K : Nat} (a : Nat → Nat → Int32) (b : Nat → Nat → Int64) (v : Nat → Option Nat) (p : Int32) (q : Int32) (hR : RC K a)  : f_call mtC 2 51 [.inr (.inr (some 6)), .inl p, .inl q] (cH a b v) (fun v9 h' => ∃ (a' : Nat → Nat → Int32), h' = cH a' b v ∧ RC K a' ∧ (FR [6] a a' ∧ ((∀ j, j ≠ 9 → j ≠ 10 → a' 6 j = a 6 j))) ∧ ∃ x : Int32, v9 = some (.inl x) ∧ ((x.toInt = 1 ∧ p.toInt ≤ (a' 6 9).toInt ∧ (a' 6 9).toInt ≤ q.toInt) ∨ x.toInt = 0)) := by
  refine f_call_of (d0 := 1) rfl (Nat.le_of_ble_eq_true rfl) (fun d hd => ?_)
  show f_wp _ (0, [some (.inr (.inr (some 6))), some (.inl p), some (.inl q)], [], cH a b v) _
  have l1 : (1 : Int32).toInt = 1 := rfl
  have l3 : (3 : Int32).toInt = 3 := rfl
  have l4 : (4 : Int32).toInt = 4 := rfl
  refine w_aload rfl rfl ?_
  refine c_getR (t := some 1) rfl rfl rfl rfl rfl ?_
  refine c_getI rfl rfl rfl rfl ?_
  refine w_const rfl ?_
  refine w_ic_eq rfl (fun c1 => ?_) (fun c1 => ?_)
  · skip
    refine w_aload rfl rfl ?_
    refine c_getR (t := some 1) rfl rfl rfl rfl rfl ?_
    refine c_getL rfl rfl rfl rfl ?_
    refine w_iload rfl rfl ?_
    refine w_i2lE rfl (fun y2 ty2 => ?_)
    refine w_lcmpE rfl (fun x3 tx3 => ?_)
    have c9 := cmp_ti tx3
    have c8 := i2l_ti (x := p) ty2
    refine w_if_lt rfl (fun c4 => ?_) (fun c4 => ?_)
    · skip
      refine w_aload rfl rfl ?_
      refine w_const rfl ?_
      refine w_invV (rest := []) rfl rfl rfl rfl rfl (Nat.le_of_ble_eq_true rfl) rfl (by omega) (s_X6_fail (K := K) a b v  4 hR  ) (fun z5 h9 hq6 => ?_)
      obtain ⟨a7, rfl, ha7, fa7, x8, rfl, px8⟩ := hq6
      show f_wp _ (48, [some (.inr (.inr (some 6))), some (.inl p), some (.inl q)], [.inl x8], cH a7 b v) _
      exact wp_iret (z := true) rfl (fun _ => by first | exact Or.inl rfl | exact Or.inr rfl | (rcases (by omega : x8.toInt = 0 ∨ x8.toInt = 1) with h8 | h8; exact Or.inl (ti_eq h8); exact Or.inr (ti_eq h8))) ⟨a7, rfl, ha7, ⟨FR.tr (FR.rf) (FR.sub fa7.1 (by first | exact (fun _ h9 => h9) | decide | (intro c9 h9; simp only [List.mem_cons, List.not_mem_nil, or_false] at h9 ⊢; omega) | (intro c9 h9; simp at h9; simp [cA]; omega) | (intro c9 h9; simp at h9; simp [cB]; omega) | (intro c9 h9; simp [cA] at h9; simp [cB]; omega))), fun j h9 h10 => by rw [fa7.2 j (by omega)]⟩, ⟨_, rfl, by first | exact Or.inr (by omega) | exact Or.inl ⟨by omega, by omega, by omega⟩⟩⟩
    · skip
      refine w_aload rfl rfl ?_
      refine c_getR (t := some 1) rfl rfl rfl rfl rfl ?_
      refine c_getL rfl rfl rfl rfl ?_
      refine w_iload rfl rfl ?_
      refine w_i2lE rfl (fun y9 ty9 => ?_)
      refine w_lcmpE rfl (fun x10 tx10 => ?_)
      have c7 := cmp_ti tx10
      have c6 := i2l_ti (x := q) ty9
      refine w_if_le rfl (fun c11 => ?_) (fun c11 => ?_)
      · skip
        refine w_aload rfl rfl ?_
        refine w_aload rfl rfl ?_
        refine c_getR (t := some 1) rfl rfl rfl rfl rfl ?_
        refine c_getL rfl rfl rfl rfl ?_
        refine w_l2iE rfl (fun x12 tx12 => ?_)
        have p1 := ti_lo p
        have q1 := ti_hi q
        have l9 := l2i_ti tx12 (by omega)
        refine c_putI (z := false) rfl rfl rfl rfl (by first | (intro h9; cases h9; done) | (intro _; first | exact Or.inl rfl | exact Or.inr rfl | assumption | (rcases (by omega : x12.toInt = 0 ∨ x12.toInt = 1) with h8 | h8; exact Or.inl (ti_eq h8); exact Or.inr (ti_eq h8)))) (fun a13 ea13 => ?_)
        have ha13 : RC K a13 := RC.up hR ea13 (lc_any _ (by omega))
        have ua13 : a13 6 9 = x12 := by rw [ea13, mU_same]
        have wa13 := congrArg Int32.toInt ua13
        have ra13_52 : (a13 1 7).toInt = (a 1 7).toInt := by rw [ea13, mU_cell (by omega)]
        refine w_const rfl ?_
        exact wp_iret (z := true) rfl (fun _ => by first | exact Or.inl rfl | exact Or.inr rfl | (rcases (by omega : (1 : Int32).toInt = 0 ∨ (1 : Int32).toInt = 1) with h8 | h8; exact Or.inl (ti_eq h8); exact Or.inr (ti_eq h8))) ⟨a13, rfl, ha13, ⟨FR.up (FR.rf) (by first | decide | simp | (simp [cA]; omega) | (simp [cB]; omega)) ea13, fun j h9 h10 => by rw [ea13, mU_slot (by omega)]⟩, ⟨_, rfl, by first | exact Or.inr (by omega) | exact Or.inl ⟨by omega, by omega, by omega⟩⟩⟩
      · skip
        refine w_aload rfl rfl ?_
        refine w_const rfl ?_
        refine w_invV (rest := []) rfl rfl rfl rfl rfl (Nat.le_of_ble_eq_true rfl) rfl (by omega) (s_X6_fail (K := K) a b v  4 hR  ) (fun z14 h9 hq15 => ?_)
        obtain ⟨a16, rfl, ha16, fa16, x17, rfl, px17⟩ := hq15
        show f_wp _ (48, [some (.inr (.inr (some 6))), some (.inl p), some (.inl q)], [.inl x17], cH a16 b v) _
        exact wp_iret (z := true) rfl (fun _ => by first | exact Or.inl rfl | exact Or.inr rfl | (rcases (by omega : x17.toInt = 0 ∨ x17.toInt = 1) with h8 | h8; exact Or.inl (ti_eq h8); exact Or.inr (ti_eq h8))) ⟨a16, rfl, ha16, ⟨FR.tr (FR.rf) (FR.sub fa16.1 (by first | exact (fun _ h9 => h9) | decide | (intro c9 h9; simp only [List.mem_cons, List.not_mem_nil, or_false] at h9 ⊢; omega) | (intro c9 h9; simp at h9; simp [cA]; omega) | (intro c9 h9; simp at h9; simp [cB]; omega) | (intro c9 h9; simp [cA] at h9; simp [cB]; omega))), fun j h9 h10 => by rw [fa16.2 j (by omega)]⟩, ⟨_, rfl, by first | exact Or.inr (by omega) | exact Or.inl ⟨by omega, by omega, by omega⟩⟩⟩
  · skip
    refine w_aload rfl rfl ?_
    refine w_const rfl ?_
    refine w_invV (rest := []) rfl rfl rfl rfl rfl (Nat.le_of_ble_eq_true rfl) rfl (by omega) (s_X6_fail (K := K) a b v  1 hR  ) (fun z18 h9 hq19 => ?_)
    obtain ⟨a20, rfl, ha20, fa20, x21, rfl, px21⟩ := hq19
    show f_wp _ (16, [some (.inr (.inr (some 6))), some (.inl p), some (.inl q)], [.inl x21], cH a20 b v) _
    exact wp_iret (z := true) rfl (fun _ => by first | exact Or.inl rfl | exact Or.inr rfl | (rcases (by omega : x21.toInt = 0 ∨ x21.toInt = 1) with h8 | h8; exact Or.inl (ti_eq h8); exact Or.inr (ti_eq h8))) ⟨a20, rfl, ha20, ⟨FR.tr (FR.rf) (FR.sub fa20.1 (by first | exact (fun _ h9 => h9) | decide | (intro c9 h9; simp only [List.mem_cons, List.not_mem_nil, or_false] at h9 ⊢; omega) | (intro c9 h9; simp at h9; simp [cA]; omega) | (intro c9 h9; simp at h9; simp [cB]; omega) | (intro c9 h9; simp [cA] at h9; simp [cB]; omega))), fun j h9 h10 => by rw [fa20.2 j (by omega)]⟩, ⟨_, rfl, by first | exact Or.inr (by omega) | exact Or.inl ⟨by omega, by omega, by omega⟩⟩⟩
set_option maxRecDepth 4000 in
theorem s_X6_passNumber {K : Nat} (a : Nat → Nat → Int32) (b : Nat → Nat → Int64) (v : Nat → Option Nat) (p : Int32) (q : Int32) (hR : RC K a) (hw : f_wdb (v 2) = true) : f_call mtC 3 52 [.inr (.inr (some 6)), .inl p, .inl q] (cH a b v) (fun v9 h' => ∃ (a' : Nat → Nat → Int32) (b' : Nat → Nat → Int64) (v' : Nat → Option Nat), h' = cH a' b' v' ∧ RC K a' ∧ (FR [1, 6] a a' ∧ ((∀ i, i ∉ [2] → v' i = v i) ∧ f_wdb (v' 2) = true) ∧ ((∀ j, j ≠ 9 → j ≠ 10 → a' 6 j = a 6 j))) ∧ ∃ x : Int32, v9 = some (.inl x) ∧ ((x.toInt = 1 ∧ p.toInt ≤ (a' 6 9).toInt ∧ (a' 6 9).toInt ≤ q.toInt) ∨ x.toInt = 0)) := by
  refine f_call_of (d0 := 2) rfl (Nat.le_of_ble_eq_true rfl) (fun d hd => ?_)
  show f_wp _ (0, [some (.inr (.inr (some 6))), some (.inl p), some (.inl q)], [], cH a b v) _
  have l0 : (0 : Int32).toInt = 0 := rfl
  have l1 : (1 : Int32).toInt = 1 := rfl
  refine w_aload rfl rfl ?_
  refine w_iload rfl rfl ?_
  refine w_iload rfl rfl ?_
  refine w_invV (rest := []) rfl rfl rfl rfl rfl (Nat.le_of_ble_eq_true rfl) rfl (by omega) (s_X6_isNumber (K := K) a b v  p q hR  ) (fun z1 h9 hq2 => ?_)
  obtain ⟨a3, rfl, ha3, fa3, x4, rfl, px4⟩ := hq2
  show f_wp _ (6, [some (.inr (.inr (some 6))), some (.inl p), some (.inl q)], [.inl x4], cH a3 b v) _
  have n9 := px4
  refine w_if_ne rfl (fun c5 => ?_) (fun c5 => ?_)
  · skip
    refine w_const rfl ?_
    exact wp_iret (z := true) rfl (fun _ => by first | exact Or.inl rfl | exact Or.inr rfl | (rcases (by omega : (0 : Int32).toInt = 0 ∨ (0 : Int32).toInt = 1) with h8 | h8; exact Or.inl (ti_eq h8); exact Or.inr (ti_eq h8))) ⟨a3, b, v, rfl, ha3, ⟨FR.tr (FR.rf) (FR.sub fa3.1 (by first | exact (fun _ h9 => h9) | decide | (intro c9 h9; simp only [List.mem_cons, List.not_mem_nil, or_false] at h9 ⊢; omega) | (intro c9 h9; simp at h9; simp [cA]; omega) | (intro c9 h9; simp at h9; simp [cB]; omega) | (intro c9 h9; simp [cA] at h9; simp [cB]; omega))), ⟨(fun _ _ => rfl), hw⟩, fun j h9 h10 => by rw [fa3.2 j (by omega) (by omega)]⟩, ⟨_, rfl, by first | exact Or.inr (by omega) | exact Or.inl ⟨by omega, by omega, by omega⟩⟩⟩
  · skip
    refine w_aload rfl rfl ?_
    refine c_getR (t := some 1) rfl rfl rfl rfl rfl ?_
    refine w_invV (rest := []) rfl rfl rfl rfl rfl (Nat.le_of_ble_eq_true rfl) rfl (by omega) (s_X8_advance (K := K) a3 b v   ha3  ) (fun z6 h9 hq7 => ?_)
    obtain ⟨a8, b9, v10, rfl, ha8, fa8, rfl⟩ := hq7
    show f_wp _ (18, [some (.inr (.inr (some 6))), some (.inl p), some (.inl q)], [], cH a8 b9 v10) _
    have m9 : a8 6 9 = a3 6 9 := by rw [fa8.1 6 (by decide)]
    have m8 := congrArg Int32.toInt m9
    refine w_const rfl ?_
    exact wp_iret (z := true) rfl (fun _ => by first | exact Or.inl rfl | exact Or.inr rfl | (rcases (by omega : (1 : Int32).toInt = 0 ∨ (1 : Int32).toInt = 1) with h8 | h8; exact Or.inl (ti_eq h8); exact Or.inr (ti_eq h8))) ⟨a8, b9, v10, rfl, ha8, ⟨FR.tr (FR.tr (FR.rf) (FR.sub fa3.1 (by first | exact (fun _ h9 => h9) | decide | (intro c9 h9; simp only [List.mem_cons, List.not_mem_nil, or_false] at h9 ⊢; omega) | (intro c9 h9; simp at h9; simp [cA]; omega) | (intro c9 h9; simp at h9; simp [cB]; omega) | (intro c9 h9; simp [cA] at h9; simp [cB]; omega)))) (FR.sub fa8.1 (by first | exact (fun _ h9 => h9) | decide | (intro c9 h9; simp only [List.mem_cons, List.not_mem_nil, or_false] at h9 ⊢; omega) | (intro c9 h9; simp at h9; simp [cA]; omega) | (intro c9 h9; simp at h9; simp [cB]; omega) | (intro c9 h9; simp [cA] at h9; simp [cB]; omega))), ⟨fun i9 h9 => (fa8.2.1.1 i9 (fun z9 => h9 (by first | exact z9 | (revert z9; simp; done) | (revert z9; simp; omega)))).trans ((show ∀ i9, i9 ∉ [2] → v i9 = v i9 from (fun _ _ => rfl)) i9 h9), fa8.2.1.2⟩, fun j h9 h10 => by rw [fa8.1 6 (by decide)]; rw [fa3.2 j (by omega) (by omega)]⟩, ⟨_, rfl, by first | exact Or.inr (by omega) | exact Or.inl ⟨by omega, by omega, by omega⟩⟩⟩
set_option maxRecDepth 4000 in
theorem s_X6_numberBehind {K : Nat} (a : Nat → Nat → Int32) (b : Nat → Nat → Int64) (v : Nat → Option Nat) (w : Nat) (p : Int32) (q : Int32) (hR : RC K a) (hw : f_wdb (v 2) = true) (hp : 1000 ≤ w ∧ w < 1031) : f_call mtC 3 53 [.inr (.inr (some 6)), .inr (.inr (some w)), .inl p, .inl q] (cH a b v) (fun v9 h' => ∃ (a' : Nat → Nat → Int32) (b' : Nat → Nat → Int64) (v' : Nat → Option Nat), h' = cH a' b' v' ∧ RC K a' ∧ (FR [1, 6] a a' ∧ ((∀ i, i ∉ [2] → v' i = v i) ∧ f_wdb (v' 2) = true) ∧ ((∀ j, j ≠ 9 → j ≠ 10 → a' 6 j = a 6 j))) ∧ ∃ x : Int32, v9 = some (.inl x) ∧ ((x.toInt = 1 ∧ p.toInt ≤ (a' 6 9).toInt ∧ (a' 6 9).toInt ≤ q.toInt) ∨ x.toInt = 0)) := by
  refine f_call_of (d0 := 2) rfl (Nat.le_of_ble_eq_true rfl) (fun d hd => ?_)
  show f_wp _ (0, [some (.inr (.inr (some 6))), some (.inr (.inr (some w))), some (.inl p), some (.inl q)], [], cH a b v) _
  have l0 : (0 : Int32).toInt = 0 := rfl
  have l1 : (1 : Int32).toInt = 1 := rfl
  refine w_aload rfl rfl ?_
  refine w_aload rfl rfl ?_
  refine w_invV (rest := []) rfl rfl rfl rfl rfl (Nat.le_of_ble_eq_true rfl) rfl (by omega) (s_X6_passWord (K := K) a b v  w hR  (hw) (by omega)) (fun z1 h9 hq2 => ?_)
  obtain ⟨a3, b4, v5, rfl, ha3, fa3, x6, rfl, px6⟩ := hq2
  show f_wp _ (5, [some (.inr (.inr (some 6))), some (.inr (.inr (some w))), some (.inl p), some (.inl q)], [.inl x6], cH a3 b4 v5) _
  refine w_if_eq rfl (fun c7 => ?_) (fun c7 => ?_)
  · skip
    refine w_const rfl ?_
    exact wp_iret (z := true) rfl (fun _ => by first | exact Or.inl rfl | exact Or.inr rfl | (rcases (by omega : (0 : Int32).toInt = 0 ∨ (0 : Int32).toInt = 1) with h8 | h8; exact Or.inl (ti_eq h8); exact Or.inr (ti_eq h8))) ⟨a3, b4, v5, rfl, ha3, ⟨FR.tr (FR.rf) (FR.sub fa3.1 (by first | exact (fun _ h9 => h9) | decide | (intro c9 h9; simp only [List.mem_cons, List.not_mem_nil, or_false] at h9 ⊢; omega) | (intro c9 h9; simp at h9; simp [cA]; omega) | (intro c9 h9; simp at h9; simp [cB]; omega) | (intro c9 h9; simp [cA] at h9; simp [cB]; omega))), ⟨fun i9 h9 => (fa3.2.1.1 i9 (fun z9 => h9 (by first | exact z9 | (revert z9; simp; done) | (revert z9; simp; omega)))).trans ((show ∀ i9, i9 ∉ [2] → v i9 = v i9 from (fun _ _ => rfl)) i9 h9), fa3.2.1.2⟩, fun j h9 h10 => by rw [fa3.2.2 j (by omega)]⟩, ⟨_, rfl, by first | exact Or.inr (by omega) | exact Or.inl ⟨by omega, by omega, by omega⟩⟩⟩
  · skip
    refine w_aload rfl rfl ?_
    refine w_iload rfl rfl ?_
    refine w_iload rfl rfl ?_
    refine w_invV (rest := []) rfl rfl rfl rfl rfl (Nat.le_of_ble_eq_true rfl) rfl (by omega) (s_X6_isNumber (K := K) a3 b4 v5  p q ha3  ) (fun z8 h9 hq9 => ?_)
    obtain ⟨a10, rfl, ha10, fa10, x11, rfl, px11⟩ := hq9
    show f_wp _ (14, [some (.inr (.inr (some 6))), some (.inr (.inr (some w))), some (.inl p), some (.inl q)], [.inl x11], cH a10 b4 v5) _
    have n9 := px11
    refine w_if_ne rfl (fun c12 => ?_) (fun c12 => ?_)
    · skip
      refine w_const rfl ?_
      exact wp_iret (z := true) rfl (fun _ => by first | exact Or.inl rfl | exact Or.inr rfl | (rcases (by omega : (0 : Int32).toInt = 0 ∨ (0 : Int32).toInt = 1) with h8 | h8; exact Or.inl (ti_eq h8); exact Or.inr (ti_eq h8))) ⟨a10, b4, v5, rfl, ha10, ⟨FR.tr (FR.tr (FR.rf) (FR.sub fa3.1 (by first | exact (fun _ h9 => h9) | decide | (intro c9 h9; simp only [List.mem_cons, List.not_mem_nil, or_false] at h9 ⊢; omega) | (intro c9 h9; simp at h9; simp [cA]; omega) | (intro c9 h9; simp at h9; simp [cB]; omega) | (intro c9 h9; simp [cA] at h9; simp [cB]; omega)))) (FR.sub fa10.1 (by first | exact (fun _ h9 => h9) | decide | (intro c9 h9; simp only [List.mem_cons, List.not_mem_nil, or_false] at h9 ⊢; omega) | (intro c9 h9; simp at h9; simp [cA]; omega) | (intro c9 h9; simp at h9; simp [cB]; omega) | (intro c9 h9; simp [cA] at h9; simp [cB]; omega))), ⟨fun i9 h9 => (fa3.2.1.1 i9 (fun z9 => h9 (by first | exact z9 | (revert z9; simp; done) | (revert z9; simp; omega)))).trans ((show ∀ i9, i9 ∉ [2] → v i9 = v i9 from (fun _ _ => rfl)) i9 h9), fa3.2.1.2⟩, fun j h9 h10 => by rw [fa10.2 j (by omega) (by omega)]; rw [fa3.2.2 j (by omega)]⟩, ⟨_, rfl, by first | exact Or.inr (by omega) | exact Or.inl ⟨by omega, by omega, by omega⟩⟩⟩
    · skip
      refine w_aload rfl rfl ?_
      refine c_getR (t := some 1) rfl rfl rfl rfl rfl ?_
      refine w_invV (rest := []) rfl rfl rfl rfl rfl (Nat.le_of_ble_eq_true rfl) rfl (by omega) (s_X8_advance (K := K) a10 b4 v5   ha10  ) (fun z13 h9 hq14 => ?_)
      obtain ⟨a15, b16, v17, rfl, ha15, fa15, rfl⟩ := hq14
      show f_wp _ (26, [some (.inr (.inr (some 6))), some (.inr (.inr (some w))), some (.inl p), some (.inl q)], [], cH a15 b16 v17) _
      have m9 : a15 6 9 = a10 6 9 := by rw [fa15.1 6 (by decide)]
      have m8 := congrArg Int32.toInt m9
      refine w_const rfl ?_
      exact wp_iret (z := true) rfl (fun _ => by first | exact Or.inl rfl | exact Or.inr rfl | (rcases (by omega : (1 : Int32).toInt = 0 ∨ (1 : Int32).toInt = 1) with h8 | h8; exact Or.inl (ti_eq h8); exact Or.inr (ti_eq h8))) ⟨a15, b16, v17, rfl, ha15, ⟨FR.tr (FR.tr (FR.tr (FR.rf) (FR.sub fa3.1 (by first | exact (fun _ h9 => h9) | decide | (intro c9 h9; simp only [List.mem_cons, List.not_mem_nil, or_false] at h9 ⊢; omega) | (intro c9 h9; simp at h9; simp [cA]; omega) | (intro c9 h9; simp at h9; simp [cB]; omega) | (intro c9 h9; simp [cA] at h9; simp [cB]; omega)))) (FR.sub fa10.1 (by first | exact (fun _ h9 => h9) | decide | (intro c9 h9; simp only [List.mem_cons, List.not_mem_nil, or_false] at h9 ⊢; omega) | (intro c9 h9; simp at h9; simp [cA]; omega) | (intro c9 h9; simp at h9; simp [cB]; omega) | (intro c9 h9; simp [cA] at h9; simp [cB]; omega)))) (FR.sub fa15.1 (by first | exact (fun _ h9 => h9) | decide | (intro c9 h9; simp only [List.mem_cons, List.not_mem_nil, or_false] at h9 ⊢; omega) | (intro c9 h9; simp at h9; simp [cA]; omega) | (intro c9 h9; simp at h9; simp [cB]; omega) | (intro c9 h9; simp [cA] at h9; simp [cB]; omega))), ⟨fun i9 h9 => (fa15.2.1.1 i9 (fun z9 => h9 (by first | exact z9 | (revert z9; simp; done) | (revert z9; simp; omega)))).trans ((show ∀ i9, i9 ∉ [2] → v5 i9 = v i9 from fun i9 h9 => (fa3.2.1.1 i9 (fun z9 => h9 (by first | exact z9 | (revert z9; simp; done) | (revert z9; simp; omega)))).trans ((show ∀ i9, i9 ∉ [2] → v i9 = v i9 from (fun _ _ => rfl)) i9 h9)) i9 h9), fa15.2.1.2⟩, fun j h9 h10 => by rw [fa15.1 6 (by decide)]; rw [fa10.2 j (by omega) (by omega)]; rw [fa3.2.2 j (by omega)]⟩, ⟨_, rfl, by first | exact Or.inr (by omega) | exact Or.inl ⟨by omega, by omega, by omega⟩⟩⟩
set_option maxRecDepth 4000 in
theorem s_X6_isName {K : Nat} (a : Nat → Nat → Int32) (b : Nat → Nat → Int64) (v : Nat → Option Nat)  (hR : RC K a) (hw : f_wdb (v 2) = true) : f_call mtC 2 54 [.inr (.inr (some 6))] (cH a b v) (fun v9 h' => ∃ (a' : Nat → Nat → Int32), h' = cH a' b v ∧ RC K a' ∧ (FR [6] a a' ∧ ((∀ j, j ≠ 10 → a' 6 j = a 6 j))) ∧ ∃ x : Int32, v9 = some (.inl x) ∧ (x.toInt = 0 ∨ x.toInt = 1)) := by
  refine f_call_of (d0 := 1) rfl (Nat.le_of_ble_eq_true rfl) (fun d hd => ?_)
  show f_wp _ (0, [some (.inr (.inr (some 6))), none], [], cH a b v) _
  have l0 : (0 : Int32).toInt = 0 := rfl
  have l1 : (1 : Int32).toInt = 1 := rfl
  have l2 : (2 : Int32).toInt = 2 := rfl
  refine w_aload rfl rfl ?_
  refine c_getR (t := some 1) rfl rfl rfl rfl rfl ?_
  refine c_getR (t := v 2) rfl rfl rfl rfl rfl ?_
  refine c_ifnull rfl (fun c1 => ?_) (fun w2 c1 => ?_)
  · skip
    refine w_const rfl ?_
    refine w_goto rfl ?_
    refine w_istore (lo' := [some (.inr (.inr (some 6))), some (.inl 1)]) rfl rfl ?_
    refine w_aload rfl rfl ?_
    refine c_getR (t := some 1) rfl rfl rfl rfl rfl ?_
    refine c_getI rfl rfl rfl rfl ?_
    refine w_const rfl ?_
    refine w_ic_ne rfl (fun c3 => ?_) (fun c3 => ?_)
    · skip
      refine w_iload rfl rfl ?_
      refine w_if_ne rfl (fun c4 => ?_) (fun c4 => ?_)
      · exfalso; omega
      · skip
        refine w_const rfl ?_
        refine w_goto rfl ?_
        exact wp_iret (z := true) rfl (fun _ => by first | exact Or.inl rfl | exact Or.inr rfl | (rcases (by omega : (1 : Int32).toInt = 0 ∨ (1 : Int32).toInt = 1) with h8 | h8; exact Or.inl (ti_eq h8); exact Or.inr (ti_eq h8))) ⟨a, rfl, hR, ⟨FR.rf, fun j h9 => by rfl⟩, ⟨_, rfl, by omega⟩⟩
    · skip
      refine w_aload rfl rfl ?_
      refine w_const rfl ?_
      refine w_invV (rest := []) rfl rfl rfl rfl rfl (Nat.le_of_ble_eq_true rfl) rfl (by omega) (s_X6_fail (K := K) a b v  1 hR  ) (fun z5 h9 hq6 => ?_)
      obtain ⟨a7, rfl, ha7, fa7, x8, rfl, px8⟩ := hq6
      show f_wp _ (49, [some (.inr (.inr (some 6))), some (.inl 1)], [.inl x8], cH a7 b v) _
      refine w_if_eq rfl (fun c9 => ?_) (fun c9 => ?_)
      · skip
        refine w_const rfl ?_
        exact wp_iret (z := true) rfl (fun _ => by first | exact Or.inl rfl | exact Or.inr rfl | (rcases (by omega : (0 : Int32).toInt = 0 ∨ (0 : Int32).toInt = 1) with h8 | h8; exact Or.inl (ti_eq h8); exact Or.inr (ti_eq h8))) ⟨a7, rfl, ha7, ⟨FR.tr (FR.rf) (FR.sub fa7.1 (by first | exact (fun _ h9 => h9) | decide | (intro c9 h9; simp only [List.mem_cons, List.not_mem_nil, or_false] at h9 ⊢; omega) | (intro c9 h9; simp at h9; simp [cA]; omega) | (intro c9 h9; simp at h9; simp [cB]; omega) | (intro c9 h9; simp [cA] at h9; simp [cB]; omega))), fun j h9 => by rw [fa7.2 j (by omega)]⟩, ⟨_, rfl, by omega⟩⟩
      · skip
        refine w_const rfl ?_
        refine w_goto rfl ?_
        exact wp_iret (z := true) rfl (fun _ => by first | exact Or.inl rfl | exact Or.inr rfl | (rcases (by omega : (1 : Int32).toInt = 0 ∨ (1 : Int32).toInt = 1) with h8 | h8; exact Or.inl (ti_eq h8); exact Or.inr (ti_eq h8))) ⟨a7, rfl, ha7, ⟨FR.tr (FR.rf) (FR.sub fa7.1 (by first | exact (fun _ h9 => h9) | decide | (intro c9 h9; simp only [List.mem_cons, List.not_mem_nil, or_false] at h9 ⊢; omega) | (intro c9 h9; simp at h9; simp [cA]; omega) | (intro c9 h9; simp at h9; simp [cB]; omega) | (intro c9 h9; simp [cA] at h9; simp [cB]; omega))), fun j h9 => by rw [fa7.2 j (by omega)]⟩, ⟨_, rfl, by omega⟩⟩
  · skip
    have w9 := f_wdb_lt hw w2 c1
    refine w_aload rfl rfl ?_
    refine c_getR (t := some 1) rfl rfl rfl rfl rfl ?_
    refine c_getR (t := v 2) rfl rfl rfl rfl rfl ?_
    rw [c1]
    refine c_sfld rfl (if_pos (by omega)) ?_
    refine w_if_ne rfl (fun c10 => ?_) (fun c10 => ?_)
    · skip
      refine w_const rfl ?_
      refine w_goto rfl ?_
      refine w_istore (lo' := [some (.inr (.inr (some 6))), some (.inl 1)]) rfl rfl ?_
      refine w_aload rfl rfl ?_
      refine c_getR (t := some 1) rfl rfl rfl rfl rfl ?_
      refine c_getI rfl rfl rfl rfl ?_
      refine w_const rfl ?_
      refine w_ic_ne rfl (fun c11 => ?_) (fun c11 => ?_)
      · skip
        refine w_iload rfl rfl ?_
        refine w_if_ne rfl (fun c12 => ?_) (fun c12 => ?_)
        · exfalso; omega
        · skip
          refine w_const rfl ?_
          refine w_goto rfl ?_
          exact wp_iret (z := true) rfl (fun _ => by first | exact Or.inl rfl | exact Or.inr rfl | (rcases (by omega : (1 : Int32).toInt = 0 ∨ (1 : Int32).toInt = 1) with h8 | h8; exact Or.inl (ti_eq h8); exact Or.inr (ti_eq h8))) ⟨a, rfl, hR, ⟨FR.rf, fun j h9 => by rfl⟩, ⟨_, rfl, by omega⟩⟩
      · skip
        refine w_aload rfl rfl ?_
        refine w_const rfl ?_
        refine w_invV (rest := []) rfl rfl rfl rfl rfl (Nat.le_of_ble_eq_true rfl) rfl (by omega) (s_X6_fail (K := K) a b v  1 hR  ) (fun z13 h9 hq14 => ?_)
        obtain ⟨a15, rfl, ha15, fa15, x16, rfl, px16⟩ := hq14
        show f_wp _ (49, [some (.inr (.inr (some 6))), some (.inl 1)], [.inl x16], cH a15 b v) _
        refine w_if_eq rfl (fun c17 => ?_) (fun c17 => ?_)
        · skip
          refine w_const rfl ?_
          exact wp_iret (z := true) rfl (fun _ => by first | exact Or.inl rfl | exact Or.inr rfl | (rcases (by omega : (0 : Int32).toInt = 0 ∨ (0 : Int32).toInt = 1) with h8 | h8; exact Or.inl (ti_eq h8); exact Or.inr (ti_eq h8))) ⟨a15, rfl, ha15, ⟨FR.tr (FR.rf) (FR.sub fa15.1 (by first | exact (fun _ h9 => h9) | decide | (intro c9 h9; simp only [List.mem_cons, List.not_mem_nil, or_false] at h9 ⊢; omega) | (intro c9 h9; simp at h9; simp [cA]; omega) | (intro c9 h9; simp at h9; simp [cB]; omega) | (intro c9 h9; simp [cA] at h9; simp [cB]; omega))), fun j h9 => by rw [fa15.2 j (by omega)]⟩, ⟨_, rfl, by omega⟩⟩
        · skip
          refine w_const rfl ?_
          refine w_goto rfl ?_
          exact wp_iret (z := true) rfl (fun _ => by first | exact Or.inl rfl | exact Or.inr rfl | (rcases (by omega : (1 : Int32).toInt = 0 ∨ (1 : Int32).toInt = 1) with h8 | h8; exact Or.inl (ti_eq h8); exact Or.inr (ti_eq h8))) ⟨a15, rfl, ha15, ⟨FR.tr (FR.rf) (FR.sub fa15.1 (by first | exact (fun _ h9 => h9) | decide | (intro c9 h9; simp only [List.mem_cons, List.not_mem_nil, or_false] at h9 ⊢; omega) | (intro c9 h9; simp at h9; simp [cA]; omega) | (intro c9 h9; simp at h9; simp [cB]; omega) | (intro c9 h9; simp [cA] at h9; simp [cB]; omega))), fun j h9 => by rw [fa15.2 j (by omega)]⟩, ⟨_, rfl, by omega⟩⟩
    · skip
      refine w_const rfl ?_
      refine w_istore (lo' := [some (.inr (.inr (some 6))), some (.inl 0)]) rfl rfl ?_
      refine w_aload rfl rfl ?_
      refine c_getR (t := some 1) rfl rfl rfl rfl rfl ?_
      refine c_getI rfl rfl rfl rfl ?_
      refine w_const rfl ?_
      refine w_ic_ne rfl (fun c18 => ?_) (fun c18 => ?_)
      · skip
        refine w_iload rfl rfl ?_
        refine w_if_ne rfl (fun c19 => ?_) (fun c19 => ?_)
        · skip
          refine w_aload rfl rfl ?_
          refine w_const rfl ?_
          refine w_invV (rest := []) rfl rfl rfl rfl rfl (Nat.le_of_ble_eq_true rfl) rfl (by omega) (s_X6_fail (K := K) a b v  1 hR  ) (fun z20 h9 hq21 => ?_)
          obtain ⟨a22, rfl, ha22, fa22, x23, rfl, px23⟩ := hq21
          show f_wp _ (49, [some (.inr (.inr (some 6))), some (.inl 0)], [.inl x23], cH a22 b v) _
          refine w_if_eq rfl (fun c24 => ?_) (fun c24 => ?_)
          · skip
            refine w_const rfl ?_
            exact wp_iret (z := true) rfl (fun _ => by first | exact Or.inl rfl | exact Or.inr rfl | (rcases (by omega : (0 : Int32).toInt = 0 ∨ (0 : Int32).toInt = 1) with h8 | h8; exact Or.inl (ti_eq h8); exact Or.inr (ti_eq h8))) ⟨a22, rfl, ha22, ⟨FR.tr (FR.rf) (FR.sub fa22.1 (by first | exact (fun _ h9 => h9) | decide | (intro c9 h9; simp only [List.mem_cons, List.not_mem_nil, or_false] at h9 ⊢; omega) | (intro c9 h9; simp at h9; simp [cA]; omega) | (intro c9 h9; simp at h9; simp [cB]; omega) | (intro c9 h9; simp [cA] at h9; simp [cB]; omega))), fun j h9 => by rw [fa22.2 j (by omega)]⟩, ⟨_, rfl, by omega⟩⟩
          · skip
            refine w_const rfl ?_
            refine w_goto rfl ?_
            exact wp_iret (z := true) rfl (fun _ => by first | exact Or.inl rfl | exact Or.inr rfl | (rcases (by omega : (1 : Int32).toInt = 0 ∨ (1 : Int32).toInt = 1) with h8 | h8; exact Or.inl (ti_eq h8); exact Or.inr (ti_eq h8))) ⟨a22, rfl, ha22, ⟨FR.tr (FR.rf) (FR.sub fa22.1 (by first | exact (fun _ h9 => h9) | decide | (intro c9 h9; simp only [List.mem_cons, List.not_mem_nil, or_false] at h9 ⊢; omega) | (intro c9 h9; simp at h9; simp [cA]; omega) | (intro c9 h9; simp at h9; simp [cB]; omega) | (intro c9 h9; simp [cA] at h9; simp [cB]; omega))), fun j h9 => by rw [fa22.2 j (by omega)]⟩, ⟨_, rfl, by omega⟩⟩
        · exfalso; omega
      · skip
        refine w_aload rfl rfl ?_
        refine w_const rfl ?_
        refine w_invV (rest := []) rfl rfl rfl rfl rfl (Nat.le_of_ble_eq_true rfl) rfl (by omega) (s_X6_fail (K := K) a b v  1 hR  ) (fun z25 h9 hq26 => ?_)
        obtain ⟨a27, rfl, ha27, fa27, x28, rfl, px28⟩ := hq26
        show f_wp _ (49, [some (.inr (.inr (some 6))), some (.inl 0)], [.inl x28], cH a27 b v) _
        refine w_if_eq rfl (fun c29 => ?_) (fun c29 => ?_)
        · skip
          refine w_const rfl ?_
          exact wp_iret (z := true) rfl (fun _ => by first | exact Or.inl rfl | exact Or.inr rfl | (rcases (by omega : (0 : Int32).toInt = 0 ∨ (0 : Int32).toInt = 1) with h8 | h8; exact Or.inl (ti_eq h8); exact Or.inr (ti_eq h8))) ⟨a27, rfl, ha27, ⟨FR.tr (FR.rf) (FR.sub fa27.1 (by first | exact (fun _ h9 => h9) | decide | (intro c9 h9; simp only [List.mem_cons, List.not_mem_nil, or_false] at h9 ⊢; omega) | (intro c9 h9; simp at h9; simp [cA]; omega) | (intro c9 h9; simp at h9; simp [cB]; omega) | (intro c9 h9; simp [cA] at h9; simp [cB]; omega))), fun j h9 => by rw [fa27.2 j (by omega)]⟩, ⟨_, rfl, by omega⟩⟩
        · skip
          refine w_const rfl ?_
          refine w_goto rfl ?_
          exact wp_iret (z := true) rfl (fun _ => by first | exact Or.inl rfl | exact Or.inr rfl | (rcases (by omega : (1 : Int32).toInt = 0 ∨ (1 : Int32).toInt = 1) with h8 | h8; exact Or.inl (ti_eq h8); exact Or.inr (ti_eq h8))) ⟨a27, rfl, ha27, ⟨FR.tr (FR.rf) (FR.sub fa27.1 (by first | exact (fun _ h9 => h9) | decide | (intro c9 h9; simp only [List.mem_cons, List.not_mem_nil, or_false] at h9 ⊢; omega) | (intro c9 h9; simp at h9; simp [cA]; omega) | (intro c9 h9; simp at h9; simp [cB]; omega) | (intro c9 h9; simp [cA] at h9; simp [cB]; omega))), fun j h9 => by rw [fa27.2 j (by omega)]⟩, ⟨_, rfl, by omega⟩⟩
set_option maxRecDepth 4000 in
theorem s_X6_isToldName {K : Nat} (a : Nat → Nat → Int32) (b : Nat → Nat → Int64) (v : Nat → Option Nat) (L : Nat)  (hR : RC K a) (hw : f_wdb (v 2) = true) (h3 : v 3 = some L) (hL : L = 22 ∨ L = 46) : f_call mtC 3 55 [.inr (.inr (some 6))] (cH a b v) (fun v9 h' => ∃ (a' : Nat → Nat → Int32), h' = cH a' b v ∧ RC K a' ∧ (FR [6] a a' ∧ ((∀ j, j ≠ 9 → j ≠ 10 → a' 6 j = a 6 j))) ∧ ∃ x : Int32, v9 = some (.inl x) ∧ ((x.toInt = 1 ∧ 0 ≤ (a' 6 9).toInt ∧ (a' 6 9).toInt ≤ 5) ∨ x.toInt = 0)) := by
  refine f_call_of (d0 := 2) rfl (Nat.le_of_ble_eq_true rfl) (fun d hd => ?_)
  show f_wp _ (0, [some (.inr (.inr (some 6)))], [], cH a b v) _
  have lm1 : (-1 : Int32).toInt = -1 := rfl
  have l0 : (0 : Int32).toInt = 0 := rfl
  have l1 : (1 : Int32).toInt = 1 := rfl
  have l2 : (2 : Int32).toInt = 2 := rfl
  refine w_aload rfl rfl ?_
  refine w_invV (rest := []) rfl rfl rfl rfl rfl (Nat.le_of_ble_eq_true rfl) rfl (by omega) (s_X6_isName (K := K) a b v   hR  (hw)) (fun z1 h9 hq2 => ?_)
  obtain ⟨a3, rfl, ha3, fa3, x4, rfl, px4⟩ := hq2
  show f_wp _ (4, [some (.inr (.inr (some 6)))], [.inl x4], cH a3 b v) _
  refine w_if_ne rfl (fun c5 => ?_) (fun c5 => ?_)
  · skip
    refine w_const rfl ?_
    exact wp_iret (z := true) rfl (fun _ => by first | exact Or.inl rfl | exact Or.inr rfl | (rcases (by omega : (0 : Int32).toInt = 0 ∨ (0 : Int32).toInt = 1) with h8 | h8; exact Or.inl (ti_eq h8); exact Or.inr (ti_eq h8))) ⟨a3, rfl, ha3, ⟨FR.tr (FR.rf) (FR.sub fa3.1 (by first | exact (fun _ h9 => h9) | decide | (intro c9 h9; simp only [List.mem_cons, List.not_mem_nil, or_false] at h9 ⊢; omega) | (intro c9 h9; simp at h9; simp [cA]; omega) | (intro c9 h9; simp at h9; simp [cB]; omega) | (intro c9 h9; simp [cA] at h9; simp [cB]; omega))), fun j h9 h10 => by rw [fa3.2 j (by omega)]⟩, ⟨_, rfl, by first | exact Or.inr (by omega) | exact Or.inl ⟨by omega, by omega, by omega⟩⟩⟩
  · skip
    refine w_aload rfl rfl ?_
    refine w_aload rfl rfl ?_
    refine c_getR (t := some L) rfl rfl rfl rfl h3 ?_
    refine w_aload rfl rfl ?_
    refine c_getR (t := some 1) rfl rfl rfl rfl rfl ?_
    refine c_getL rfl rfl rfl rfl ?_
    refine w_invV (rest := [.inr (.inr (some 6))]) rfl rfl (sh_land (by omega)) rfl rfl (Nat.le_of_ble_eq_true rfl) rfl (by omega) (s_X3_riverNamed (K := K) a3 b v  L (b 1 10) ha3  (by omega)) (fun z6 h9 hq7 => ?_)
    obtain ⟨rfl, x8, rfl, px8⟩ := hq7
    show f_wp _ (24, [some (.inr (.inr (some 6)))], [.inl x8, .inr (.inr (some 6))], cH a3 b v) _
    have n9 := px8
    refine c_putI (z := false) rfl rfl rfl rfl (by first | (intro h9; cases h9; done) | (intro _; first | exact Or.inl rfl | exact Or.inr rfl | assumption | (rcases (by omega : x8.toInt = 0 ∨ x8.toInt = 1) with h8 | h8; exact Or.inl (ti_eq h8); exact Or.inr (ti_eq h8)))) (fun a9 ea9 => ?_)
    have ha9 : RC K a9 := RC.up ha3 ea9 (lc_any _ (by omega))
    have ua9 : a9 6 9 = x8 := by rw [ea9, mU_same]
    have wa9 := congrArg Int32.toInt ua9
    refine w_aload rfl rfl ?_
    refine c_getI rfl rfl rfl rfl ?_
    refine w_const rfl ?_
    refine w_ic_ne rfl (fun c10 => ?_) (fun c10 => ?_)
    · skip
      refine w_aload rfl rfl ?_
      refine w_const rfl ?_
      refine w_invV (rest := []) rfl rfl rfl rfl rfl (Nat.le_of_ble_eq_true rfl) rfl (by omega) (s_X6_fail (K := K) a9 b v  2 ha9  ) (fun z11 h9 hq12 => ?_)
      obtain ⟨a13, rfl, ha13, fa13, x14, rfl, px14⟩ := hq12
      show f_wp _ (40, [some (.inr (.inr (some 6)))], [.inl x14], cH a13 b v) _
      refine w_if_eq rfl (fun c15 => ?_) (fun c15 => ?_)
      · skip
        refine w_const rfl ?_
        exact wp_iret (z := true) rfl (fun _ => by first | exact Or.inl rfl | exact Or.inr rfl | (rcases (by omega : (0 : Int32).toInt = 0 ∨ (0 : Int32).toInt = 1) with h8 | h8; exact Or.inl (ti_eq h8); exact Or.inr (ti_eq h8))) ⟨a13, rfl, ha13, ⟨FR.tr (FR.up (FR.tr (FR.rf) (FR.sub fa3.1 (by first | exact (fun _ h9 => h9) | decide | (intro c9 h9; simp only [List.mem_cons, List.not_mem_nil, or_false] at h9 ⊢; omega) | (intro c9 h9; simp at h9; simp [cA]; omega) | (intro c9 h9; simp at h9; simp [cB]; omega) | (intro c9 h9; simp [cA] at h9; simp [cB]; omega)))) (by first | decide | simp | (simp [cA]; omega) | (simp [cB]; omega)) ea9) (FR.sub fa13.1 (by first | exact (fun _ h9 => h9) | decide | (intro c9 h9; simp only [List.mem_cons, List.not_mem_nil, or_false] at h9 ⊢; omega) | (intro c9 h9; simp at h9; simp [cA]; omega) | (intro c9 h9; simp at h9; simp [cB]; omega) | (intro c9 h9; simp [cA] at h9; simp [cB]; omega))), fun j h9 h10 => by rw [fa13.2 j (by omega)]; rw [ea9, mU_slot (by omega)]; rw [fa3.2 j (by omega)]⟩, ⟨_, rfl, by first | exact Or.inr (by omega) | exact Or.inl ⟨by omega, by omega, by omega⟩⟩⟩
      · skip
        refine w_const rfl ?_
        refine w_goto rfl ?_
        exact wp_iret (z := true) rfl (fun _ => by first | exact Or.inl rfl | exact Or.inr rfl | (rcases (by omega : (1 : Int32).toInt = 0 ∨ (1 : Int32).toInt = 1) with h8 | h8; exact Or.inl (ti_eq h8); exact Or.inr (ti_eq h8))) ⟨a13, rfl, ha13, ⟨FR.tr (FR.up (FR.tr (FR.rf) (FR.sub fa3.1 (by first | exact (fun _ h9 => h9) | decide | (intro c9 h9; simp only [List.mem_cons, List.not_mem_nil, or_false] at h9 ⊢; omega) | (intro c9 h9; simp at h9; simp [cA]; omega) | (intro c9 h9; simp at h9; simp [cB]; omega) | (intro c9 h9; simp [cA] at h9; simp [cB]; omega)))) (by first | decide | simp | (simp [cA]; omega) | (simp [cB]; omega)) ea9) (FR.sub fa13.1 (by first | exact (fun _ h9 => h9) | decide | (intro c9 h9; simp only [List.mem_cons, List.not_mem_nil, or_false] at h9 ⊢; omega) | (intro c9 h9; simp at h9; simp [cA]; omega) | (intro c9 h9; simp at h9; simp [cB]; omega) | (intro c9 h9; simp [cA] at h9; simp [cB]; omega))), fun j h9 h10 => by rw [fa13.2 j (by omega)]; rw [ea9, mU_slot (by omega)]; rw [fa3.2 j (by omega)]⟩, ⟨_, rfl, by first | exact Or.inr (by omega) | exact Or.inl ⟨by omega, by omega, by omega⟩⟩⟩
    · skip
      refine w_const rfl ?_
      refine w_goto rfl ?_
      exact wp_iret (z := true) rfl (fun _ => by first | exact Or.inl rfl | exact Or.inr rfl | (rcases (by omega : (1 : Int32).toInt = 0 ∨ (1 : Int32).toInt = 1) with h8 | h8; exact Or.inl (ti_eq h8); exact Or.inr (ti_eq h8))) ⟨a9, rfl, ha9, ⟨FR.up (FR.tr (FR.rf) (FR.sub fa3.1 (by first | exact (fun _ h9 => h9) | decide | (intro c9 h9; simp only [List.mem_cons, List.not_mem_nil, or_false] at h9 ⊢; omega) | (intro c9 h9; simp at h9; simp [cA]; omega) | (intro c9 h9; simp at h9; simp [cB]; omega) | (intro c9 h9; simp [cA] at h9; simp [cB]; omega)))) (by first | decide | simp | (simp [cA]; omega) | (simp [cB]; omega)) ea9, fun j h9 h10 => by rw [ea9, mU_slot (by omega)]; rw [fa3.2 j (by omega)]⟩, ⟨_, rfl, by first | exact Or.inr (by omega) | exact Or.inl ⟨by omega, by omega, by omega⟩⟩⟩
