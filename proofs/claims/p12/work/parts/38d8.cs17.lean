set_option maxRecDepth 4000 in
theorem s_X6_heirLine_1 {K : Nat} (a : Nat → Nat → Int32) (b : Nat → Nat → Int64) (v : Nat → Option Nat) (N : Nat) (z : Nat) (c : Nat) (t : Nat → Int32)  (hR : RC K a) (hw : f_wdb (v 2) = true) (hP : PC t z N c a b v) (hz : z ≤ 1000) (hf : (a 6 10).toInt = 0) (h3 : 0 ≤ (a 6 3).toInt ∧ (a 6 3).toInt ≤ 6) (hk : ¬ lxK t z c = 0) : f_call mtC 4 79 [.inr (.inr (some 6))] (cH a b v) (fun v9 h' => ∃ (a' : Nat → Nat → Int32) (b' : Nat → Nat → Int64) (v' : Nat → Option Nat), h' = cH a' b' v' ∧ RC K a' ∧ (FR [1, 6, 8] a a' ∧ ((∀ i, i ∉ [2] → v' i = v i) ∧ (f_wdb (v' 2) = true ∧ (hlF t z c (a 6 3).toInt.toNat = 0 → PC t z N (c + 2) a' b' v'))) ∧ ((a' 6 10).toInt = hlF t z c (a 6 3).toInt.toNat ∧ (hlF t z c (a 6 3).toInt.toNat = 0 → (a' 6 3).toInt = (a 6 3).toInt + 1))) ∧ ∃ x : Int32, v9 = some (.inl x) ∧ ((x.toInt = 1 ∧ hlF t z c (a 6 3).toInt.toNat = 0) ∨ (x.toInt = 0 ∧ ¬ hlF t z c (a 6 3).toInt.toNat = 0))) := by
  refine f_call_of (d0 := 3) rfl (Nat.le_of_ble_eq_true rfl) (fun d hd => ?_)
  show f_wp _ (0, [some (.inr (.inr (some 6)))], [], cH a b v) _
  have l0 : (0 : Int32).toInt = 0 := rfl
  have l1 : (1 : Int32).toInt = 1 := rfl
  have l5 : (5 : Int32).toInt = 5 := rfl
  have l6 : (6 : Int32).toInt = 6 := rfl
  have l99 : (99 : Int32).toInt = 99 := rfl
  have s1 := hP.le
  have s2 := hP.2.2.2.2.1
  have s3 := hP.2.2.2.1
  have w9 := hP.wrd (w := 19) (by decide)
  refine w_aload rfl rfl ?_
  refine c_getR (t := some 1) rfl rfl rfl rfl rfl ?_
  refine c_getR (t := v 2) rfl rfl rfl rfl rfl ?_
  refine w_const rfl ?_
  refine c_aw_eq rfl ⟨hw, rfl⟩ (fun c1 => ?_) (fun c1 => ?_)
  · skip
    have W9 : tkW t z c 19 := w9.mpr c1
    refine w_aload rfl rfl ?_
    refine c_getI rfl rfl rfl rfl ?_
    have q2 : 0 ≤ (a 6 3).toInt ∧ (a 6 3).toInt ≤ 6 := hR 6 3
    refine w_const rfl ?_
    refine w_ic_lt rfl (fun c3 => ?_) (fun c3 => ?_)
    · skip
      refine w_aload rfl rfl ?_
      refine c_getR (t := some 1) rfl rfl rfl rfl rfl ?_
      refine w_invV (rest := []) rfl rfl rfl rfl rfl (Nat.le_of_ble_eq_true rfl) rfl (by omega) (s_X8_advance_1 (K := K) a b v   hR  ) (fun z4 h9 hq5 => ?_)
      obtain ⟨a6, b7, v8, rfl, ha6, fa6, rfl⟩ := hq5
      show f_wp _ (41, [some (.inr (.inr (some 6)))], [], cH a6 b7 v8) _
      have V9 := fa6
      have P9 := hP.next hk V9.1 V9.2.2 V9.2.1.2.2
      have f9 : (a6 6 10).toInt = 0 := by rw [V9.1 6 (by decide)]; exact hf
      have G9 : hlF t z c (a 6 3).toInt.toNat = tkN t z (c + 1) 0 99 := by unfold hlF; rw [if_pos W9, if_neg (by omega)]
      refine w_aload rfl rfl ?_
      refine w_const rfl ?_
      refine w_const rfl ?_
      refine w_invV (rest := []) rfl rfl rfl rfl rfl (Nat.le_of_ble_eq_true rfl) rfl (by omega) (s_X6_passNumber_1 (K := K) a6 b7 v8 N z (c + 1) t 0 99 ha6  (fa6.2.1.2.1) (P9) (by omega) (f9)) (fun z9 h9 hq10 => ?_)
      obtain ⟨a11, b12, v13, rfl, ha11, fa11, x14, rfl, px14⟩ := hq10
      show f_wp _ (48, [some (.inr (.inr (some 6)))], [.inl x14], cH a11 b12 v13) _
      have U9 := fa11
      have Q9 : (x14.toInt = 1 ∧ tkN t z (c + 1) 0 99 = 0) ∨ (x14.toInt = 0 ∧ ¬ tkN t z (c + 1) 0 99 = 0) := px14
      have U7 : (a11 6 10).toInt = tkN t z (c + 1) 0 99 := U9.2.2.2
      have K9 : (a11 6 3) = a 6 3 := by rw [U9.2.2.1 3 (by decide) (by decide), V9.1 6 (by decide)]
      have K8 := congrArg Int32.toInt K9
      refine w_if_ne rfl (fun c15 => ?_) (fun c15 => ?_)
      · skip
        refine w_const rfl ?_
        exact wp_iret (z := true) rfl (fun _ => by first | exact Or.inl rfl | exact Or.inr rfl | (rcases (by omega : (0 : Int32).toInt = 0 ∨ (0 : Int32).toInt = 1) with h8 | h8; exact Or.inl (ti_eq h8); exact Or.inr (ti_eq h8))) ⟨a11, b12, v13, rfl, ha11, ⟨FR.tr (FR.tr (FR.rf) (FR.sub fa6.1 (by first | exact (fun _ h9 => h9) | decide | (intro c9 h9; simp only [List.mem_cons, List.not_mem_nil, or_false] at h9 ⊢; omega) | (intro c9 h9; simp only [List.mem_cons, List.not_mem_nil, or_false] at h9; exact cA_mem (by omega)) | (intro c9 h9; simp only [List.mem_cons, List.not_mem_nil, or_false] at h9; exact cB_mem (by omega)) | (intro c9 h9; simp only [List.mem_cons, List.not_mem_nil, or_false] at h9; exact cU_mem (by omega)) | (intro c9 h9; simp only [List.mem_cons, List.not_mem_nil, or_false] at h9; exact cM_mem (by omega)) | exact cA_sub))) (FR.sub fa11.1 (by first | exact (fun _ h9 => h9) | decide | (intro c9 h9; simp only [List.mem_cons, List.not_mem_nil, or_false] at h9 ⊢; omega) | (intro c9 h9; simp only [List.mem_cons, List.not_mem_nil, or_false] at h9; exact cA_mem (by omega)) | (intro c9 h9; simp only [List.mem_cons, List.not_mem_nil, or_false] at h9; exact cB_mem (by omega)) | (intro c9 h9; simp only [List.mem_cons, List.not_mem_nil, or_false] at h9; exact cU_mem (by omega)) | (intro c9 h9; simp only [List.mem_cons, List.not_mem_nil, or_false] at h9; exact cM_mem (by omega)) | exact cA_sub)), ⟨fun i9 h9 => (fa11.2.1.1 i9 (fun z9 => h9 (by first | exact z9 | (revert z9; simp; done) | (revert z9; simp; omega)))).trans ((show ∀ i9, i9 ∉ [2] → v8 i9 = v i9 from fun i9 h9 => (fa6.2.1.1 i9 (fun z9 => h9 (by first | exact z9 | (revert z9; simp; done) | (revert z9; simp; omega)))).trans ((show ∀ i9, i9 ∉ [2] → v i9 = v i9 from (fun _ _ => rfl)) i9 h9)) i9 h9), ⟨U9.2.1.2.1, fun h => absurd h (by omega)⟩⟩, ⟨by omega, fun h => absurd h (by omega)⟩⟩, ⟨_, rfl, by omega⟩⟩
      · skip
        refine w_aload rfl rfl ?_
        refine c_getR (t := some 8) rfl rfl rfl rfl rfl ?_
        refine w_aload rfl rfl ?_
        refine c_getI rfl rfl rfl rfl ?_
        have q16 : 0 ≤ (a11 6 3).toInt ∧ (a11 6 3).toInt ≤ 6 := ha11 6 3
        refine w_aload rfl rfl ?_
        refine c_getI rfl rfl rfl rfl ?_
        refine c_iast rfl rfl (by omega) (fun a17 ea17 => ?_)
        have ha17 : RC K a17 := RC.up ha11 ea17 (lc_any _ (by omega))
        have ra17_60 : (a17 6 3).toInt = (a11 6 3).toInt := by rw [ea17, mU_cell (by omega)]
        have ra17_61 : (a17 6 9).toInt = (a11 6 9).toInt := by rw [ea17, mU_cell (by omega)]
        refine w_aload rfl rfl ?_
        refine w_dup rfl rfl ?_
        refine c_getI rfl rfl rfl rfl ?_
        have q18 : 0 ≤ (a17 6 3).toInt ∧ (a17 6 3).toInt ≤ 6 := ha17 6 3
        refine w_const rfl ?_
        first | refine w_iadd rfl (by omega) (fun x19 tx19 => ?_) | refine w_iiU rfl (fun x19 tx19 => ?_)
        refine c_putI (z := false) rfl rfl rfl rfl (by first | (intro h9; cases h9; done) | (intro _; first | exact Or.inl rfl | exact Or.inr rfl | assumption | (rcases (by omega : x19.toInt = 0 ∨ x19.toInt = 1) with h8 | h8; exact Or.inl (ti_eq h8); exact Or.inr (ti_eq h8)))) (fun a20 ea20 => ?_)
        have ha20 : RC K a20 := RC.up ha17 ea20 (show (0 : Int) ≤ _ ∧ _ ≤ (6 : Int) from by omega)
        have ua20 : a20 6 3 = x19 := by rw [ea20, mU_same]
        have wa20 := congrArg Int32.toInt ua20
        have ra20_72 : (a20 6 9).toInt = (a17 6 9).toInt := by rw [ea20, mU_slot (by decide)]
        refine w_const rfl ?_
        exact wp_iret (z := true) rfl (fun _ => by first | exact Or.inl rfl | exact Or.inr rfl | (rcases (by omega : (1 : Int32).toInt = 0 ∨ (1 : Int32).toInt = 1) with h8 | h8; exact Or.inl (ti_eq h8); exact Or.inr (ti_eq h8))) ⟨a20, b12, v13, rfl, ha20, ⟨FR.up (FR.up (FR.tr (FR.tr (FR.rf) (FR.sub fa6.1 (by first | exact (fun _ h9 => h9) | decide | (intro c9 h9; simp only [List.mem_cons, List.not_mem_nil, or_false] at h9 ⊢; omega) | (intro c9 h9; simp only [List.mem_cons, List.not_mem_nil, or_false] at h9; exact cA_mem (by omega)) | (intro c9 h9; simp only [List.mem_cons, List.not_mem_nil, or_false] at h9; exact cB_mem (by omega)) | (intro c9 h9; simp only [List.mem_cons, List.not_mem_nil, or_false] at h9; exact cU_mem (by omega)) | (intro c9 h9; simp only [List.mem_cons, List.not_mem_nil, or_false] at h9; exact cM_mem (by omega)) | exact cA_sub))) (FR.sub fa11.1 (by first | exact (fun _ h9 => h9) | decide | (intro c9 h9; simp only [List.mem_cons, List.not_mem_nil, or_false] at h9 ⊢; omega) | (intro c9 h9; simp only [List.mem_cons, List.not_mem_nil, or_false] at h9; exact cA_mem (by omega)) | (intro c9 h9; simp only [List.mem_cons, List.not_mem_nil, or_false] at h9; exact cB_mem (by omega)) | (intro c9 h9; simp only [List.mem_cons, List.not_mem_nil, or_false] at h9; exact cU_mem (by omega)) | (intro c9 h9; simp only [List.mem_cons, List.not_mem_nil, or_false] at h9; exact cM_mem (by omega)) | exact cA_sub))) (by first | decide | (simp; done) | exact cA_mem (by omega) | exact cB_mem (by omega) | exact cU_mem (by omega) | exact cM_mem (by omega)) ea17) (by first | decide | (simp; done) | exact cA_mem (by omega) | exact cB_mem (by omega) | exact cU_mem (by omega) | exact cM_mem (by omega)) ea20, ⟨fun i9 h9 => (fa11.2.1.1 i9 (fun z9 => h9 (by first | exact z9 | (revert z9; simp; done) | (revert z9; simp; omega)))).trans ((show ∀ i9, i9 ∉ [2] → v8 i9 = v i9 from fun i9 h9 => (fa6.2.1.1 i9 (fun z9 => h9 (by first | exact z9 | (revert z9; simp; done) | (revert z9; simp; omega)))).trans ((show ∀ i9, i9 ∉ [2] → v i9 = v i9 from (fun _ _ => rfl)) i9 h9)) i9 h9), ⟨U9.2.1.2.1, fun _ => (U9.2.1.2.2 (show tkN t z (c + 1) 0 99 = 0 from by omega)).fr (by rw [ea20, mU_cell (by decide), ea17, mU_cell (by decide)]) (by rw [ea20, mU_cell (by decide), ea17, mU_cell (by decide)]) (by rw [ea20, mU_cell (by decide), ea17, mU_cell (by decide)])⟩⟩, ⟨by rw [ea20, mU_slot (by decide), ea17, mU_cell (by decide)]; omega, fun _ => by rw [ea20, mU_same]; omega⟩⟩, ⟨_, rfl, by omega⟩⟩
    · skip
      refine w_aload rfl rfl ?_
      refine w_const rfl ?_
      refine w_invV (rest := []) rfl rfl rfl rfl rfl (Nat.le_of_ble_eq_true rfl) rfl (by omega) (s_X6_fail_1 (K := K) a b v  5 hR  (by omega) (by omega)) (fun z21 h9 hq22 => ?_)
      obtain ⟨a23, rfl, ha23, fa23, x24, rfl, px24⟩ := hq22
      show f_wp _ (33, [some (.inr (.inr (some 6)))], [.inl x24], cH a23 b v) _
      have G9 : hlF t z c (a 6 3).toInt.toNat = 5 + 16 * (lxP t z c : Int) := by unfold hlF; rw [if_pos W9, if_pos (by omega)]
      exact wp_iret (z := true) rfl (fun _ => by first | exact Or.inl rfl | exact Or.inr rfl | (rcases (by omega : x24.toInt = 0 ∨ x24.toInt = 1) with h8 | h8; exact Or.inl (ti_eq h8); exact Or.inr (ti_eq h8))) ⟨a23, b, v, rfl, ha23, ⟨FR.tr (FR.rf) (FR.sub fa23.1 (by first | exact (fun _ h9 => h9) | decide | (intro c9 h9; simp only [List.mem_cons, List.not_mem_nil, or_false] at h9 ⊢; omega) | (intro c9 h9; simp only [List.mem_cons, List.not_mem_nil, or_false] at h9; exact cA_mem (by omega)) | (intro c9 h9; simp only [List.mem_cons, List.not_mem_nil, or_false] at h9; exact cB_mem (by omega)) | (intro c9 h9; simp only [List.mem_cons, List.not_mem_nil, or_false] at h9; exact cU_mem (by omega)) | (intro c9 h9; simp only [List.mem_cons, List.not_mem_nil, or_false] at h9; exact cM_mem (by omega)) | exact cA_sub)), ⟨(fun _ _ => rfl), ⟨hw, fun h => absurd h (by omega)⟩⟩, ⟨by have h8 := fa23.2.2; omega, fun h => absurd h (by omega)⟩⟩, ⟨_, rfl, by omega⟩⟩
  · skip
    have W9 : ¬ tkW t z c 19 := fun h9 => c1 (by rw [w9.mp h9])
    have G9 : hlF t z c (a 6 3).toInt.toNat = 1 + 16 * (lxP t z c : Int) := by unfold hlF; rw [if_neg W9]
    refine w_aload rfl rfl ?_
    refine w_const rfl ?_
    refine w_invV (rest := []) rfl rfl rfl rfl rfl (Nat.le_of_ble_eq_true rfl) rfl (by omega) (s_X6_fail_1 (K := K) a b v  1 hR  (by omega) (by omega)) (fun z25 h9 hq26 => ?_)
    obtain ⟨a27, rfl, ha27, fa27, x28, rfl, px28⟩ := hq26
    show f_wp _ (18, [some (.inr (.inr (some 6)))], [.inl x28], cH a27 b v) _
    exact wp_iret (z := true) rfl (fun _ => by first | exact Or.inl rfl | exact Or.inr rfl | (rcases (by omega : x28.toInt = 0 ∨ x28.toInt = 1) with h8 | h8; exact Or.inl (ti_eq h8); exact Or.inr (ti_eq h8))) ⟨a27, b, v, rfl, ha27, ⟨FR.tr (FR.rf) (FR.sub fa27.1 (by first | exact (fun _ h9 => h9) | decide | (intro c9 h9; simp only [List.mem_cons, List.not_mem_nil, or_false] at h9 ⊢; omega) | (intro c9 h9; simp only [List.mem_cons, List.not_mem_nil, or_false] at h9; exact cA_mem (by omega)) | (intro c9 h9; simp only [List.mem_cons, List.not_mem_nil, or_false] at h9; exact cB_mem (by omega)) | (intro c9 h9; simp only [List.mem_cons, List.not_mem_nil, or_false] at h9; exact cU_mem (by omega)) | (intro c9 h9; simp only [List.mem_cons, List.not_mem_nil, or_false] at h9; exact cM_mem (by omega)) | exact cA_sub)), ⟨(fun _ _ => rfl), ⟨hw, fun h => absurd h (by omega)⟩⟩, ⟨by have h8 := fa27.2.2; omega, fun h => absurd h (by omega)⟩⟩, ⟨_, rfl, by omega⟩⟩
set_option maxRecDepth 4000 in
theorem s_X6_begin_1 {K : Nat} (a : Nat → Nat → Int32) (b : Nat → Nat → Int64) (v : Nat → Option Nat) (L : Nat) (hR : RC K a) (hL : L = 22 ∨ L = 46) (hf : ∀ j : Nat, (j : Int) < (a 1 6).toInt → 0 ≤ (a 2 j).toInt ∧ (a 2 j).toInt ≤ 127) : f_call mtC 7 44 [.inr (.inr (some 6)), .inr (.inr (some L))] (cH a b v) (fun v9 h' => ∃ (a' : Nat → Nat → Int32) (b' : Nat → Nat → Int64) (v' : Nat → Option Nat), h' = cH a' b' v' ∧ RC K a' ∧ (FR [1, 3, 4, 6] a a' ∧ ((∀ i, i ∉ [2, 3] → v' i = v i) ∧ (f_wdb (v' 2) = true ∧ v' 3 = some L ∧ ∃ N : Nat, PC (a 2) (a 1 6).toInt.toNat N 0 a' b' v')) ∧ ((a' 6 10).toInt = 0)) ∧ v9 = none) := by
  refine f_call_of (d0 := 6) rfl (Nat.le_of_ble_eq_true rfl) (fun d hd => ?_)
  show f_wp _ (0, [some (.inr (.inr (some 6))), some (.inr (.inr (some L)))], [], cH a b v) _
  have l0 : (0 : Int32).toInt = 0 := rfl
  refine w_aload rfl rfl ?_
  refine w_aload rfl rfl ?_
  refine c_putR rfl rfl rfl rfl rC_put3 (fun v1 ev1 => ?_)
  refine w_aload rfl rfl ?_
  refine w_const rfl ?_
  refine c_putI (z := false) rfl rfl rfl rfl (by first | (intro h9; cases h9; done) | (intro _; first | exact Or.inl rfl | exact Or.inr rfl | assumption | (rcases (by omega : (0 : Int32).toInt = 0 ∨ (0 : Int32).toInt = 1) with h8 | h8; exact Or.inl (ti_eq h8); exact Or.inr (ti_eq h8)))) (fun a2 ea2 => ?_)
  have ha2 : RC K a2 := RC.up hR ea2 (lc_any _ (by omega))
  have ua2 : a2 6 10 = (0 : Int32) := by rw [ea2, mU_same]
  have wa2 := congrArg Int32.toInt ua2
  refine w_aload rfl rfl ?_
  refine c_getR (t := some 1) rfl rfl rfl rfl rfl ?_
  refine w_invV (rest := []) rfl rfl rfl rfl rfl (Nat.le_of_ble_eq_true rfl) rfl (by omega) (s_X8_begin_1 (K := K) a2 b v1   ha2  (fun j hj => by rw [ea2, mU_cell (by decide)]; rw [ea2, mU_cell (by decide)] at hj; exact hf j hj)) (fun z3 h9 hq4 => ?_)
  obtain ⟨a5, b6, v7, rfl, ha5, fa5, rfl⟩ := hq4
  show f_wp _ (17, [some (.inr (.inr (some 6))), some (.inr (.inr (some L)))], [], cH a5 b6 v7) _
  have B9 := fa5
  have B8 : ∃ N : Nat, PC (a 2) (a 1 6).toInt.toNat N 0 a5 b6 v7 := by have h9 := B9.2.1.2.2; rw [show a2 2 = a 2 from by rw [ea2, mU_cell (by decide)], show a2 1 6 = a 1 6 from by rw [ea2, mU_cell (by decide)]] at h9; exact h9
  exact w_ret rfl ⟨a5, b6, v7, rfl, ha5, ⟨FR.tr (FR.up (FR.rf) (by first | decide | (simp; done) | exact cA_mem (by omega) | exact cB_mem (by omega) | exact cU_mem (by omega) | exact cM_mem (by omega)) ea2) (FR.sub fa5.1 (by first | exact (fun _ h9 => h9) | decide | (intro c9 h9; simp only [List.mem_cons, List.not_mem_nil, or_false] at h9 ⊢; omega) | (intro c9 h9; simp only [List.mem_cons, List.not_mem_nil, or_false] at h9; exact cA_mem (by omega)) | (intro c9 h9; simp only [List.mem_cons, List.not_mem_nil, or_false] at h9; exact cB_mem (by omega)) | (intro c9 h9; simp only [List.mem_cons, List.not_mem_nil, or_false] at h9; exact cU_mem (by omega)) | (intro c9 h9; simp only [List.mem_cons, List.not_mem_nil, or_false] at h9; exact cM_mem (by omega)) | exact cA_sub)), ⟨fun i9 h9 => (fa5.2.1.1 i9 (fun z9 => h9 (by first | exact z9 | (revert z9; simp; done) | (revert z9; simp; omega)))).trans ((show ∀ i9, i9 ∉ [2, 3] → v1 i9 = v i9 from fun i9 h9 => (show v1 i9 = v i9 from by rw [ev1]; exact vU_ne (fun z9 => h9 (by rw [z9]; decide))).trans ((show ∀ i9, i9 ∉ [2, 3] → v i9 = v i9 from (fun _ _ => rfl)) i9 h9)) i9 h9), ⟨fa5.2.1.2.1, ((fa5.2.1.1 3 (by decide)).trans (show v1 3 = some L from by rw [ev1]; exact vU_same)), B8⟩⟩, by rw [B9.1 6 (by decide), ea2, mU_same]; rfl⟩, rfl⟩
set_option maxHeartbeats 2000000 in
set_option maxRecDepth 4000 in
theorem s_X6_readWill_1 {K : Nat} (a : Nat → Nat → Int32) (b : Nat → Nat → Int64) (v : Nat → Option Nat) (L : Nat)  (hR : RC K a) (hL : L = 22 ∨ L = 46) (h3 : v 3 = some L) (hf : ∀ j : Nat, (j : Int) < (a 1 6).toInt → 0 ≤ (a 2 j).toInt ∧ (a 2 j).toInt ≤ 127) : f_call mtC 8 43 [.inr (.inr (some 6))] (cH a b v) (fun v9 h' => ∃ (a' : Nat → Nat → Int32) (b' : Nat → Nat → Int64) (v' : Nat → Option Nat), h' = cH a' b' v' ∧ RC K a' ∧ (FR [1, 3, 4, 6, 8] a a' ∧ ((∀ i, i ∉ [2, 3] → v' i = v i) ∧ (f_wdb (v' 2) = true ∧ v' 3 = some L)) ∧ True) ∧ ∃ x : Int32, v9 = some (.inl x) ∧ x.toInt = wlF (a 2) (a 1 6).toInt.toNat 8 0 0) := by
  refine f_call_of (d0 := 7) rfl (Nat.le_of_ble_eq_true rfl) (fun d hd => ?_)
  show f_wp _ (0, [some (.inr (.inr (some 6))), none], [], cH a b v) _
  have l0 : (0 : Int32).toInt = 0 := rfl
  have l1 : (1 : Int32).toInt = 1 := rfl
  have l6 : (6 : Int32).toInt = 6 := rfl
  have z6 : 0 ≤ (a 1 6).toInt ∧ (a 1 6).toInt ≤ 1000 := hR 1 6
  refine w_aload rfl rfl ?_
  refine w_aload rfl rfl ?_
  refine c_getR (t := some L) rfl rfl rfl rfl h3 ?_
  refine w_invV (rest := []) rfl rfl rfl rfl rfl (Nat.le_of_ble_eq_true rfl) rfl (by omega) (s_X6_begin_1 (K := K) a b v  L hR  (by omega) (by omega)) (fun z1 h9 hq2 => ?_)
  obtain ⟨a3, b4, v5, rfl, ha3, fa3, rfl⟩ := hq2
  show f_wp _ (8, [some (.inr (.inr (some 6))), none], [], cH a3 b4 v5) _
  have B9 := fa3
  obtain ⟨N, hN⟩ := B9.2.1.2.2.2
  refine w_aload rfl rfl ?_
  refine w_const rfl ?_
  refine c_putI (z := false) rfl rfl rfl rfl (by first | (intro h9; cases h9; done) | (intro _; first | exact Or.inl rfl | exact Or.inr rfl | assumption | (rcases (by omega : (0 : Int32).toInt = 0 ∨ (0 : Int32).toInt = 1) with h8 | h8; exact Or.inl (ti_eq h8); exact Or.inr (ti_eq h8)))) (fun a6 ea6 => ?_)
  have ha6 : RC K a6 := RC.up ha3 ea6 (show (0 : Int) ≤ _ ∧ _ ≤ (6 : Int) from by omega)
  have ua6 : a6 6 3 = (0 : Int32) := by rw [ea6, mU_same]
  have wa6 := congrArg Int32.toInt ua6
  have B0 : (a6 6 10).toInt = 0 := by rw [ea6, mU_slot (by decide)]; exact B9.2.2
  have B3 : (a6 6 3).toInt = ((0 : Nat) : Int) := by rw [ea6, mU_same]; rfl
  have B1 : PC (a 2) (a 1 6).toInt.toNat N (3 * 0) a6 b4 v5 := hN.fr (by rw [ea6, mU_cell (by decide)]) (by rw [ea6, mU_cell (by decide)]) (by rw [ea6, mU_cell (by decide)])
  have loop46 : ∀ (ms9 : Nat)  (a46 : Nat → Nat → Int32) (b46 : Nat → Nat → Int64) (v46 : Nat → Option Nat) (o1_46 : Option f_V), ((0 : Int)).toNat = ms9 → RC K a46 → FR [1, 3, 4, 6, 8] a a46 → (∀ i, i ∉ [2, 3] → v46 i = v i) → (f_wdb (v46 2) = true) → (v46 3 = some L) → ((a46 6 10).toInt = wlF (a 2) (a 1 6).toInt.toNat 8 0 0) → f_wp (f_code (t_X6_readWill (f_ev mtC d))) (46, [some (.inr (.inr (some 6))), o1_46], [], cH a46 b46 v46) (fun v9 h' => ∃ (a' : Nat → Nat → Int32) (b' : Nat → Nat → Int64) (v' : Nat → Option Nat), h' = cH a' b' v' ∧ RC K a' ∧ (FR [1, 3, 4, 6, 8] a a' ∧ ((∀ i, i ∉ [2, 3] → v' i = v i) ∧ (f_wdb (v' 2) = true ∧ v' 3 = some L)) ∧ True) ∧ ∃ x : Int32, v9 = some (.inl x) ∧ x.toInt = wlF (a 2) (a 1 6).toInt.toNat 8 0 0) := by
    intro ms9
    induction ms9 using Nat.strongRecOn with
    | _ ms46 ih46 =>
      intro  a46 b46 v46 o1_46 hm46 hR46 hF46 hG46 hw9 h39 hX
      refine w_aload rfl rfl ?_
      refine c_getI rfl rfl rfl rfl ?_
      exact wp_iret (z := false) rfl (fun h9 => by cases h9) ⟨a46, b46, v46, rfl, hR46, ⟨hF46, ⟨hG46, ⟨hw9, h39⟩⟩, trivial⟩, ⟨_, rfl, by omega⟩⟩
  refine w_const rfl ?_
  refine w_istore (lo' := [some (.inr (.inr (some 6))), some (.inl 0)]) rfl rfl ?_
  have loop15 : ∀ (ms9 : Nat) (k : Int32) (a15 : Nat → Nat → Int32) (b15 : Nat → Nat → Int64) (v15 : Nat → Option Nat) , (7 - k.toInt).toNat = ms9 → RC K a15 → FR [1, 3, 4, 6, 8] a a15 → (∀ i, i ∉ [2, 3] → v15 i = v i) → (0 ≤ k.toInt ∧ k.toInt ≤ 7) → (f_wdb (v15 2) = true) → (v15 3 = some L) → (WIC (a 2) (a 1 6).toInt.toNat N k.toInt.toNat a15 b15 v15 (wlF (a 2) (a 1 6).toInt.toNat 8 0 0)) → f_wp (f_code (t_X6_readWill (f_ev mtC d))) (15, [some (.inr (.inr (some 6))), some (.inl k)], [], cH a15 b15 v15) (fun v9 h' => ∃ (a' : Nat → Nat → Int32) (b' : Nat → Nat → Int64) (v' : Nat → Option Nat), h' = cH a' b' v' ∧ RC K a' ∧ (FR [1, 3, 4, 6, 8] a a' ∧ ((∀ i, i ∉ [2, 3] → v' i = v i) ∧ (f_wdb (v' 2) = true ∧ v' 3 = some L)) ∧ True) ∧ ∃ x : Int32, v9 = some (.inl x) ∧ x.toInt = wlF (a 2) (a 1 6).toInt.toNat 8 0 0) := by
    intro ms9
    induction ms9 using Nat.strongRecOn with
    | _ ms15 ih15 =>
      intro k a15 b15 v15  hm15 hR15 hF15 hG15 hk hw9 h39 hW
      refine w_iload rfl rfl ?_
      refine w_const rfl ?_
      refine w_ic_gt rfl (fun c7 => ?_) (fun c7 => ?_)
      · skip
        exact loop46 _ a15 b15 v15 (some (.inl k)) rfl hR15 (hF15) (hG15) (hw9) (h39) (WIC.done hW (by omega))
      · skip
        refine w_aload rfl rfl ?_
        refine w_invV (rest := []) rfl rfl rfl rfl rfl (Nat.le_of_ble_eq_true rfl) rfl (by omega) (s_X6_goesOn_1 (K := K) a15 b15 v15   hR15  ) (fun z8 h9 hq9 => ?_)
        obtain ⟨rfl, x10, rfl, px10⟩ := hq9
        show f_wp _ (25, [some (.inr (.inr (some 6))), some (.inl k)], [.inl x10], cH a15 b15 v15) _
        have G9 := px10
        refine w_if_eq rfl (fun c11 => ?_) (fun c11 => ?_)
        · skip
          exact loop46 _ a15 b15 v15 (some (.inl k)) rfl hR15 (hF15) (hG15) (hw9) (h39) (WIC.done hW (by omega))
        · skip
          have f0 : (a15 6 10).toInt = 0 := by omega
          obtain ⟨g2, g3, g1⟩ := hW.go f0
          have k0 : ¬ lxK (a 2) (a 1 6).toInt.toNat (3 * k.toInt.toNat) = 0 := fun h9 => by have h8 := g2.kin.mpr h9; omega
          have n0 : (a15 6 3).toInt.toNat = k.toInt.toNat := by omega
          have n1 : hlF (a 2) (a 1 6).toInt.toNat (3 * k.toInt.toNat) (a15 6 3).toInt.toNat = hlF (a 2) (a 1 6).toInt.toNat (3 * k.toInt.toNat) k.toInt.toNat := by rw [n0]
          refine w_aload rfl rfl ?_
          refine w_invV (rest := []) rfl rfl rfl rfl rfl (Nat.le_of_ble_eq_true rfl) rfl (by omega) (s_X6_heirLine_1 (K := K) a15 b15 v15 N (a 1 6).toInt.toNat (3 * k.toInt.toNat) (a 2)  hR15  (hw9) (g2) (by omega) (f0) (by omega) (k0)) (fun z12 h9 hq13 => ?_)
          obtain ⟨a14, b15, v16, rfl, ha14, fa14, x17, rfl, px17⟩ := hq13
          show f_wp _ (32, [some (.inr (.inr (some 6))), some (.inl k)], [.inl x17], cH a14 b15 v16) _
          have H9 : (x17.toInt = 1 ∧ hlF (a 2) (a 1 6).toInt.toNat (3 * k.toInt.toNat) (a15 6 3).toInt.toNat = 0) ∨ (x17.toInt = 0 ∧ ¬ hlF (a 2) (a 1 6).toInt.toNat (3 * k.toInt.toNat) (a15 6 3).toInt.toNat = 0) := px17
          refine w_if_eq rfl (fun c18 => ?_) (fun c18 => ?_)
          · skip
            refine w_iinc (lo' := fun z9 => [some (.inr (.inr (some 6))), some (.inl z9)]) rfl rfl (fun _ => rfl) (by omega) (fun x19 tx19 => ?_)
            refine w_goto rfl ?_
            exact ih15 (7 - x19.toInt).toNat (by omega) x19 a14 b15 v16 rfl ha14 (FR.tr (hF15) (FR.sub fa14.1 (by first | exact (fun _ h9 => h9) | decide | (intro c9 h9; simp only [List.mem_cons, List.not_mem_nil, or_false] at h9 ⊢; omega) | (intro c9 h9; simp only [List.mem_cons, List.not_mem_nil, or_false] at h9; exact cA_mem (by omega)) | (intro c9 h9; simp only [List.mem_cons, List.not_mem_nil, or_false] at h9; exact cB_mem (by omega)) | (intro c9 h9; simp only [List.mem_cons, List.not_mem_nil, or_false] at h9; exact cU_mem (by omega)) | (intro c9 h9; simp only [List.mem_cons, List.not_mem_nil, or_false] at h9; exact cM_mem (by omega)) | exact cA_sub))) (fun i9 h9 => (fa14.2.1.1 i9 (fun z9 => h9 (by first | exact z9 | (revert z9; simp; done) | (revert z9; simp; omega)))).trans ((show ∀ i9, i9 ∉ [2, 3] → v15 i9 = v i9 from hG15) i9 h9)) (by omega) (fa14.2.1.2.1) (((fa14.2.1.1 3 (by decide)).trans h39)) (WIC.bad hW f0 k0 (by rw [← n1]; exact fa14.2.2.1) (by rw [← n1]; omega))
          · skip
            refine w_aload rfl rfl ?_
            refine w_invV (rest := []) rfl rfl rfl rfl rfl (Nat.le_of_ble_eq_true rfl) rfl (by omega) (s_X6_lineEnd_1 (K := K) a14 b15 v16 N (a 1 6).toInt.toNat (3 * k.toInt.toNat + 2) (a 2)  ha14  (fa14.2.1.2.1) (fa14.2.1.2.2 (by omega)) (by omega) (by rw [fa14.2.2.1]; omega)) (fun z20 h9 hq21 => ?_)
            obtain ⟨a22, b23, v24, rfl, ha22, fa22, x25, rfl, px25⟩ := hq21
            show f_wp _ (39, [some (.inr (.inr (some 6))), some (.inl k)], [.inl x25], cH a22 b23 v24) _
            refine w_pop rfl rfl ?_
            refine w_iinc (lo' := fun z9 => [some (.inr (.inr (some 6))), some (.inl z9)]) rfl rfl (fun _ => rfl) (by omega) (fun x26 tx26 => ?_)
            refine w_goto rfl ?_
            exact ih15 (7 - x26.toInt).toNat (by omega) x26 a22 b23 v24 rfl ha22 (FR.tr (FR.tr (hF15) (FR.sub fa14.1 (by first | exact (fun _ h9 => h9) | decide | (intro c9 h9; simp only [List.mem_cons, List.not_mem_nil, or_false] at h9 ⊢; omega) | (intro c9 h9; simp only [List.mem_cons, List.not_mem_nil, or_false] at h9; exact cA_mem (by omega)) | (intro c9 h9; simp only [List.mem_cons, List.not_mem_nil, or_false] at h9; exact cB_mem (by omega)) | (intro c9 h9; simp only [List.mem_cons, List.not_mem_nil, or_false] at h9; exact cU_mem (by omega)) | (intro c9 h9; simp only [List.mem_cons, List.not_mem_nil, or_false] at h9; exact cM_mem (by omega)) | exact cA_sub))) (FR.sub fa22.1 (by first | exact (fun _ h9 => h9) | decide | (intro c9 h9; simp only [List.mem_cons, List.not_mem_nil, or_false] at h9 ⊢; omega) | (intro c9 h9; simp only [List.mem_cons, List.not_mem_nil, or_false] at h9; exact cA_mem (by omega)) | (intro c9 h9; simp only [List.mem_cons, List.not_mem_nil, or_false] at h9; exact cB_mem (by omega)) | (intro c9 h9; simp only [List.mem_cons, List.not_mem_nil, or_false] at h9; exact cU_mem (by omega)) | (intro c9 h9; simp only [List.mem_cons, List.not_mem_nil, or_false] at h9; exact cM_mem (by omega)) | exact cA_sub))) (fun i9 h9 => (fa22.2.1.1 i9 (fun z9 => h9 (by first | exact z9 | (revert z9; simp; done) | (revert z9; simp; omega)))).trans ((show ∀ i9, i9 ∉ [2, 3] → v16 i9 = v i9 from fun i9 h9 => (fa14.2.1.1 i9 (fun z9 => h9 (by first | exact z9 | (revert z9; simp; done) | (revert z9; simp; omega)))).trans ((show ∀ i9, i9 ∉ [2, 3] → v15 i9 = v i9 from hG15) i9 h9)) i9 h9)) (by omega) (fa22.2.1.2.1) (((fa22.2.1.1 3 (by decide)).trans ((fa14.2.1.1 3 (by decide)).trans h39))) (WIC.line hW f0 k0 (by rw [← n1]; omega) fa22.2.2.2 fa22.2.1.2.2 (by have h8 := fa14.2.2.2 (by omega); have h7 := congrArg Int32.toInt (fa22.2.2.1 3 (by decide)); omega) (by omega))
  exact loop15 _ 0 a6 b4 v5 rfl ha6 (FR.up (FR.tr (FR.rf) (FR.sub fa3.1 (by first | exact (fun _ h9 => h9) | decide | (intro c9 h9; simp only [List.mem_cons, List.not_mem_nil, or_false] at h9 ⊢; omega) | (intro c9 h9; simp only [List.mem_cons, List.not_mem_nil, or_false] at h9; exact cA_mem (by omega)) | (intro c9 h9; simp only [List.mem_cons, List.not_mem_nil, or_false] at h9; exact cB_mem (by omega)) | (intro c9 h9; simp only [List.mem_cons, List.not_mem_nil, or_false] at h9; exact cU_mem (by omega)) | (intro c9 h9; simp only [List.mem_cons, List.not_mem_nil, or_false] at h9; exact cM_mem (by omega)) | exact cA_sub))) (by first | decide | (simp; done) | exact cA_mem (by omega) | exact cB_mem (by omega) | exact cU_mem (by omega) | exact cM_mem (by omega)) ea6) (fun i9 h9 => (fa3.2.1.1 i9 (fun z9 => h9 (by first | exact z9 | (revert z9; simp; done) | (revert z9; simp; omega)))).trans ((show ∀ i9, i9 ∉ [2, 3] → v i9 = v i9 from (fun _ _ => rfl)) i9 h9)) (by omega) (fa3.2.1.2.1) (fa3.2.1.2.2.1) (Or.inl ⟨B0, Nat.zero_le _, B1, B3, rfl⟩)
