set_option maxRecDepth 4000 in
theorem s_X12_beginAnew {K : Nat} (a : Nat → Nat → Int32) (b : Nat → Nat → Int64) (v : Nat → Option Nat)  (hR : RC K a)  : f_call mtC 2 100 [.inr (.inr (some 0))] (cH a b v) (fun v9 h' => ∃ (a' : Nat → Nat → Int32), h' = cH a' b v ∧ RC K a' ∧ (FR cA a a' ∧ True) ∧ v9 = none) := by
  refine f_call_of (d0 := 1) rfl (Nat.le_of_ble_eq_true rfl) (fun d hd => ?_)
  show f_wp _ (0, [some (.inr (.inr (some 0))), none], [], cH a b v) _
  have l0 : (0 : Int32).toInt = 0 := rfl
  have l1 : (1 : Int32).toInt = 1 := rfl
  have l4 : (4 : Int32).toInt = 4 := rfl
  have l6 : (6 : Int32).toInt = 6 := rfl
  have l8 : (8 : Int32).toInt = 8 := rfl
  have l16 : (16 : Int32).toInt = 16 := rfl
  have l31 : (31 : Int32).toInt = 31 := rfl
  have l384 : (384 : Int32).toInt = 384 := rfl
  have l1000 : (1000 : Int32).toInt = 1000 := rfl
  refine w_aload rfl rfl ?_
  refine c_getR (t := some 70) rfl rfl rfl rfl rfl ?_
  refine w_invV (rest := []) rfl rfl rfl rfl rfl (Nat.le_of_ble_eq_true rfl) rfl (by omega) (s_X9_clear (K := K) a b v  70 hR  (by omega)) (fun z1 h9 hq2 => ?_)
  obtain ⟨a3, rfl, ha3, fa3, rfl⟩ := hq2
  show f_wp _ (7, [some (.inr (.inr (some 0))), none], [], cH a3 b v) _
  refine w_const rfl ?_
  refine w_istore (lo' := [some (.inr (.inr (some 0))), some (.inl 0)]) rfl rfl ?_
  have loop9 : ∀ (ms9 : Nat) (m : Int32) (a9 : Nat → Nat → Int32) , (4 - m.toInt).toNat = ms9 → RC K a9 → FR cA a a9 → (0 ≤ m.toInt ∧ m.toInt ≤ 4) → f_wp (f_code (t_X12_beginAnew (f_ev mtC d))) (9, [some (.inr (.inr (some 0))), some (.inl m)], [], cH a9 b v) (fun v9 h' => ∃ (a' : Nat → Nat → Int32), h' = cH a' b v ∧ RC K a' ∧ (FR cA a a' ∧ True) ∧ v9 = none) := by
    intro ms9
    induction ms9 using Nat.strongRecOn with
    | _ ms9 ih9 =>
      intro m a9  hm9 hR9 hF9 hm
      refine w_iload rfl rfl ?_
      refine w_aload rfl rfl ?_
      refine c_getR (t := some 18) rfl rfl rfl rfl rfl ?_
      refine c_alen (N := 4) rfl rfl (by decide) ?_
      show f_wp _ (15, [some (.inr (.inr (some 0))), some (.inl m)], .inl 4 :: [.inl m], cH a9 b v) _
      refine w_ic_ge rfl (fun c4 => ?_) (fun c4 => ?_)
      · skip
        refine w_aload rfl rfl ?_
        refine w_const rfl ?_
        refine c_putI (z := false) rfl rfl rfl rfl (by first | (intro h9; cases h9; done) | (intro _; first | exact Or.inl rfl | exact Or.inr rfl | assumption | (rcases (by omega : (0 : Int32).toInt = 0 ∨ (0 : Int32).toInt = 1) with h8 | h8; exact Or.inl (ti_eq h8); exact Or.inr (ti_eq h8)))) (fun a5 ea5 => ?_)
        have ha5 : RC K a5 := RC.up hR9 ea5 (show (0 : Int) ≤ _ ∧ _ ≤ (24 : Int) from by omega)
        have ua5 : a5 0 13 = (0 : Int32) := by rw [ea5, mU_same]
        have wa5 := congrArg Int32.toInt ua5
        refine w_aload rfl rfl ?_
        refine w_const rfl ?_
        refine c_putI (z := false) rfl rfl rfl rfl (by first | (intro h9; cases h9; done) | (intro _; first | exact Or.inl rfl | exact Or.inr rfl | assumption | (rcases (by omega : (0 : Int32).toInt = 0 ∨ (0 : Int32).toInt = 1) with h8 | h8; exact Or.inl (ti_eq h8); exact Or.inr (ti_eq h8)))) (fun a6 ea6 => ?_)
        have ha6 : RC K a6 := RC.up ha5 ea6 (show (0 : Int) ≤ _ ∧ _ ≤ (16 : Int) from by omega)
        have ua6 : a6 0 15 = (0 : Int32) := by rw [ea6, mU_same]
        have wa6 := congrArg Int32.toInt ua6
        refine w_aload rfl rfl ?_
        refine c_getR (t := some 12) rfl rfl rfl rfl rfl ?_
        refine w_const rfl ?_
        refine c_putI (z := true) rfl rfl rfl rfl (by first | (intro h9; cases h9; done) | (intro _; first | exact Or.inl rfl | exact Or.inr rfl | assumption | (rcases (by omega : (0 : Int32).toInt = 0 ∨ (0 : Int32).toInt = 1) with h8 | h8; exact Or.inl (ti_eq h8); exact Or.inr (ti_eq h8)))) (fun a7 ea7 => ?_)
        have ha7 : RC K a7 := RC.up ha6 ea7 (lc_any _ (by omega))
        have ua7 : a7 12 3 = (0 : Int32) := by rw [ea7, mU_same]
        have wa7 := congrArg Int32.toInt ua7
        refine w_aload rfl rfl ?_
        refine c_getR (t := some 14) rfl rfl rfl rfl rfl ?_
        refine w_const rfl ?_
        refine c_putI (z := true) rfl rfl rfl rfl (by first | (intro h9; cases h9; done) | (intro _; first | exact Or.inl rfl | exact Or.inr rfl | assumption | (rcases (by omega : (0 : Int32).toInt = 0 ∨ (0 : Int32).toInt = 1) with h8 | h8; exact Or.inl (ti_eq h8); exact Or.inr (ti_eq h8)))) (fun a8 ea8 => ?_)
        have ha8 : RC K a8 := RC.up ha7 ea8 (lc_any _ (by omega))
        have ua8 : a8 14 3 = (0 : Int32) := by rw [ea8, mU_same]
        have wa8 := congrArg Int32.toInt ua8
        exact w_ret rfl ⟨a8, rfl, ha8, ⟨FR.up (FR.up (FR.up (FR.up (hF9) (by first | decide | (simp; done) | exact cA_mem (by omega) | exact cB_mem (by omega) | exact cU_mem (by omega) | exact cM_mem (by omega)) ea5) (by first | decide | (simp; done) | exact cA_mem (by omega) | exact cB_mem (by omega) | exact cU_mem (by omega) | exact cM_mem (by omega)) ea6) (by first | decide | (simp; done) | exact cA_mem (by omega) | exact cB_mem (by omega) | exact cU_mem (by omega) | exact cM_mem (by omega)) ea7) (by first | decide | (simp; done) | exact cA_mem (by omega) | exact cB_mem (by omega) | exact cU_mem (by omega) | exact cM_mem (by omega)) ea8, trivial⟩, rfl⟩
      · skip
        refine w_aload rfl rfl ?_
        refine c_getR (t := some 18) rfl rfl rfl rfl rfl ?_
        refine w_iload rfl rfl ?_
        refine c_aald4 (t := some (206 + 8 * m.toInt.toNat)) rfl rfl (by omega) rfl ?_
        refine w_const rfl ?_
        refine c_putI (z := true) rfl (sh_sta (by omega)) rfl rfl (by first | (intro h9; cases h9; done) | (intro _; first | exact Or.inl rfl | exact Or.inr rfl | assumption | (rcases (by omega : (0 : Int32).toInt = 0 ∨ (0 : Int32).toInt = 1) with h8 | h8; exact Or.inl (ti_eq h8); exact Or.inr (ti_eq h8)))) (fun a9 ea9 => ?_)
        have ha9 : RC K a9 := RC.up hR9 ea9 (lc_any _ (by omega))
        have ua9 : a9 (206 + 8 * m.toInt.toNat) 10 = (0 : Int32) := by rw [ea9, mU_same]
        have wa9 := congrArg Int32.toInt ua9
        refine w_iinc (lo' := fun z9 => [some (.inr (.inr (some 0))), some (.inl z9)]) rfl rfl (fun _ => rfl) (by omega) (fun x10 tx10 => ?_)
        refine w_goto rfl ?_
        exact ih9 (4 - x10.toInt).toNat (by omega) x10 a9 rfl ha9 (FR.up (hF9) (by first | decide | (simp; done) | exact cA_mem (by omega) | exact cB_mem (by omega) | exact cU_mem (by omega) | exact cM_mem (by omega)) ea9) (by omega)
  exact loop9 _ 0 a3 rfl ha3 (FR.tr (FR.rf) (FR.sub fa3.1 (by first | exact (fun _ h9 => h9) | decide | (intro c9 h9; simp only [List.mem_cons, List.not_mem_nil, or_false] at h9 ⊢; omega) | (intro c9 h9; simp only [List.mem_cons, List.not_mem_nil, or_false] at h9; exact cA_mem (by omega)) | (intro c9 h9; simp only [List.mem_cons, List.not_mem_nil, or_false] at h9; exact cB_mem (by omega)) | (intro c9 h9; simp only [List.mem_cons, List.not_mem_nil, or_false] at h9; exact cU_mem (by omega)) | (intro c9 h9; simp only [List.mem_cons, List.not_mem_nil, or_false] at h9; exact cM_mem (by omega)) | exact cA_sub))) (by omega)
set_option maxHeartbeats 2000000 in
set_option maxRecDepth 4000 in
theorem s_X12_vows {K : Nat} (a : Nat → Nat → Int32) (b : Nat → Nat → Int64) (v : Nat → Option Nat) (L : Nat)  (hR : RC K a) (h0 : v 0 = some L) (hL : L = 22 ∨ L = 46) : f_call mtC 9 101 [.inr (.inr (some 0))] (cH a b v) (fun v9 h' => ∃ (a' : Nat → Nat → Int32) (b' : Nat → Nat → Int64) (v' : Nat → Option Nat), h' = cH a' b' v' ∧ RC K a' ∧ (FR [0, 1, 3, 4, 6, 7, 19] a a' ∧ ((∀ i, i ∉ [2, 3] → v' i = v i) ∧ (f_wdb (v' 2) = true ∧ v' 3 = some L)) ∧ ((a' 1 6).toInt = 0)) ∧ ∃ x : Int32, v9 = some (.inl x) ∧ True) := by
  refine f_call_of (d0 := 8) rfl (Nat.le_of_ble_eq_true rfl) (fun d hd => ?_)
  show f_wp _ (0, [some (.inr (.inr (some 0))), none], [], cH a b v) _
  have l0 : (0 : Int32).toInt = 0 := rfl
  have l24 : (24 : Int32).toInt = 24 := rfl
  refine w_aload rfl rfl ?_
  refine c_getR (t := some 6) rfl rfl rfl rfl rfl ?_
  refine w_aload rfl rfl ?_
  refine c_getR (t := some L) rfl rfl rfl rfl h0 ?_
  refine w_invV (rest := []) rfl rfl rfl rfl rfl (Nat.le_of_ble_eq_true rfl) rfl (by omega) (s_X6_readVows (K := K) a b v  L hR  (by omega)) (fun z1 h9 hq2 => ?_)
  obtain ⟨a3, b4, v5, rfl, ha3, fa3, x6, rfl, px6⟩ := hq2
  show f_wp _ (11, [some (.inr (.inr (some 0))), none], [.inl x6], cH a3 b4 v5) _
  refine w_istore (lo' := [some (.inr (.inr (some 0))), some (.inl x6)]) rfl rfl ?_
  refine w_aload rfl rfl ?_
  refine c_getR (t := some 1) rfl rfl rfl rfl rfl ?_
  refine w_invV (rest := []) rfl rfl rfl rfl rfl (Nat.le_of_ble_eq_true rfl) rfl (by omega) (s_X8_empty (K := K) a3 b4 v5   ha3  ) (fun z7 h9 hq8 => ?_)
  obtain ⟨a9, rfl, ha9, fa9, rfl⟩ := hq8
  show f_wp _ (19, [some (.inr (.inr (some 0))), some (.inl x6)], [], cH a9 b4 v5) _
  refine w_iload rfl rfl ?_
  refine w_if_ne rfl (fun c10 => ?_) (fun c10 => ?_)
  · skip
    refine w_aload rfl rfl ?_
    refine w_aload rfl rfl ?_
    refine c_getR (t := some 6) rfl rfl rfl rfl rfl ?_
    refine c_getI rfl rfl rfl rfl ?_
    have q11 : 0 ≤ (a9 6 2).toInt ∧ (a9 6 2).toInt ≤ 24 := ha9 6 2
    refine c_putI (z := false) rfl rfl rfl rfl (by first | (intro h9; cases h9; done) | (intro _; first | exact Or.inl rfl | exact Or.inr rfl | assumption | (rcases (by omega : (a9 6 2).toInt = 0 ∨ (a9 6 2).toInt = 1) with h8 | h8; exact Or.inl (ti_eq h8); exact Or.inr (ti_eq h8)))) (fun a12 ea12 => ?_)
    have ha12 : RC K a12 := RC.up ha9 ea12 (show (0 : Int) ≤ _ ∧ _ ≤ (24 : Int) from by omega)
    have ua12 : a12 0 13 = (a9 6 2) := by rw [ea12, mU_same]
    have wa12 := congrArg Int32.toInt ua12
    have ra12_32 : (a12 6 2).toInt = (a9 6 2).toInt := by rw [ea12, mU_cell (by omega)]
    refine w_aload rfl rfl ?_
    refine c_getR (t := some 6) rfl rfl rfl rfl rfl ?_
    refine c_getR (t := some 7) rfl rfl rfl rfl rfl ?_
    refine w_const rfl ?_
    refine w_aload rfl rfl ?_
    refine c_getR (t := some 19) rfl rfl rfl rfl rfl ?_
    refine w_const rfl ?_
    refine w_const rfl ?_
    refine c_copy (x := 7) (y := 19) rfl rfl rfl rfl (Nat.le_of_ble_eq_true rfl) (fun a13 na13 ma13 oa13 => ?_)
    have ha13 : RC K a13 := RC.cpa ha12 na13 ma13 oa13 (fun j9 => ⟨rfl, rfl⟩)
    show f_wp _ (52, [some (.inr (.inr (some 0))), some (.inl x6)], [], cH a13 b4 v5) _
    refine w_iload rfl rfl ?_
    exact wp_iret (z := false) rfl (fun h9 => by cases h9) ⟨a13, b4, v5, rfl, ha13, ⟨FR.cp (FR.up (FR.tr (FR.tr (FR.rf) (FR.sub fa3.1 (by first | exact (fun _ h9 => h9) | decide | (intro c9 h9; simp only [List.mem_cons, List.not_mem_nil, or_false] at h9 ⊢; omega) | (intro c9 h9; simp only [List.mem_cons, List.not_mem_nil, or_false] at h9; exact cA_mem (by omega)) | (intro c9 h9; simp only [List.mem_cons, List.not_mem_nil, or_false] at h9; exact cB_mem (by omega)) | (intro c9 h9; simp only [List.mem_cons, List.not_mem_nil, or_false] at h9; exact cU_mem (by omega)) | (intro c9 h9; simp only [List.mem_cons, List.not_mem_nil, or_false] at h9; exact cM_mem (by omega)) | exact cA_sub))) (FR.sub fa9.1 (by first | exact (fun _ h9 => h9) | decide | (intro c9 h9; simp only [List.mem_cons, List.not_mem_nil, or_false] at h9 ⊢; omega) | (intro c9 h9; simp only [List.mem_cons, List.not_mem_nil, or_false] at h9; exact cA_mem (by omega)) | (intro c9 h9; simp only [List.mem_cons, List.not_mem_nil, or_false] at h9; exact cB_mem (by omega)) | (intro c9 h9; simp only [List.mem_cons, List.not_mem_nil, or_false] at h9; exact cU_mem (by omega)) | (intro c9 h9; simp only [List.mem_cons, List.not_mem_nil, or_false] at h9; exact cM_mem (by omega)) | exact cA_sub))) (by first | decide | (simp; done) | exact cA_mem (by omega) | exact cB_mem (by omega) | exact cU_mem (by omega) | exact cM_mem (by omega)) ea12) (by first | decide | (simp; done) | exact cA_mem (by omega) | exact cB_mem (by omega) | exact cU_mem (by omega) | exact cM_mem (by omega)) na13, ⟨fun i9 h9 => (fa3.2.1.1 i9 (fun z9 => h9 (by first | exact z9 | (revert z9; simp; done) | (revert z9; simp; omega)))).trans ((show ∀ i9, i9 ∉ [2, 3] → v i9 = v i9 from (fun _ _ => rfl)) i9 h9), ⟨fa3.2.1.2.1, fa3.2.1.2.2⟩⟩, by rw [na13 1 (by decide), ea12, mU_cell (by decide)]; exact fa9.2⟩, ⟨_, rfl, trivial⟩⟩
  · skip
    refine w_iload rfl rfl ?_
    exact wp_iret (z := false) rfl (fun h9 => by cases h9) ⟨a9, b4, v5, rfl, ha9, ⟨FR.tr (FR.tr (FR.rf) (FR.sub fa3.1 (by first | exact (fun _ h9 => h9) | decide | (intro c9 h9; simp only [List.mem_cons, List.not_mem_nil, or_false] at h9 ⊢; omega) | (intro c9 h9; simp only [List.mem_cons, List.not_mem_nil, or_false] at h9; exact cA_mem (by omega)) | (intro c9 h9; simp only [List.mem_cons, List.not_mem_nil, or_false] at h9; exact cB_mem (by omega)) | (intro c9 h9; simp only [List.mem_cons, List.not_mem_nil, or_false] at h9; exact cU_mem (by omega)) | (intro c9 h9; simp only [List.mem_cons, List.not_mem_nil, or_false] at h9; exact cM_mem (by omega)) | exact cA_sub))) (FR.sub fa9.1 (by first | exact (fun _ h9 => h9) | decide | (intro c9 h9; simp only [List.mem_cons, List.not_mem_nil, or_false] at h9 ⊢; omega) | (intro c9 h9; simp only [List.mem_cons, List.not_mem_nil, or_false] at h9; exact cA_mem (by omega)) | (intro c9 h9; simp only [List.mem_cons, List.not_mem_nil, or_false] at h9; exact cB_mem (by omega)) | (intro c9 h9; simp only [List.mem_cons, List.not_mem_nil, or_false] at h9; exact cU_mem (by omega)) | (intro c9 h9; simp only [List.mem_cons, List.not_mem_nil, or_false] at h9; exact cM_mem (by omega)) | exact cA_sub)), ⟨fun i9 h9 => (fa3.2.1.1 i9 (fun z9 => h9 (by first | exact z9 | (revert z9; simp; done) | (revert z9; simp; omega)))).trans ((show ∀ i9, i9 ∉ [2, 3] → v i9 = v i9 from (fun _ _ => rfl)) i9 h9), ⟨fa3.2.1.2.1, fa3.2.1.2.2⟩⟩, fa9.2⟩, ⟨_, rfl, trivial⟩⟩
set_option maxHeartbeats 2000000 in
set_option maxRecDepth 4000 in
theorem s_X12_will {K : Nat} (a : Nat → Nat → Int32) (b : Nat → Nat → Int64) (v : Nat → Option Nat) (L : Nat)  (hR : RC K a) (h3 : v 3 = some L) (hL : L = 22 ∨ L = 46) : f_call mtC 9 102 [.inr (.inr (some 0))] (cH a b v) (fun v9 h' => ∃ (a' : Nat → Nat → Int32) (b' : Nat → Nat → Int64) (v' : Nat → Option Nat), h' = cH a' b' v' ∧ RC K a' ∧ (FR [1, 3, 4, 6, 8, 70, 74] a a' ∧ ((∀ i, i ∉ [2, 3] → v' i = v i) ∧ (f_wdb (v' 2) = true ∧ v' 3 = some L)) ∧ ((a' 1 6).toInt = 0)) ∧ ∃ x : Int32, v9 = some (.inl x) ∧ True) := by
  refine f_call_of (d0 := 8) rfl (Nat.le_of_ble_eq_true rfl) (fun d hd => ?_)
  show f_wp _ (0, [some (.inr (.inr (some 0))), none], [], cH a b v) _
  have l0 : (0 : Int32).toInt = 0 := rfl
  have l6 : (6 : Int32).toInt = 6 := rfl
  refine w_aload rfl rfl ?_
  refine c_getR (t := some 6) rfl rfl rfl rfl rfl ?_
  refine w_invV (rest := []) rfl rfl rfl rfl rfl (Nat.le_of_ble_eq_true rfl) rfl (by omega) (s_X6_readWill (K := K) a b v L  hR  (by omega) (h3)) (fun z1 h9 hq2 => ?_)
  obtain ⟨a3, b4, v5, rfl, ha3, fa3, x6, rfl, px6⟩ := hq2
  show f_wp _ (7, [some (.inr (.inr (some 0))), none], [.inl x6], cH a3 b4 v5) _
  refine w_istore (lo' := [some (.inr (.inr (some 0))), some (.inl x6)]) rfl rfl ?_
  refine w_aload rfl rfl ?_
  refine c_getR (t := some 1) rfl rfl rfl rfl rfl ?_
  refine w_invV (rest := []) rfl rfl rfl rfl rfl (Nat.le_of_ble_eq_true rfl) rfl (by omega) (s_X8_empty (K := K) a3 b4 v5   ha3  ) (fun z7 h9 hq8 => ?_)
  obtain ⟨a9, rfl, ha9, fa9, rfl⟩ := hq8
  show f_wp _ (15, [some (.inr (.inr (some 0))), some (.inl x6)], [], cH a9 b4 v5) _
  refine w_iload rfl rfl ?_
  refine w_if_ne rfl (fun c10 => ?_) (fun c10 => ?_)
  · skip
    refine w_aload rfl rfl ?_
    refine c_getR (t := some 70) rfl rfl rfl rfl rfl ?_
    refine w_aload rfl rfl ?_
    refine c_getR (t := some 6) rfl rfl rfl rfl rfl ?_
    refine c_getI rfl rfl rfl rfl ?_
    have q11 : 0 ≤ (a9 6 3).toInt ∧ (a9 6 3).toInt ≤ 6 := ha9 6 3
    refine c_putI (z := false) rfl rfl rfl rfl (by first | (intro h9; cases h9; done) | (intro _; first | exact Or.inl rfl | exact Or.inr rfl | assumption | (rcases (by omega : (a9 6 3).toInt = 0 ∨ (a9 6 3).toInt = 1) with h8 | h8; exact Or.inl (ti_eq h8); exact Or.inr (ti_eq h8)))) (fun a12 ea12 => ?_)
    have ha12 : RC K a12 := RC.up ha9 ea12 (lc_hei (by omega) (by omega))
    have ua12 : a12 70 8 = (a9 6 3) := by rw [ea12, mU_same]
    have wa12 := congrArg Int32.toInt ua12
    have ra12_31 : (a12 6 3).toInt = (a9 6 3).toInt := by rw [ea12, mU_cell (by omega)]
    refine w_aload rfl rfl ?_
    refine c_getR (t := some 6) rfl rfl rfl rfl rfl ?_
    refine c_getR (t := some 8) rfl rfl rfl rfl rfl ?_
    refine w_const rfl ?_
    refine w_aload rfl rfl ?_
    refine c_getR (t := some 70) rfl rfl rfl rfl rfl ?_
    refine c_getR (t := some 74) rfl rfl rfl rfl rfl ?_
    refine w_const rfl ?_
    refine w_const rfl ?_
    refine c_copy (x := 8) (y := 74) rfl rfl rfl rfl (Nat.le_of_ble_eq_true rfl) (fun a13 na13 ma13 oa13 => ?_)
    have ha13 : RC K a13 := RC.cpa ha12 na13 ma13 oa13 (fun j9 => ⟨rfl, rfl⟩)
    show f_wp _ (54, [some (.inr (.inr (some 0))), some (.inl x6)], [], cH a13 b4 v5) _
    refine w_iload rfl rfl ?_
    exact wp_iret (z := false) rfl (fun h9 => by cases h9) ⟨a13, b4, v5, rfl, ha13, ⟨FR.cp (FR.up (FR.tr (FR.tr (FR.rf) (FR.sub fa3.1 (by first | exact (fun _ h9 => h9) | decide | (intro c9 h9; simp only [List.mem_cons, List.not_mem_nil, or_false] at h9 ⊢; omega) | (intro c9 h9; simp only [List.mem_cons, List.not_mem_nil, or_false] at h9; exact cA_mem (by omega)) | (intro c9 h9; simp only [List.mem_cons, List.not_mem_nil, or_false] at h9; exact cB_mem (by omega)) | (intro c9 h9; simp only [List.mem_cons, List.not_mem_nil, or_false] at h9; exact cU_mem (by omega)) | (intro c9 h9; simp only [List.mem_cons, List.not_mem_nil, or_false] at h9; exact cM_mem (by omega)) | exact cA_sub))) (FR.sub fa9.1 (by first | exact (fun _ h9 => h9) | decide | (intro c9 h9; simp only [List.mem_cons, List.not_mem_nil, or_false] at h9 ⊢; omega) | (intro c9 h9; simp only [List.mem_cons, List.not_mem_nil, or_false] at h9; exact cA_mem (by omega)) | (intro c9 h9; simp only [List.mem_cons, List.not_mem_nil, or_false] at h9; exact cB_mem (by omega)) | (intro c9 h9; simp only [List.mem_cons, List.not_mem_nil, or_false] at h9; exact cU_mem (by omega)) | (intro c9 h9; simp only [List.mem_cons, List.not_mem_nil, or_false] at h9; exact cM_mem (by omega)) | exact cA_sub))) (by first | decide | (simp; done) | exact cA_mem (by omega) | exact cB_mem (by omega) | exact cU_mem (by omega) | exact cM_mem (by omega)) ea12) (by first | decide | (simp; done) | exact cA_mem (by omega) | exact cB_mem (by omega) | exact cU_mem (by omega) | exact cM_mem (by omega)) na13, ⟨fun i9 h9 => (fa3.2.1.1 i9 (fun z9 => h9 (by first | exact z9 | (revert z9; simp; done) | (revert z9; simp; omega)))).trans ((show ∀ i9, i9 ∉ [2, 3] → v i9 = v i9 from (fun _ _ => rfl)) i9 h9), ⟨fa3.2.1.2.1, fa3.2.1.2.2⟩⟩, by rw [na13 1 (by decide), ea12, mU_cell (by decide)]; exact fa9.2⟩, ⟨_, rfl, trivial⟩⟩
  · skip
    refine w_iload rfl rfl ?_
    exact wp_iret (z := false) rfl (fun h9 => by cases h9) ⟨a9, b4, v5, rfl, ha9, ⟨FR.tr (FR.tr (FR.rf) (FR.sub fa3.1 (by first | exact (fun _ h9 => h9) | decide | (intro c9 h9; simp only [List.mem_cons, List.not_mem_nil, or_false] at h9 ⊢; omega) | (intro c9 h9; simp only [List.mem_cons, List.not_mem_nil, or_false] at h9; exact cA_mem (by omega)) | (intro c9 h9; simp only [List.mem_cons, List.not_mem_nil, or_false] at h9; exact cB_mem (by omega)) | (intro c9 h9; simp only [List.mem_cons, List.not_mem_nil, or_false] at h9; exact cU_mem (by omega)) | (intro c9 h9; simp only [List.mem_cons, List.not_mem_nil, or_false] at h9; exact cM_mem (by omega)) | exact cA_sub))) (FR.sub fa9.1 (by first | exact (fun _ h9 => h9) | decide | (intro c9 h9; simp only [List.mem_cons, List.not_mem_nil, or_false] at h9 ⊢; omega) | (intro c9 h9; simp only [List.mem_cons, List.not_mem_nil, or_false] at h9; exact cA_mem (by omega)) | (intro c9 h9; simp only [List.mem_cons, List.not_mem_nil, or_false] at h9; exact cB_mem (by omega)) | (intro c9 h9; simp only [List.mem_cons, List.not_mem_nil, or_false] at h9; exact cU_mem (by omega)) | (intro c9 h9; simp only [List.mem_cons, List.not_mem_nil, or_false] at h9; exact cM_mem (by omega)) | exact cA_sub)), ⟨fun i9 h9 => (fa3.2.1.1 i9 (fun z9 => h9 (by first | exact z9 | (revert z9; simp; done) | (revert z9; simp; omega)))).trans ((show ∀ i9, i9 ∉ [2, 3] → v i9 = v i9 from (fun _ _ => rfl)) i9 h9), ⟨fa3.2.1.2.1, fa3.2.1.2.2⟩⟩, fa9.2⟩, ⟨_, rfl, trivial⟩⟩
