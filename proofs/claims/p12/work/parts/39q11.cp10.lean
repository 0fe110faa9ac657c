set_option maxRecDepth 4000 in
theorem y_X3_clear {d : Nat} (a : Nat → Nat → Int32) (b : Nat → Nat → Int64) (v : Nat → Option Nat) (L : Nat) (hL : L = 22 ∨ L = 46) : f_pc mtC d 12 [.inr (.inr (some L))] (cH a b v) (fun v9 h' => ∃ (a' : Nat → Nat → Int32), h' = cH a' b v ∧ (FR [L, L + 4, L + 5, L + 7, L + 8] a a' ∧ ((a' L 7).toInt = 0 ∧ (a' L 8).toInt = 0 ∧ (a' L 9).toInt = 0 ∧ (a' L 10).toInt = 0 ∧ (a' L 11).toInt = 0)) ∧ v9 = none) := by
  refine f_pc_of rfl (fun d0 fu hd => ?_)
  show f_pq _ _ (0, [some (.inr (.inr (some L)))], [], cH a b v) _
  have l0 : (0 : Int32).toInt = 0 := rfl
  have l1 : (1 : Int32).toInt = 1 := rfl
  refine qw_aload rfl rfl ?_
  refine qw_const rfl ?_
  refine qc_putI (z := false) rfl (sh_land (by omega)) rfl rfl (by first | (intro h9; cases h9; done) | (intro _; first | exact Or.inl rfl | exact Or.inr rfl | assumption | (rcases (by omega : (0 : Int32).toInt = 0 ∨ (0 : Int32).toInt = 1) with h8 | h8; exact Or.inl (ti_eq h8); exact Or.inr (ti_eq h8)))) (fun a1 ea1 => ?_)
  have ua1 : a1 L 7 = (0 : Int32) := by rw [ea1, mU_same]
  have wa1 := congrArg Int32.toInt ua1
  refine qw_aload rfl rfl ?_
  refine qw_const rfl ?_
  refine qc_putI (z := false) rfl (sh_land (by omega)) rfl rfl (by first | (intro h9; cases h9; done) | (intro _; first | exact Or.inl rfl | exact Or.inr rfl | assumption | (rcases (by omega : (0 : Int32).toInt = 0 ∨ (0 : Int32).toInt = 1) with h8 | h8; exact Or.inl (ti_eq h8); exact Or.inr (ti_eq h8)))) (fun a2 ea2 => ?_)
  have ua2 : a2 L 8 = (0 : Int32) := by rw [ea2, mU_same]
  have wa2 := congrArg Int32.toInt ua2
  refine qw_aload rfl rfl ?_
  refine qw_const rfl ?_
  refine qc_putI (z := false) rfl (sh_land (by omega)) rfl rfl (by first | (intro h9; cases h9; done) | (intro _; first | exact Or.inl rfl | exact Or.inr rfl | assumption | (rcases (by omega : (0 : Int32).toInt = 0 ∨ (0 : Int32).toInt = 1) with h8 | h8; exact Or.inl (ti_eq h8); exact Or.inr (ti_eq h8)))) (fun a3 ea3 => ?_)
  have ua3 : a3 L 9 = (0 : Int32) := by rw [ea3, mU_same]
  have wa3 := congrArg Int32.toInt ua3
  refine qw_aload rfl rfl ?_
  refine qw_const rfl ?_
  refine qc_putI (z := false) rfl (sh_land (by omega)) rfl rfl (by first | (intro h9; cases h9; done) | (intro _; first | exact Or.inl rfl | exact Or.inr rfl | assumption | (rcases (by omega : (0 : Int32).toInt = 0 ∨ (0 : Int32).toInt = 1) with h8 | h8; exact Or.inl (ti_eq h8); exact Or.inr (ti_eq h8)))) (fun a4 ea4 => ?_)
  have ua4 : a4 L 10 = (0 : Int32) := by rw [ea4, mU_same]
  have wa4 := congrArg Int32.toInt ua4
  refine qw_aload rfl rfl ?_
  refine qw_const rfl ?_
  refine qc_putI (z := false) rfl (sh_land (by omega)) rfl rfl (by first | (intro h9; cases h9; done) | (intro _; first | exact Or.inl rfl | exact Or.inr rfl | assumption | (rcases (by omega : (0 : Int32).toInt = 0 ∨ (0 : Int32).toInt = 1) with h8 | h8; exact Or.inl (ti_eq h8); exact Or.inr (ti_eq h8)))) (fun a5 ea5 => ?_)
  have ua5 : a5 L 11 = (0 : Int32) := by rw [ea5, mU_same]
  have wa5 := congrArg Int32.toInt ua5
  refine qw_aload rfl rfl ?_
  refine qc_getR (t := some (L + 4)) rfl (sh_land (by omega)) rfl rfl (rC_land3 (by omega)) ?_
  refine qw_invV (rest := []) rfl rfl (sh_form (by omega)) rfl rfl (Nat.le_of_ble_eq_true rfl) rfl (y_X2_clear (d := d0) a5 b v  (L + 4) (by omega)) (fun z6 h9 hq7 => ?_)
  obtain ⟨a8, rfl, fa8, rfl⟩ := hq7
  show f_pq _ _ (32, [some (.inr (.inr (some L)))], [], cH a8 b v) _
  refine qw_aload rfl rfl ?_
  refine qc_getR (t := some (L + 4)) rfl (sh_land (by omega)) rfl rfl (rC_land3 (by omega)) ?_
  refine qw_const rfl ?_
  refine qw_invV (rest := []) rfl rfl (sh_form (by omega)) rfl rfl (Nat.le_of_ble_eq_true rfl) rfl (y_X2_add (d := d0) a8 b v  (L + 4) 1 (by omega)) (fun z9 h9 hq10 => ?_)
  obtain ⟨a11, rfl, fa11, rfl⟩ := hq10
  show f_pq _ _ (40, [some (.inr (.inr (some L)))], [], cH a11 b v) _
  refine qw_aload rfl rfl ?_
  refine qc_getR (t := some (L + 7)) rfl (sh_land (by omega)) rfl rfl (rC_land4 (by omega)) ?_
  refine qw_invV (rest := []) rfl rfl (sh_form (by omega)) rfl rfl (Nat.le_of_ble_eq_true rfl) rfl (y_X2_clear (d := d0) a11 b v  (L + 7) (by omega)) (fun z12 h9 hq13 => ?_)
  obtain ⟨a14, rfl, fa14, rfl⟩ := hq13
  show f_pq _ _ (47, [some (.inr (.inr (some L)))], [], cH a14 b v) _
  refine qw_aload rfl rfl ?_
  refine qc_getR (t := some (L + 7)) rfl (sh_land (by omega)) rfl rfl (rC_land4 (by omega)) ?_
  refine qw_const rfl ?_
  refine qw_invV (rest := []) rfl rfl (sh_form (by omega)) rfl rfl (Nat.le_of_ble_eq_true rfl) rfl (y_X2_add (d := d0) a14 b v  (L + 7) 0 (by omega)) (fun z15 h9 hq16 => ?_)
  obtain ⟨a17, rfl, fa17, rfl⟩ := hq16
  show f_pq _ _ (55, [some (.inr (.inr (some L)))], [], cH a17 b v) _
  exact qw_ret rfl ⟨a17, rfl, ⟨FR.tr (FR.tr (FR.tr (FR.tr (FR.up (FR.up (FR.up (FR.up (FR.up (FR.rf) (by first | decide | (simp; done) | exact cA_mem (by omega) | exact cB_mem (by omega)) ea1) (by first | decide | (simp; done) | exact cA_mem (by omega) | exact cB_mem (by omega)) ea2) (by first | decide | (simp; done) | exact cA_mem (by omega) | exact cB_mem (by omega)) ea3) (by first | decide | (simp; done) | exact cA_mem (by omega) | exact cB_mem (by omega)) ea4) (by first | decide | (simp; done) | exact cA_mem (by omega) | exact cB_mem (by omega)) ea5) (FR.sub fa8.1 (by first | exact (fun _ h9 => h9) | decide | (intro c9 h9; simp only [List.mem_cons, List.not_mem_nil, or_false] at h9 ⊢; omega) | (intro c9 h9; simp only [List.mem_cons, List.not_mem_nil, or_false] at h9; exact cA_mem (by omega)) | (intro c9 h9; simp only [List.mem_cons, List.not_mem_nil, or_false] at h9; exact cB_mem (by omega)) | exact cA_sub))) (FR.sub fa11.1 (by first | exact (fun _ h9 => h9) | decide | (intro c9 h9; simp only [List.mem_cons, List.not_mem_nil, or_false] at h9 ⊢; omega) | (intro c9 h9; simp only [List.mem_cons, List.not_mem_nil, or_false] at h9; exact cA_mem (by omega)) | (intro c9 h9; simp only [List.mem_cons, List.not_mem_nil, or_false] at h9; exact cB_mem (by omega)) | exact cA_sub))) (FR.sub fa14.1 (by first | exact (fun _ h9 => h9) | decide | (intro c9 h9; simp only [List.mem_cons, List.not_mem_nil, or_false] at h9 ⊢; omega) | (intro c9 h9; simp only [List.mem_cons, List.not_mem_nil, or_false] at h9; exact cA_mem (by omega)) | (intro c9 h9; simp only [List.mem_cons, List.not_mem_nil, or_false] at h9; exact cB_mem (by omega)) | exact cA_sub))) (FR.sub fa17.1 (by first | exact (fun _ h9 => h9) | decide | (intro c9 h9; simp only [List.mem_cons, List.not_mem_nil, or_false] at h9 ⊢; omega) | (intro c9 h9; simp only [List.mem_cons, List.not_mem_nil, or_false] at h9; exact cA_mem (by omega)) | (intro c9 h9; simp only [List.mem_cons, List.not_mem_nil, or_false] at h9; exact cB_mem (by omega)) | exact cA_sub)), ⟨by rw [fa17.1 L (by simp only [List.mem_cons, List.not_mem_nil, or_false, not_or]; omega), fa14.1 L (by simp only [List.mem_cons, List.not_mem_nil, or_false, not_or]; omega), fa11.1 L (by simp only [List.mem_cons, List.not_mem_nil, or_false, not_or]; omega), fa8.1 L (by simp only [List.mem_cons, List.not_mem_nil, or_false, not_or]; omega), ea5, mU_slot (by decide), ea4, mU_slot (by decide), ea3, mU_slot (by decide), ea2, mU_slot (by decide), ea1, mU_same]; rfl, by rw [fa17.1 L (by simp only [List.mem_cons, List.not_mem_nil, or_false, not_or]; omega), fa14.1 L (by simp only [List.mem_cons, List.not_mem_nil, or_false, not_or]; omega), fa11.1 L (by simp only [List.mem_cons, List.not_mem_nil, or_false, not_or]; omega), fa8.1 L (by simp only [List.mem_cons, List.not_mem_nil, or_false, not_or]; omega), ea5, mU_slot (by decide), ea4, mU_slot (by decide), ea3, mU_slot (by decide), ea2, mU_same]; rfl, by rw [fa17.1 L (by simp only [List.mem_cons, List.not_mem_nil, or_false, not_or]; omega), fa14.1 L (by simp only [List.mem_cons, List.not_mem_nil, or_false, not_or]; omega), fa11.1 L (by simp only [List.mem_cons, List.not_mem_nil, or_false, not_or]; omega), fa8.1 L (by simp only [List.mem_cons, List.not_mem_nil, or_false, not_or]; omega), ea5, mU_slot (by decide), ea4, mU_slot (by decide), ea3, mU_same]; rfl, by rw [fa17.1 L (by simp only [List.mem_cons, List.not_mem_nil, or_false, not_or]; omega), fa14.1 L (by simp only [List.mem_cons, List.not_mem_nil, or_false, not_or]; omega), fa11.1 L (by simp only [List.mem_cons, List.not_mem_nil, or_false, not_or]; omega), fa8.1 L (by simp only [List.mem_cons, List.not_mem_nil, or_false, not_or]; omega), ea5, mU_slot (by decide), ea4, mU_same]; rfl, by rw [fa17.1 L (by simp only [List.mem_cons, List.not_mem_nil, or_false, not_or]; omega), fa14.1 L (by simp only [List.mem_cons, List.not_mem_nil, or_false, not_or]; omega), fa11.1 L (by simp only [List.mem_cons, List.not_mem_nil, or_false, not_or]; omega), fa8.1 L (by simp only [List.mem_cons, List.not_mem_nil, or_false, not_or]; omega), ea5, mU_same]; rfl⟩⟩, rfl⟩
theorem CLN.zero {t : Nat → Int32} {z L : Nat} {a : Nat → Nat → Int32} {b : Nat → Nat → Int64} (h : (a L 7).toInt = 0 ∧ (a L 8).toInt = 0 ∧ (a L 9).toInt = 0 ∧ (a L 10).toInt = 0 ∧ (a L 11).toInt = 0) : CLN t z L (fun _ => 0) (fun _ => 0) a b := ⟨⟨h.1, by decide, by decide⟩, ⟨h.2.1, by decide, by decide⟩, h.2.2, fun k hk => absurd hk (by show ¬ (k : Int) < 0; omega), fun k hk => absurd hk (Nat.not_lt_zero k), fun k hk => absurd hk (by show ¬ (k : Int) < 0; omega)⟩
