set_option maxRecDepth 4000 in
theorem s_X4_begin {K : Nat} (a : Nat → Nat → Int32) (b : Nat → Nat → Int64) (v : Nat → Option Nat)  (hR : RC K a)  : f_call mtC 1 26 [.inr (.inr (some 12))] (cH a b v) (fun v9 h' => ∃ (a' : Nat → Nat → Int32), h' = cH a' b v ∧ RC K a' ∧ (FR [12] a a' ∧ True) ∧ v9 = none) := by
  refine f_call_of (d0 := 0) rfl (Nat.le_of_ble_eq_true rfl) (fun d hd => ?_)
  show f_wp _ (0, [some (.inr (.inr (some 12)))], [], cH a b v) _
  have l0 : (0 : Int32).toInt = 0 := rfl
  refine w_aload rfl rfl ?_
  refine w_const rfl ?_
  refine c_putI (z := false) rfl rfl rfl rfl (by first | (intro h9; cases h9; done) | (intro _; first | exact Or.inl rfl | exact Or.inr rfl | assumption | (rcases (by omega : (0 : Int32).toInt = 0 ∨ (0 : Int32).toInt = 1) with h8 | h8; exact Or.inl (ti_eq h8); exact Or.inr (ti_eq h8)))) (fun a1 ea1 => ?_)
  have ha1 : RC K a1 := RC.up hR ea1 (lc_any _ (by omega))
  have ua1 : a1 12 4 = (0 : Int32) := by rw [ea1, mU_same]
  have wa1 := congrArg Int32.toInt ua1
  refine w_aload rfl rfl ?_
  refine w_const rfl ?_
  refine c_putI (z := false) rfl rfl rfl rfl (by first | (intro h9; cases h9; done) | (intro _; first | exact Or.inl rfl | exact Or.inr rfl | assumption | (rcases (by omega : (0 : Int32).toInt = 0 ∨ (0 : Int32).toInt = 1) with h8 | h8; exact Or.inl (ti_eq h8); exact Or.inr (ti_eq h8)))) (fun a2 ea2 => ?_)
  have ha2 : RC K a2 := RC.up ha1 ea2 (lc_any _ (by omega))
  have ua2 : a2 12 5 = (0 : Int32) := by rw [ea2, mU_same]
  have wa2 := congrArg Int32.toInt ua2
  exact w_ret rfl ⟨a2, rfl, ha2, ⟨FR.up (FR.up (FR.rf) (by first | decide | simp | (simp [cA]; omega) | (simp [cB]; omega)) ea1) (by first | decide | simp | (simp [cA]; omega) | (simp [cB]; omega)) ea2, trivial⟩, rfl⟩
set_option maxRecDepth 4000 in
theorem s_X4_end {K : Nat} (a : Nat → Nat → Int32) (b : Nat → Nat → Int64) (v : Nat → Option Nat)   : f_call mtC 1 28 [.inr (.inr (some 12))] (cH a b v) (fun v9 h' => h' = cH a b v ∧ v9 = none) := by
  refine f_call_of (d0 := 0) rfl (Nat.le_of_ble_eq_true rfl) (fun d hd => ?_)
  show f_wp _ (0, [some (.inr (.inr (some 12)))], [], cH a b v) _
  exact w_ret rfl ⟨rfl, rfl⟩
set_option maxRecDepth 4000 in
theorem s_X4_note {K : Nat} (a : Nat → Nat → Int32) (b : Nat → Nat → Int64) (v : Nat → Option Nat) (L : Nat) (i : Int32) (j : Int32) (hR : RC K a) (hn : v 5 = some L) (hL : L = 22 ∨ L = 46) : f_call mtC 4 27 [.inr (.inr (some 12)), .inl i, .inl j] (cH a b v) (fun v9 h' => ∃ (a' : Nat → Nat → Int32), h' = cH a' b v ∧ RC K a' ∧ (FR [12, 13] a a' ∧ True) ∧ v9 = none) := by
  refine f_call_of (d0 := 3) rfl (Nat.le_of_ble_eq_true rfl) (fun d hd => ?_)
  show f_wp _ (0, [some (.inr (.inr (some 12))), some (.inl i), some (.inl j), none], [], cH a b v) _
  have l0 : (0 : Int32).toInt = 0 := rfl
  have l1 : (1 : Int32).toInt = 1 := rfl
  have l6 : (6 : Int32).toInt = 6 := rfl
  have l8 : (8 : Int32).toInt = 8 := rfl
  have l9 : (9 : Int32).toInt = 9 := rfl
  refine w_aload rfl rfl ?_
  refine c_getR (t := some 9) rfl rfl rfl rfl rfl ?_
  refine w_const rfl ?_
  refine w_invV (rest := []) rfl rfl rfl rfl rfl (Nat.le_of_ble_eq_true rfl) rfl (by omega) (s_X5_dryMills (K := K) a b v L 8 hR  (hn) (by omega)) (fun z1 h9 hq2 => ?_)
  obtain ⟨rfl, x3, rfl, px3⟩ := hq2
  show f_wp _ (9, [some (.inr (.inr (some 12))), some (.inl i), some (.inl j), none], [.inl x3], cH a b v) _
  refine w_if_ne rfl (fun c4 => ?_) (fun c4 => ?_)
  · skip
    refine w_aload rfl rfl ?_
    refine c_getR (t := some 9) rfl rfl rfl rfl rfl ?_
    refine w_const rfl ?_
    refine w_invV (rest := []) rfl rfl rfl rfl rfl (Nat.le_of_ble_eq_true rfl) rfl (by omega) (s_X5_floodedTowns (K := K) a b v L 9 hR  (hn) (by omega)) (fun z5 h9 hq6 => ?_)
    obtain ⟨rfl, x7, rfl, px7⟩ := hq6
    show f_wp _ (21, [some (.inr (.inr (some 12))), some (.inl i), some (.inl j), none], [.inl x7], cH a b v) _
    refine w_if_eq rfl (fun c8 => ?_) (fun c8 => ?_)
    · skip
      refine w_iload rfl rfl ?_
      refine w_aload rfl rfl ?_
      refine c_getI rfl rfl rfl rfl ?_
      refine w_ic_lt rfl (fun c9 => ?_) (fun c9 => ?_)
      · skip
        refine w_const rfl ?_
        refine w_goto rfl ?_
        refine w_istore (lo' := [some (.inr (.inr (some 12))), some (.inl i), some (.inl j), some (.inl 1)]) rfl rfl ?_
        refine w_aload rfl rfl ?_
        refine c_getI rfl rfl rfl rfl ?_
        refine w_if_eq rfl (fun c10 => ?_) (fun c10 => ?_)
        · skip
          refine w_aload rfl rfl ?_
          refine w_iload rfl rfl ?_
          refine c_putI (z := false) rfl rfl rfl rfl (by first | (intro h9; cases h9; done) | (intro _; first | exact Or.inl rfl | exact Or.inr rfl | assumption | (rcases (by omega : i.toInt = 0 ∨ i.toInt = 1) with h8 | h8; exact Or.inl (ti_eq h8); exact Or.inr (ti_eq h8)))) (fun a11 ea11 => ?_)
          have ha11 : RC K a11 := RC.up hR ea11 (lc_any _ (by omega))
          have ua11 : a11 12 4 = i := by rw [ea11, mU_same]
          have wa11 := congrArg Int32.toInt ua11
          have ra11_43 : (a11 12 2).toInt = (a 12 2).toInt := by rw [ea11, mU_slot (by decide)]
          refine w_aload rfl rfl ?_
          refine w_iload rfl rfl ?_
          refine c_putI (z := false) rfl rfl rfl rfl (by first | (intro h9; cases h9; done) | (intro _; first | exact Or.inl rfl | exact Or.inr rfl | assumption | (rcases (by omega : j.toInt = 0 ∨ j.toInt = 1) with h8 | h8; exact Or.inl (ti_eq h8); exact Or.inr (ti_eq h8)))) (fun a12 ea12 => ?_)
          have ha12 : RC K a12 := RC.up ha11 ea12 (lc_any _ (by omega))
          have ua12 : a12 12 5 = j := by rw [ea12, mU_same]
          have wa12 := congrArg Int32.toInt ua12
          have ra12_50 : (a12 12 2).toInt = (a11 12 2).toInt := by rw [ea12, mU_slot (by decide)]
          refine w_aload rfl rfl ?_
          refine c_getR (t := some 9) rfl rfl rfl rfl rfl ?_
          refine c_getR (t := some 10) rfl rfl rfl rfl rfl ?_
          refine w_const rfl ?_
          refine w_aload rfl rfl ?_
          refine c_getR (t := some 13) rfl rfl rfl rfl rfl ?_
          refine w_const rfl ?_
          refine w_const rfl ?_
          refine c_copy (x := 10) (y := 13) rfl rfl rfl rfl (Nat.le_of_ble_eq_true rfl) (fun a13 na13 ma13 oa13 => ?_)
          have ha13 : RC K a13 := RC.cpa ha12 na13 ma13 oa13 (fun j9 => ⟨rfl, rfl⟩)
          show f_wp _ (94, [some (.inr (.inr (some 12))), some (.inl i), some (.inl j), some (.inl 1)], [], cH a13 b v) _
          refine w_aload rfl rfl ?_
          refine w_dup rfl rfl ?_
          refine c_getI rfl rfl rfl rfl ?_
          refine w_const rfl ?_
          first | refine w_iadd rfl (by omega) (fun x14 tx14 => ?_) | refine w_iiU rfl (fun x14 tx14 => ?_)
          refine c_putI (z := false) rfl rfl rfl rfl (by first | (intro h9; cases h9; done) | (intro _; first | exact Or.inl rfl | exact Or.inr rfl | assumption | (rcases (by omega : x14.toInt = 0 ∨ x14.toInt = 1) with h8 | h8; exact Or.inl (ti_eq h8); exact Or.inr (ti_eq h8)))) (fun a15 ea15 => ?_)
          have ha15 : RC K a15 := RC.up ha13 ea15 (lc_any _ (by omega))
          have ua15 : a15 12 2 = x14 := by rw [ea15, mU_same]
          have wa15 := congrArg Int32.toInt ua15
          exact w_ret rfl ⟨a15, rfl, ha15, ⟨FR.up (FR.cp (FR.up (FR.up (FR.rf) (by first | decide | simp | (simp [cA]; omega) | (simp [cB]; omega)) ea11) (by first | decide | simp | (simp [cA]; omega) | (simp [cB]; omega)) ea12) (by first | decide | simp | (simp [cA]; omega) | (simp [cB]; omega)) na13) (by first | decide | simp | (simp [cA]; omega) | (simp [cB]; omega)) ea15, trivial⟩, rfl⟩
        · skip
          refine w_iload rfl rfl ?_
          refine w_if_eq rfl (fun c16 => ?_) (fun c16 => ?_)
          · exfalso; omega
          · skip
            refine w_aload rfl rfl ?_
            refine w_iload rfl rfl ?_
            refine c_putI (z := false) rfl rfl rfl rfl (by first | (intro h9; cases h9; done) | (intro _; first | exact Or.inl rfl | exact Or.inr rfl | assumption | (rcases (by omega : i.toInt = 0 ∨ i.toInt = 1) with h8 | h8; exact Or.inl (ti_eq h8); exact Or.inr (ti_eq h8)))) (fun a17 ea17 => ?_)
            have ha17 : RC K a17 := RC.up hR ea17 (lc_any _ (by omega))
            have ua17 : a17 12 4 = i := by rw [ea17, mU_same]
            have wa17 := congrArg Int32.toInt ua17
            have ra17_83 : (a17 12 2).toInt = (a 12 2).toInt := by rw [ea17, mU_slot (by decide)]
            refine w_aload rfl rfl ?_
            refine w_iload rfl rfl ?_
            refine c_putI (z := false) rfl rfl rfl rfl (by first | (intro h9; cases h9; done) | (intro _; first | exact Or.inl rfl | exact Or.inr rfl | assumption | (rcases (by omega : j.toInt = 0 ∨ j.toInt = 1) with h8 | h8; exact Or.inl (ti_eq h8); exact Or.inr (ti_eq h8)))) (fun a18 ea18 => ?_)
            have ha18 : RC K a18 := RC.up ha17 ea18 (lc_any _ (by omega))
            have ua18 : a18 12 5 = j := by rw [ea18, mU_same]
            have wa18 := congrArg Int32.toInt ua18
            have ra18_90 : (a18 12 2).toInt = (a17 12 2).toInt := by rw [ea18, mU_slot (by decide)]
            refine w_aload rfl rfl ?_
            refine c_getR (t := some 9) rfl rfl rfl rfl rfl ?_
            refine c_getR (t := some 10) rfl rfl rfl rfl rfl ?_
            refine w_const rfl ?_
            refine w_aload rfl rfl ?_
            refine c_getR (t := some 13) rfl rfl rfl rfl rfl ?_
            refine w_const rfl ?_
            refine w_const rfl ?_
            refine c_copy (x := 10) (y := 13) rfl rfl rfl rfl (Nat.le_of_ble_eq_true rfl) (fun a19 na19 ma19 oa19 => ?_)
            have ha19 : RC K a19 := RC.cpa ha18 na19 ma19 oa19 (fun j9 => ⟨rfl, rfl⟩)
            show f_wp _ (94, [some (.inr (.inr (some 12))), some (.inl i), some (.inl j), some (.inl 1)], [], cH a19 b v) _
            refine w_aload rfl rfl ?_
            refine w_dup rfl rfl ?_
            refine c_getI rfl rfl rfl rfl ?_
            refine w_const rfl ?_
            first | refine w_iadd rfl (by omega) (fun x20 tx20 => ?_) | refine w_iiU rfl (fun x20 tx20 => ?_)
            refine c_putI (z := false) rfl rfl rfl rfl (by first | (intro h9; cases h9; done) | (intro _; first | exact Or.inl rfl | exact Or.inr rfl | assumption | (rcases (by omega : x20.toInt = 0 ∨ x20.toInt = 1) with h8 | h8; exact Or.inl (ti_eq h8); exact Or.inr (ti_eq h8)))) (fun a21 ea21 => ?_)
            have ha21 : RC K a21 := RC.up ha19 ea21 (lc_any _ (by omega))
            have ua21 : a21 12 2 = x20 := by rw [ea21, mU_same]
            have wa21 := congrArg Int32.toInt ua21
            exact w_ret rfl ⟨a21, rfl, ha21, ⟨FR.up (FR.cp (FR.up (FR.up (FR.rf) (by first | decide | simp | (simp [cA]; omega) | (simp [cB]; omega)) ea17) (by first | decide | simp | (simp [cA]; omega) | (simp [cB]; omega)) ea18) (by first | decide | simp | (simp [cA]; omega) | (simp [cB]; omega)) na19) (by first | decide | simp | (simp [cA]; omega) | (simp [cB]; omega)) ea21, trivial⟩, rfl⟩
      · skip
        refine w_iload rfl rfl ?_
        refine w_aload rfl rfl ?_
        refine c_getI rfl rfl rfl rfl ?_
        refine w_ic_ne rfl (fun c22 => ?_) (fun c22 => ?_)
        · skip
          refine w_iload rfl rfl ?_
          refine w_aload rfl rfl ?_
          refine c_getI rfl rfl rfl rfl ?_
          refine w_ic_ge rfl (fun c23 => ?_) (fun c23 => ?_)
          · skip
            refine w_const rfl ?_
            refine w_istore (lo' := [some (.inr (.inr (some 12))), some (.inl i), some (.inl j), some (.inl 0)]) rfl rfl ?_
            refine w_aload rfl rfl ?_
            refine c_getI rfl rfl rfl rfl ?_
            refine w_if_eq rfl (fun c24 => ?_) (fun c24 => ?_)
            · skip
              refine w_aload rfl rfl ?_
              refine w_iload rfl rfl ?_
              refine c_putI (z := false) rfl rfl rfl rfl (by first | (intro h9; cases h9; done) | (intro _; first | exact Or.inl rfl | exact Or.inr rfl | assumption | (rcases (by omega : i.toInt = 0 ∨ i.toInt = 1) with h8 | h8; exact Or.inl (ti_eq h8); exact Or.inr (ti_eq h8)))) (fun a25 ea25 => ?_)
              have ha25 : RC K a25 := RC.up hR ea25 (lc_any _ (by omega))
              have ua25 : a25 12 4 = i := by rw [ea25, mU_same]
              have wa25 := congrArg Int32.toInt ua25
              have ra25_135 : (a25 12 2).toInt = (a 12 2).toInt := by rw [ea25, mU_slot (by decide)]
              have ra25_136 : (a25 12 5).toInt = (a 12 5).toInt := by rw [ea25, mU_slot (by decide)]
              refine w_aload rfl rfl ?_
              refine w_iload rfl rfl ?_
              refine c_putI (z := false) rfl rfl rfl rfl (by first | (intro h9; cases h9; done) | (intro _; first | exact Or.inl rfl | exact Or.inr rfl | assumption | (rcases (by omega : j.toInt = 0 ∨ j.toInt = 1) with h8 | h8; exact Or.inl (ti_eq h8); exact Or.inr (ti_eq h8)))) (fun a26 ea26 => ?_)
              have ha26 : RC K a26 := RC.up ha25 ea26 (lc_any _ (by omega))
              have ua26 : a26 12 5 = j := by rw [ea26, mU_same]
              have wa26 := congrArg Int32.toInt ua26
              have ra26_143 : (a26 12 2).toInt = (a25 12 2).toInt := by rw [ea26, mU_slot (by decide)]
              refine w_aload rfl rfl ?_
              refine c_getR (t := some 9) rfl rfl rfl rfl rfl ?_
              refine c_getR (t := some 10) rfl rfl rfl rfl rfl ?_
              refine w_const rfl ?_
              refine w_aload rfl rfl ?_
              refine c_getR (t := some 13) rfl rfl rfl rfl rfl ?_
              refine w_const rfl ?_
              refine w_const rfl ?_
              refine c_copy (x := 10) (y := 13) rfl rfl rfl rfl (Nat.le_of_ble_eq_true rfl) (fun a27 na27 ma27 oa27 => ?_)
              have ha27 : RC K a27 := RC.cpa ha26 na27 ma27 oa27 (fun j9 => ⟨rfl, rfl⟩)
              show f_wp _ (94, [some (.inr (.inr (some 12))), some (.inl i), some (.inl j), some (.inl 0)], [], cH a27 b v) _
              refine w_aload rfl rfl ?_
              refine w_dup rfl rfl ?_
              refine c_getI rfl rfl rfl rfl ?_
              refine w_const rfl ?_
              first | refine w_iadd rfl (by omega) (fun x28 tx28 => ?_) | refine w_iiU rfl (fun x28 tx28 => ?_)
              refine c_putI (z := false) rfl rfl rfl rfl (by first | (intro h9; cases h9; done) | (intro _; first | exact Or.inl rfl | exact Or.inr rfl | assumption | (rcases (by omega : x28.toInt = 0 ∨ x28.toInt = 1) with h8 | h8; exact Or.inl (ti_eq h8); exact Or.inr (ti_eq h8)))) (fun a29 ea29 => ?_)
              have ha29 : RC K a29 := RC.up ha27 ea29 (lc_any _ (by omega))
              have ua29 : a29 12 2 = x28 := by rw [ea29, mU_same]
              have wa29 := congrArg Int32.toInt ua29
              exact w_ret rfl ⟨a29, rfl, ha29, ⟨FR.up (FR.cp (FR.up (FR.up (FR.rf) (by first | decide | simp | (simp [cA]; omega) | (simp [cB]; omega)) ea25) (by first | decide | simp | (simp [cA]; omega) | (simp [cB]; omega)) ea26) (by first | decide | simp | (simp [cA]; omega) | (simp [cB]; omega)) na27) (by first | decide | simp | (simp [cA]; omega) | (simp [cB]; omega)) ea29, trivial⟩, rfl⟩
            · skip
              refine w_iload rfl rfl ?_
              refine w_if_eq rfl (fun c30 => ?_) (fun c30 => ?_)
              · skip
                refine w_aload rfl rfl ?_
                refine w_dup rfl rfl ?_
                refine c_getI rfl rfl rfl rfl ?_
                refine w_const rfl ?_
                first | refine w_iadd rfl (by omega) (fun x31 tx31 => ?_) | refine w_iiU rfl (fun x31 tx31 => ?_)
                refine c_putI (z := false) rfl rfl rfl rfl (by first | (intro h9; cases h9; done) | (intro _; first | exact Or.inl rfl | exact Or.inr rfl | assumption | (rcases (by omega : x31.toInt = 0 ∨ x31.toInt = 1) with h8 | h8; exact Or.inl (ti_eq h8); exact Or.inr (ti_eq h8)))) (fun a32 ea32 => ?_)
                have ha32 : RC K a32 := RC.up hR ea32 (lc_any _ (by omega))
                have ua32 : a32 12 2 = x31 := by rw [ea32, mU_same]
                have wa32 := congrArg Int32.toInt ua32
                have ra32_178 : (a32 12 4).toInt = (a 12 4).toInt := by rw [ea32, mU_slot (by decide)]
                have ra32_179 : (a32 12 5).toInt = (a 12 5).toInt := by rw [ea32, mU_slot (by decide)]
                exact w_ret rfl ⟨a32, rfl, ha32, ⟨FR.up (FR.rf) (by first | decide | simp | (simp [cA]; omega) | (simp [cB]; omega)) ea32, trivial⟩, rfl⟩
              · exfalso; omega
          · skip
            refine w_const rfl ?_
            refine w_goto rfl ?_
            refine w_istore (lo' := [some (.inr (.inr (some 12))), some (.inl i), some (.inl j), some (.inl 1)]) rfl rfl ?_
            refine w_aload rfl rfl ?_
            refine c_getI rfl rfl rfl rfl ?_
            refine w_if_eq rfl (fun c33 => ?_) (fun c33 => ?_)
            · skip
              refine w_aload rfl rfl ?_
              refine w_iload rfl rfl ?_
              refine c_putI (z := false) rfl rfl rfl rfl (by first | (intro h9; cases h9; done) | (intro _; first | exact Or.inl rfl | exact Or.inr rfl | assumption | (rcases (by omega : i.toInt = 0 ∨ i.toInt = 1) with h8 | h8; exact Or.inl (ti_eq h8); exact Or.inr (ti_eq h8)))) (fun a34 ea34 => ?_)
              have ha34 : RC K a34 := RC.up hR ea34 (lc_any _ (by omega))
              have ua34 : a34 12 4 = i := by rw [ea34, mU_same]
              have wa34 := congrArg Int32.toInt ua34
              have ra34_196 : (a34 12 2).toInt = (a 12 2).toInt := by rw [ea34, mU_slot (by decide)]
              have ra34_197 : (a34 12 5).toInt = (a 12 5).toInt := by rw [ea34, mU_slot (by decide)]
              refine w_aload rfl rfl ?_
              refine w_iload rfl rfl ?_
              refine c_putI (z := false) rfl rfl rfl rfl (by first | (intro h9; cases h9; done) | (intro _; first | exact Or.inl rfl | exact Or.inr rfl | assumption | (rcases (by omega : j.toInt = 0 ∨ j.toInt = 1) with h8 | h8; exact Or.inl (ti_eq h8); exact Or.inr (ti_eq h8)))) (fun a35 ea35 => ?_)
              have ha35 : RC K a35 := RC.up ha34 ea35 (lc_any _ (by omega))
              have ua35 : a35 12 5 = j := by rw [ea35, mU_same]
              have wa35 := congrArg Int32.toInt ua35
              have ra35_204 : (a35 12 2).toInt = (a34 12 2).toInt := by rw [ea35, mU_slot (by decide)]
              refine w_aload rfl rfl ?_
              refine c_getR (t := some 9) rfl rfl rfl rfl rfl ?_
              refine c_getR (t := some 10) rfl rfl rfl rfl rfl ?_
              refine w_const rfl ?_
              refine w_aload rfl rfl ?_
              refine c_getR (t := some 13) rfl rfl rfl rfl rfl ?_
              refine w_const rfl ?_
              refine w_const rfl ?_
              refine c_copy (x := 10) (y := 13) rfl rfl rfl rfl (Nat.le_of_ble_eq_true rfl) (fun a36 na36 ma36 oa36 => ?_)
              have ha36 : RC K a36 := RC.cpa ha35 na36 ma36 oa36 (fun j9 => ⟨rfl, rfl⟩)
              show f_wp _ (94, [some (.inr (.inr (some 12))), some (.inl i), some (.inl j), some (.inl 1)], [], cH a36 b v) _
              refine w_aload rfl rfl ?_
              refine w_dup rfl rfl ?_
              refine c_getI rfl rfl rfl rfl ?_
              refine w_const rfl ?_
              first | refine w_iadd rfl (by omega) (fun x37 tx37 => ?_) | refine w_iiU rfl (fun x37 tx37 => ?_)
              refine c_putI (z := false) rfl rfl rfl rfl (by first | (intro h9; cases h9; done) | (intro _; first | exact Or.inl rfl | exact Or.inr rfl | assumption | (rcases (by omega : x37.toInt = 0 ∨ x37.toInt = 1) with h8 | h8; exact Or.inl (ti_eq h8); exact Or.inr (ti_eq h8)))) (fun a38 ea38 => ?_)
              have ha38 : RC K a38 := RC.up ha36 ea38 (lc_any _ (by omega))
              have ua38 : a38 12 2 = x37 := by rw [ea38, mU_same]
              have wa38 := congrArg Int32.toInt ua38
              exact w_ret rfl ⟨a38, rfl, ha38, ⟨FR.up (FR.cp (FR.up (FR.up (FR.rf) (by first | decide | simp | (simp [cA]; omega) | (simp [cB]; omega)) ea34) (by first | decide | simp | (simp [cA]; omega) | (simp [cB]; omega)) ea35) (by first | decide | simp | (simp [cA]; omega) | (simp [cB]; omega)) na36) (by first | decide | simp | (simp [cA]; omega) | (simp [cB]; omega)) ea38, trivial⟩, rfl⟩
            · skip
              refine w_iload rfl rfl ?_
              refine w_if_eq rfl (fun c39 => ?_) (fun c39 => ?_)
              · exfalso; omega
              · skip
                refine w_aload rfl rfl ?_
                refine w_iload rfl rfl ?_
                refine c_putI (z := false) rfl rfl rfl rfl (by first | (intro h9; cases h9; done) | (intro _; first | exact Or.inl rfl | exact Or.inr rfl | assumption | (rcases (by omega : i.toInt = 0 ∨ i.toInt = 1) with h8 | h8; exact Or.inl (ti_eq h8); exact Or.inr (ti_eq h8)))) (fun a40 ea40 => ?_)
                have ha40 : RC K a40 := RC.up hR ea40 (lc_any _ (by omega))
                have ua40 : a40 12 4 = i := by rw [ea40, mU_same]
                have wa40 := congrArg Int32.toInt ua40
                have ra40_237 : (a40 12 2).toInt = (a 12 2).toInt := by rw [ea40, mU_slot (by decide)]
                have ra40_238 : (a40 12 5).toInt = (a 12 5).toInt := by rw [ea40, mU_slot (by decide)]
                refine w_aload rfl rfl ?_
                refine w_iload rfl rfl ?_
                refine c_putI (z := false) rfl rfl rfl rfl (by first | (intro h9; cases h9; done) | (intro _; first | exact Or.inl rfl | exact Or.inr rfl | assumption | (rcases (by omega : j.toInt = 0 ∨ j.toInt = 1) with h8 | h8; exact Or.inl (ti_eq h8); exact Or.inr (ti_eq h8)))) (fun a41 ea41 => ?_)
                have ha41 : RC K a41 := RC.up ha40 ea41 (lc_any _ (by omega))
                have ua41 : a41 12 5 = j := by rw [ea41, mU_same]
                have wa41 := congrArg Int32.toInt ua41
                have ra41_245 : (a41 12 2).toInt = (a40 12 2).toInt := by rw [ea41, mU_slot (by decide)]
                refine w_aload rfl rfl ?_
                refine c_getR (t := some 9) rfl rfl rfl rfl rfl ?_
                refine c_getR (t := some 10) rfl rfl rfl rfl rfl ?_
                refine w_const rfl ?_
                refine w_aload rfl rfl ?_
                refine c_getR (t := some 13) rfl rfl rfl rfl rfl ?_
                refine w_const rfl ?_
                refine w_const rfl ?_
                refine c_copy (x := 10) (y := 13) rfl rfl rfl rfl (Nat.le_of_ble_eq_true rfl) (fun a42 na42 ma42 oa42 => ?_)
                have ha42 : RC K a42 := RC.cpa ha41 na42 ma42 oa42 (fun j9 => ⟨rfl, rfl⟩)
                show f_wp _ (94, [some (.inr (.inr (some 12))), some (.inl i), some (.inl j), some (.inl 1)], [], cH a42 b v) _
                refine w_aload rfl rfl ?_
                refine w_dup rfl rfl ?_
                refine c_getI rfl rfl rfl rfl ?_
                refine w_const rfl ?_
                first | refine w_iadd rfl (by omega) (fun x43 tx43 => ?_) | refine w_iiU rfl (fun x43 tx43 => ?_)
                refine c_putI (z := false) rfl rfl rfl rfl (by first | (intro h9; cases h9; done) | (intro _; first | exact Or.inl rfl | exact Or.inr rfl | assumption | (rcases (by omega : x43.toInt = 0 ∨ x43.toInt = 1) with h8 | h8; exact Or.inl (ti_eq h8); exact Or.inr (ti_eq h8)))) (fun a44 ea44 => ?_)
                have ha44 : RC K a44 := RC.up ha42 ea44 (lc_any _ (by omega))
                have ua44 : a44 12 2 = x43 := by rw [ea44, mU_same]
                have wa44 := congrArg Int32.toInt ua44
                exact w_ret rfl ⟨a44, rfl, ha44, ⟨FR.up (FR.cp (FR.up (FR.up (FR.rf) (by first | decide | simp | (simp [cA]; omega) | (simp [cB]; omega)) ea40) (by first | decide | simp | (simp [cA]; omega) | (simp [cB]; omega)) ea41) (by first | decide | simp | (simp [cA]; omega) | (simp [cB]; omega)) na42) (by first | decide | simp | (simp [cA]; omega) | (simp [cB]; omega)) ea44, trivial⟩, rfl⟩
        · skip
          refine w_const rfl ?_
          refine w_istore (lo' := [some (.inr (.inr (some 12))), some (.inl i), some (.inl j), some (.inl 0)]) rfl rfl ?_
          refine w_aload rfl rfl ?_
          refine c_getI rfl rfl rfl rfl ?_
          refine w_if_eq rfl (fun c45 => ?_) (fun c45 => ?_)
          · skip
            refine w_aload rfl rfl ?_
            refine w_iload rfl rfl ?_
            refine c_putI (z := false) rfl rfl rfl rfl (by first | (intro h9; cases h9; done) | (intro _; first | exact Or.inl rfl | exact Or.inr rfl | assumption | (rcases (by omega : i.toInt = 0 ∨ i.toInt = 1) with h8 | h8; exact Or.inl (ti_eq h8); exact Or.inr (ti_eq h8)))) (fun a46 ea46 => ?_)
            have ha46 : RC K a46 := RC.up hR ea46 (lc_any _ (by omega))
            have ua46 : a46 12 4 = i := by rw [ea46, mU_same]
            have wa46 := congrArg Int32.toInt ua46
            have ra46_280 : (a46 12 2).toInt = (a 12 2).toInt := by rw [ea46, mU_slot (by decide)]
            refine w_aload rfl rfl ?_
            refine w_iload rfl rfl ?_
            refine c_putI (z := false) rfl rfl rfl rfl (by first | (intro h9; cases h9; done) | (intro _; first | exact Or.inl rfl | exact Or.inr rfl | assumption | (rcases (by omega : j.toInt = 0 ∨ j.toInt = 1) with h8 | h8; exact Or.inl (ti_eq h8); exact Or.inr (ti_eq h8)))) (fun a47 ea47 => ?_)
            have ha47 : RC K a47 := RC.up ha46 ea47 (lc_any _ (by omega))
            have ua47 : a47 12 5 = j := by rw [ea47, mU_same]
            have wa47 := congrArg Int32.toInt ua47
            have ra47_287 : (a47 12 2).toInt = (a46 12 2).toInt := by rw [ea47, mU_slot (by decide)]
            refine w_aload rfl rfl ?_
            refine c_getR (t := some 9) rfl rfl rfl rfl rfl ?_
            refine c_getR (t := some 10) rfl rfl rfl rfl rfl ?_
            refine w_const rfl ?_
            refine w_aload rfl rfl ?_
            refine c_getR (t := some 13) rfl rfl rfl rfl rfl ?_
            refine w_const rfl ?_
            refine w_const rfl ?_
            refine c_copy (x := 10) (y := 13) rfl rfl rfl rfl (Nat.le_of_ble_eq_true rfl) (fun a48 na48 ma48 oa48 => ?_)
            have ha48 : RC K a48 := RC.cpa ha47 na48 ma48 oa48 (fun j9 => ⟨rfl, rfl⟩)
            show f_wp _ (94, [some (.inr (.inr (some 12))), some (.inl i), some (.inl j), some (.inl 0)], [], cH a48 b v) _
            refine w_aload rfl rfl ?_
            refine w_dup rfl rfl ?_
            refine c_getI rfl rfl rfl rfl ?_
            refine w_const rfl ?_
            first | refine w_iadd rfl (by omega) (fun x49 tx49 => ?_) | refine w_iiU rfl (fun x49 tx49 => ?_)
            refine c_putI (z := false) rfl rfl rfl rfl (by first | (intro h9; cases h9; done) | (intro _; first | exact Or.inl rfl | exact Or.inr rfl | assumption | (rcases (by omega : x49.toInt = 0 ∨ x49.toInt = 1) with h8 | h8; exact Or.inl (ti_eq h8); exact Or.inr (ti_eq h8)))) (fun a50 ea50 => ?_)
            have ha50 : RC K a50 := RC.up ha48 ea50 (lc_any _ (by omega))
            have ua50 : a50 12 2 = x49 := by rw [ea50, mU_same]
            have wa50 := congrArg Int32.toInt ua50
            exact w_ret rfl ⟨a50, rfl, ha50, ⟨FR.up (FR.cp (FR.up (FR.up (FR.rf) (by first | decide | simp | (simp [cA]; omega) | (simp [cB]; omega)) ea46) (by first | decide | simp | (simp [cA]; omega) | (simp [cB]; omega)) ea47) (by first | decide | simp | (simp [cA]; omega) | (simp [cB]; omega)) na48) (by first | decide | simp | (simp [cA]; omega) | (simp [cB]; omega)) ea50, trivial⟩, rfl⟩
          · skip
            refine w_iload rfl rfl ?_
            refine w_if_eq rfl (fun c51 => ?_) (fun c51 => ?_)
            · skip
              refine w_aload rfl rfl ?_
              refine w_dup rfl rfl ?_
              refine c_getI rfl rfl rfl rfl ?_
              refine w_const rfl ?_
              first | refine w_iadd rfl (by omega) (fun x52 tx52 => ?_) | refine w_iiU rfl (fun x52 tx52 => ?_)
              refine c_putI (z := false) rfl rfl rfl rfl (by first | (intro h9; cases h9; done) | (intro _; first | exact Or.inl rfl | exact Or.inr rfl | assumption | (rcases (by omega : x52.toInt = 0 ∨ x52.toInt = 1) with h8 | h8; exact Or.inl (ti_eq h8); exact Or.inr (ti_eq h8)))) (fun a53 ea53 => ?_)
              have ha53 : RC K a53 := RC.up hR ea53 (lc_any _ (by omega))
              have ua53 : a53 12 2 = x52 := by rw [ea53, mU_same]
              have wa53 := congrArg Int32.toInt ua53
              have ra53_322 : (a53 12 4).toInt = (a 12 4).toInt := by rw [ea53, mU_slot (by decide)]
              exact w_ret rfl ⟨a53, rfl, ha53, ⟨FR.up (FR.rf) (by first | decide | simp | (simp [cA]; omega) | (simp [cB]; omega)) ea53, trivial⟩, rfl⟩
            · exfalso; omega
    · skip
      exact w_ret rfl ⟨a, rfl, hR, ⟨FR.rf, trivial⟩, rfl⟩
  · skip
    exact w_ret rfl ⟨a, rfl, hR, ⟨FR.rf, trivial⟩, rfl⟩
set_option maxRecDepth 4000 in
theorem s_X1_begin {K : Nat} (a : Nat → Nat → Int32) (b : Nat → Nat → Int64) (v : Nat → Option Nat)  (hR : RC K a)  : f_call mtC 1 0 [.inr (.inr (some 14))] (cH a b v) (fun v9 h' => ∃ (a' : Nat → Nat → Int32), h' = cH a' b v ∧ RC K a' ∧ (FR [16] a a' ∧ True) ∧ v9 = none) := by
  refine f_call_of (d0 := 0) rfl (Nat.le_of_ble_eq_true rfl) (fun d hd => ?_)
  show f_wp _ (0, [some (.inr (.inr (some 14))), none], [], cH a b v) _
  have l0 : (0 : Int32).toInt = 0 := rfl
  have l1 : (1 : Int32).toInt = 1 := rfl
  have l4 : (4 : Int32).toInt = 4 := rfl
  have l6 : (6 : Int32).toInt = 6 := rfl
  have l8 : (8 : Int32).toInt = 8 := rfl
  have l16 : (16 : Int32).toInt = 16 := rfl
  have l31 : (31 : Int32).toInt = 31 := rfl
  have l384 : (384 : Int32).toInt = 384 := rfl
  have l1000 : (1000 : Int32).toInt = 1000 := rfl
  refine w_const rfl ?_
  refine w_istore (lo' := [some (.inr (.inr (some 14))), some (.inl 0)]) rfl rfl ?_
  have loop2 : ∀ (ms9 : Nat) (i : Int32) (a2 : Nat → Nat → Int32) , (384 - i.toInt).toNat = ms9 → RC K a2 → FR [16] a a2 → (0 ≤ i.toInt ∧ i.toInt ≤ 384) → f_wp (f_code (t_X1_begin (f_ev mtC d))) (2, [some (.inr (.inr (some 14))), some (.inl i)], [], cH a2 b v) (fun v9 h' => ∃ (a' : Nat → Nat → Int32), h' = cH a' b v ∧ RC K a' ∧ (FR [16] a a' ∧ True) ∧ v9 = none) := by
    intro ms9
    induction ms9 using Nat.strongRecOn with
    | _ ms2 ih2 =>
      intro i a2  hm2 hR2 hF2 hi
      refine w_iload rfl rfl ?_
      refine w_aload rfl rfl ?_
      refine c_getR (t := some 16) rfl rfl rfl rfl rfl ?_
      refine c_alen (N := 384) rfl rfl (by decide) ?_
      show f_wp _ (8, [some (.inr (.inr (some 14))), some (.inl i)], .inl 384 :: [.inl i], cH a2 b v) _
      refine w_ic_ge rfl (fun c1 => ?_) (fun c1 => ?_)
      · skip
        exact w_ret rfl ⟨a2, rfl, hR2, ⟨hF2, trivial⟩, rfl⟩
      · skip
        refine w_aload rfl rfl ?_
        refine c_getR (t := some 16) rfl rfl rfl rfl rfl ?_
        refine w_iload rfl rfl ?_
        refine w_const rfl ?_
        refine c_iast rfl rfl (by omega) (fun a2 ea2 => ?_)
        have ha2 : RC K a2 := RC.up hR2 ea2 (lc_any _ (by omega))
        refine w_iinc (lo' := fun z9 => [some (.inr (.inr (some 14))), some (.inl z9)]) rfl rfl (fun _ => rfl) (by omega) (fun x3 tx3 => ?_)
        refine w_goto rfl ?_
        exact ih2 (384 - x3.toInt).toNat (by omega) x3 a2 rfl ha2 (FR.up (hF2) (by first | decide | simp | (simp [cA]; omega) | (simp [cB]; omega)) ea2) (by omega)
  exact loop2 _ 0 a rfl hR (FR.rf) (by omega)
set_option maxRecDepth 4000 in
theorem s_X1_note {K : Nat} (a : Nat → Nat → Int32) (b : Nat → Nat → Int64) (v : Nat → Option Nat) (L : Nat) (i : Int32) (j : Int32) (hR : RC K a) (hn : v 5 = some L) (hL : L = 22 ∨ L = 46) : f_call mtC 2 1 [.inr (.inr (some 14)), .inl i, .inl j] (cH a b v) (fun v9 h' => ∃ (a' : Nat → Nat → Int32), h' = cH a' b v ∧ RC K a' ∧ (FR [14, 15, 16] a a' ∧ True) ∧ v9 = none) := by
  refine f_call_of (d0 := 1) rfl (Nat.le_of_ble_eq_true rfl) (fun d hd => ?_)
  show f_wp _ (0, [some (.inr (.inr (some 14))), some (.inl i), some (.inl j), none, none], [], cH a b v) _
  have lm2 : (-2 : Int32).toInt = -2 := rfl
  have l0 : (0 : Int32).toInt = 0 := rfl
  have l1 : (1 : Int32).toInt = 1 := rfl
  have l64 : (64 : Int32).toInt = 64 := rfl
  refine w_const rfl ?_
  refine w_istore (lo' := [some (.inr (.inr (some 14))), some (.inl i), some (.inl j), some (.inl 0), none]) rfl rfl ?_
  have loop2 : ∀ (ms9 : Nat) (k : Int32) (o4_2 : Option f_V), (10 - k.toInt).toNat = ms9 → (0 ≤ k.toInt ∧ k.toInt ≤ 10) → f_wp (f_code (t_X1_note (f_ev mtC d))) (2, [some (.inr (.inr (some 14))), some (.inl i), some (.inl j), some (.inl k), o4_2], [], cH a b v) (fun v9 h' => ∃ (a' : Nat → Nat → Int32), h' = cH a' b v ∧ RC K a' ∧ (FR [14, 15, 16] a a' ∧ True) ∧ v9 = none) := by
    intro ms9
    induction ms9 using Nat.strongRecOn with
    | _ ms2 ih2 =>
      intro k o4_2 hm2 hk
      refine w_iload rfl rfl ?_
      refine w_aload rfl rfl ?_
      refine c_getR (t := some 70) rfl rfl rfl rfl rfl ?_
      refine c_getI rfl rfl rfl rfl ?_
      have q1 : 0 ≤ (a 70 9).toInt ∧ (a 70 9).toInt ≤ 10 := RC.tol hR (by omega)
      refine w_ic_ge rfl (fun c2 => ?_) (fun c2 => ?_)
      · skip
        refine w_const rfl ?_
        refine w_istore (lo' := [some (.inr (.inr (some 14))), some (.inl i), some (.inl j), some (.inl 0), o4_2]) rfl rfl ?_
        have loop74 : ∀ (ms9 : Nat) (r : Int32) (a74 : Nat → Nat → Int32) , (6 - r.toInt).toNat = ms9 → RC K a74 → FR [14, 15, 16] a a74 → (0 ≤ r.toInt ∧ r.toInt ≤ 6) → f_wp (f_code (t_X1_note (f_ev mtC d))) (74, [some (.inr (.inr (some 14))), some (.inl i), some (.inl j), some (.inl r), o4_2], [], cH a74 b v) (fun v9 h' => ∃ (a' : Nat → Nat → Int32), h' = cH a' b v ∧ RC K a' ∧ (FR [14, 15, 16] a a' ∧ True) ∧ v9 = none) := by
          intro ms9
          induction ms9 using Nat.strongRecOn with
          | _ ms74 ih74 =>
            intro r a74  hm74 hR74 hF74 hr
            refine w_iload rfl rfl ?_
            refine w_aload rfl rfl ?_
            refine c_getR (t := some 9) rfl rfl rfl rfl rfl ?_
            refine c_getR (t := some L) rfl rfl rfl rfl hn ?_
            refine c_getI rfl (sh_land (by omega)) rfl rfl ?_
            have q3 : 0 ≤ (a74 L 7).toInt ∧ (a74 L 7).toInt ≤ 6 := RC.riv hR74 (by omega)
            refine w_ic_ge rfl (fun c4 => ?_) (fun c4 => ?_)
            · skip
              refine w_aload rfl rfl ?_
              refine w_dup rfl rfl ?_
              refine c_getI rfl rfl rfl rfl ?_
              refine w_const rfl ?_
              first | refine w_iadd rfl (by omega) (fun x5 tx5 => ?_) | refine w_iiU rfl (fun x5 tx5 => ?_)
              refine c_putI (z := false) rfl rfl rfl rfl (by first | (intro h9; cases h9; done) | (intro _; first | exact Or.inl rfl | exact Or.inr rfl | assumption | (rcases (by omega : x5.toInt = 0 ∨ x5.toInt = 1) with h8 | h8; exact Or.inl (ti_eq h8); exact Or.inr (ti_eq h8)))) (fun a6 ea6 => ?_)
              have ha6 : RC K a6 := RC.up hR74 ea6 (lc_any _ (by omega))
              have ua6 : a6 14 2 = x5 := by rw [ea6, mU_same]
              have wa6 := congrArg Int32.toInt ua6
              have ra6_46 : (a6 L 7).toInt = (a74 L 7).toInt := by rw [ea6, mU_cell (by omega)]
              exact w_ret rfl ⟨a6, rfl, ha6, ⟨FR.up (hF74) (by first | decide | simp | (simp [cA]; omega) | (simp [cB]; omega)) ea6, trivial⟩, rfl⟩
            · skip
              refine w_aload rfl rfl ?_
              refine c_getR (t := some 16) rfl rfl rfl rfl rfl ?_
              refine w_iload rfl rfl ?_
              refine w_const rfl ?_
              first | refine w_imulR rfl (c := 64) rfl (by omega) (fun x7 tx7 => ?_) | refine w_iiU rfl (fun x7 tx7 => ?_)
              refine w_aload rfl rfl ?_
              refine c_getR (t := some 9) rfl rfl rfl rfl rfl ?_
              refine c_getR (t := some 11) rfl rfl rfl rfl rfl ?_
              refine w_iload rfl rfl ?_
              refine c_iald rfl rfl (by omega) (fun x8 ex8 => ?_)
              have qx8 : 0 ≤ x8.toInt ∧ x8.toInt ≤ 63 := by rw [ex8]; exact RC.who hR74 _
              first | refine w_iadd rfl (by omega) (fun x9 tx9 => ?_) | refine w_iiU rfl (fun x9 tx9 => ?_)
              refine w_dup2 rfl ⟨rfl, rfl⟩ ?_
              refine c_iald rfl rfl (by omega) (fun x10 ex10 => ?_)
              refine w_const rfl ?_
              first | refine w_iadd rfl (by omega) (fun x11 tx11 => ?_) | refine w_iiU rfl (fun x11 tx11 => ?_)
              refine c_iast rfl rfl (by omega) (fun a12 ea12 => ?_)
              have ha12 : RC K a12 := RC.up hR74 ea12 (lc_any _ (by omega))
              have ra12_67 : (a12 L 7).toInt = (a74 L 7).toInt := by rw [ea12, mU_cell (by omega)]
              have loop162 : ∀ (ms9 : Nat)  (a162 : Nat → Nat → Int32) , ((0 : Int)).toNat = ms9 → RC K a162 → FR [14, 15, 16] a a162 →  f_wp (f_code (t_X1_note (f_ev mtC d))) (162, [some (.inr (.inr (some 14))), some (.inl i), some (.inl j), some (.inl r), o4_2], [], cH a162 b v) (fun v9 h' => ∃ (a' : Nat → Nat → Int32), h' = cH a' b v ∧ RC K a' ∧ (FR [14, 15, 16] a a' ∧ True) ∧ v9 = none) := by
                intro ms9
                induction ms9 using Nat.strongRecOn with
                | _ ms162 ih162 =>
                  intro  a162  hm162 hR162 hF162 
                  refine w_iinc (lo' := fun z9 => [some (.inr (.inr (some 14))), some (.inl i), some (.inl j), some (.inl z9), o4_2]) rfl rfl (fun _ => rfl) (by omega) (fun x13 tx13 => ?_)
                  refine w_goto rfl ?_
                  exact ih74 (6 - x13.toInt).toNat (by omega) x13 a162 rfl hR162 (hF162) (by omega)
              refine w_aload rfl rfl ?_
              refine c_getI rfl rfl rfl rfl ?_
              refine w_if_ne rfl (fun c14 => ?_) (fun c14 => ?_)
              · skip
                refine w_aload rfl rfl ?_
                refine c_getR (t := some 15) rfl rfl rfl rfl rfl ?_
                refine w_iload rfl rfl ?_
                refine w_aload rfl rfl ?_
                refine c_getR (t := some 9) rfl rfl rfl rfl rfl ?_
                refine c_getR (t := some 10) rfl rfl rfl rfl rfl ?_
                refine w_iload rfl rfl ?_
                refine c_iald rfl rfl (by omega) (fun x15 ex15 => ?_)
                refine c_iast rfl rfl (by omega) (fun a16 ea16 => ?_)
                have ha16 : RC K a16 := RC.up ha12 ea16 (lc_any _ (by omega))
                have ra16_90 : (a16 14 2).toInt = (a12 14 2).toInt := by rw [ea16, mU_cell (by omega)]
                have ra16_91 : (a16 L 7).toInt = (a12 L 7).toInt := by rw [ea16, mU_cell (by omega)]
                refine w_goto rfl ?_
                exact loop162 _ a16 rfl ha16 (FR.up (FR.up (hF74) (by first | decide | simp | (simp [cA]; omega) | (simp [cB]; omega)) ea12) (by first | decide | simp | (simp [cA]; omega) | (simp [cB]; omega)) ea16) 
              · skip
                refine w_aload rfl rfl ?_
                refine c_getR (t := some 15) rfl rfl rfl rfl rfl ?_
                refine w_iload rfl rfl ?_
                refine c_iald rfl rfl (by omega) (fun x17 ex17 => ?_)
                refine w_aload rfl rfl ?_
                refine c_getR (t := some 9) rfl rfl rfl rfl rfl ?_
                refine c_getR (t := some 10) rfl rfl rfl rfl rfl ?_
                refine w_iload rfl rfl ?_
                refine c_iald rfl rfl (by omega) (fun x18 ex18 => ?_)
                refine w_ic_eq rfl (fun c19 => ?_) (fun c19 => ?_)
                · skip
                  exact loop162 _ a12 rfl ha12 (FR.up (hF74) (by first | decide | simp | (simp [cA]; omega) | (simp [cB]; omega)) ea12) 
                · skip
                  refine w_aload rfl rfl ?_
                  refine c_getR (t := some 15) rfl rfl rfl rfl rfl ?_
                  refine w_iload rfl rfl ?_
                  refine w_const rfl ?_
                  refine c_iast rfl rfl (by omega) (fun a20 ea20 => ?_)
                  have ha20 : RC K a20 := RC.up ha12 ea20 (lc_any _ (by omega))
                  have ra20_114 : (a20 14 2).toInt = (a12 14 2).toInt := by rw [ea20, mU_cell (by omega)]
                  have ra20_115 : (a20 L 7).toInt = (a12 L 7).toInt := by rw [ea20, mU_cell (by omega)]
                  exact loop162 _ a20 rfl ha20 (FR.up (FR.up (hF74) (by first | decide | simp | (simp [cA]; omega) | (simp [cB]; omega)) ea12) (by first | decide | simp | (simp [cA]; omega) | (simp [cB]; omega)) ea20) 
        exact loop74 _ 0 a rfl hR (FR.rf) (by omega)
      · skip
        refine w_aload rfl rfl ?_
        refine c_getR (t := some 9) rfl rfl rfl rfl rfl ?_
        refine c_getR (t := some L) rfl rfl rfl rfl hn ?_
        refine w_aload rfl rfl ?_
        refine c_getR (t := some 9) rfl rfl rfl rfl rfl ?_
        refine c_getR (t := some 11) rfl rfl rfl rfl rfl ?_
        refine w_aload rfl rfl ?_
        refine c_getR (t := some 70) rfl rfl rfl rfl rfl ?_
        refine c_getR (t := some 75) rfl rfl rfl rfl rfl ?_
        refine w_iload rfl rfl ?_
        refine c_iald rfl rfl (by omega) (fun x21 ex21 => ?_)
        have qx21 : 0 ≤ x21.toInt ∧ x21.toInt ≤ 5 := by rw [ex21]; exact RC.tri hR _ (by omega)
        refine c_iald rfl rfl (by omega) (fun x22 ex22 => ?_)
        have qx22 : 0 ≤ x22.toInt ∧ x22.toInt ≤ 63 := by rw [ex22]; exact RC.who hR _
        refine w_aload rfl rfl ?_
        refine c_getR (t := some 70) rfl rfl rfl rfl rfl ?_
        refine c_getR (t := some 76) rfl rfl rfl rfl rfl ?_
        refine w_iload rfl rfl ?_
        refine c_iald rfl rfl (by omega) (fun x23 ex23 => ?_)
        refine w_invV (rest := []) rfl rfl (sh_land (by omega)) rfl rfl (Nat.le_of_ble_eq_true rfl) rfl (by omega) (s_X3_water (K := K) a b v  L x22 x23 hR  (by omega)) (fun z24 h9 hq25 => ?_)
        obtain ⟨rfl, x26, rfl, px26⟩ := hq25
        show f_wp _ (49, [some (.inr (.inr (some 14))), some (.inl i), some (.inl j), some (.inl k), o4_2], [.inl x26], cH a b v) _
        refine w_istore (lo' := [some (.inr (.inr (some 14))), some (.inl i), some (.inl j), some (.inl k), some (.inl x26)]) rfl rfl ?_
        refine w_iload rfl rfl ?_
        refine w_aload rfl rfl ?_
        refine c_getR (t := some 70) rfl rfl rfl rfl rfl ?_
        refine c_getR (t := some 77) rfl rfl rfl rfl rfl ?_
        refine w_iload rfl rfl ?_
        refine c_iald rfl rfl (by omega) (fun x27 ex27 => ?_)
        refine w_ic_eq rfl (fun c28 => ?_) (fun c28 => ?_)
        · skip
          refine w_iinc (lo' := fun z9 => [some (.inr (.inr (some 14))), some (.inl i), some (.inl j), some (.inl z9), some (.inl x26)]) rfl rfl (fun _ => rfl) (by omega) (fun x29 tx29 => ?_)
          refine w_goto rfl ?_
          exact ih2 (10 - x29.toInt).toNat (by omega) x29 (some (.inl x26)) rfl  (by omega)
        · skip
          exact w_ret rfl ⟨a, rfl, hR, ⟨FR.rf, trivial⟩, rfl⟩
  exact loop2 _ 0 none rfl  (by omega)
set_option maxRecDepth 4000 in
theorem s_X1_alike {K : Nat} (a : Nat → Nat → Int32) (b : Nat → Nat → Int64) (v : Nat → Option Nat) (L : Nat) (i : Int32) (j : Int32) (k : Int32) (hR : RC K a) (hn : v 5 = some L) (hL : L = 22 ∨ L = 46) (hi : 0 ≤ i.toInt ∧ i.toInt ≤ 5) : f_call mtC 2 4 [.inr (.inr (some 14)), .inl i, .inl j, .inl k] (cH a b v) (fun v9 h' => h' = cH a b v ∧ ∃ x : Int32, v9 = some (.inl x) ∧ True) := by
  refine f_call_of (d0 := 1) rfl (Nat.le_of_ble_eq_true rfl) (fun d hd => ?_)
  show f_wp _ (0, [some (.inr (.inr (some 14))), some (.inl i), some (.inl j), some (.inl k), none, none], [], cH a b v) _
  have l0 : (0 : Int32).toInt = 0 := rfl
  have l1 : (1 : Int32).toInt = 1 := rfl
  have l64 : (64 : Int32).toInt = 64 := rfl
  refine w_const rfl ?_
  refine w_istore (lo' := [some (.inr (.inr (some 14))), some (.inl i), some (.inl j), some (.inl k), some (.inl 0), none]) rfl rfl ?_
  refine w_const rfl ?_
  refine w_istore (lo' := [some (.inr (.inr (some 14))), some (.inl i), some (.inl j), some (.inl k), some (.inl 0), some (.inl 0)]) rfl rfl ?_
  have loop6 : ∀ (ms9 : Nat) (su : Int32) (m : Int32) , (64 - m.toInt).toNat = ms9 → (0 ≤ m.toInt ∧ m.toInt ≤ 64) → f_wp (f_code (t_X1_alike (f_ev mtC d))) (6, [some (.inr (.inr (some 14))), some (.inl i), some (.inl j), some (.inl k), some (.inl su), some (.inl m)], [], cH a b v) (fun v9 h' => h' = cH a b v ∧ ∃ x : Int32, v9 = some (.inl x) ∧ True) := by
    intro ms9
    induction ms9 using Nat.strongRecOn with
    | _ ms6 ih6 =>
      intro su m  hm6 hm
      refine w_iload rfl rfl ?_
      refine w_aload rfl rfl ?_
      refine c_getR (t := some 9) rfl rfl rfl rfl rfl ?_
      refine c_getR (t := some L) rfl rfl rfl rfl hn ?_
      refine w_invV (rest := [.inl m]) rfl rfl (sh_land (by omega)) rfl rfl (Nat.le_of_ble_eq_true rfl) rfl (by omega) (s_X3_all_1 (K := K) a b v  L hR  (by omega)) (fun z1 h9 hq2 => ?_)
      obtain ⟨rfl, x3, rfl, px3⟩ := hq2
      show f_wp _ (18, [some (.inr (.inr (some 14))), some (.inl i), some (.inl j), some (.inl k), some (.inl su), some (.inl m)], [.inl x3, .inl m], cH a b v) _
      have b9 := px3
      refine w_ic_gt rfl (fun c4 => ?_) (fun c4 => ?_)
      · skip
        refine w_iload rfl rfl ?_
        exact wp_iret (z := false) rfl (fun h9 => by cases h9) ⟨rfl, ⟨_, rfl, trivial⟩⟩
      · skip
        refine w_aload rfl rfl ?_
        refine c_getR (t := some 9) rfl rfl rfl rfl rfl ?_
        refine c_getR (t := some L) rfl rfl rfl rfl hn ?_
        refine w_iload rfl rfl ?_
        refine w_iload rfl rfl ?_
        refine w_invV (rest := []) rfl rfl (sh_land (by omega)) rfl rfl (Nat.le_of_ble_eq_true rfl) rfl (by omega) (s_X3_water (K := K) a b v  L m j hR  (by omega)) (fun z5 h9 hq6 => ?_)
        obtain ⟨rfl, x7, rfl, px7⟩ := hq6
        show f_wp _ (34, [some (.inr (.inr (some 14))), some (.inl i), some (.inl j), some (.inl k), some (.inl su), some (.inl m)], [.inl x7], cH a b v) _
        refine w_iload rfl rfl ?_
        refine w_ic_ne rfl (fun c8 => ?_) (fun c8 => ?_)
        · skip
          refine w_iload rfl rfl ?_
          refine w_aload rfl rfl ?_
          refine c_getR (t := some 16) rfl rfl rfl rfl rfl ?_
          refine w_iload rfl rfl ?_
          refine w_const rfl ?_
          first | refine w_imulR rfl (c := 64) rfl (by omega) (fun x9 tx9 => ?_) | refine w_iiU rfl (fun x9 tx9 => ?_)
          refine w_iload rfl rfl ?_
          first | refine w_iadd rfl (by omega) (fun x10 tx10 => ?_) | refine w_iiU rfl (fun x10 tx10 => ?_)
          refine c_iald rfl rfl (by omega) (fun x11 ex11 => ?_)
          first | refine w_iadd rfl (by omega) (fun x12 tx12 => ?_) | refine w_iiU rfl (fun x12 tx12 => ?_)
          refine w_istore (lo' := [some (.inr (.inr (some 14))), some (.inl i), some (.inl j), some (.inl k), some (.inl x12), some (.inl m)]) rfl rfl ?_
          refine w_iinc (lo' := fun z9 => [some (.inr (.inr (some 14))), some (.inl i), some (.inl j), some (.inl k), some (.inl x12), some (.inl z9)]) rfl rfl (fun _ => rfl) (by omega) (fun x13 tx13 => ?_)
          refine w_goto rfl ?_
          exact ih6 (64 - x13.toInt).toNat (by omega) x12 x13 rfl  (by omega)
        · skip
          refine w_iinc (lo' := fun z9 => [some (.inr (.inr (some 14))), some (.inl i), some (.inl j), some (.inl k), some (.inl su), some (.inl z9)]) rfl rfl (fun _ => rfl) (by omega) (fun x14 tx14 => ?_)
          refine w_goto rfl ?_
          exact ih6 (64 - x14.toInt).toNat (by omega) su x14 rfl  (by omega)
  exact loop6 _ 0 0 rfl  (by omega)
set_option maxRecDepth 4000 in
theorem s_X1_mostAlike {K : Nat} (a : Nat → Nat → Int32) (b : Nat → Nat → Int64) (v : Nat → Option Nat) (L : Nat) (i : Int32) (j : Int32) (hR : RC K a) (hn : v 5 = some L) (hL : L = 22 ∨ L = 46) (hi : 0 ≤ i.toInt ∧ i.toInt ≤ 5) : f_call mtC 3 3 [.inr (.inr (some 14)), .inl i, .inl j] (cH a b v) (fun v9 h' => h' = cH a b v ∧ ∃ x : Int32, v9 = some (.inl x) ∧ True) := by
  refine f_call_of (d0 := 2) rfl (Nat.le_of_ble_eq_true rfl) (fun d hd => ?_)
  show f_wp _ (0, [some (.inr (.inr (some 14))), some (.inl i), some (.inl j), none, none], [], cH a b v) _
  have l0 : (0 : Int32).toInt = 0 := rfl
  have l1 : (1 : Int32).toInt = 1 := rfl
  have l64 : (64 : Int32).toInt = 64 := rfl
  refine w_const rfl ?_
  refine w_istore (lo' := [some (.inr (.inr (some 14))), some (.inl i), some (.inl j), some (.inl 0), none]) rfl rfl ?_
  refine w_const rfl ?_
  refine w_istore (lo' := [some (.inr (.inr (some 14))), some (.inl i), some (.inl j), some (.inl 0), some (.inl 0)]) rfl rfl ?_
  have loop5 : ∀ (ms9 : Nat) (mo : Int32) (m : Int32) , (64 - m.toInt).toNat = ms9 → (0 ≤ m.toInt ∧ m.toInt ≤ 64) → f_wp (f_code (t_X1_mostAlike (f_ev mtC d))) (5, [some (.inr (.inr (some 14))), some (.inl i), some (.inl j), some (.inl mo), some (.inl m)], [], cH a b v) (fun v9 h' => h' = cH a b v ∧ ∃ x : Int32, v9 = some (.inl x) ∧ True) := by
    intro ms9
    induction ms9 using Nat.strongRecOn with
    | _ ms5 ih5 =>
      intro mo m  hm5 hm
      refine w_iload rfl rfl ?_
      refine w_aload rfl rfl ?_
      refine c_getR (t := some 9) rfl rfl rfl rfl rfl ?_
      refine c_getR (t := some L) rfl rfl rfl rfl hn ?_
      refine w_invV (rest := [.inl m]) rfl rfl (sh_land (by omega)) rfl rfl (Nat.le_of_ble_eq_true rfl) rfl (by omega) (s_X3_all_1 (K := K) a b v  L hR  (by omega)) (fun z1 h9 hq2 => ?_)
      obtain ⟨rfl, x3, rfl, px3⟩ := hq2
      show f_wp _ (17, [some (.inr (.inr (some 14))), some (.inl i), some (.inl j), some (.inl mo), some (.inl m)], [.inl x3, .inl m], cH a b v) _
      have b9 := px3
      refine w_ic_gt rfl (fun c4 => ?_) (fun c4 => ?_)
      · skip
        refine w_iload rfl rfl ?_
        exact wp_iret (z := false) rfl (fun h9 => by cases h9) ⟨rfl, ⟨_, rfl, trivial⟩⟩
      · skip
        refine w_aload rfl rfl ?_
        refine c_getR (t := some 16) rfl rfl rfl rfl rfl ?_
        refine w_iload rfl rfl ?_
        refine w_const rfl ?_
        first | refine w_imulR rfl (c := 64) rfl (by omega) (fun x5 tx5 => ?_) | refine w_iiU rfl (fun x5 tx5 => ?_)
        refine w_iload rfl rfl ?_
        first | refine w_iadd rfl (by omega) (fun x6 tx6 => ?_) | refine w_iiU rfl (fun x6 tx6 => ?_)
        refine c_iald rfl rfl (by omega) (fun x7 ex7 => ?_)
        refine w_if_le rfl (fun c8 => ?_) (fun c8 => ?_)
        · skip
          refine w_iinc (lo' := fun z9 => [some (.inr (.inr (some 14))), some (.inl i), some (.inl j), some (.inl mo), some (.inl z9)]) rfl rfl (fun _ => rfl) (by omega) (fun x9 tx9 => ?_)
          refine w_goto rfl ?_
          exact ih5 (64 - x9.toInt).toNat (by omega) mo x9 rfl  (by omega)
        · skip
          refine w_iload rfl rfl ?_
          refine w_aload rfl rfl ?_
          refine w_iload rfl rfl ?_
          refine w_iload rfl rfl ?_
          refine w_aload rfl rfl ?_
          refine c_getR (t := some 9) rfl rfl rfl rfl rfl ?_
          refine c_getR (t := some L) rfl rfl rfl rfl hn ?_
          refine w_iload rfl rfl ?_
          refine w_iload rfl rfl ?_
          refine w_invV (rest := [.inl j, .inl i, .inr (.inr (some 14)), .inl mo]) rfl rfl (sh_land (by omega)) rfl rfl (Nat.le_of_ble_eq_true rfl) rfl (by omega) (s_X3_water (K := K) a b v  L m j hR  (by omega)) (fun z10 h9 hq11 => ?_)
          obtain ⟨rfl, x12, rfl, px12⟩ := hq11
          show f_wp _ (52, [some (.inr (.inr (some 14))), some (.inl i), some (.inl j), some (.inl mo), some (.inl m)], [.inl x12, .inl j, .inl i, .inr (.inr (some 14)), .inl mo], cH a b v) _
          refine w_invV (rest := [.inl mo]) rfl rfl rfl rfl rfl (Nat.le_of_ble_eq_true rfl) rfl (by omega) (s_X1_alike (K := K) a b v L i j x12 hR  (hn) (by omega) (by omega)) (fun z13 h9 hq14 => ?_)
          obtain ⟨rfl, x15, rfl, px15⟩ := hq14
          show f_wp _ (55, [some (.inr (.inr (some 14))), some (.inl i), some (.inl j), some (.inl mo), some (.inl m)], [.inl x15, .inl mo], cH a b v) _
          refine c_mmax rfl (Nat.le_of_ble_eq_true rfl) (fun x16 tx16 => ?_)
          refine w_istore (lo' := [some (.inr (.inr (some 14))), some (.inl i), some (.inl j), some (.inl x16), some (.inl m)]) rfl rfl ?_
          refine w_iinc (lo' := fun z9 => [some (.inr (.inr (some 14))), some (.inl i), some (.inl j), some (.inl x16), some (.inl z9)]) rfl rfl (fun _ => rfl) (by omega) (fun x17 tx17 => ?_)
          refine w_goto rfl ?_
          exact ih5 (64 - x17.toInt).toNat (by omega) x16 x17 rfl  (by omega)
  exact loop5 _ 0 0 rfl  (by omega)
set_option maxRecDepth 4000 in
theorem s_X1_end {K : Nat} (a : Nat → Nat → Int32) (b : Nat → Nat → Int64) (v : Nat → Option Nat) (L : Nat)  (hR : RC K a) (hn : v 5 = some L) (hL : L = 22 ∨ L = 46) : f_call mtC 4 2 [.inr (.inr (some 14))] (cH a b v) (fun v9 h' => ∃ (a' : Nat → Nat → Int32), h' = cH a' b v ∧ RC K a' ∧ (FR [14] a a' ∧ True) ∧ v9 = none) := by
  refine f_call_of (d0 := 3) rfl (Nat.le_of_ble_eq_true rfl) (fun d hd => ?_)
  show f_wp _ (0, [some (.inr (.inr (some 14))), none, none, none], [], cH a b v) _
  have lm1 : (-1 : Int32).toInt = -1 := rfl
  have l0 : (0 : Int32).toInt = 0 := rfl
  have l1 : (1 : Int32).toInt = 1 := rfl
  have l4 : (4 : Int32).toInt = 4 := rfl
  refine w_aload rfl rfl ?_
  refine w_const rfl ?_
  refine c_putI (z := false) rfl rfl rfl rfl (by first | (intro h9; cases h9; done) | (intro _; first | exact Or.inl rfl | exact Or.inr rfl | assumption | (rcases (by omega : ((-1) : Int32).toInt = 0 ∨ ((-1) : Int32).toInt = 1) with h8 | h8; exact Or.inl (ti_eq h8); exact Or.inr (ti_eq h8)))) (fun a1 ea1 => ?_)
  have ha1 : RC K a1 := RC.up hR ea1 (lc_any _ (by omega))
  have ua1 : a1 14 4 = ((-1) : Int32) := by rw [ea1, mU_same]
  have wa1 := congrArg Int32.toInt ua1
  refine w_aload rfl rfl ?_
  refine c_getI rfl rfl rfl rfl ?_
  refine w_istore (lo' := [some (.inr (.inr (some 14))), some (.inl (a1 14 2)), none, none]) rfl rfl ?_
  refine w_const rfl ?_
  refine w_istore (lo' := [some (.inr (.inr (some 14))), some (.inl (a1 14 2)), some (.inl 0), none]) rfl rfl ?_
  have loop12 : ∀ (ms9 : Nat) (le : Int32) (k : Int32) (a12 : Nat → Nat → Int32) (o3_12 : Option f_V), (24 - k.toInt).toNat = ms9 → RC K a12 → FR [14] a a12 → (0 ≤ k.toInt ∧ k.toInt ≤ 24) → f_wp (f_code (t_X1_end (f_ev mtC d))) (12, [some (.inr (.inr (some 14))), some (.inl le), some (.inl k), o3_12], [], cH a12 b v) (fun v9 h' => ∃ (a' : Nat → Nat → Int32), h' = cH a' b v ∧ RC K a' ∧ (FR [14] a a' ∧ True) ∧ v9 = none) := by
    intro ms9
    induction ms9 using Nat.strongRecOn with
    | _ ms12 ih12 =>
      intro le k a12 o3_12 hm12 hR12 hF12 hk
      refine w_iload rfl rfl ?_
      refine w_aload rfl rfl ?_
      refine c_getR (t := some 9) rfl rfl rfl rfl rfl ?_
      refine c_getR (t := some L) rfl rfl rfl rfl hn ?_
      refine c_getI rfl (sh_land (by omega)) rfl rfl ?_
      have q2 : 0 ≤ (a12 L 7).toInt ∧ (a12 L 7).toInt ≤ 6 := RC.riv hR12 (by omega)
      refine w_const rfl ?_
      first | refine w_imulR rfl (c := 4) rfl (by omega) (fun x3 tx3 => ?_) | refine w_iiU rfl (fun x3 tx3 => ?_)
      refine w_ic_ge rfl (fun c4 => ?_) (fun c4 => ?_)
      · skip
        exact w_ret rfl ⟨a12, rfl, hR12, ⟨hF12, trivial⟩, rfl⟩
      · skip
        refine w_aload rfl rfl ?_
        refine w_iload rfl rfl ?_
        refine w_const rfl ?_
        first | refine w_idiv (c := 4) rfl rfl (by decide) (by omega) (fun x5 tx5 => ?_) | refine w_iidE rfl (by omega) (fun x5 tx5 => ?_)
        refine w_iload rfl rfl ?_
        refine w_const rfl ?_
        first | refine w_irem (c := 4) rfl rfl (by decide) (by omega) (fun x6 tx6 => ?_) | refine w_iidE rfl (by omega) (fun x6 tx6 => ?_)
        refine w_invV (rest := []) rfl rfl rfl rfl rfl (Nat.le_of_ble_eq_true rfl) rfl (by omega) (s_X1_mostAlike (K := K) a12 b v L x5 x6 hR12  (hn) (by omega) (by omega)) (fun z7 h9 hq8 => ?_)
        obtain ⟨rfl, x9, rfl, px9⟩ := hq8
        show f_wp _ (38, [some (.inr (.inr (some 14))), some (.inl le), some (.inl k), o3_12], [.inl x9], cH a12 b v) _
        refine w_istore (lo' := [some (.inr (.inr (some 14))), some (.inl le), some (.inl k), some (.inl x9)]) rfl rfl ?_
        refine w_iload rfl rfl ?_
        refine w_iload rfl rfl ?_
        refine w_ic_ge rfl (fun c10 => ?_) (fun c10 => ?_)
        · skip
          refine w_iinc (lo' := fun z9 => [some (.inr (.inr (some 14))), some (.inl le), some (.inl z9), some (.inl x9)]) rfl rfl (fun _ => rfl) (by omega) (fun x11 tx11 => ?_)
          refine w_goto rfl ?_
          exact ih12 (24 - x11.toInt).toNat (by omega) le x11 a12 (some (.inl x9)) rfl hR12 (hF12) (by omega)
        · skip
          refine w_iload rfl rfl ?_
          refine w_istore (lo' := [some (.inr (.inr (some 14))), some (.inl x9), some (.inl k), some (.inl x9)]) rfl rfl ?_
          refine w_aload rfl rfl ?_
          refine w_iload rfl rfl ?_
          refine c_putI (z := false) rfl rfl rfl rfl (by first | (intro h9; cases h9; done) | (intro _; first | exact Or.inl rfl | exact Or.inr rfl | assumption | (rcases (by omega : k.toInt = 0 ∨ k.toInt = 1) with h8 | h8; exact Or.inl (ti_eq h8); exact Or.inr (ti_eq h8)))) (fun a12 ea12 => ?_)
          have ha12 : RC K a12 := RC.up hR12 ea12 (lc_any _ (by omega))
          have ua12 : a12 14 4 = k := by rw [ea12, mU_same]
          have wa12 := congrArg Int32.toInt ua12
          have ra12_63 : (a12 L 7).toInt = (a12 L 7).toInt := by rw [ea12, mU_cell (by omega)]
          refine w_iinc (lo' := fun z9 => [some (.inr (.inr (some 14))), some (.inl x9), some (.inl z9), some (.inl x9)]) rfl rfl (fun _ => rfl) (by omega) (fun x13 tx13 => ?_)
          refine w_goto rfl ?_
          exact ih12 (24 - x13.toInt).toNat (by omega) x9 x13 a12 (some (.inl x9)) rfl ha12 (FR.up (hF12) (by first | decide | simp | (simp [cA]; omega) | (simp [cB]; omega)) ea12) (by omega)
  exact loop12 _ (a1 14 2) 0 a1 none rfl ha1 (FR.up (FR.rf) (by first | decide | simp | (simp [cA]; omega) | (simp [cB]; omega)) ea1) (by omega)
set_option maxRecDepth 4000 in
theorem s_X10_search_M_n {K L : Nat} : ∀ (n : Nat) (a : Nat → Nat → Int32) (b : Nat → Nat → Int64) (v : Nat → Option Nat) (w dg wd : Int32), RC K a → v 5 = some L → (L = 22 ∨ L = 46) → 0 ≤ w.toInt ∧ w.toInt ≤ 6 → (6 - w.toInt).toNat = n → f_call mtC (n + 6) 95 [.inr (.inr (some 12)), .inl w, .inl dg, .inl wd] (cH a b v) (fun v9 h' => ∃ (a' : Nat → Nat → Int32), h' = cH a' b v ∧ RC K a' ∧ (FR [10, 11, 12, 13] a a' ∧ True) ∧ v9 = none) := by
  intro n
  induction n using Nat.strongRecOn with
  | _ n ih =>
  intro a b v w dg wd hR hn hL hw hm
  refine f_call_of (d0 := n + 5) rfl (Nat.le_of_ble_eq_true rfl) (fun d hd => ?_)
  show f_wp _ (0, [some (.inr (.inr (some 12))), some (.inl w), some (.inl dg), some (.inl wd), none], [], cH a b v) _
  have l0 : (0 : Int32).toInt = 0 := rfl
  have l1 : (1 : Int32).toInt = 1 := rfl
  refine w_iload rfl rfl ?_
  refine w_aload rfl rfl ?_
  refine c_getR (t := some 9) rfl rfl rfl rfl rfl ?_
  refine c_getR (t := some L) rfl rfl rfl rfl hn ?_
  refine c_getI rfl (sh_land (by omega)) rfl rfl ?_
  have q1 : 0 ≤ (a L 7).toInt ∧ (a L 7).toInt ≤ 6 := RC.riv hR (by omega)
  refine w_ic_lt rfl (fun c2 => ?_) (fun c2 => ?_)
  · skip
    refine w_aload rfl rfl ?_
    refine w_iload rfl rfl ?_
    refine w_const rfl ?_
    first | refine w_iadd rfl (by omega) (fun x3 tx3 => ?_) | refine w_iiU rfl (fun x3 tx3 => ?_)
    refine w_iload rfl rfl ?_
    refine w_iload rfl rfl ?_
    refine c_invU (rest := []) rfl rfl rfl rfl rfl (Nat.le_of_ble_eq_true rfl) rfl (by omega) (ih (6 - x3.toInt).toNat (by omega) a b v x3 dg wd hR hn hL (by omega) rfl) (fun z4 h9 hq5 => ?_)
    obtain ⟨a6, rfl, ha6, fa6, rfl⟩ := hq5
    show f_wp _ (30, [some (.inr (.inr (some 12))), some (.inl w), some (.inl dg), some (.inl wd), none], [], cH a6 b v) _
    refine w_const rfl ?_
    refine w_istore (lo' := [some (.inr (.inr (some 12))), some (.inl w), some (.inl dg), some (.inl wd), some (.inl 0)]) rfl rfl ?_
    have loop33 : ∀ (ms9 : Nat) (m : Int32) (a33 : Nat → Nat → Int32) , (6 - m.toInt).toNat = ms9 → RC K a33 → FR [10, 11, 12, 13] a a33 → (0 ≤ m.toInt ∧ m.toInt ≤ 6) → f_wp (f_code (t_X10_search (f_ev mtC d))) (33, [some (.inr (.inr (some 12))), some (.inl w), some (.inl dg), some (.inl wd), some (.inl m)], [], cH a33 b v) (fun v9 h' => ∃ (a' : Nat → Nat → Int32), h' = cH a' b v ∧ RC K a' ∧ (FR [10, 11, 12, 13] a a' ∧ True) ∧ v9 = none) := by
      intro ms9
      induction ms9 using Nat.strongRecOn with
      | _ ms33 ih33 =>
        intro m a33  hm33 hR33 hF33 hm
        refine w_iload rfl rfl ?_
        refine w_aload rfl rfl ?_
        refine c_getR (t := some 9) rfl rfl rfl rfl rfl ?_
        refine c_getR (t := some L) rfl rfl rfl rfl hn ?_
        refine c_getI rfl (sh_land (by omega)) rfl rfl ?_
        have q7 : 0 ≤ (a33 L 7).toInt ∧ (a33 L 7).toInt ≤ 6 := RC.riv hR33 (by omega)
        refine w_ic_ge rfl (fun c8 => ?_) (fun c8 => ?_)
        · skip
          exact w_ret rfl ⟨a33, rfl, hR33, ⟨hF33, trivial⟩, rfl⟩
        · skip
          refine w_aload rfl rfl ?_
          refine c_getR (t := some 9) rfl rfl rfl rfl rfl ?_
          refine w_iload rfl rfl ?_
          refine w_iload rfl rfl ?_
          refine w_invV (rest := []) rfl rfl rfl rfl rfl (Nat.le_of_ble_eq_true rfl) rfl (by omega) (s_X5_allows (K := K) a33 b v L w m hR33  (hn) (by omega)) (fun z9 h9 hq10 => ?_)
          obtain ⟨rfl, x11, rfl, px11⟩ := hq10
          show f_wp _ (58, [some (.inr (.inr (some 12))), some (.inl w), some (.inl dg), some (.inl wd), some (.inl m)], [.inl x11], cH a33 b v) _
          have p9 := px11
          refine w_if_eq rfl (fun c12 => ?_) (fun c12 => ?_)
          · skip
            refine w_iinc (lo' := fun z9 => [some (.inr (.inr (some 12))), some (.inl w), some (.inl dg), some (.inl wd), some (.inl z9)]) rfl rfl (fun _ => rfl) (by omega) (fun x13 tx13 => ?_)
            refine w_goto rfl ?_
            exact ih33 (6 - x13.toInt).toNat (by omega) x13 a33 rfl hR33 (hF33) (by omega)
          · skip
            refine w_aload rfl rfl ?_
            refine c_getR (t := some 9) rfl rfl rfl rfl rfl ?_
            refine w_iload rfl rfl ?_
            refine w_iload rfl rfl ?_
            refine w_invV (rest := []) rfl rfl rfl rfl rfl (Nat.le_of_ble_eq_true rfl) rfl (by omega) (s_X5_join (K := K) a33 b v L w m hR33  (hn) (by omega)) (fun z14 h9 hq15 => ?_)
            obtain ⟨a16, rfl, ha16, fa16, rfl⟩ := hq15
            show f_wp _ (71, [some (.inr (.inr (some 12))), some (.inl w), some (.inl dg), some (.inl wd), some (.inl m)], [], cH a16 b v) _
            refine w_aload rfl rfl ?_
            refine w_iload rfl rfl ?_
            refine w_const rfl ?_
            first | refine w_iadd rfl (by omega) (fun x17 tx17 => ?_) | refine w_iiU rfl (fun x17 tx17 => ?_)
            refine w_iload rfl rfl ?_
            refine w_aload rfl rfl ?_
            refine c_getR (t := some 9) rfl rfl rfl rfl rfl ?_
            refine c_getR (t := some L) rfl rfl rfl rfl hn ?_
            refine w_iload rfl rfl ?_
            refine w_iload rfl rfl ?_
            refine w_invV (rest := [.inl dg, .inl x17, .inr (.inr (some 12))]) rfl rfl (sh_land (by omega)) rfl rfl (Nat.le_of_ble_eq_true rfl) rfl (by omega) (s_X3_digging (K := K) a16 b v  L w m ha16  (by omega) (by omega) (by omega)) (fun z18 h9 hq19 => ?_)
            obtain ⟨rfl, x20, rfl, px20⟩ := hq19
            show f_wp _ (89, [some (.inr (.inr (some 12))), some (.inl w), some (.inl dg), some (.inl wd), some (.inl m)], [.inl x20, .inl dg, .inl x17, .inr (.inr (some 12))], cH a16 b v) _
            first | refine w_iadd rfl (by omega) (fun x21 tx21 => ?_) | refine w_iiU rfl (fun x21 tx21 => ?_)
            refine w_iload rfl rfl ?_
            refine w_const rfl ?_
            first | refine w_iadd rfl (by omega) (fun x22 tx22 => ?_) | refine w_iiU rfl (fun x22 tx22 => ?_)
            refine c_invU (rest := []) rfl rfl rfl rfl rfl (Nat.le_of_ble_eq_true rfl) rfl (by omega) (ih (6 - x17.toInt).toNat (by omega) a16 b v x17 x21 x22 ha16 hn hL (by omega) rfl) (fun z23 h9 hq24 => ?_)
            obtain ⟨a25, rfl, ha25, fa25, rfl⟩ := hq24
            show f_wp _ (96, [some (.inr (.inr (some 12))), some (.inl w), some (.inl dg), some (.inl wd), some (.inl m)], [], cH a25 b v) _
            refine w_aload rfl rfl ?_
            refine c_getR (t := some 9) rfl rfl rfl rfl rfl ?_
            refine w_iload rfl rfl ?_
            refine w_invV (rest := []) rfl rfl rfl rfl rfl (Nat.le_of_ble_eq_true rfl) rfl (by omega) (s_X5_release (K := K) a25 b v L w ha25  (hn) (by omega)) (fun z26 h9 hq27 => ?_)
            obtain ⟨a28, rfl, ha28, fa28, x29, rfl, px29⟩ := hq27
            show f_wp _ (104, [some (.inr (.inr (some 12))), some (.inl w), some (.inl dg), some (.inl wd), some (.inl m)], [.inl x29], cH a28 b v) _
            refine w_pop rfl rfl ?_
            refine w_iinc (lo' := fun z9 => [some (.inr (.inr (some 12))), some (.inl w), some (.inl dg), some (.inl wd), some (.inl z9)]) rfl rfl (fun _ => rfl) (by omega) (fun x30 tx30 => ?_)
            refine w_goto rfl ?_
            exact ih33 (6 - x30.toInt).toNat (by omega) x30 a28 rfl ha28 (FR.tr (FR.tr (FR.tr (hF33) (FR.sub fa16.1 (by first | exact (fun _ h9 => h9) | decide | (intro c9 h9; simp only [List.mem_cons, List.not_mem_nil, or_false] at h9 ⊢; omega) | (intro c9 h9; simp at h9; simp [cA]; omega) | (intro c9 h9; simp at h9; simp [cB]; omega) | (intro c9 h9; simp [cA] at h9; simp [cB]; omega)))) (FR.sub fa25.1 (by first | exact (fun _ h9 => h9) | decide | (intro c9 h9; simp only [List.mem_cons, List.not_mem_nil, or_false] at h9 ⊢; omega) | (intro c9 h9; simp at h9; simp [cA]; omega) | (intro c9 h9; simp at h9; simp [cB]; omega) | (intro c9 h9; simp [cA] at h9; simp [cB]; omega)))) (FR.sub fa28.1 (by first | exact (fun _ h9 => h9) | decide | (intro c9 h9; simp only [List.mem_cons, List.not_mem_nil, or_false] at h9 ⊢; omega) | (intro c9 h9; simp at h9; simp [cA]; omega) | (intro c9 h9; simp at h9; simp [cB]; omega) | (intro c9 h9; simp [cA] at h9; simp [cB]; omega)))) (by omega)
    exact loop33 _ 0 a6 rfl ha6 (FR.tr (FR.rf) (FR.sub fa6.1 (by first | exact (fun _ h9 => h9) | decide | (intro c9 h9; simp only [List.mem_cons, List.not_mem_nil, or_false] at h9 ⊢; omega) | (intro c9 h9; simp at h9; simp [cA]; omega) | (intro c9 h9; simp at h9; simp [cB]; omega) | (intro c9 h9; simp [cA] at h9; simp [cB]; omega)))) (by omega)
  · skip
    refine w_aload rfl rfl ?_
    refine w_iload rfl rfl ?_
    refine w_iload rfl rfl ?_
    refine c_invU (rest := []) rfl rfl rfl rfl rfl (Nat.le_of_ble_eq_true rfl) rfl (by omega) (s_X4_note (K := K) a b v L dg wd hR  (hn) (by omega)) (fun z31 h9 hq32 => ?_)
    obtain ⟨a33, rfl, ha33, fa33, rfl⟩ := hq32
    show f_wp _ (20, [some (.inr (.inr (some 12))), some (.inl w), some (.inl dg), some (.inl wd), none], [], cH a33 b v) _
    exact w_ret rfl ⟨a33, rfl, ha33, ⟨FR.tr (FR.rf) (FR.sub fa33.1 (by first | exact (fun _ h9 => h9) | decide | (intro c9 h9; simp only [List.mem_cons, List.not_mem_nil, or_false] at h9 ⊢; omega) | (intro c9 h9; simp at h9; simp [cA]; omega) | (intro c9 h9; simp at h9; simp [cB]; omega) | (intro c9 h9; simp [cA] at h9; simp [cB]; omega))), trivial⟩, rfl⟩
theorem s_X10_search_M {K : Nat} (a : Nat → Nat → Int32) (b : Nat → Nat → Int64) (v : Nat → Option Nat) (L : Nat) (w dg wd : Int32) (hR : RC K a) (hn : v 5 = some L) (hL : L = 22 ∨ L = 46) (hw : 0 ≤ w.toInt ∧ w.toInt ≤ 6) : f_call mtC 12 95 [.inr (.inr (some 12)), .inl w, .inl dg, .inl wd] (cH a b v) (fun v9 h' => ∃ (a' : Nat → Nat → Int32), h' = cH a' b v ∧ RC K a' ∧ (FR [10, 11, 12, 13] a a' ∧ True) ∧ v9 = none) := by
  have h := s_X10_search_M_n (K := K) (L := L) _ a b v w dg wd hR hn hL hw rfl
  exact fun d hd => h d (by omega)
set_option maxRecDepth 4000 in
theorem s_X10_search_F_n {K L : Nat} : ∀ (n : Nat) (a : Nat → Nat → Int32) (b : Nat → Nat → Int64) (v : Nat → Option Nat) (w dg wd : Int32), RC K a → v 5 = some L → (L = 22 ∨ L = 46) → 0 ≤ w.toInt ∧ w.toInt ≤ 6 → (6 - w.toInt).toNat = n → f_call mtC (n + 6) 95 [.inr (.inr (some 14)), .inl w, .inl dg, .inl wd] (cH a b v) (fun v9 h' => ∃ (a' : Nat → Nat → Int32), h' = cH a' b v ∧ RC K a' ∧ (FR [10, 11, 14, 15, 16] a a' ∧ True) ∧ v9 = none) := by
  intro n
  induction n using Nat.strongRecOn with
  | _ n ih =>
  intro a b v w dg wd hR hn hL hw hm
  refine f_call_of (d0 := n + 5) rfl (Nat.le_of_ble_eq_true rfl) (fun d hd => ?_)
  show f_wp _ (0, [some (.inr (.inr (some 14))), some (.inl w), some (.inl dg), some (.inl wd), none], [], cH a b v) _
  have l0 : (0 : Int32).toInt = 0 := rfl
  have l1 : (1 : Int32).toInt = 1 := rfl
  refine w_iload rfl rfl ?_
  refine w_aload rfl rfl ?_
  refine c_getR (t := some 9) rfl rfl rfl rfl rfl ?_
  refine c_getR (t := some L) rfl rfl rfl rfl hn ?_
  refine c_getI rfl (sh_land (by omega)) rfl rfl ?_
  have q1 : 0 ≤ (a L 7).toInt ∧ (a L 7).toInt ≤ 6 := RC.riv hR (by omega)
  refine w_ic_lt rfl (fun c2 => ?_) (fun c2 => ?_)
  · skip
    refine w_aload rfl rfl ?_
    refine w_iload rfl rfl ?_
    refine w_const rfl ?_
    first | refine w_iadd rfl (by omega) (fun x3 tx3 => ?_) | refine w_iiU rfl (fun x3 tx3 => ?_)
    refine w_iload rfl rfl ?_
    refine w_iload rfl rfl ?_
    refine c_invU (rest := []) rfl rfl rfl rfl rfl (Nat.le_of_ble_eq_true rfl) rfl (by omega) (ih (6 - x3.toInt).toNat (by omega) a b v x3 dg wd hR hn hL (by omega) rfl) (fun z4 h9 hq5 => ?_)
    obtain ⟨a6, rfl, ha6, fa6, rfl⟩ := hq5
    show f_wp _ (30, [some (.inr (.inr (some 14))), some (.inl w), some (.inl dg), some (.inl wd), none], [], cH a6 b v) _
    refine w_const rfl ?_
    refine w_istore (lo' := [some (.inr (.inr (some 14))), some (.inl w), some (.inl dg), some (.inl wd), some (.inl 0)]) rfl rfl ?_
    have loop33 : ∀ (ms9 : Nat) (m : Int32) (a33 : Nat → Nat → Int32) , (6 - m.toInt).toNat = ms9 → RC K a33 → FR [10, 11, 14, 15, 16] a a33 → (0 ≤ m.toInt ∧ m.toInt ≤ 6) → f_wp (f_code (t_X10_search (f_ev mtC d))) (33, [some (.inr (.inr (some 14))), some (.inl w), some (.inl dg), some (.inl wd), some (.inl m)], [], cH a33 b v) (fun v9 h' => ∃ (a' : Nat → Nat → Int32), h' = cH a' b v ∧ RC K a' ∧ (FR [10, 11, 14, 15, 16] a a' ∧ True) ∧ v9 = none) := by
      intro ms9
      induction ms9 using Nat.strongRecOn with
      | _ ms33 ih33 =>
        intro m a33  hm33 hR33 hF33 hm
        refine w_iload rfl rfl ?_
        refine w_aload rfl rfl ?_
        refine c_getR (t := some 9) rfl rfl rfl rfl rfl ?_
        refine c_getR (t := some L) rfl rfl rfl rfl hn ?_
        refine c_getI rfl (sh_land (by omega)) rfl rfl ?_
        have q7 : 0 ≤ (a33 L 7).toInt ∧ (a33 L 7).toInt ≤ 6 := RC.riv hR33 (by omega)
        refine w_ic_ge rfl (fun c8 => ?_) (fun c8 => ?_)
        · skip
          exact w_ret rfl ⟨a33, rfl, hR33, ⟨hF33, trivial⟩, rfl⟩
        · skip
          refine w_aload rfl rfl ?_
          refine c_getR (t := some 9) rfl rfl rfl rfl rfl ?_
          refine w_iload rfl rfl ?_
          refine w_iload rfl rfl ?_
          refine w_invV (rest := []) rfl rfl rfl rfl rfl (Nat.le_of_ble_eq_true rfl) rfl (by omega) (s_X5_allows (K := K) a33 b v L w m hR33  (hn) (by omega)) (fun z9 h9 hq10 => ?_)
          obtain ⟨rfl, x11, rfl, px11⟩ := hq10
          show f_wp _ (58, [some (.inr (.inr (some 14))), some (.inl w), some (.inl dg), some (.inl wd), some (.inl m)], [.inl x11], cH a33 b v) _
          have p9 := px11
          refine w_if_eq rfl (fun c12 => ?_) (fun c12 => ?_)
          · skip
            refine w_iinc (lo' := fun z9 => [some (.inr (.inr (some 14))), some (.inl w), some (.inl dg), some (.inl wd), some (.inl z9)]) rfl rfl (fun _ => rfl) (by omega) (fun x13 tx13 => ?_)
            refine w_goto rfl ?_
            exact ih33 (6 - x13.toInt).toNat (by omega) x13 a33 rfl hR33 (hF33) (by omega)
          · skip
            refine w_aload rfl rfl ?_
            refine c_getR (t := some 9) rfl rfl rfl rfl rfl ?_
            refine w_iload rfl rfl ?_
            refine w_iload rfl rfl ?_
            refine w_invV (rest := []) rfl rfl rfl rfl rfl (Nat.le_of_ble_eq_true rfl) rfl (by omega) (s_X5_join (K := K) a33 b v L w m hR33  (hn) (by omega)) (fun z14 h9 hq15 => ?_)
            obtain ⟨a16, rfl, ha16, fa16, rfl⟩ := hq15
            show f_wp _ (71, [some (.inr (.inr (some 14))), some (.inl w), some (.inl dg), some (.inl wd), some (.inl m)], [], cH a16 b v) _
            refine w_aload rfl rfl ?_
            refine w_iload rfl rfl ?_
            refine w_const rfl ?_
            first | refine w_iadd rfl (by omega) (fun x17 tx17 => ?_) | refine w_iiU rfl (fun x17 tx17 => ?_)
            refine w_iload rfl rfl ?_
            refine w_aload rfl rfl ?_
            refine c_getR (t := some 9) rfl rfl rfl rfl rfl ?_
            refine c_getR (t := some L) rfl rfl rfl rfl hn ?_
            refine w_iload rfl rfl ?_
            refine w_iload rfl rfl ?_
            refine w_invV (rest := [.inl dg, .inl x17, .inr (.inr (some 14))]) rfl rfl (sh_land (by omega)) rfl rfl (Nat.le_of_ble_eq_true rfl) rfl (by omega) (s_X3_digging (K := K) a16 b v  L w m ha16  (by omega) (by omega) (by omega)) (fun z18 h9 hq19 => ?_)
            obtain ⟨rfl, x20, rfl, px20⟩ := hq19
            show f_wp _ (89, [some (.inr (.inr (some 14))), some (.inl w), some (.inl dg), some (.inl wd), some (.inl m)], [.inl x20, .inl dg, .inl x17, .inr (.inr (some 14))], cH a16 b v) _
            first | refine w_iadd rfl (by omega) (fun x21 tx21 => ?_) | refine w_iiU rfl (fun x21 tx21 => ?_)
            refine w_iload rfl rfl ?_
            refine w_const rfl ?_
            first | refine w_iadd rfl (by omega) (fun x22 tx22 => ?_) | refine w_iiU rfl (fun x22 tx22 => ?_)
            refine c_invU (rest := []) rfl rfl rfl rfl rfl (Nat.le_of_ble_eq_true rfl) rfl (by omega) (ih (6 - x17.toInt).toNat (by omega) a16 b v x17 x21 x22 ha16 hn hL (by omega) rfl) (fun z23 h9 hq24 => ?_)
            obtain ⟨a25, rfl, ha25, fa25, rfl⟩ := hq24
            show f_wp _ (96, [some (.inr (.inr (some 14))), some (.inl w), some (.inl dg), some (.inl wd), some (.inl m)], [], cH a25 b v) _
            refine w_aload rfl rfl ?_
            refine c_getR (t := some 9) rfl rfl rfl rfl rfl ?_
            refine w_iload rfl rfl ?_
            refine w_invV (rest := []) rfl rfl rfl rfl rfl (Nat.le_of_ble_eq_true rfl) rfl (by omega) (s_X5_release (K := K) a25 b v L w ha25  (hn) (by omega)) (fun z26 h9 hq27 => ?_)
            obtain ⟨a28, rfl, ha28, fa28, x29, rfl, px29⟩ := hq27
            show f_wp _ (104, [some (.inr (.inr (some 14))), some (.inl w), some (.inl dg), some (.inl wd), some (.inl m)], [.inl x29], cH a28 b v) _
            refine w_pop rfl rfl ?_
            refine w_iinc (lo' := fun z9 => [some (.inr (.inr (some 14))), some (.inl w), some (.inl dg), some (.inl wd), some (.inl z9)]) rfl rfl (fun _ => rfl) (by omega) (fun x30 tx30 => ?_)
            refine w_goto rfl ?_
            exact ih33 (6 - x30.toInt).toNat (by omega) x30 a28 rfl ha28 (FR.tr (FR.tr (FR.tr (hF33) (FR.sub fa16.1 (by first | exact (fun _ h9 => h9) | decide | (intro c9 h9; simp only [List.mem_cons, List.not_mem_nil, or_false] at h9 ⊢; omega) | (intro c9 h9; simp at h9; simp [cA]; omega) | (intro c9 h9; simp at h9; simp [cB]; omega) | (intro c9 h9; simp [cA] at h9; simp [cB]; omega)))) (FR.sub fa25.1 (by first | exact (fun _ h9 => h9) | decide | (intro c9 h9; simp only [List.mem_cons, List.not_mem_nil, or_false] at h9 ⊢; omega) | (intro c9 h9; simp at h9; simp [cA]; omega) | (intro c9 h9; simp at h9; simp [cB]; omega) | (intro c9 h9; simp [cA] at h9; simp [cB]; omega)))) (FR.sub fa28.1 (by first | exact (fun _ h9 => h9) | decide | (intro c9 h9; simp only [List.mem_cons, List.not_mem_nil, or_false] at h9 ⊢; omega) | (intro c9 h9; simp at h9; simp [cA]; omega) | (intro c9 h9; simp at h9; simp [cB]; omega) | (intro c9 h9; simp [cA] at h9; simp [cB]; omega)))) (by omega)
    exact loop33 _ 0 a6 rfl ha6 (FR.tr (FR.rf) (FR.sub fa6.1 (by first | exact (fun _ h9 => h9) | decide | (intro c9 h9; simp only [List.mem_cons, List.not_mem_nil, or_false] at h9 ⊢; omega) | (intro c9 h9; simp at h9; simp [cA]; omega) | (intro c9 h9; simp at h9; simp [cB]; omega) | (intro c9 h9; simp [cA] at h9; simp [cB]; omega)))) (by omega)
  · skip
    refine w_aload rfl rfl ?_
    refine w_iload rfl rfl ?_
    refine w_iload rfl rfl ?_
    refine c_invU (rest := []) rfl rfl rfl rfl rfl (Nat.le_of_ble_eq_true rfl) rfl (by omega) (s_X1_note (K := K) a b v L dg wd hR  (hn) (by omega)) (fun z31 h9 hq32 => ?_)
    obtain ⟨a33, rfl, ha33, fa33, rfl⟩ := hq32
    show f_wp _ (20, [some (.inr (.inr (some 14))), some (.inl w), some (.inl dg), some (.inl wd), none], [], cH a33 b v) _
    exact w_ret rfl ⟨a33, rfl, ha33, ⟨FR.tr (FR.rf) (FR.sub fa33.1 (by first | exact (fun _ h9 => h9) | decide | (intro c9 h9; simp only [List.mem_cons, List.not_mem_nil, or_false] at h9 ⊢; omega) | (intro c9 h9; simp at h9; simp [cA]; omega) | (intro c9 h9; simp at h9; simp [cB]; omega) | (intro c9 h9; simp [cA] at h9; simp [cB]; omega))), trivial⟩, rfl⟩
theorem s_X10_search_F {K : Nat} (a : Nat → Nat → Int32) (b : Nat → Nat → Int64) (v : Nat → Option Nat) (L : Nat) (w dg wd : Int32) (hR : RC K a) (hn : v 5 = some L) (hL : L = 22 ∨ L = 46) (hw : 0 ≤ w.toInt ∧ w.toInt ≤ 6) : f_call mtC 12 95 [.inr (.inr (some 14)), .inl w, .inl dg, .inl wd] (cH a b v) (fun v9 h' => ∃ (a' : Nat → Nat → Int32), h' = cH a' b v ∧ RC K a' ∧ (FR [10, 11, 14, 15, 16] a a' ∧ True) ∧ v9 = none) := by
  have h := s_X10_search_F_n (K := K) (L := L) _ a b v w dg wd hR hn hL hw rfl
  exact fun d hd => h d (by omega)
set_option maxRecDepth 4000 in
theorem s_X10_refresh_M {K : Nat} (a : Nat → Nat → Int32) (b : Nat → Nat → Int64) (v : Nat → Option Nat) (L : Nat) (hR : RC K a) (hL : L = 22 ∨ L = 46) : f_call mtC 13 94 [.inr (.inr (some 12)), .inr (.inr (some L))] (cH a b v) (fun v9 h' => ∃ (a' : Nat → Nat → Int32) (v' : Nat → Option Nat), h' = cH a' b v' ∧ RC K a' ∧ (FR [10, 11, 12, 13] a a' ∧ ((∀ i, i ∉ [5] → v' i = v i) ∧ (v' 5 = v 5 ∨ v' 5 = some L)) ∧ True) ∧ v9 = none) := by
  refine f_call_of (d0 := 12) rfl (Nat.le_of_ble_eq_true rfl) (fun d hd => ?_)
  show f_wp _ (0, [some (.inr (.inr (some 12))), some (.inr (.inr (some L)))], [], cH a b v) _
  have l0 : (0 : Int32).toInt = 0 := rfl
  have l1 : (1 : Int32).toInt = 1 := rfl
  refine w_aload rfl rfl ?_
  refine c_getI rfl rfl rfl rfl ?_
  refine w_if_eq rfl (fun c1 => ?_) (fun c1 => ?_)
  · skip
    refine w_aload rfl rfl ?_
    refine w_const rfl ?_
    refine c_putI (z := false) rfl rfl rfl rfl (by first | (intro h9; cases h9; done) | (intro _; first | exact Or.inl rfl | exact Or.inr rfl | assumption | (rcases (by omega : (0 : Int32).toInt = 0 ∨ (0 : Int32).toInt = 1) with h8 | h8; exact Or.inl (ti_eq h8); exact Or.inr (ti_eq h8)))) (fun a2 ea2 => ?_)
    have ha2 : RC K a2 := RC.up hR ea2 (lc_any _ (by omega))
    have ua2 : a2 12 2 = (0 : Int32) := by rw [ea2, mU_same]
    have wa2 := congrArg Int32.toInt ua2
    have ra2_16 : (a2 12 3).toInt = (a 12 3).toInt := by rw [ea2, mU_slot (by decide)]
    refine w_aload rfl rfl ?_
    refine c_getR (t := some 9) rfl rfl rfl rfl rfl ?_
    refine w_aload rfl rfl ?_
    refine w_invV (rest := []) rfl rfl rfl rfl rfl (Nat.le_of_ble_eq_true rfl) rfl (by omega) (s_X5_clear (K := K) a2 b v  L ha2  (by omega)) (fun z3 h9 hq4 => ?_)
    obtain ⟨a5, v6, rfl, ha5, fa5, rfl⟩ := hq4
    show f_wp _ (21, [some (.inr (.inr (some 12))), some (.inr (.inr (some L)))], [], cH a5 b v6) _
    refine w_aload rfl rfl ?_
    refine c_invU (rest := []) rfl rfl rfl rfl rfl (Nat.le_of_ble_eq_true rfl) rfl (by omega) (s_X4_begin (K := K) a5 b v6   ha5  ) (fun z7 h9 hq8 => ?_)
    obtain ⟨a9, rfl, ha9, fa9, rfl⟩ := hq8
    show f_wp _ (25, [some (.inr (.inr (some 12))), some (.inr (.inr (some L)))], [], cH a9 b v6) _
    refine w_aload rfl rfl ?_
    refine w_const rfl ?_
    refine w_const rfl ?_
    refine w_const rfl ?_
    refine c_invU (rest := []) rfl rfl rfl rfl rfl (Nat.le_of_ble_eq_true rfl) rfl (by omega) (s_X10_search_M (K := K) a9 b v6 L 0 0 0 ha9  (fa5.2.1.2) (by omega) (by omega)) (fun z10 h9 hq11 => ?_)
    obtain ⟨a12, rfl, ha12, fa12, rfl⟩ := hq11
    show f_wp _ (32, [some (.inr (.inr (some 12))), some (.inr (.inr (some L)))], [], cH a12 b v6) _
    refine w_aload rfl rfl ?_
    refine c_invU (rest := []) rfl rfl rfl rfl rfl (Nat.le_of_ble_eq_true rfl) rfl (by omega) (s_X4_end (K := K) a12 b v6     ) (fun z13 h9 hq14 => ?_)
    obtain ⟨rfl, rfl⟩ := hq14
    show f_wp _ (36, [some (.inr (.inr (some 12))), some (.inr (.inr (some L)))], [], cH a12 b v6) _
    refine w_aload rfl rfl ?_
    refine w_const rfl ?_
    refine c_putI (z := true) rfl rfl rfl rfl (by first | (intro h9; cases h9; done) | (intro _; first | exact Or.inl rfl | exact Or.inr rfl | assumption | (rcases (by omega : (1 : Int32).toInt = 0 ∨ (1 : Int32).toInt = 1) with h8 | h8; exact Or.inl (ti_eq h8); exact Or.inr (ti_eq h8)))) (fun a15 ea15 => ?_)
    have ha15 : RC K a15 := RC.up ha12 ea15 (lc_any _ (by omega))
    have ua15 : a15 12 3 = (1 : Int32) := by rw [ea15, mU_same]
    have wa15 := congrArg Int32.toInt ua15
    exact w_ret rfl ⟨a15, v6, rfl, ha15, ⟨FR.up (FR.tr (FR.tr (FR.tr (FR.up (FR.rf) (by first | decide | simp | (simp [cA]; omega) | (simp [cB]; omega)) ea2) (FR.sub fa5.1 (by first | exact (fun _ h9 => h9) | decide | (intro c9 h9; simp only [List.mem_cons, List.not_mem_nil, or_false] at h9 ⊢; omega) | (intro c9 h9; simp at h9; simp [cA]; omega) | (intro c9 h9; simp at h9; simp [cB]; omega) | (intro c9 h9; simp [cA] at h9; simp [cB]; omega)))) (FR.sub fa9.1 (by first | exact (fun _ h9 => h9) | decide | (intro c9 h9; simp only [List.mem_cons, List.not_mem_nil, or_false] at h9 ⊢; omega) | (intro c9 h9; simp at h9; simp [cA]; omega) | (intro c9 h9; simp at h9; simp [cB]; omega) | (intro c9 h9; simp [cA] at h9; simp [cB]; omega)))) (FR.sub fa12.1 (by first | exact (fun _ h9 => h9) | decide | (intro c9 h9; simp only [List.mem_cons, List.not_mem_nil, or_false] at h9 ⊢; omega) | (intro c9 h9; simp at h9; simp [cA]; omega) | (intro c9 h9; simp at h9; simp [cB]; omega) | (intro c9 h9; simp [cA] at h9; simp [cB]; omega)))) (by first | decide | simp | (simp [cA]; omega) | (simp [cB]; omega)) ea15, ⟨fun i9 h9 => (fa5.2.1.1 i9 (fun z9 => h9 (by first | exact z9 | (revert z9; simp; done) | (revert z9; simp; omega)))).trans ((show ∀ i9, i9 ∉ [5] → v i9 = v i9 from (fun _ _ => rfl)) i9 h9), Or.inr fa5.2.1.2⟩, trivial⟩, rfl⟩
  · skip
    exact w_ret rfl ⟨a, v, rfl, hR, ⟨FR.rf, ⟨(fun _ _ => rfl), Or.inl rfl⟩, trivial⟩, rfl⟩
set_option maxRecDepth 4000 in
theorem s_X10_refresh_F {K : Nat} (a : Nat → Nat → Int32) (b : Nat → Nat → Int64) (v : Nat → Option Nat) (L : Nat) (hR : RC K a) (hL : L = 22 ∨ L = 46) : f_call mtC 13 94 [.inr (.inr (some 14)), .inr (.inr (some L))] (cH a b v) (fun v9 h' => ∃ (a' : Nat → Nat → Int32) (v' : Nat → Option Nat), h' = cH a' b v' ∧ RC K a' ∧ (FR [10, 11, 14, 15, 16] a a' ∧ ((∀ i, i ∉ [5] → v' i = v i) ∧ (v' 5 = v 5 ∨ v' 5 = some L)) ∧ True) ∧ v9 = none) := by
  refine f_call_of (d0 := 12) rfl (Nat.le_of_ble_eq_true rfl) (fun d hd => ?_)
  show f_wp _ (0, [some (.inr (.inr (some 14))), some (.inr (.inr (some L)))], [], cH a b v) _
  have l0 : (0 : Int32).toInt = 0 := rfl
  have l1 : (1 : Int32).toInt = 1 := rfl
  refine w_aload rfl rfl ?_
  refine c_getI rfl rfl rfl rfl ?_
  refine w_if_eq rfl (fun c1 => ?_) (fun c1 => ?_)
  · skip
    refine w_aload rfl rfl ?_
    refine w_const rfl ?_
    refine c_putI (z := false) rfl rfl rfl rfl (by first | (intro h9; cases h9; done) | (intro _; first | exact Or.inl rfl | exact Or.inr rfl | assumption | (rcases (by omega : (0 : Int32).toInt = 0 ∨ (0 : Int32).toInt = 1) with h8 | h8; exact Or.inl (ti_eq h8); exact Or.inr (ti_eq h8)))) (fun a2 ea2 => ?_)
    have ha2 : RC K a2 := RC.up hR ea2 (lc_any _ (by omega))
    have ua2 : a2 14 2 = (0 : Int32) := by rw [ea2, mU_same]
    have wa2 := congrArg Int32.toInt ua2
    have ra2_16 : (a2 14 3).toInt = (a 14 3).toInt := by rw [ea2, mU_slot (by decide)]
    refine w_aload rfl rfl ?_
    refine c_getR (t := some 9) rfl rfl rfl rfl rfl ?_
    refine w_aload rfl rfl ?_
    refine w_invV (rest := []) rfl rfl rfl rfl rfl (Nat.le_of_ble_eq_true rfl) rfl (by omega) (s_X5_clear (K := K) a2 b v  L ha2  (by omega)) (fun z3 h9 hq4 => ?_)
    obtain ⟨a5, v6, rfl, ha5, fa5, rfl⟩ := hq4
    show f_wp _ (21, [some (.inr (.inr (some 14))), some (.inr (.inr (some L)))], [], cH a5 b v6) _
    refine w_aload rfl rfl ?_
    refine c_invU (rest := []) rfl rfl rfl rfl rfl (Nat.le_of_ble_eq_true rfl) rfl (by omega) (s_X1_begin (K := K) a5 b v6   ha5  ) (fun z7 h9 hq8 => ?_)
    obtain ⟨a9, rfl, ha9, fa9, rfl⟩ := hq8
    show f_wp _ (25, [some (.inr (.inr (some 14))), some (.inr (.inr (some L)))], [], cH a9 b v6) _
    refine w_aload rfl rfl ?_
    refine w_const rfl ?_
    refine w_const rfl ?_
    refine w_const rfl ?_
    refine c_invU (rest := []) rfl rfl rfl rfl rfl (Nat.le_of_ble_eq_true rfl) rfl (by omega) (s_X10_search_F (K := K) a9 b v6 L 0 0 0 ha9  (fa5.2.1.2) (by omega) (by omega)) (fun z10 h9 hq11 => ?_)
    obtain ⟨a12, rfl, ha12, fa12, rfl⟩ := hq11
    show f_wp _ (32, [some (.inr (.inr (some 14))), some (.inr (.inr (some L)))], [], cH a12 b v6) _
    refine w_aload rfl rfl ?_
    refine c_invU (rest := []) rfl rfl rfl rfl rfl (Nat.le_of_ble_eq_true rfl) rfl (by omega) (s_X1_end (K := K) a12 b v6 L  ha12  (fa5.2.1.2) (by omega)) (fun z13 h9 hq14 => ?_)
    obtain ⟨a15, rfl, ha15, fa15, rfl⟩ := hq14
    show f_wp _ (36, [some (.inr (.inr (some 14))), some (.inr (.inr (some L)))], [], cH a15 b v6) _
    refine w_aload rfl rfl ?_
    refine w_const rfl ?_
    refine c_putI (z := true) rfl rfl rfl rfl (by first | (intro h9; cases h9; done) | (intro _; first | exact Or.inl rfl | exact Or.inr rfl | assumption | (rcases (by omega : (1 : Int32).toInt = 0 ∨ (1 : Int32).toInt = 1) with h8 | h8; exact Or.inl (ti_eq h8); exact Or.inr (ti_eq h8)))) (fun a16 ea16 => ?_)
    have ha16 : RC K a16 := RC.up ha15 ea16 (lc_any _ (by omega))
    have ua16 : a16 14 3 = (1 : Int32) := by rw [ea16, mU_same]
    have wa16 := congrArg Int32.toInt ua16
    exact w_ret rfl ⟨a16, v6, rfl, ha16, ⟨FR.up (FR.tr (FR.tr (FR.tr (FR.tr (FR.up (FR.rf) (by first | decide | simp | (simp [cA]; omega) | (simp [cB]; omega)) ea2) (FR.sub fa5.1 (by first | exact (fun _ h9 => h9) | decide | (intro c9 h9; simp only [List.mem_cons, List.not_mem_nil, or_false] at h9 ⊢; omega) | (intro c9 h9; simp at h9; simp [cA]; omega) | (intro c9 h9; simp at h9; simp [cB]; omega) | (intro c9 h9; simp [cA] at h9; simp [cB]; omega)))) (FR.sub fa9.1 (by first | exact (fun _ h9 => h9) | decide | (intro c9 h9; simp only [List.mem_cons, List.not_mem_nil, or_false] at h9 ⊢; omega) | (intro c9 h9; simp at h9; simp [cA]; omega) | (intro c9 h9; simp at h9; simp [cB]; omega) | (intro c9 h9; simp [cA] at h9; simp [cB]; omega)))) (FR.sub fa12.1 (by first | exact (fun _ h9 => h9) | decide | (intro c9 h9; simp only [List.mem_cons, List.not_mem_nil, or_false] at h9 ⊢; omega) | (intro c9 h9; simp at h9; simp [cA]; omega) | (intro c9 h9; simp at h9; simp [cB]; omega) | (intro c9 h9; simp [cA] at h9; simp [cB]; omega)))) (FR.sub fa15.1 (by first | exact (fun _ h9 => h9) | decide | (intro c9 h9; simp only [List.mem_cons, List.not_mem_nil, or_false] at h9 ⊢; omega) | (intro c9 h9; simp at h9; simp [cA]; omega) | (intro c9 h9; simp at h9; simp [cB]; omega) | (intro c9 h9; simp [cA] at h9; simp [cB]; omega)))) (by first | decide | simp | (simp [cA]; omega) | (simp [cB]; omega)) ea16, ⟨fun i9 h9 => (fa5.2.1.1 i9 (fun z9 => h9 (by first | exact z9 | (revert z9; simp; done) | (revert z9; simp; omega)))).trans ((show ∀ i9, i9 ∉ [5] → v i9 = v i9 from (fun _ _ => rfl)) i9 h9), Or.inr fa5.2.1.2⟩, trivial⟩, rfl⟩
  · skip
    exact w_ret rfl ⟨a, v, rfl, hR, ⟨FR.rf, ⟨(fun _ _ => rfl), Or.inl rfl⟩, trivial⟩, rfl⟩
