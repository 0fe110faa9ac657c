set_option maxHeartbeats 2000000 in
set_option maxRecDepth 4000 in
theorem s_X8_advance_1 {K : Nat} (a : Nat → Nat → Int32) (b : Nat → Nat → Int64) (v : Nat → Option Nat)  (hR : RC K a)  : f_call mtC 1 84 [.inr (.inr (some 1))] (cH a b v) (fun v9 h' => ∃ (a' : Nat → Nat → Int32) (b' : Nat → Nat → Int64) (v' : Nat → Option Nat), h' = cH a' b' v' ∧ RC K a' ∧ (FR [1] a a' ∧ ((∀ i, i ∉ [2] → v' i = v i) ∧ (f_wdb (v' 2) = true ∧ VX a b v')) ∧ AVX a a' b b') ∧ v9 = none) := by
  refine f_call_of (d0 := 0) rfl (Nat.le_of_ble_eq_true rfl) (fun d hd => ?_)
  show f_wp _ (0, [some (.inr (.inr (some 1))), none], [], cH a b v) _
  have l0 : (0 : Int32).toInt = 0 := rfl
  have l1 : (1 : Int32).toInt = 1 := rfl
  have l2 : (2 : Int32).toInt = 2 := rfl
  have l4 : (4 : Int32).toInt = 4 := rfl
  have l5 : (5 : Int32).toInt = 5 := rfl
  have l6 : (6 : Int32).toInt = 6 := rfl
  have l8 : (8 : Int32).toInt = 8 := rfl
  have l16 : (16 : Int32).toInt = 16 := rfl
  have l31 : (31 : Int32).toInt = 31 := rfl
  have l384 : (384 : Int32).toInt = 384 := rfl
  have l1000 : (1000 : Int32).toInt = 1000 := rfl
  refine w_aload rfl rfl ?_
  refine w_aload rfl rfl ?_
  refine c_getR (t := some 3) rfl rfl rfl rfl rfl ?_
  refine w_aload rfl rfl ?_
  refine c_getI rfl rfl rfl rfl ?_
  have q1 : 0 ≤ (a 1 5).toInt ∧ (a 1 5).toInt ≤ 1000 := hR 1 5
  refine c_iald rfl rfl (by omega) (fun x2 ex2 => ?_)
  have X1 := ex2
  refine c_putI (z := false) rfl rfl rfl rfl (by first | (intro h9; cases h9; done) | (intro _; first | exact Or.inl rfl | exact Or.inr rfl | assumption | (rcases (by omega : x2.toInt = 0 ∨ x2.toInt = 1) with h8 | h8; exact Or.inl (ti_eq h8); exact Or.inr (ti_eq h8)))) (fun a3 ea3 => ?_)
  have ha3 : RC K a3 := RC.up hR ea3 (lc_any _ (by omega))
  have ua3 : a3 1 7 = x2 := by rw [ea3, mU_same]
  have wa3 := congrArg Int32.toInt ua3
  have ra3_28 : (a3 1 5).toInt = (a 1 5).toInt := by rw [ea3, mU_slot (by decide)]
  refine w_aload rfl rfl ?_
  refine w_aload rfl rfl ?_
  refine c_getR (t := some 4) rfl rfl rfl rfl rfl ?_
  refine w_aload rfl rfl ?_
  refine c_getI rfl rfl rfl rfl ?_
  have q4 : 0 ≤ (a3 1 5).toInt ∧ (a3 1 5).toInt ≤ 1000 := ha3 1 5
  refine c_iald rfl rfl (by omega) (fun x5 ex5 => ?_)
  have X2 := ex5
  refine c_putI (z := false) rfl rfl rfl rfl (by first | (intro h9; cases h9; done) | (intro _; first | exact Or.inl rfl | exact Or.inr rfl | assumption | (rcases (by omega : x5.toInt = 0 ∨ x5.toInt = 1) with h8 | h8; exact Or.inl (ti_eq h8); exact Or.inr (ti_eq h8)))) (fun a6 ea6 => ?_)
  have ha6 : RC K a6 := RC.up ha3 ea6 (lc_any _ (by omega))
  have ua6 : a6 1 8 = x5 := by rw [ea6, mU_same]
  have wa6 := congrArg Int32.toInt ua6
  have ra6_41 : (a6 1 5).toInt = (a3 1 5).toInt := by rw [ea6, mU_slot (by decide)]
  refine w_aload rfl rfl ?_
  refine w_aload rfl rfl ?_
  refine c_getR (t := some 5) rfl rfl rfl rfl rfl ?_
  refine w_aload rfl rfl ?_
  refine c_getI rfl rfl rfl rfl ?_
  have q7 : 0 ≤ (a6 1 5).toInt ∧ (a6 1 5).toInt ≤ 1000 := ha6 1 5
  refine c_lald rfl rfl (by omega) (fun y8 ey8 => ?_)
  have X3 := ey8
  refine c_putL rfl rfl rfl rfl (fun b9 eb9 => ?_)
  refine w_aload rfl rfl ?_
  refine w_const rfl ?_
  refine c_putI (z := false) rfl rfl rfl rfl (by first | (intro h9; cases h9; done) | (intro _; first | exact Or.inl rfl | exact Or.inr rfl | assumption | (rcases (by omega : (0 : Int32).toInt = 0 ∨ (0 : Int32).toInt = 1) with h8 | h8; exact Or.inl (ti_eq h8); exact Or.inr (ti_eq h8)))) (fun a10 ea10 => ?_)
  have ha10 : RC K a10 := RC.up ha6 ea10 (lc_any _ (by omega))
  have ua10 : a10 1 9 = (0 : Int32) := by rw [ea10, mU_same]
  have wa10 := congrArg Int32.toInt ua10
  have ra10_57 : (a10 1 5).toInt = (a6 1 5).toInt := by rw [ea10, mU_slot (by decide)]
  refine w_const rfl ?_
  refine w_istore (lo' := [some (.inr (.inr (some 1))), some (.inl 0)]) rfl rfl ?_
  have loop46 : ∀ (ms9 : Nat) (i : Int32) (a46 : Nat → Nat → Int32) (b46 : Nat → Nat → Int64) , (8 - i.toInt).toNat = ms9 → RC K a46 → FR [1] a a46 → (0 ≤ i.toInt ∧ i.toInt ≤ 8) → (AV a a46 b b46) → f_wp (f_code (t_X8_advance (f_ev mtC d))) (46, [some (.inr (.inr (some 1))), some (.inl i)], [], cH a46 b46 v) (fun v9 h' => ∃ (a' : Nat → Nat → Int32) (b' : Nat → Nat → Int64) (v' : Nat → Option Nat), h' = cH a' b' v' ∧ RC K a' ∧ (FR [1] a a' ∧ ((∀ i, i ∉ [2] → v' i = v i) ∧ (f_wdb (v' 2) = true ∧ VX a b v')) ∧ AVX a a' b b') ∧ v9 = none) := by
    intro ms9
    induction ms9 using Nat.strongRecOn with
    | _ ms46 ih46 =>
      intro i a46 b46  hm46 hR46 hF46 hi hA
      refine w_iload rfl rfl ?_
      refine w_const rfl ?_
      refine w_ic_ge rfl (fun c11 => ?_) (fun c11 => ?_)
      · skip
        refine w_aload rfl rfl ?_
        refine w_const rfl ?_
        refine c_putR rfl rfl rfl rfl rC_put2 (fun v12 ev12 => ?_)
        have loop147 : ∀ (ms9 : Nat)  (a147 : Nat → Nat → Int32) (b147 : Nat → Nat → Int64) (v147 : Nat → Option Nat) (o1_147 : Option f_V), ((0 : Int)).toNat = ms9 → RC K a147 → FR [1] a a147 → (∀ i, i ∉ [2] → v147 i = v i) → (f_wdb (v147 2) = true) → (AV a a147 b b147) → (VX a b v147) → f_wp (f_code (t_X8_advance (f_ev mtC d))) (147, [some (.inr (.inr (some 1))), o1_147], [], cH a147 b147 v147) (fun v9 h' => ∃ (a' : Nat → Nat → Int32) (b' : Nat → Nat → Int64) (v' : Nat → Option Nat), h' = cH a' b' v' ∧ RC K a' ∧ (FR [1] a a' ∧ ((∀ i, i ∉ [2] → v' i = v i) ∧ (f_wdb (v' 2) = true ∧ VX a b v')) ∧ AVX a a' b b') ∧ v9 = none) := by
          intro ms9
          induction ms9 using Nat.strongRecOn with
          | _ ms147 ih147 =>
            intro  a147 b147 v147 o1_147 hm147 hR147 hF147 hG147 hw hA hX
            refine w_aload rfl rfl ?_
            refine c_getI rfl rfl rfl rfl ?_
            have q13 : 0 ≤ (a147 1 5).toInt ∧ (a147 1 5).toInt ≤ 1000 := hR147 1 5
            refine w_aload rfl rfl ?_
            refine c_getI rfl rfl rfl rfl ?_
            have q14 : 0 ≤ (a147 1 4).toInt ∧ (a147 1 4).toInt ≤ 1001 := hR147 1 4
            refine w_const rfl ?_
            first | refine w_isub rfl (by omega) (fun x15 tx15 => ?_) | refine w_iiU rfl (fun x15 tx15 => ?_)
            refine w_ic_ge rfl (fun c16 => ?_) (fun c16 => ?_)
            · skip
              exact w_ret rfl ⟨a147, b147, v147, rfl, hR147, ⟨hF147, ⟨hG147, ⟨hw, hX⟩⟩, AVX.of0 hA (by omega)⟩, rfl⟩
            · skip
              refine w_aload rfl rfl ?_
              refine w_dup rfl rfl ?_
              refine c_getI rfl rfl rfl rfl ?_
              have q17 : 0 ≤ (a147 1 5).toInt ∧ (a147 1 5).toInt ≤ 1000 := hR147 1 5
              refine w_const rfl ?_
              first | refine w_iadd rfl (by omega) (fun x18 tx18 => ?_) | refine w_iiU rfl (fun x18 tx18 => ?_)
              refine c_putI (z := false) rfl rfl rfl rfl (by first | (intro h9; cases h9; done) | (intro _; first | exact Or.inl rfl | exact Or.inr rfl | assumption | (rcases (by omega : x18.toInt = 0 ∨ x18.toInt = 1) with h8 | h8; exact Or.inl (ti_eq h8); exact Or.inr (ti_eq h8)))) (fun a19 ea19 => ?_)
              have ha19 : RC K a19 := RC.up hR147 ea19 (show (0 : Int) ≤ _ ∧ _ ≤ (1000 : Int) from by omega)
              have ua19 : a19 1 5 = x18 := by rw [ea19, mU_same]
              have wa19 := congrArg Int32.toInt ua19
              have ra19_99 : (a19 1 4).toInt = (a147 1 4).toInt := by rw [ea19, mU_slot (by decide)]
              exact w_ret rfl ⟨a19, b147, v147, rfl, ha19, ⟨FR.up (hF147) (by first | decide | (simp; done) | exact cA_mem (by omega) | exact cB_mem (by omega) | exact cU_mem (by omega) | exact cM_mem (by omega)) ea19, ⟨hG147, ⟨hw, hX⟩⟩, AVX.of1 hA (by omega) ea19 (by omega)⟩, rfl⟩
        refine w_const rfl ?_
        refine w_istore (lo' := [some (.inr (.inr (some 1))), some (.inl 0)]) rfl rfl ?_
        have loop100 : ∀ (ms9 : Nat) (i : Int32) (a100 : Nat → Nat → Int32) (b100 : Nat → Nat → Int64) (v100 : Nat → Option Nat) , (31 - i.toInt).toNat = ms9 → RC K a100 → FR [1] a a100 → (∀ i, i ∉ [2] → v100 i = v i) → (0 ≤ i.toInt ∧ i.toInt ≤ 31) → (f_wdb (v100 2) = true) → (AV a a100 b b100) → (WD v100 i.toInt (b 5 (a 1 5).toInt.toNat)) → (i.toInt = 0 ∨ (a100 1 7).toInt = 2) → f_wp (f_code (t_X8_advance (f_ev mtC d))) (100, [some (.inr (.inr (some 1))), some (.inl i)], [], cH a100 b100 v100) (fun v9 h' => ∃ (a' : Nat → Nat → Int32) (b' : Nat → Nat → Int64) (v' : Nat → Option Nat), h' = cH a' b' v' ∧ RC K a' ∧ (FR [1] a a' ∧ ((∀ i, i ∉ [2] → v' i = v i) ∧ (f_wdb (v' 2) = true ∧ VX a b v')) ∧ AVX a a' b b') ∧ v9 = none) := by
          intro ms9
          induction ms9 using Nat.strongRecOn with
          | _ ms100 ih100 =>
            intro i a100 b100 v100  hm100 hR100 hF100 hG100 hi hw hA hW hk
            refine w_aload rfl rfl ?_
            refine c_getI rfl rfl rfl rfl ?_
            refine w_const rfl ?_
            refine w_ic_ne rfl (fun c20 => ?_) (fun c20 => ?_)
            · skip
              refine w_iload rfl rfl ?_
              refine w_const rfl ?_
              refine c_slen rfl ?_
              show f_wp _ (113, [some (.inr (.inr (some 1))), some (.inl i)], .inl 31 :: [.inl i], cH a100 b100 v100) _
              refine w_ic_ge rfl (fun c21 => ?_) (fun c21 => ?_)
              · skip
                exact loop147 _ a100 b100 v100 (some (.inl i)) rfl hR100 (hF100) (hG100) (hw) (hA) (by first | exact VX.of31 hW (by omega) (by rw [← hA.2.1]; omega) | exact VX.of0 hW (by omega) (by rw [← hA.2.1]; omega))
              · skip
                refine w_const rfl ?_
                refine w_iload rfl rfl ?_
                refine c_sel (N := 31) rfl (by omega) ?_
                refine c_sfld rfl (if_pos (by omega)) ?_
                refine w_aload rfl rfl ?_
                refine c_getL rfl rfl rfl rfl ?_
                refine w_lcmpE rfl (fun x23 tx23 => ?_)
                have C9 := cmp_ti tx23
                have W9 := congrArg (fun n9 => (wKey.getD n9 0).toInt) (Nat.add_sub_cancel_left 1000 i.toInt.toNat)
                have KB : b100 1 10 = b 5 (a 1 5).toInt.toNat := by rw [hA.2.2.2, mV_same]
                refine w_if_ne rfl (fun c24 => ?_) (fun c24 => ?_)
                · skip
                  refine w_aload rfl rfl ?_
                  refine w_const rfl ?_
                  refine w_iload rfl rfl ?_
                  refine c_sel (N := 31) rfl (by omega) ?_
                  refine c_putR rfl rfl rfl rfl rC_put2 (fun v25 ev25 => ?_)
                  refine w_iinc (lo' := fun z9 => [some (.inr (.inr (some 1))), some (.inl z9)]) rfl rfl (fun _ => rfl) (by omega) (fun x26 tx26 => ?_)
                  refine w_goto rfl ?_
                  exact ih100 (31 - x26.toInt).toNat (by omega) x26 a100 b100 v25 rfl hR100 (hF100) (fun i9 h9 => (show v25 i9 = v100 i9 from by rw [ev25]; exact vU_ne (fun z9 => h9 (by rw [z9]; decide))).trans ((show ∀ i9, i9 ∉ [2] → v100 i9 = v i9 from hG100) i9 h9)) (by omega) (by rw [ev25, vU_same]; exact wdb_some (by omega)) (hA) (WD.hit hW (by omega) (by rw [← KB]; exact Int64.toInt_inj.mp (by omega)) (by omega) ev25) (Or.inr (by omega))
                · skip
                  refine w_iinc (lo' := fun z9 => [some (.inr (.inr (some 1))), some (.inl z9)]) rfl rfl (fun _ => rfl) (by omega) (fun x27 tx27 => ?_)
                  refine w_goto rfl ?_
                  exact ih100 (31 - x27.toInt).toNat (by omega) x27 a100 b100 v100 rfl hR100 (hF100) (hG100) (by omega) (hw) (hA) (WD.miss hW (by omega) (fun h9 => by rw [← KB] at h9; have h8 := congrArg Int64.toInt h9; omega) (by omega)) (Or.inr (by omega))
            · skip
              exact loop147 _ a100 b100 v100 (some (.inl i)) rfl hR100 (hF100) (hG100) (hw) (hA) (by first | exact VX.of31 hW (by omega) (by rw [← hA.2.1]; omega) | exact VX.of0 hW (by omega) (by rw [← hA.2.1]; omega))
        exact loop100 _ 0 a46 b46 v12 rfl hR46 (hF46) (fun i9 h9 => (show v12 i9 = v i9 from by rw [ev12]; exact vU_ne (fun z9 => h9 (by rw [z9]; decide))).trans ((show ∀ i9, i9 ∉ [2] → v i9 = v i9 from (fun _ _ => rfl)) i9 h9)) (by omega) (by rw [ev12, vU_same]; rfl) (hA) (WD.init ev12) (Or.inl rfl)
      · skip
        refine w_aload rfl rfl ?_
        refine c_getI rfl rfl rfl rfl ?_
        refine w_const rfl ?_
        refine w_ic_ne rfl (fun c28 => ?_) (fun c28 => ?_)
        · skip
          refine w_aload rfl rfl ?_
          refine w_dup rfl rfl ?_
          refine c_getI rfl rfl rfl rfl ?_
          refine w_aload rfl rfl ?_
          refine c_getL rfl rfl rfl rfl ?_
          refine w_const rfl ?_
          refine w_iload rfl rfl ?_
          first | refine w_imul rfl (c := 5) rfl (by omega) (fun x29 tx29 => ?_) | refine w_iiU rfl (fun x29 tx29 => ?_)
          refine w_liE rfl (fun y30 ty30 => ?_)
          refine w_const rfl ?_
          refine w_lcmpE rfl (fun x31 tx31 => ?_)
          refine w_if_le rfl (fun c32 => ?_) (fun c32 => ?_)
          · skip
            refine w_const rfl ?_
            first | refine w_iadd rfl (by omega) (fun x33 tx33 => ?_) | refine w_iiU rfl (fun x33 tx33 => ?_)
            refine c_putI (z := false) rfl rfl rfl rfl (by first | (intro h9; cases h9; done) | (intro _; first | exact Or.inl rfl | exact Or.inr rfl | assumption | (rcases (by omega : x33.toInt = 0 ∨ x33.toInt = 1) with h8 | h8; exact Or.inl (ti_eq h8); exact Or.inr (ti_eq h8)))) (fun a34 ea34 => ?_)
            have ha34 : RC K a34 := RC.up hR46 ea34 (lc_any _ (by omega))
            have ua34 : a34 1 9 = x33 := by rw [ea34, mU_same]
            have wa34 := congrArg Int32.toInt ua34
            have ra34_173 : (a34 1 7).toInt = (a46 1 7).toInt := by rw [ea34, mU_slot (by decide)]
            refine w_iinc (lo' := fun z9 => [some (.inr (.inr (some 1))), some (.inl z9)]) rfl rfl (fun _ => rfl) (by omega) (fun x35 tx35 => ?_)
            refine w_goto rfl ?_
            exact ih46 (8 - x35.toInt).toNat (by omega) x35 a34 b46 rfl ha34 (FR.up (hF46) (by first | decide | (simp; done) | exact cA_mem (by omega) | exact cB_mem (by omega) | exact cU_mem (by omega) | exact cM_mem (by omega)) ea34) (by omega) (hA.up ea34)
          · skip
            refine w_const rfl ?_
            refine w_goto rfl ?_
            first | refine w_iadd rfl (by omega) (fun x36 tx36 => ?_) | refine w_iiU rfl (fun x36 tx36 => ?_)
            refine c_putI (z := false) rfl rfl rfl rfl (by first | (intro h9; cases h9; done) | (intro _; first | exact Or.inl rfl | exact Or.inr rfl | assumption | (rcases (by omega : x36.toInt = 0 ∨ x36.toInt = 1) with h8 | h8; exact Or.inl (ti_eq h8); exact Or.inr (ti_eq h8)))) (fun a37 ea37 => ?_)
            have ha37 : RC K a37 := RC.up hR46 ea37 (lc_any _ (by omega))
            have ua37 : a37 1 9 = x36 := by rw [ea37, mU_same]
            have wa37 := congrArg Int32.toInt ua37
            have ra37_185 : (a37 1 7).toInt = (a46 1 7).toInt := by rw [ea37, mU_slot (by decide)]
            refine w_iinc (lo' := fun z9 => [some (.inr (.inr (some 1))), some (.inl z9)]) rfl rfl (fun _ => rfl) (by omega) (fun x38 tx38 => ?_)
            refine w_goto rfl ?_
            exact ih46 (8 - x38.toInt).toNat (by omega) x38 a37 b46 rfl ha37 (FR.up (hF46) (by first | decide | (simp; done) | exact cA_mem (by omega) | exact cB_mem (by omega) | exact cU_mem (by omega) | exact cM_mem (by omega)) ea37) (by omega) (hA.up ea37)
        · skip
          refine w_aload rfl rfl ?_
          refine w_const rfl ?_
          refine c_putR rfl rfl rfl rfl rC_put2 (fun v39 ev39 => ?_)
          have loop147 : ∀ (ms9 : Nat)  (a147 : Nat → Nat → Int32) (b147 : Nat → Nat → Int64) (v147 : Nat → Option Nat) (o1_147 : Option f_V), ((0 : Int)).toNat = ms9 → RC K a147 → FR [1] a a147 → (∀ i, i ∉ [2] → v147 i = v i) → (f_wdb (v147 2) = true) → (AV a a147 b b147) → (VX a b v147) → f_wp (f_code (t_X8_advance (f_ev mtC d))) (147, [some (.inr (.inr (some 1))), o1_147], [], cH a147 b147 v147) (fun v9 h' => ∃ (a' : Nat → Nat → Int32) (b' : Nat → Nat → Int64) (v' : Nat → Option Nat), h' = cH a' b' v' ∧ RC K a' ∧ (FR [1] a a' ∧ ((∀ i, i ∉ [2] → v' i = v i) ∧ (f_wdb (v' 2) = true ∧ VX a b v')) ∧ AVX a a' b b') ∧ v9 = none) := by
            intro ms9
            induction ms9 using Nat.strongRecOn with
            | _ ms147 ih147 =>
              intro  a147 b147 v147 o1_147 hm147 hR147 hF147 hG147 hw hA hX
              refine w_aload rfl rfl ?_
              refine c_getI rfl rfl rfl rfl ?_
              have q40 : 0 ≤ (a147 1 5).toInt ∧ (a147 1 5).toInt ≤ 1000 := hR147 1 5
              refine w_aload rfl rfl ?_
              refine c_getI rfl rfl rfl rfl ?_
              have q41 : 0 ≤ (a147 1 4).toInt ∧ (a147 1 4).toInt ≤ 1001 := hR147 1 4
              refine w_const rfl ?_
              first | refine w_isub rfl (by omega) (fun x42 tx42 => ?_) | refine w_iiU rfl (fun x42 tx42 => ?_)
              refine w_ic_ge rfl (fun c43 => ?_) (fun c43 => ?_)
              · skip
                exact w_ret rfl ⟨a147, b147, v147, rfl, hR147, ⟨hF147, ⟨hG147, ⟨hw, hX⟩⟩, AVX.of0 hA (by omega)⟩, rfl⟩
              · skip
                refine w_aload rfl rfl ?_
                refine w_dup rfl rfl ?_
                refine c_getI rfl rfl rfl rfl ?_
                have q44 : 0 ≤ (a147 1 5).toInt ∧ (a147 1 5).toInt ≤ 1000 := hR147 1 5
                refine w_const rfl ?_
                first | refine w_iadd rfl (by omega) (fun x45 tx45 => ?_) | refine w_iiU rfl (fun x45 tx45 => ?_)
                refine c_putI (z := false) rfl rfl rfl rfl (by first | (intro h9; cases h9; done) | (intro _; first | exact Or.inl rfl | exact Or.inr rfl | assumption | (rcases (by omega : x45.toInt = 0 ∨ x45.toInt = 1) with h8 | h8; exact Or.inl (ti_eq h8); exact Or.inr (ti_eq h8)))) (fun a46 ea46 => ?_)
                have ha46 : RC K a46 := RC.up hR147 ea46 (show (0 : Int) ≤ _ ∧ _ ≤ (1000 : Int) from by omega)
                have ua46 : a46 1 5 = x45 := by rw [ea46, mU_same]
                have wa46 := congrArg Int32.toInt ua46
                have ra46_220 : (a46 1 4).toInt = (a147 1 4).toInt := by rw [ea46, mU_slot (by decide)]
                exact w_ret rfl ⟨a46, b147, v147, rfl, ha46, ⟨FR.up (hF147) (by first | decide | (simp; done) | exact cA_mem (by omega) | exact cB_mem (by omega) | exact cU_mem (by omega) | exact cM_mem (by omega)) ea46, ⟨hG147, ⟨hw, hX⟩⟩, AVX.of1 hA (by omega) ea46 (by omega)⟩, rfl⟩
          refine w_const rfl ?_
          refine w_istore (lo' := [some (.inr (.inr (some 1))), some (.inl 0)]) rfl rfl ?_
          have loop100 : ∀ (ms9 : Nat) (i : Int32) (a100 : Nat → Nat → Int32) (b100 : Nat → Nat → Int64) (v100 : Nat → Option Nat) , (31 - i.toInt).toNat = ms9 → RC K a100 → FR [1] a a100 → (∀ i, i ∉ [2] → v100 i = v i) → (0 ≤ i.toInt ∧ i.toInt ≤ 31) → (f_wdb (v100 2) = true) → (AV a a100 b b100) → (WD v100 i.toInt (b 5 (a 1 5).toInt.toNat)) → (i.toInt = 0 ∨ (a100 1 7).toInt = 2) → f_wp (f_code (t_X8_advance (f_ev mtC d))) (100, [some (.inr (.inr (some 1))), some (.inl i)], [], cH a100 b100 v100) (fun v9 h' => ∃ (a' : Nat → Nat → Int32) (b' : Nat → Nat → Int64) (v' : Nat → Option Nat), h' = cH a' b' v' ∧ RC K a' ∧ (FR [1] a a' ∧ ((∀ i, i ∉ [2] → v' i = v i) ∧ (f_wdb (v' 2) = true ∧ VX a b v')) ∧ AVX a a' b b') ∧ v9 = none) := by
            intro ms9
            induction ms9 using Nat.strongRecOn with
            | _ ms100 ih100 =>
              intro i a100 b100 v100  hm100 hR100 hF100 hG100 hi hw hA hW hk
              refine w_aload rfl rfl ?_
              refine c_getI rfl rfl rfl rfl ?_
              refine w_const rfl ?_
              refine w_ic_ne rfl (fun c47 => ?_) (fun c47 => ?_)
              · skip
                refine w_iload rfl rfl ?_
                refine w_const rfl ?_
                refine c_slen rfl ?_
                show f_wp _ (113, [some (.inr (.inr (some 1))), some (.inl i)], .inl 31 :: [.inl i], cH a100 b100 v100) _
                refine w_ic_ge rfl (fun c48 => ?_) (fun c48 => ?_)
                · skip
                  exact loop147 _ a100 b100 v100 (some (.inl i)) rfl hR100 (hF100) (hG100) (hw) (hA) (by first | exact VX.of31 hW (by omega) (by rw [← hA.2.1]; omega) | exact VX.of0 hW (by omega) (by rw [← hA.2.1]; omega))
                · skip
                  refine w_const rfl ?_
                  refine w_iload rfl rfl ?_
                  refine c_sel (N := 31) rfl (by omega) ?_
                  refine c_sfld rfl (if_pos (by omega)) ?_
                  refine w_aload rfl rfl ?_
                  refine c_getL rfl rfl rfl rfl ?_
                  refine w_lcmpE rfl (fun x50 tx50 => ?_)
                  have C9 := cmp_ti tx50
                  have W9 := congrArg (fun n9 => (wKey.getD n9 0).toInt) (Nat.add_sub_cancel_left 1000 i.toInt.toNat)
                  have KB : b100 1 10 = b 5 (a 1 5).toInt.toNat := by rw [hA.2.2.2, mV_same]
                  refine w_if_ne rfl (fun c51 => ?_) (fun c51 => ?_)
                  · skip
                    refine w_aload rfl rfl ?_
                    refine w_const rfl ?_
                    refine w_iload rfl rfl ?_
                    refine c_sel (N := 31) rfl (by omega) ?_
                    refine c_putR rfl rfl rfl rfl rC_put2 (fun v52 ev52 => ?_)
                    refine w_iinc (lo' := fun z9 => [some (.inr (.inr (some 1))), some (.inl z9)]) rfl rfl (fun _ => rfl) (by omega) (fun x53 tx53 => ?_)
                    refine w_goto rfl ?_
                    exact ih100 (31 - x53.toInt).toNat (by omega) x53 a100 b100 v52 rfl hR100 (hF100) (fun i9 h9 => (show v52 i9 = v100 i9 from by rw [ev52]; exact vU_ne (fun z9 => h9 (by rw [z9]; decide))).trans ((show ∀ i9, i9 ∉ [2] → v100 i9 = v i9 from hG100) i9 h9)) (by omega) (by rw [ev52, vU_same]; exact wdb_some (by omega)) (hA) (WD.hit hW (by omega) (by rw [← KB]; exact Int64.toInt_inj.mp (by omega)) (by omega) ev52) (Or.inr (by omega))
                  · skip
                    refine w_iinc (lo' := fun z9 => [some (.inr (.inr (some 1))), some (.inl z9)]) rfl rfl (fun _ => rfl) (by omega) (fun x54 tx54 => ?_)
                    refine w_goto rfl ?_
                    exact ih100 (31 - x54.toInt).toNat (by omega) x54 a100 b100 v100 rfl hR100 (hF100) (hG100) (by omega) (hw) (hA) (WD.miss hW (by omega) (fun h9 => by rw [← KB] at h9; have h8 := congrArg Int64.toInt h9; omega) (by omega)) (Or.inr (by omega))
              · skip
                exact loop147 _ a100 b100 v100 (some (.inl i)) rfl hR100 (hF100) (hG100) (hw) (hA) (by first | exact VX.of31 hW (by omega) (by rw [← hA.2.1]; omega) | exact VX.of0 hW (by omega) (by rw [← hA.2.1]; omega))
          exact loop100 _ 0 a46 b46 v39 rfl hR46 (hF46) (fun i9 h9 => (show v39 i9 = v i9 from by rw [ev39]; exact vU_ne (fun z9 => h9 (by rw [z9]; decide))).trans ((show ∀ i9, i9 ∉ [2] → v i9 = v i9 from (fun _ _ => rfl)) i9 h9)) (by omega) (by rw [ev39, vU_same]; rfl) (hA) (WD.init ev39) (Or.inl rfl)
  exact loop46 _ 0 a10 b9 rfl ha10 (FR.up (FR.up (FR.up (FR.rf) (by first | decide | (simp; done) | exact cA_mem (by omega) | exact cB_mem (by omega) | exact cU_mem (by omega) | exact cM_mem (by omega)) ea3) (by first | decide | (simp; done) | exact cA_mem (by omega) | exact cB_mem (by omega) | exact cU_mem (by omega) | exact cM_mem (by omega)) ea6) (by first | decide | (simp; done) | exact cA_mem (by omega) | exact cB_mem (by omega) | exact cU_mem (by omega) | exact cM_mem (by omega)) ea10) (by omega) (AV.mk ea3 X1 ea6 X2 eb9 X3 ea10)
set_option maxRecDepth 4000 in
theorem s_X8_begin_1 {K : Nat} (a : Nat → Nat → Int32) (b : Nat → Nat → Int64) (v : Nat → Option Nat)  (hR : RC K a) (hf : ∀ j : Nat, (j : Int) < (a 1 6).toInt → 0 ≤ (a 2 j).toInt ∧ (a 2 j).toInt ≤ 127) : f_call mtC 6 83 [.inr (.inr (some 1))] (cH a b v) (fun v9 h' => ∃ (a' : Nat → Nat → Int32) (b' : Nat → Nat → Int64) (v' : Nat → Option Nat), h' = cH a' b' v' ∧ RC K a' ∧ (FR [1, 3, 4] a a' ∧ ((∀ i, i ∉ [2] → v' i = v i) ∧ (f_wdb (v' 2) = true ∧ ∃ N : Nat, PC (a 2) (a 1 6).toInt.toNat N 0 a' b' v')) ∧ (a' 1 6 = a 1 6)) ∧ v9 = none) := by
  refine f_call_of (d0 := 5) rfl (Nat.le_of_ble_eq_true rfl) (fun d hd => ?_)
  show f_wp _ (0, [some (.inr (.inr (some 1))), none, none], [], cH a b v) _
  have l0 : (0 : Int32).toInt = 0 := rfl
  have l1 : (1 : Int32).toInt = 1 := rfl
  have l10 : (10 : Int32).toInt = 10 := rfl
  have l32 : (32 : Int32).toInt = 32 := rfl
  have z6 : 0 ≤ (a 1 6).toInt ∧ (a 1 6).toInt ≤ 1000 := hR 1 6
  have ck1 : ckd 1 = 2 := rfl
  have ck2 : ckd 2 = 3 := rfl
  have ck3 : ckd 3 = 4 := rfl
  have ck4 : ckd 4 = 1 := rfl
  refine w_aload rfl rfl ?_
  refine w_const rfl ?_
  refine c_putI (z := false) rfl rfl rfl rfl (by first | (intro h9; cases h9; done) | (intro _; first | exact Or.inl rfl | exact Or.inr rfl | assumption | (rcases (by omega : (0 : Int32).toInt = 0 ∨ (0 : Int32).toInt = 1) with h8 | h8; exact Or.inl (ti_eq h8); exact Or.inr (ti_eq h8)))) (fun a1 ea1 => ?_)
  have ha1 : RC K a1 := RC.up hR ea1 (show (0 : Int) ≤ _ ∧ _ ≤ (1001 : Int) from by omega)
  have ua1 : a1 1 4 = (0 : Int32) := by rw [ea1, mU_same]
  have wa1 := congrArg Int32.toInt ua1
  refine w_const rfl ?_
  refine w_istore (lo' := [some (.inr (.inr (some 1))), some (.inl 0), none]) rfl rfl ?_
  refine w_const rfl ?_
  refine w_istore (lo' := [some (.inr (.inr (some 1))), some (.inl 0), some (.inl 0)]) rfl rfl ?_
  have loop9 : ∀ (ms9 : Nat) (be : Int32) (i : Int32) (a9 : Nat → Nat → Int32) (b9 : Nat → Nat → Int64) , (1000 - i.toInt).toNat = ms9 → RC K a9 → FR [1, 3, 4] a a9 → (0 ≤ i.toInt ∧ i.toInt ≤ (a 1 6).toInt) → (0 ≤ be.toInt ∧ be.toInt ≤ (a 1 6).toInt) → (a9 1 6 = a 1 6) → (LXC (a 2) (a 1 6).toInt.toNat (max be.toInt i.toInt).toNat a9 b9) → f_wp (f_code (t_X8_begin (f_ev mtC d))) (9, [some (.inr (.inr (some 1))), some (.inl be), some (.inl i)], [], cH a9 b9 v) (fun v9 h' => ∃ (a' : Nat → Nat → Int32) (b' : Nat → Nat → Int64) (v' : Nat → Option Nat), h' = cH a' b' v' ∧ RC K a' ∧ (FR [1, 3, 4] a a' ∧ ((∀ i, i ∉ [2] → v' i = v i) ∧ (f_wdb (v' 2) = true ∧ ∃ N : Nat, PC (a 2) (a 1 6).toInt.toNat N 0 a' b' v')) ∧ (a' 1 6 = a 1 6)) ∧ v9 = none) := by
    intro ms9
    induction ms9 using Nat.strongRecOn with
    | _ ms9 ih9 =>
      intro be i a9 b9  hm9 hR9 hF9 hi hbe h6 hX
      refine w_iload rfl rfl ?_
      refine w_aload rfl rfl ?_
      refine c_getI rfl rfl rfl rfl ?_
      have q2 : 0 ≤ (a9 1 6).toInt ∧ (a9 1 6).toInt ≤ 1000 := hR9 1 6
      have L9 := congrArg Int32.toInt h6
      refine w_ic_ge rfl (fun c3 => ?_) (fun c3 => ?_)
      · skip
        refine w_aload rfl rfl ?_
        refine w_const rfl ?_
        refine w_aload rfl rfl ?_
        refine c_getI rfl rfl rfl rfl ?_
        have q4 : 0 ≤ (a9 1 6).toInt ∧ (a9 1 6).toInt ≤ 1000 := hR9 1 6
        have L7 := hX.1
        have L8 := hX.2.1
        refine w_const rfl ?_
        refine w_invV (rest := []) rfl rfl rfl rfl rfl (Nat.le_of_ble_eq_true rfl) rfl (by omega) (s_X8_keep_1 (K := K) a9 b9 v  0 (a9 1 6) 0 hR9  (by omega)) (fun z5 h9 hq6 => ?_)
        obtain ⟨a7, b8, rfl, ha7, fa7, rfl⟩ := hq6
        show f_wp _ (66, [some (.inr (.inr (some 1))), some (.inl be), some (.inl i)], [], cH a7 b8 v) _
        have D1 : TKC (a 2) (a 1 6).toInt.toNat (a9 1 4).toInt.toNat a7 b8 := LXC.done hX (by omega) fa7.2 rfl (by rw [h6]; omega)
        have D0 : a7 1 6 = a 1 6 := by rw [fa7.2.1 6 (by decide)]; exact h6
        refine w_aload rfl rfl ?_
        refine w_const rfl ?_
        refine c_putI (z := false) rfl rfl rfl rfl (by first | (intro h9; cases h9; done) | (intro _; first | exact Or.inl rfl | exact Or.inr rfl | assumption | (rcases (by omega : (0 : Int32).toInt = 0 ∨ (0 : Int32).toInt = 1) with h8 | h8; exact Or.inl (ti_eq h8); exact Or.inr (ti_eq h8)))) (fun a9 ea9 => ?_)
        have ha9 : RC K a9 := RC.up ha7 ea9 (show (0 : Int) ≤ _ ∧ _ ≤ (1000 : Int) from by omega)
        have ua9 : a9 1 5 = (0 : Int32) := by rw [ea9, mU_same]
        have wa9 := congrArg Int32.toInt ua9
        have D2 := D1.up5 ea9
        have D3 : a9 1 6 = a 1 6 := by rw [ea9, mU_slot (by decide)]; exact D0
        have D4 : (a9 1 5).toInt = ((0 : Nat) : Int) := by rw [ea9, mU_same]; rfl
        refine w_aload rfl rfl ?_
        refine w_invV (rest := []) rfl rfl rfl rfl rfl (Nat.le_of_ble_eq_true rfl) rfl (by omega) (s_X8_advance_1 (K := K) a9 b8 v   ha9  ) (fun z10 h9 hq11 => ?_)
        obtain ⟨a12, b13, v14, rfl, ha12, fa12, rfl⟩ := hq11
        show f_wp _ (75, [some (.inr (.inr (some 1))), some (.inl be), some (.inl i)], [], cH a12 b13 v14) _
        exact w_ret rfl ⟨a12, b13, v14, rfl, ha12, ⟨FR.tr (FR.up (FR.tr (hF9) (FR.sub fa7.1 (by first | exact (fun _ h9 => h9) | decide | (intro c9 h9; simp only [List.mem_cons, List.not_mem_nil, or_false] at h9 ⊢; omega) | (intro c9 h9; simp only [List.mem_cons, List.not_mem_nil, or_false] at h9; exact cA_mem (by omega)) | (intro c9 h9; simp only [List.mem_cons, List.not_mem_nil, or_false] at h9; exact cB_mem (by omega)) | (intro c9 h9; simp only [List.mem_cons, List.not_mem_nil, or_false] at h9; exact cU_mem (by omega)) | (intro c9 h9; simp only [List.mem_cons, List.not_mem_nil, or_false] at h9; exact cM_mem (by omega)) | exact cA_sub))) (by first | decide | (simp; done) | exact cA_mem (by omega) | exact cB_mem (by omega) | exact cU_mem (by omega) | exact cM_mem (by omega)) ea9) (FR.sub fa12.1 (by first | exact (fun _ h9 => h9) | decide | (intro c9 h9; simp only [List.mem_cons, List.not_mem_nil, or_false] at h9 ⊢; omega) | (intro c9 h9; simp only [List.mem_cons, List.not_mem_nil, or_false] at h9; exact cA_mem (by omega)) | (intro c9 h9; simp only [List.mem_cons, List.not_mem_nil, or_false] at h9; exact cB_mem (by omega)) | (intro c9 h9; simp only [List.mem_cons, List.not_mem_nil, or_false] at h9; exact cU_mem (by omega)) | (intro c9 h9; simp only [List.mem_cons, List.not_mem_nil, or_false] at h9; exact cM_mem (by omega)) | exact cA_sub)), ⟨fun i9 h9 => (fa12.2.1.1 i9 (fun z9 => h9 (by first | exact z9 | (revert z9; simp; done) | (revert z9; simp; omega)))).trans ((show ∀ i9, i9 ∉ [2] → v i9 = v i9 from (fun _ _ => rfl)) i9 h9), ⟨fa12.2.1.2.1, _, PC.adv D2 fa12.1 fa12.2.2 fa12.2.1.2.2 D4 (Nat.zero_le _)⟩⟩, by rw [fa12.2.2.1 6 (by decide) (by decide) (by decide) (by decide)]; exact D3⟩, rfl⟩
      · skip
        refine w_iload rfl rfl ?_
        refine w_iload rfl rfl ?_
        refine w_ic_lt rfl (fun c15 => ?_) (fun c15 => ?_)
        · skip
          refine w_iinc (lo' := fun z9 => [some (.inr (.inr (some 1))), some (.inl be), some (.inl z9)]) rfl rfl (fun _ => rfl) (by omega) (fun x16 tx16 => ?_)
          refine w_goto rfl ?_
          exact ih9 (1000 - x16.toInt).toNat (by omega) be x16 a9 b9 rfl hR9 (hF9) (by omega) (by omega) (h6) (by first | exact hX.cast (by omega) | exact ((hX.cast (m' := i.toInt.toNat) (by omega)).blank (by omega) (lxB_iff.mpr (by rw [← T1]; omega)) rfl).cast (by omega))
        · skip
          refine w_aload rfl rfl ?_
          refine c_getR (t := some 2) rfl rfl rfl rfl rfl ?_
          refine w_iload rfl rfl ?_
          refine c_cald rfl rfl (by omega) (fun x17 ex17 => ?_)
          have T1 : x17 = a 2 i.toInt.toNat := by rw [ex17, hF9 2 (by decide)]
          have T1i := congrArg Int32.toInt T1
          refine w_const rfl ?_
          refine w_ic_eq rfl (fun c18 => ?_) (fun c18 => ?_)
          · skip
            refine w_iinc (lo' := fun z9 => [some (.inr (.inr (some 1))), some (.inl be), some (.inl z9)]) rfl rfl (fun _ => rfl) (by omega) (fun x19 tx19 => ?_)
            refine w_goto rfl ?_
            exact ih9 (1000 - x19.toInt).toNat (by omega) be x19 a9 b9 rfl hR9 (hF9) (by omega) (by omega) (h6) (by first | exact hX.cast (by omega) | exact ((hX.cast (m' := i.toInt.toNat) (by omega)).blank (by omega) (lxB_iff.mpr (by rw [← T1]; omega)) rfl).cast (by omega))
          · skip
            refine w_aload rfl rfl ?_
            refine c_getR (t := some 2) rfl rfl rfl rfl rfl ?_
            refine w_iload rfl rfl ?_
            refine c_cald rfl rfl (by omega) (fun x20 ex20 => ?_)
            have T2 : x20 = a 2 i.toInt.toNat := by rw [ex20, hF9 2 (by decide)]
            have T2i := congrArg Int32.toInt T2
            have L4 := hX.1
            have L5 := hX.2.1
            have L6 := congrArg Int32.toInt h6
            have hf9 : 0 ≤ (a9 2 i.toInt.toNat).toInt ∧ (a9 2 i.toInt.toNat).toInt ≤ 127 := by rw [hF9 2 (by decide)]; exact hf _ (by omega)
            refine w_const rfl ?_
            refine w_ic_eq rfl (fun c21 => ?_) (fun c21 => ?_)
            · skip
              refine w_iinc (lo' := fun z9 => [some (.inr (.inr (some 1))), some (.inl be), some (.inl z9)]) rfl rfl (fun _ => rfl) (by omega) (fun x22 tx22 => ?_)
              refine w_goto rfl ?_
              exact ih9 (1000 - x22.toInt).toNat (by omega) be x22 a9 b9 rfl hR9 (hF9) (by omega) (by omega) (h6) (by first | exact hX.cast (by omega) | exact ((hX.cast (m' := i.toInt.toNat) (by omega)).blank (by omega) (lxB_iff.mpr (by rw [← T1]; omega)) rfl).cast (by omega))
            · skip
              refine w_aload rfl rfl ?_
              refine w_iload rfl rfl ?_
              refine w_invV (rest := []) rfl rfl rfl rfl rfl (Nat.le_of_ble_eq_true rfl) rfl (by omega) (s_X8_cut_1 (K := K) a9 b9 v  i hR9  (by omega) (by omega) (by omega) (hf9)) (fun z23 h9 hq24 => ?_)
              obtain ⟨a25, b26, rfl, ha25, fa25, x27, rfl, px27⟩ := hq24
              show f_wp _ (49, [some (.inr (.inr (some 1))), some (.inl be), some (.inl i)], [.inl x27], cH a25 b26 v) _
              have C1 : CT (a 2) (a 1 6).toInt.toNat i.toInt.toNat a9 a25 b9 b26 x27.toInt := by have h9 := px27; rw [hF9 2 (by decide), h6] at h9; exact h9
              have C2 := lxe_gt (t := a 2) (n := (a 1 6).toInt.toNat) (k := i.toInt.toNat) (by omega)
              have C3 := C1.1
              have C4 : (a25 1 6) = (a 1 6) := by obtain ⟨_, p9, q9, k9, hk9, _⟩ := C1; rw [hk9.1 6 (by decide)]; exact h6
              refine w_istore (lo' := [some (.inr (.inr (some 1))), some (.inl x27), some (.inl i)]) rfl rfl ?_
              refine w_iinc (lo' := fun z9 => [some (.inr (.inr (some 1))), some (.inl x27), some (.inl z9)]) rfl rfl (fun _ => rfl) (by omega) (fun x28 tx28 => ?_)
              refine w_goto rfl ?_
              exact ih9 (1000 - x28.toInt).toNat (by omega) x27 x28 a25 b26 rfl ha25 (FR.tr (hF9) (FR.sub fa25.1 (by first | exact (fun _ h9 => h9) | decide | (intro c9 h9; simp only [List.mem_cons, List.not_mem_nil, or_false] at h9 ⊢; omega) | (intro c9 h9; simp only [List.mem_cons, List.not_mem_nil, or_false] at h9; exact cA_mem (by omega)) | (intro c9 h9; simp only [List.mem_cons, List.not_mem_nil, or_false] at h9; exact cB_mem (by omega)) | (intro c9 h9; simp only [List.mem_cons, List.not_mem_nil, or_false] at h9; exact cU_mem (by omega)) | (intro c9 h9; simp only [List.mem_cons, List.not_mem_nil, or_false] at h9; exact cM_mem (by omega)) | exact cA_sub))) (by omega) (by omega) (C4) (((hX.cast (m' := i.toInt.toNat) (by omega)).tok (i' := x27.toInt.toNat) (by omega) (fun h9 => by have h8 := lxB_iff.mp h9; rw [← T1] at h8; omega) C1 (by omega)).cast (by omega))
  exact loop9 _ 0 0 a1 b rfl ha1 (FR.up (FR.rf) (by first | decide | (simp; done) | exact cA_mem (by omega) | exact cB_mem (by omega) | exact cU_mem (by omega) | exact cM_mem (by omega)) ea1) (by omega) (by omega) (by rw [ea1, mU_slot (by decide)]) ((LXC.init (by rw [ea1, mU_same]; rfl)).cast (by omega))
