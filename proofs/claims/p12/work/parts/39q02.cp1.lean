set_option maxHeartbeats 2000000 in
set_option maxRecDepth 4000 in
theorem y_X8_advance {d : Nat} (a : Nat → Nat → Int32) (b : Nat → Nat → Int64) (v : Nat → Option Nat)  (hn : 0 ≤ (a 1 4).toInt ∧ (a 1 4).toInt ≤ 1001) (hx : 0 ≤ (a 1 5).toInt ∧ (a 1 5).toInt ≤ 1001) : f_pc mtC d 84 [.inr (.inr (some 1))] (cH a b v) (fun v9 h' => ∃ (a' : Nat → Nat → Int32) (b' : Nat → Nat → Int64) (v' : Nat → Option Nat), h' = cH a' b' v' ∧ (FR [1] a a' ∧ ((∀ i, i ∉ [2] → v' i = v i) ∧ (f_wdb (v' 2) = true ∧ VX a b v')) ∧ AVX a a' b b') ∧ v9 = none) := by
  refine f_pc_of rfl (fun d0 fu hd => ?_)
  show f_pq _ _ (0, [some (.inr (.inr (some 1))), none], [], cH a b v) _
  have l0 : (0 : Int32).toInt = 0 := rfl
  have l1 : (1 : Int32).toInt = 1 := rfl
  have l2 : (2 : Int32).toInt = 2 := rfl
  have l4 : (4 : Int32).toInt = 4 := rfl
  have l5 : (5 : Int32).toInt = 5 := rfl
  have l6 : (6 : Int32).toInt = 6 := rfl
  have l8 : (8 : Int32).toInt = 8 := rfl
  have l16 : (16 : Int32).toInt = 16 := rfl
  have l31 : (31 : Int32).toInt = 31 := rfl
  have l384 : (384 : Int32).toInt = 384 := rfl
  have l1000 : (1000 : Int32).toInt = 1000 := rfl
  refine qw_aload rfl rfl ?_
  refine qw_aload rfl rfl ?_
  refine qc_getR (t := some 3) rfl rfl rfl rfl rfl ?_
  refine qw_aload rfl rfl ?_
  refine qc_getI rfl rfl rfl rfl ?_
  refine qc_iald rfl rfl (fun jx1 x1 ex1 => ?_)
  have X1 := ex1
  refine qc_putI (z := false) rfl rfl rfl rfl (by first | (intro h9; cases h9; done) | (intro _; first | exact Or.inl rfl | exact Or.inr rfl | assumption | (rcases (by omega : x1.toInt = 0 ∨ x1.toInt = 1) with h8 | h8; exact Or.inl (ti_eq h8); exact Or.inr (ti_eq h8)))) (fun a2 ea2 => ?_)
  have ua2 : a2 1 7 = x1 := by rw [ea2, mU_same]
  have wa2 := congrArg Int32.toInt ua2
  have ra2_26 : (a2 1 5).toInt = (a 1 5).toInt := by rw [ea2, mU_slot (by decide)]
  refine qw_aload rfl rfl ?_
  refine qw_aload rfl rfl ?_
  refine qc_getR (t := some 4) rfl rfl rfl rfl rfl ?_
  refine qw_aload rfl rfl ?_
  refine qc_getI rfl rfl rfl rfl ?_
  refine qc_iald rfl rfl (fun jx3 x3 ex3 => ?_)
  have X2 := ex3
  refine qc_putI (z := false) rfl rfl rfl rfl (by first | (intro h9; cases h9; done) | (intro _; first | exact Or.inl rfl | exact Or.inr rfl | assumption | (rcases (by omega : x3.toInt = 0 ∨ x3.toInt = 1) with h8 | h8; exact Or.inl (ti_eq h8); exact Or.inr (ti_eq h8)))) (fun a4 ea4 => ?_)
  have ua4 : a4 1 8 = x3 := by rw [ea4, mU_same]
  have wa4 := congrArg Int32.toInt ua4
  have ra4_37 : (a4 1 5).toInt = (a2 1 5).toInt := by rw [ea4, mU_slot (by decide)]
  refine qw_aload rfl rfl ?_
  refine qw_aload rfl rfl ?_
  refine qc_getR (t := some 5) rfl rfl rfl rfl rfl ?_
  refine qw_aload rfl rfl ?_
  refine qc_getI rfl rfl rfl rfl ?_
  refine qc_lald rfl rfl (fun jy5 y5 ey5 => ?_)
  have X3 := ey5
  refine qc_putL rfl rfl rfl rfl (fun b6 eb6 => ?_)
  refine qw_aload rfl rfl ?_
  refine qw_const rfl ?_
  refine qc_putI (z := false) rfl rfl rfl rfl (by first | (intro h9; cases h9; done) | (intro _; first | exact Or.inl rfl | exact Or.inr rfl | assumption | (rcases (by omega : (0 : Int32).toInt = 0 ∨ (0 : Int32).toInt = 1) with h8 | h8; exact Or.inl (ti_eq h8); exact Or.inr (ti_eq h8)))) (fun a7 ea7 => ?_)
  have ua7 : a7 1 9 = (0 : Int32) := by rw [ea7, mU_same]
  have wa7 := congrArg Int32.toInt ua7
  have ra7_51 : (a7 1 5).toInt = (a4 1 5).toInt := by rw [ea7, mU_slot (by decide)]
  refine qw_const rfl ?_
  refine qw_istore (lo' := [some (.inr (.inr (some 1))), some (.inl 0)]) rfl rfl ?_
  have loop46 : ∀ (fu46 : Nat) (i : Int32) (a46 : Nat → Nat → Int32) (b46 : Nat → Nat → Int64) ,  FR [1] a a46 → (0 ≤ i.toInt ∧ i.toInt ≤ 8) → (AV a a46 b b46) → f_pq (f_code (t_X8_advance (f_ev mtC d0))) fu46 (46, [some (.inr (.inr (some 1))), some (.inl i)], [], cH a46 b46 v) (fun v9 h' => ∃ (a' : Nat → Nat → Int32) (b' : Nat → Nat → Int64) (v' : Nat → Option Nat), h' = cH a' b' v' ∧ (FR [1] a a' ∧ ((∀ i, i ∉ [2] → v' i = v i) ∧ (f_wdb (v' 2) = true ∧ VX a b v')) ∧ AVX a a' b b') ∧ v9 = none) := by
    intro fu46
    induction fu46 with
    | zero => intros; exact pq_0
    | succ fu46 ih46 =>
      intro i a46 b46  hF46 hi hA
      refine qw_iload rfl rfl ?_
      refine qw_const rfl ?_
      refine qw_ic_ge rfl (fun c8 => ?_) (fun c8 => ?_)
      · skip
        refine qw_aload rfl rfl ?_
        refine qw_const rfl ?_
        refine qc_putR rfl rfl rfl rfl rC_put2 (fun v9 ev9 => ?_)
        have loop147 : ∀ (fuJ147 : Nat)  (a147 : Nat → Nat → Int32) (b147 : Nat → Nat → Int64) (v147 : Nat → Option Nat) (o1_147 : Option f_V),  FR [1] a a147 → (∀ i, i ∉ [2] → v147 i = v i) → (f_wdb (v147 2) = true) → (AV a a147 b b147) → (VX a b v147) → f_pq (f_code (t_X8_advance (f_ev mtC d0))) fuJ147 (147, [some (.inr (.inr (some 1))), o1_147], [], cH a147 b147 v147) (fun v9 h' => ∃ (a' : Nat → Nat → Int32) (b' : Nat → Nat → Int64) (v' : Nat → Option Nat), h' = cH a' b' v' ∧ (FR [1] a a' ∧ ((∀ i, i ∉ [2] → v' i = v i) ∧ (f_wdb (v' 2) = true ∧ VX a b v')) ∧ AVX a a' b b') ∧ v9 = none) := by
          intro fuJ147  a147 b147 v147 o1_147 hF147 hG147 hw hA hX
          · skip
            have n4 : (a147 1 4).toInt = (a 1 4).toInt := by rw [hA.1 4 (by decide) (by decide) (by decide)]
            have n5 : (a147 1 5).toInt = (a 1 5).toInt := by rw [hA.1 5 (by decide) (by decide) (by decide)]
            refine qw_aload rfl rfl ?_
            refine qc_getI rfl rfl rfl rfl ?_
            refine qw_aload rfl rfl ?_
            refine qc_getI rfl rfl rfl rfl ?_
            refine qw_const rfl ?_
            first | refine qw_isub rfl (by omega) (fun x10 tx10 => ?_) | refine qw_iiU rfl (fun x10 tx10 => ?_)
            refine qw_ic_ge rfl (fun c11 => ?_) (fun c11 => ?_)
            · skip
              exact qw_ret rfl ⟨a147, b147, v147, rfl, ⟨hF147, ⟨hG147, ⟨hw, hX⟩⟩, AVX.of0 hA (by omega)⟩, rfl⟩
            · skip
              refine qw_aload rfl rfl ?_
              refine qw_dup rfl rfl ?_
              refine qc_getI rfl rfl rfl rfl ?_
              refine qw_const rfl ?_
              first | refine qw_iadd rfl (by omega) (fun x12 tx12 => ?_) | refine qw_iiU rfl (fun x12 tx12 => ?_)
              refine qc_putI (z := false) rfl rfl rfl rfl (by first | (intro h9; cases h9; done) | (intro _; first | exact Or.inl rfl | exact Or.inr rfl | assumption | (rcases (by omega : x12.toInt = 0 ∨ x12.toInt = 1) with h8 | h8; exact Or.inl (ti_eq h8); exact Or.inr (ti_eq h8)))) (fun a13 ea13 => ?_)
              have ua13 : a13 1 5 = x12 := by rw [ea13, mU_same]
              have wa13 := congrArg Int32.toInt ua13
              have ra13_90 : (a13 1 4).toInt = (a147 1 4).toInt := by rw [ea13, mU_slot (by decide)]
              exact qw_ret rfl ⟨a13, b147, v147, rfl, ⟨FR.up (hF147) (by first | decide | (simp; done) | exact cA_mem (by omega) | exact cB_mem (by omega)) ea13, ⟨hG147, ⟨hw, hX⟩⟩, AVX.of1 hA (by omega) ea13 (by omega)⟩, rfl⟩
        refine qw_const rfl ?_
        refine qw_istore (lo' := [some (.inr (.inr (some 1))), some (.inl 0)]) rfl rfl ?_
        have loop100 : ∀ (fu100 : Nat) (i : Int32) (a100 : Nat → Nat → Int32) (b100 : Nat → Nat → Int64) (v100 : Nat → Option Nat) ,  FR [1] a a100 → (∀ i, i ∉ [2] → v100 i = v i) → (0 ≤ i.toInt ∧ i.toInt ≤ 31) → (f_wdb (v100 2) = true) → (AV a a100 b b100) → (WD v100 i.toInt (b 5 (a 1 5).toInt.toNat)) → (i.toInt = 0 ∨ (a100 1 7).toInt = 2) → f_pq (f_code (t_X8_advance (f_ev mtC d0))) fu100 (100, [some (.inr (.inr (some 1))), some (.inl i)], [], cH a100 b100 v100) (fun v9 h' => ∃ (a' : Nat → Nat → Int32) (b' : Nat → Nat → Int64) (v' : Nat → Option Nat), h' = cH a' b' v' ∧ (FR [1] a a' ∧ ((∀ i, i ∉ [2] → v' i = v i) ∧ (f_wdb (v' 2) = true ∧ VX a b v')) ∧ AVX a a' b b') ∧ v9 = none) := by
          intro fu100
          induction fu100 with
          | zero => intros; exact pq_0
          | succ fu100 ih100 =>
            intro i a100 b100 v100  hF100 hG100 hi hw hA hW hk
            refine qw_aload rfl rfl ?_
            refine qc_getI rfl rfl rfl rfl ?_
            refine qw_const rfl ?_
            refine qw_ic_ne rfl (fun c14 => ?_) (fun c14 => ?_)
            · skip
              refine qw_iload rfl rfl ?_
              refine qw_const rfl ?_
              refine qc_slen rfl ?_
              show f_pq _ _ (113, [some (.inr (.inr (some 1))), some (.inl i)], .inl 31 :: [.inl i], cH a100 b100 v100) _
              refine qw_ic_ge rfl (fun c15 => ?_) (fun c15 => ?_)
              · skip
                exact loop147 _ a100 b100 v100 (some (.inl i)) (hF100) (hG100) (hw) (hA) (by first | exact VX.of31 hW (by omega) (by rw [← hA.2.1]; omega) | exact VX.of0 hW (by omega) (by rw [← hA.2.1]; omega))
              · skip
                refine qw_const rfl ?_
                refine qw_iload rfl rfl ?_
                refine qc_sel (N := 31) rfl (fun js120 => ?_)
                refine qc_sfld rfl (if_pos (by omega)) ?_
                refine qw_aload rfl rfl ?_
                refine qc_getL rfl rfl rfl rfl ?_
                refine qw_lcmpE rfl (fun x17 tx17 => ?_)
                have C9 := cmp_ti tx17
                have W9 := congrArg (fun n9 => (wKey.getD n9 0).toInt) (Nat.add_sub_cancel_left 1000 i.toInt.toNat)
                have KB : b100 1 10 = b 5 (a 1 5).toInt.toNat := by rw [hA.2.2.2, mV_same]
                refine qw_if_ne rfl (fun c18 => ?_) (fun c18 => ?_)
                · skip
                  refine qw_aload rfl rfl ?_
                  refine qw_const rfl ?_
                  refine qw_iload rfl rfl ?_
                  refine qc_sel (N := 31) rfl (fun js137 => ?_)
                  refine qc_putR rfl rfl rfl rfl rC_put2 (fun v19 ev19 => ?_)
                  refine qw_iinc (lo' := fun z9 => [some (.inr (.inr (some 1))), some (.inl z9)]) rfl rfl (fun _ => rfl) (by omega) (fun x20 tx20 => ?_)
                  exact qw_gotoD rfl (ih100 x20 a100 b100 v19 (hF100) (fun i9 h9 => (show v19 i9 = v100 i9 from by rw [ev19]; exact vU_ne (fun z9 => h9 (by rw [z9]; decide))).trans ((show ∀ i9, i9 ∉ [2] → v100 i9 = v i9 from hG100) i9 h9)) (by omega) (by rw [ev19, vU_same]; exact wdb_some (by omega)) (hA) (WD.hit hW (by omega) (by rw [← KB]; exact Int64.toInt_inj.mp (by omega)) (by omega) ev19) (Or.inr (by omega)))
                · skip
                  refine qw_iinc (lo' := fun z9 => [some (.inr (.inr (some 1))), some (.inl z9)]) rfl rfl (fun _ => rfl) (by omega) (fun x21 tx21 => ?_)
                  exact qw_gotoD rfl (ih100 x21 a100 b100 v100 (hF100) (hG100) (by omega) (hw) (hA) (WD.miss hW (by omega) (fun h9 => by rw [← KB] at h9; have h8 := congrArg Int64.toInt h9; omega) (by omega)) (Or.inr (by omega)))
            · skip
              exact loop147 _ a100 b100 v100 (some (.inl i)) (hF100) (hG100) (hw) (hA) (by first | exact VX.of31 hW (by omega) (by rw [← hA.2.1]; omega) | exact VX.of0 hW (by omega) (by rw [← hA.2.1]; omega))
        exact loop100 _ 0 a46 b46 v9 (hF46) (fun i9 h9 => (show v9 i9 = v i9 from by rw [ev9]; exact vU_ne (fun z9 => h9 (by rw [z9]; decide))).trans ((show ∀ i9, i9 ∉ [2] → v i9 = v i9 from (fun _ _ => rfl)) i9 h9)) (by omega) (by rw [ev9, vU_same]; rfl) (hA) (WD.init ev9) (Or.inl rfl)
      · skip
        refine qw_aload rfl rfl ?_
        refine qc_getI rfl rfl rfl rfl ?_
        refine qw_const rfl ?_
        refine qw_ic_ne rfl (fun c22 => ?_) (fun c22 => ?_)
        · skip
          refine qw_aload rfl rfl ?_
          refine qw_dup rfl rfl ?_
          refine qc_getI rfl rfl rfl rfl ?_
          refine qw_aload rfl rfl ?_
          refine qc_getL rfl rfl rfl rfl ?_
          refine qw_const rfl ?_
          refine qw_iload rfl rfl ?_
          first | refine qw_imul rfl (c := 5) rfl (by omega) (fun x23 tx23 => ?_) | refine qw_iiU rfl (fun x23 tx23 => ?_)
          refine qw_liE rfl (fun y24 ty24 => ?_)
          refine qw_const rfl ?_
          refine qw_lcmpE rfl (fun x25 tx25 => ?_)
          refine qw_if_le rfl (fun c26 => ?_) (fun c26 => ?_)
          · skip
            refine qw_const rfl ?_
            first | refine qw_iadd rfl (by omega) (fun x27 tx27 => ?_) | refine qw_iiU rfl (fun x27 tx27 => ?_)
            refine qc_putI (z := false) rfl rfl rfl rfl (by first | (intro h9; cases h9; done) | (intro _; first | exact Or.inl rfl | exact Or.inr rfl | assumption | (rcases (by omega : x27.toInt = 0 ∨ x27.toInt = 1) with h8 | h8; exact Or.inl (ti_eq h8); exact Or.inr (ti_eq h8)))) (fun a28 ea28 => ?_)
            have ua28 : a28 1 9 = x27 := by rw [ea28, mU_same]
            have wa28 := congrArg Int32.toInt ua28
            have ra28_162 : (a28 1 7).toInt = (a46 1 7).toInt := by rw [ea28, mU_slot (by decide)]
            refine qw_iinc (lo' := fun z9 => [some (.inr (.inr (some 1))), some (.inl z9)]) rfl rfl (fun _ => rfl) (by omega) (fun x29 tx29 => ?_)
            exact qw_gotoD rfl (ih46 x29 a28 b46 (FR.up (hF46) (by first | decide | (simp; done) | exact cA_mem (by omega) | exact cB_mem (by omega)) ea28) (by omega) (hA.up ea28))
          · skip
            refine qw_const rfl ?_
            refine qw_goto rfl ?_
            first | refine qw_iadd rfl (by omega) (fun x30 tx30 => ?_) | refine qw_iiU rfl (fun x30 tx30 => ?_)
            refine qc_putI (z := false) rfl rfl rfl rfl (by first | (intro h9; cases h9; done) | (intro _; first | exact Or.inl rfl | exact Or.inr rfl | assumption | (rcases (by omega : x30.toInt = 0 ∨ x30.toInt = 1) with h8 | h8; exact Or.inl (ti_eq h8); exact Or.inr (ti_eq h8)))) (fun a31 ea31 => ?_)
            have ua31 : a31 1 9 = x30 := by rw [ea31, mU_same]
            have wa31 := congrArg Int32.toInt ua31
            have ra31_172 : (a31 1 7).toInt = (a46 1 7).toInt := by rw [ea31, mU_slot (by decide)]
            refine qw_iinc (lo' := fun z9 => [some (.inr (.inr (some 1))), some (.inl z9)]) rfl rfl (fun _ => rfl) (by omega) (fun x32 tx32 => ?_)
            exact qw_gotoD rfl (ih46 x32 a31 b46 (FR.up (hF46) (by first | decide | (simp; done) | exact cA_mem (by omega) | exact cB_mem (by omega)) ea31) (by omega) (hA.up ea31))
        · skip
          refine qw_aload rfl rfl ?_
          refine qw_const rfl ?_
          refine qc_putR rfl rfl rfl rfl rC_put2 (fun v33 ev33 => ?_)
          have loop147 : ∀ (fuJ147 : Nat)  (a147 : Nat → Nat → Int32) (b147 : Nat → Nat → Int64) (v147 : Nat → Option Nat) (o1_147 : Option f_V),  FR [1] a a147 → (∀ i, i ∉ [2] → v147 i = v i) → (f_wdb (v147 2) = true) → (AV a a147 b b147) → (VX a b v147) → f_pq (f_code (t_X8_advance (f_ev mtC d0))) fuJ147 (147, [some (.inr (.inr (some 1))), o1_147], [], cH a147 b147 v147) (fun v9 h' => ∃ (a' : Nat → Nat → Int32) (b' : Nat → Nat → Int64) (v' : Nat → Option Nat), h' = cH a' b' v' ∧ (FR [1] a a' ∧ ((∀ i, i ∉ [2] → v' i = v i) ∧ (f_wdb (v' 2) = true ∧ VX a b v')) ∧ AVX a a' b b') ∧ v9 = none) := by
            intro fuJ147  a147 b147 v147 o1_147 hF147 hG147 hw hA hX
            · skip
              have n4 : (a147 1 4).toInt = (a 1 4).toInt := by rw [hA.1 4 (by decide) (by decide) (by decide)]
              have n5 : (a147 1 5).toInt = (a 1 5).toInt := by rw [hA.1 5 (by decide) (by decide) (by decide)]
              refine qw_aload rfl rfl ?_
              refine qc_getI rfl rfl rfl rfl ?_
              refine qw_aload rfl rfl ?_
              refine qc_getI rfl rfl rfl rfl ?_
              refine qw_const rfl ?_
              first | refine qw_isub rfl (by omega) (fun x34 tx34 => ?_) | refine qw_iiU rfl (fun x34 tx34 => ?_)
              refine qw_ic_ge rfl (fun c35 => ?_) (fun c35 => ?_)
              · skip
                exact qw_ret rfl ⟨a147, b147, v147, rfl, ⟨hF147, ⟨hG147, ⟨hw, hX⟩⟩, AVX.of0 hA (by omega)⟩, rfl⟩
              · skip
                refine qw_aload rfl rfl ?_
                refine qw_dup rfl rfl ?_
                refine qc_getI rfl rfl rfl rfl ?_
                refine qw_const rfl ?_
                first | refine qw_iadd rfl (by omega) (fun x36 tx36 => ?_) | refine qw_iiU rfl (fun x36 tx36 => ?_)
                refine qc_putI (z := false) rfl rfl rfl rfl (by first | (intro h9; cases h9; done) | (intro _; first | exact Or.inl rfl | exact Or.inr rfl | assumption | (rcases (by omega : x36.toInt = 0 ∨ x36.toInt = 1) with h8 | h8; exact Or.inl (ti_eq h8); exact Or.inr (ti_eq h8)))) (fun a37 ea37 => ?_)
                have ua37 : a37 1 5 = x36 := by rw [ea37, mU_same]
                have wa37 := congrArg Int32.toInt ua37
                have ra37_202 : (a37 1 4).toInt = (a147 1 4).toInt := by rw [ea37, mU_slot (by decide)]
                exact qw_ret rfl ⟨a37, b147, v147, rfl, ⟨FR.up (hF147) (by first | decide | (simp; done) | exact cA_mem (by omega) | exact cB_mem (by omega)) ea37, ⟨hG147, ⟨hw, hX⟩⟩, AVX.of1 hA (by omega) ea37 (by omega)⟩, rfl⟩
          refine qw_const rfl ?_
          refine qw_istore (lo' := [some (.inr (.inr (some 1))), some (.inl 0)]) rfl rfl ?_
          have loop100 : ∀ (fu100 : Nat) (i : Int32) (a100 : Nat → Nat → Int32) (b100 : Nat → Nat → Int64) (v100 : Nat → Option Nat) ,  FR [1] a a100 → (∀ i, i ∉ [2] → v100 i = v i) → (0 ≤ i.toInt ∧ i.toInt ≤ 31) → (f_wdb (v100 2) = true) → (AV a a100 b b100) → (WD v100 i.toInt (b 5 (a 1 5).toInt.toNat)) → (i.toInt = 0 ∨ (a100 1 7).toInt = 2) → f_pq (f_code (t_X8_advance (f_ev mtC d0))) fu100 (100, [some (.inr (.inr (some 1))), some (.inl i)], [], cH a100 b100 v100) (fun v9 h' => ∃ (a' : Nat → Nat → Int32) (b' : Nat → Nat → Int64) (v' : Nat → Option Nat), h' = cH a' b' v' ∧ (FR [1] a a' ∧ ((∀ i, i ∉ [2] → v' i = v i) ∧ (f_wdb (v' 2) = true ∧ VX a b v')) ∧ AVX a a' b b') ∧ v9 = none) := by
            intro fu100
            induction fu100 with
            | zero => intros; exact pq_0
            | succ fu100 ih100 =>
              intro i a100 b100 v100  hF100 hG100 hi hw hA hW hk
              refine qw_aload rfl rfl ?_
              refine qc_getI rfl rfl rfl rfl ?_
              refine qw_const rfl ?_
              refine qw_ic_ne rfl (fun c38 => ?_) (fun c38 => ?_)
              · skip
                refine qw_iload rfl rfl ?_
                refine qw_const rfl ?_
                refine qc_slen rfl ?_
                show f_pq _ _ (113, [some (.inr (.inr (some 1))), some (.inl i)], .inl 31 :: [.inl i], cH a100 b100 v100) _
                refine qw_ic_ge rfl (fun c39 => ?_) (fun c39 => ?_)
                · skip
                  exact loop147 _ a100 b100 v100 (some (.inl i)) (hF100) (hG100) (hw) (hA) (by first | exact VX.of31 hW (by omega) (by rw [← hA.2.1]; omega) | exact VX.of0 hW (by omega) (by rw [← hA.2.1]; omega))
                · skip
                  refine qw_const rfl ?_
                  refine qw_iload rfl rfl ?_
                  refine qc_sel (N := 31) rfl (fun js120 => ?_)
                  refine qc_sfld rfl (if_pos (by omega)) ?_
                  refine qw_aload rfl rfl ?_
                  refine qc_getL rfl rfl rfl rfl ?_
                  refine qw_lcmpE rfl (fun x41 tx41 => ?_)
                  have C9 := cmp_ti tx41
                  have W9 := congrArg (fun n9 => (wKey.getD n9 0).toInt) (Nat.add_sub_cancel_left 1000 i.toInt.toNat)
                  have KB : b100 1 10 = b 5 (a 1 5).toInt.toNat := by rw [hA.2.2.2, mV_same]
                  refine qw_if_ne rfl (fun c42 => ?_) (fun c42 => ?_)
                  · skip
                    refine qw_aload rfl rfl ?_
                    refine qw_const rfl ?_
                    refine qw_iload rfl rfl ?_
                    refine qc_sel (N := 31) rfl (fun js137 => ?_)
                    refine qc_putR rfl rfl rfl rfl rC_put2 (fun v43 ev43 => ?_)
                    refine qw_iinc (lo' := fun z9 => [some (.inr (.inr (some 1))), some (.inl z9)]) rfl rfl (fun _ => rfl) (by omega) (fun x44 tx44 => ?_)
                    exact qw_gotoD rfl (ih100 x44 a100 b100 v43 (hF100) (fun i9 h9 => (show v43 i9 = v100 i9 from by rw [ev43]; exact vU_ne (fun z9 => h9 (by rw [z9]; decide))).trans ((show ∀ i9, i9 ∉ [2] → v100 i9 = v i9 from hG100) i9 h9)) (by omega) (by rw [ev43, vU_same]; exact wdb_some (by omega)) (hA) (WD.hit hW (by omega) (by rw [← KB]; exact Int64.toInt_inj.mp (by omega)) (by omega) ev43) (Or.inr (by omega)))
                  · skip
                    refine qw_iinc (lo' := fun z9 => [some (.inr (.inr (some 1))), some (.inl z9)]) rfl rfl (fun _ => rfl) (by omega) (fun x45 tx45 => ?_)
                    exact qw_gotoD rfl (ih100 x45 a100 b100 v100 (hF100) (hG100) (by omega) (hw) (hA) (WD.miss hW (by omega) (fun h9 => by rw [← KB] at h9; have h8 := congrArg Int64.toInt h9; omega) (by omega)) (Or.inr (by omega)))
              · skip
                exact loop147 _ a100 b100 v100 (some (.inl i)) (hF100) (hG100) (hw) (hA) (by first | exact VX.of31 hW (by omega) (by rw [← hA.2.1]; omega) | exact VX.of0 hW (by omega) (by rw [← hA.2.1]; omega))
          exact loop100 _ 0 a46 b46 v33 (hF46) (fun i9 h9 => (show v33 i9 = v i9 from by rw [ev33]; exact vU_ne (fun z9 => h9 (by rw [z9]; decide))).trans ((show ∀ i9, i9 ∉ [2] → v i9 = v i9 from (fun _ _ => rfl)) i9 h9)) (by omega) (by rw [ev33, vU_same]; rfl) (hA) (WD.init ev33) (Or.inl rfl)
  exact loop46 _ 0 a7 b6 (FR.up (FR.up (FR.up (FR.rf) (by first | decide | (simp; done) | exact cA_mem (by omega) | exact cB_mem (by omega)) ea2) (by first | decide | (simp; done) | exact cA_mem (by omega) | exact cB_mem (by omega)) ea4) (by first | decide | (simp; done) | exact cA_mem (by omega) | exact cB_mem (by omega)) ea7) (by omega) (AV.mk ea2 X1 ea4 X2 eb6 X3 ea7)
set_option maxRecDepth 4000 in
theorem y_X6_goesOn {d : Nat} (a : Nat → Nat → Int32) (b : Nat → Nat → Int64) (v : Nat → Option Nat)   : f_pc mtC d 45 [.inr (.inr (some 6))] (cH a b v) (fun v9 h' => h' = cH a b v ∧ ∃ x : Int32, v9 = some (.inl x) ∧ ((x.toInt = 1 ∧ ((a 6 10).toInt = 0 ∧ ¬ (a 1 7).toInt = 0)) ∨ (x.toInt = 0 ∧ ¬ ((a 6 10).toInt = 0 ∧ ¬ (a 1 7).toInt = 0)))) := by
  refine f_pc_of rfl (fun d0 fu hd => ?_)
  show f_pq _ _ (0, [some (.inr (.inr (some 6)))], [], cH a b v) _
  have l0 : (0 : Int32).toInt = 0 := rfl
  have l1 : (1 : Int32).toInt = 1 := rfl
  refine qw_aload rfl rfl ?_
  refine qc_getI rfl rfl rfl rfl ?_
  refine qw_if_ne rfl (fun c1 => ?_) (fun c1 => ?_)
  · skip
    refine qw_aload rfl rfl ?_
    refine qc_getR (t := some 1) rfl rfl rfl rfl rfl ?_
    refine qc_getI rfl rfl rfl rfl ?_
    refine qw_if_eq rfl (fun c2 => ?_) (fun c2 => ?_)
    · skip
      refine qw_const rfl ?_
      exact qwp_iret (z := true) rfl (fun _ => by first | exact Or.inl rfl | exact Or.inr rfl | (rcases (by omega : (0 : Int32).toInt = 0 ∨ (0 : Int32).toInt = 1) with h8 | h8; exact Or.inl (ti_eq h8); exact Or.inr (ti_eq h8))) ⟨rfl, ⟨_, rfl, by omega⟩⟩
    · skip
      refine qw_const rfl ?_
      refine qw_goto rfl ?_
      exact qwp_iret (z := true) rfl (fun _ => by first | exact Or.inl rfl | exact Or.inr rfl | (rcases (by omega : (1 : Int32).toInt = 0 ∨ (1 : Int32).toInt = 1) with h8 | h8; exact Or.inl (ti_eq h8); exact Or.inr (ti_eq h8))) ⟨rfl, ⟨_, rfl, by omega⟩⟩
  · skip
    refine qw_const rfl ?_
    exact qwp_iret (z := true) rfl (fun _ => by first | exact Or.inl rfl | exact Or.inr rfl | (rcases (by omega : (0 : Int32).toInt = 0 ∨ (0 : Int32).toInt = 1) with h8 | h8; exact Or.inl (ti_eq h8); exact Or.inr (ti_eq h8))) ⟨rfl, ⟨_, rfl, by omega⟩⟩
set_option maxRecDepth 4000 in
theorem y_X6_fail {d : Nat} (a : Nat → Nat → Int32) (b : Nat → Nat → Int64) (v : Nat → Option Nat) (p : Int32) (hp : 1 ≤ p.toInt ∧ p.toInt ≤ 5) (hs : 0 ≤ (a 1 8).toInt ∧ (a 1 8).toInt ≤ 1000) : f_pc mtC d 46 [.inr (.inr (some 6)), .inl p] (cH a b v) (fun v9 h' => ∃ (a' : Nat → Nat → Int32), h' = cH a' b v ∧ (FR [6] a a' ∧ ((∀ j, j ≠ 10 → a' 6 j = a 6 j) ∧ (a' 6 10).toInt = p.toInt + 16 * (a 1 8).toInt)) ∧ ∃ x : Int32, v9 = some (.inl x) ∧ (x.toInt = 0)) := by
  refine f_pc_of rfl (fun d0 fu hd => ?_)
  show f_pq _ _ (0, [some (.inr (.inr (some 6))), some (.inl p)], [], cH a b v) _
  have l0 : (0 : Int32).toInt = 0 := rfl
  have l16 : (16 : Int32).toInt = 16 := rfl
  refine qw_aload rfl rfl ?_
  refine qw_iload rfl rfl ?_
  refine qw_const rfl ?_
  refine qw_aload rfl rfl ?_
  refine qc_getR (t := some 1) rfl rfl rfl rfl rfl ?_
  refine qc_getI rfl rfl rfl rfl ?_
  first | refine qw_imul rfl (c := 16) rfl (by omega) (fun x1 tx1 => ?_) | refine qw_iiU rfl (fun x1 tx1 => ?_)
  first | refine qw_iadd rfl (by omega) (fun x2 tx2 => ?_) | refine qw_iiU rfl (fun x2 tx2 => ?_)
  refine qc_putI (z := false) rfl rfl rfl rfl (by first | (intro h9; cases h9; done) | (intro _; first | exact Or.inl rfl | exact Or.inr rfl | assumption | (rcases (by omega : x2.toInt = 0 ∨ x2.toInt = 1) with h8 | h8; exact Or.inl (ti_eq h8); exact Or.inr (ti_eq h8)))) (fun a3 ea3 => ?_)
  have ua3 : a3 6 10 = x2 := by rw [ea3, mU_same]
  have wa3 := congrArg Int32.toInt ua3
  have ra3_17 : (a3 1 8).toInt = (a 1 8).toInt := by rw [ea3, mU_cell (by omega)]
  refine qw_const rfl ?_
  exact qwp_iret (z := true) rfl (fun _ => by first | exact Or.inl rfl | exact Or.inr rfl | (rcases (by omega : (0 : Int32).toInt = 0 ∨ (0 : Int32).toInt = 1) with h8 | h8; exact Or.inl (ti_eq h8); exact Or.inr (ti_eq h8))) ⟨a3, rfl, ⟨FR.up (FR.rf) (by first | decide | (simp; done) | exact cA_mem (by omega) | exact cB_mem (by omega)) ea3, ⟨fun j h9 => by rw [ea3, mU_slot h9], by rw [ea3, mU_same]; omega⟩⟩, ⟨_, rfl, by omega⟩⟩
set_option maxRecDepth 4000 in
theorem y_X6_isSign {d : Nat} (a : Nat → Nat → Int32) (b : Nat → Nat → Int64) (v : Nat → Option Nat) (z : Nat) (N : Nat) (c : Nat) (t : Nat → Int32) (p : Int32) (hS : CSt t z N c a b v) : f_pc mtC d 47 [.inr (.inr (some 6)), .inl p] (cH a b v) (fun v9 h' => h' = cH a b v ∧ ∃ x : Int32, v9 = some (.inl x) ∧ ((x.toInt = 1 ∧ (tkS t z c p.toInt)) ∨ (x.toInt = 0 ∧ ¬ (tkS t z c p.toInt)))) := by
  refine f_pc_of rfl (fun d0 fu hd => ?_)
  show f_pq _ _ (0, [some (.inr (.inr (some 6))), some (.inl p)], [], cH a b v) _
  have l0 : (0 : Int32).toInt = 0 := rfl
  have l1 : (1 : Int32).toInt = 1 := rfl
  have l4 : (4 : Int32).toInt = 4 := rfl
  obtain ⟨s0, s1, s2, s3, s4, s5, s6⟩ := hS.pl
  have g9 := hS.1.sg p.toInt
  refine qw_aload rfl rfl ?_
  refine qc_getR (t := some 1) rfl rfl rfl rfl rfl ?_
  refine qc_getI rfl rfl rfl rfl ?_
  refine qw_const rfl ?_
  refine qw_ic_ne rfl (fun c1 => ?_) (fun c1 => ?_)
  · skip
    refine qw_aload rfl rfl ?_
    refine qc_getR (t := some 1) rfl rfl rfl rfl rfl ?_
    refine qc_getL rfl rfl rfl rfl ?_
    refine qw_iload rfl rfl ?_
    refine qw_i2lE rfl (fun y2 ty2 => ?_)
    have c8 := i2l_ti (x := p) ty2
    refine qw_lcmpE rfl (fun x3 tx3 => ?_)
    have c9 := cmp_ti tx3
    refine qw_if_ne rfl (fun c4 => ?_) (fun c4 => ?_)
    · skip
      refine qw_const rfl ?_
      refine qw_goto rfl ?_
      exact qwp_iret (z := true) rfl (fun _ => by first | exact Or.inl rfl | exact Or.inr rfl | (rcases (by omega : (1 : Int32).toInt = 0 ∨ (1 : Int32).toInt = 1) with h8 | h8; exact Or.inl (ti_eq h8); exact Or.inr (ti_eq h8))) ⟨rfl, ⟨_, rfl, by first | exact Or.inl ⟨rfl, by rw [if_pos ⟨by omega, by omega⟩] at g9; by_cases q : tkS t z c p.toInt; exact q; (unfold tkG at g9; rw [if_neg q] at g9; omega)⟩ | exact Or.inr ⟨rfl, fun q => by rw [if_neg (by omega), tkG_0 q] at g9; omega⟩⟩⟩
    · skip
      refine qw_const rfl ?_
      exact qwp_iret (z := true) rfl (fun _ => by first | exact Or.inl rfl | exact Or.inr rfl | (rcases (by omega : (0 : Int32).toInt = 0 ∨ (0 : Int32).toInt = 1) with h8 | h8; exact Or.inl (ti_eq h8); exact Or.inr (ti_eq h8))) ⟨rfl, ⟨_, rfl, by first | exact Or.inl ⟨rfl, by rw [if_pos ⟨by omega, by omega⟩] at g9; by_cases q : tkS t z c p.toInt; exact q; (unfold tkG at g9; rw [if_neg q] at g9; omega)⟩ | exact Or.inr ⟨rfl, fun q => by rw [if_neg (by omega), tkG_0 q] at g9; omega⟩⟩⟩
  · skip
    refine qw_const rfl ?_
    exact qwp_iret (z := true) rfl (fun _ => by first | exact Or.inl rfl | exact Or.inr rfl | (rcases (by omega : (0 : Int32).toInt = 0 ∨ (0 : Int32).toInt = 1) with h8 | h8; exact Or.inl (ti_eq h8); exact Or.inr (ti_eq h8))) ⟨rfl, ⟨_, rfl, by first | exact Or.inl ⟨rfl, by rw [if_pos ⟨by omega, by omega⟩] at g9; by_cases q : tkS t z c p.toInt; exact q; (unfold tkG at g9; rw [if_neg q] at g9; omega)⟩ | exact Or.inr ⟨rfl, fun q => by rw [if_neg (by omega), tkG_0 q] at g9; omega⟩⟩⟩
set_option maxRecDepth 4000 in
theorem y_X6_passSign {d : Nat} (a : Nat → Nat → Int32) (b : Nat → Nat → Int64) (v : Nat → Option Nat) (z : Nat) (N : Nat) (c : Nat) (t : Nat → Int32) (p : Int32) (hw : f_wdb (v 2) = true) (hS : CSt t z N c a b v) : f_pc mtC d 49 [.inr (.inr (some 6)), .inl p] (cH a b v) (fun v9 h' => ∃ (a' : Nat → Nat → Int32) (b' : Nat → Nat → Int64) (v' : Nat → Option Nat), h' = cH a' b' v' ∧ (FR [1, 6] a a' ∧ ((∀ i, i ∉ [2] → v' i = v i) ∧ f_wdb (v' 2) = true) ∧ ((∀ j, j ≠ 10 → a' 6 j = a 6 j) ∧ BF b b')) ∧ ∃ x : Int32, v9 = some (.inl x) ∧ PSt t z N (c + 1) (tkG t z c p.toInt) x a' b' v') := by
  refine f_pc_of rfl (fun d0 fu hd => ?_)
  show f_pq _ _ (0, [some (.inr (.inr (some 6))), some (.inl p)], [], cH a b v) _
  have l1 : (1 : Int32).toInt = 1 := rfl
  obtain ⟨s0, s1, s2, s3, s4, s5, s6⟩ := hS.pl
  refine qw_aload rfl rfl ?_
  refine qw_iload rfl rfl ?_
  refine qw_invV (rest := []) rfl rfl rfl rfl rfl (Nat.le_of_ble_eq_true rfl) rfl (y_X6_isSign (d := d0) a b v z N c t p (by omega)) (fun z1 h9 hq2 => ?_)
  obtain ⟨rfl, x3, rfl, px3⟩ := hq2
  show f_pq _ _ (5, [some (.inr (.inr (some 6))), some (.inl p)], [.inl x3], cH a b v) _
  have p9 := px3
  refine qw_if_ne rfl (fun c4 => ?_) (fun c4 => ?_)
  · skip
    have G9 : tkG t z c p.toInt = 1 + 16 * (lxP t z c : Int) := if_neg (fun q => by rcases p9 with h | h; omega; exact h.2 q)
    refine qw_aload rfl rfl ?_
    refine qw_const rfl ?_
    refine qw_invV (rest := []) rfl rfl rfl rfl rfl (Nat.le_of_ble_eq_true rfl) rfl (y_X6_fail (d := d0) a b v  1 (by omega) (by omega)) (fun z5 h9 hq6 => ?_)
    obtain ⟨a7, rfl, fa7, x8, rfl, px8⟩ := hq6
    show f_pq _ _ (13, [some (.inr (.inr (some 6))), some (.inl p)], [.inl x8], cH a7 b v) _
    have F8 := fa7.2
    have z8 := px8
    exact qwp_iret (z := true) rfl (fun _ => by first | exact Or.inl rfl | exact Or.inr rfl | (rcases (by omega : x8.toInt = 0 ∨ x8.toInt = 1) with h8 | h8; exact Or.inl (ti_eq h8); exact Or.inr (ti_eq h8))) ⟨a7, b, v, rfl, ⟨FR.tr (FR.rf) (FR.sub fa7.1 (by first | exact (fun _ h9 => h9) | decide | (intro c9 h9; simp only [List.mem_cons, List.not_mem_nil, or_false] at h9 ⊢; omega) | (intro c9 h9; simp only [List.mem_cons, List.not_mem_nil, or_false] at h9; exact cA_mem (by omega)) | (intro c9 h9; simp only [List.mem_cons, List.not_mem_nil, or_false] at h9; exact cB_mem (by omega)) | exact cA_sub)), ⟨(fun _ _ => rfl), hw⟩, ⟨F8.1, BF.rf⟩⟩, ⟨_, rfl, PSt.no (by omega) (by omega) (by rw [F8.2]; omega)⟩⟩
  · skip
    have G8 : tkS t z c p.toInt := by rcases p9 with h | h; exact h.2; omega
    have G9 := tkG_0 G8
    refine qw_aload rfl rfl ?_
    refine qc_getR (t := some 1) rfl rfl rfl rfl rfl ?_
    refine qw_invV (rest := []) rfl rfl rfl rfl rfl (Nat.le_of_ble_eq_true rfl) rfl (y_X8_advance (d := d0) a b v   (by omega) (by omega)) (fun z9 h9 hq10 => ?_)
    obtain ⟨a11, b12, v13, rfl, fa11, rfl⟩ := hq10
    show f_pq _ _ (21, [some (.inr (.inr (some 6))), some (.inl p)], [], cH a11 b12 v13) _
    have V9 := fa11
    refine qw_const rfl ?_
    exact qwp_iret (z := true) rfl (fun _ => by first | exact Or.inl rfl | exact Or.inr rfl | (rcases (by omega : (1 : Int32).toInt = 0 ∨ (1 : Int32).toInt = 1) with h8 | h8; exact Or.inl (ti_eq h8); exact Or.inr (ti_eq h8))) ⟨a11, b12, v13, rfl, ⟨FR.tr (FR.rf) (FR.sub fa11.1 (by first | exact (fun _ h9 => h9) | decide | (intro c9 h9; simp only [List.mem_cons, List.not_mem_nil, or_false] at h9 ⊢; omega) | (intro c9 h9; simp only [List.mem_cons, List.not_mem_nil, or_false] at h9; exact cA_mem (by omega)) | (intro c9 h9; simp only [List.mem_cons, List.not_mem_nil, or_false] at h9; exact cB_mem (by omega)) | exact cA_sub)), ⟨fun i9 h9 => (fa11.2.1.1 i9 (fun z9 => h9 (by first | exact z9 | (revert z9; simp; done) | (revert z9; simp; omega)))).trans ((show ∀ i9, i9 ∉ [2] → v i9 = v i9 from (fun _ _ => rfl)) i9 h9), V9.2.1.2.1⟩, ⟨fun j _ => by rw [V9.1 6 (by decide)], BF.av V9.2.2⟩⟩, ⟨_, rfl, PSt.ok rfl G9 (hS.next (tkS_k G8) V9.1 V9.2.2 V9.2.1.2.2)⟩⟩
set_option maxRecDepth 4000 in
theorem y_X6_lineEnd {d : Nat} (a : Nat → Nat → Int32) (b : Nat → Nat → Int64) (v : Nat → Option Nat) (z : Nat) (N : Nat) (c : Nat) (t : Nat → Int32)  (hw : f_wdb (v 2) = true) (hS : CSt t z N c a b v) : f_pc mtC d 48 [.inr (.inr (some 6))] (cH a b v) (fun v9 h' => ∃ (a' : Nat → Nat → Int32) (b' : Nat → Nat → Int64) (v' : Nat → Option Nat), h' = cH a' b' v' ∧ (FR [1, 6] a a' ∧ ((∀ i, i ∉ [2] → v' i = v i) ∧ f_wdb (v' 2) = true) ∧ ((∀ j, j ≠ 10 → a' 6 j = a 6 j) ∧ BF b b')) ∧ ∃ x : Int32, v9 = some (.inl x) ∧ PSt t z N (c + 1) (tkG t z c 59) x a' b' v') := by
  refine f_pc_of rfl (fun d0 fu hd => ?_)
  show f_pq _ _ (0, [some (.inr (.inr (some 6)))], [], cH a b v) _
  have l59 : (59 : Int32).toInt = 59 := rfl
  refine qw_aload rfl rfl ?_
  refine qw_const rfl ?_
  refine qw_invV (rest := []) rfl rfl rfl rfl rfl (Nat.le_of_ble_eq_true rfl) rfl (y_X6_passSign (d := d0) a b v z N c t 59 (hw) (by omega)) (fun z1 h9 hq2 => ?_)
  obtain ⟨a3, b4, v5, rfl, fa3, x6, rfl, px6⟩ := hq2
  show f_pq _ _ (6, [some (.inr (.inr (some 6)))], [.inl x6], cH a3 b4 v5) _
  have b9 := PSt.bl px6
  have p9 := px6
  exact qwp_iret (z := true) rfl (fun _ => by first | exact Or.inl rfl | exact Or.inr rfl | (rcases (by omega : x6.toInt = 0 ∨ x6.toInt = 1) with h8 | h8; exact Or.inl (ti_eq h8); exact Or.inr (ti_eq h8))) ⟨a3, b4, v5, rfl, ⟨FR.tr (FR.rf) (FR.sub fa3.1 (by first | exact (fun _ h9 => h9) | decide | (intro c9 h9; simp only [List.mem_cons, List.not_mem_nil, or_false] at h9 ⊢; omega) | (intro c9 h9; simp only [List.mem_cons, List.not_mem_nil, or_false] at h9; exact cA_mem (by omega)) | (intro c9 h9; simp only [List.mem_cons, List.not_mem_nil, or_false] at h9; exact cB_mem (by omega)) | exact cA_sub)), ⟨fun i9 h9 => (fa3.2.1.1 i9 (fun z9 => h9 (by first | exact z9 | (revert z9; simp; done) | (revert z9; simp; omega)))).trans ((show ∀ i9, i9 ∉ [2] → v i9 = v i9 from (fun _ _ => rfl)) i9 h9), fa3.2.1.2⟩, fa3.2.2⟩, ⟨_, rfl, p9⟩⟩
set_option maxRecDepth 4000 in
theorem y_X6_passWord {d : Nat} (a : Nat → Nat → Int32) (b : Nat → Nat → Int64) (v : Nat → Option Nat) (z : Nat) (N : Nat) (c : Nat) (t : Nat → Int32) (p : Nat) (hw : f_wdb (v 2) = true) (hp : 1000 ≤ p ∧ p < 1031) (hS : CSt t z N c a b v) : f_pc mtC d 50 [.inr (.inr (some 6)), .inr (.inr (some p))] (cH a b v) (fun v9 h' => ∃ (a' : Nat → Nat → Int32) (b' : Nat → Nat → Int64) (v' : Nat → Option Nat), h' = cH a' b' v' ∧ (FR [1, 6] a a' ∧ ((∀ i, i ∉ [2] → v' i = v i) ∧ f_wdb (v' 2) = true) ∧ ((∀ j, j ≠ 10 → a' 6 j = a 6 j) ∧ BF b b')) ∧ ∃ x : Int32, v9 = some (.inl x) ∧ PSt t z N (c + 1) (xW t z c (p - 1000)) x a' b' v') := by
  refine f_pc_of rfl (fun d0 fu hd => ?_)
  show f_pq _ _ (0, [some (.inr (.inr (some 6))), some (.inr (.inr (some p)))], [], cH a b v) _
  have l1 : (1 : Int32).toInt = 1 := rfl
  obtain ⟨s0, s1, s2, s3, s4, s5, s6⟩ := hS.pl
  have g9 := hS.1.wrd (w := p - 1000) (by omega)
  rw [show 1000 + (p - 1000) = p from by omega] at g9
  refine qw_aload rfl rfl ?_
  refine qc_getR (t := some 1) rfl rfl rfl rfl rfl ?_
  refine qc_getR (t := v 2) rfl rfl rfl rfl rfl ?_
  refine qw_aload rfl rfl ?_
  refine qc_aw_eq rfl ⟨hw, wdb_some (by omega)⟩ (fun c1 => ?_) (fun c1 => ?_)
  · skip
    have G8 : tkW t z c (p - 1000) := g9.mpr c1
    have G9 : xW t z c (p - 1000) = 0 := if_pos G8
    refine qw_aload rfl rfl ?_
    refine qc_getR (t := some 1) rfl rfl rfl rfl rfl ?_
    refine qw_invV (rest := []) rfl rfl rfl rfl rfl (Nat.le_of_ble_eq_true rfl) rfl (y_X8_advance (d := d0) a b v   (by omega) (by omega)) (fun z2 h9 hq3 => ?_)
    obtain ⟨a4, b5, v6, rfl, fa4, rfl⟩ := hq3
    show f_pq _ _ (24, [some (.inr (.inr (some 6))), some (.inr (.inr (some p)))], [], cH a4 b5 v6) _
    have V9 := fa4
    refine qw_const rfl ?_
    exact qwp_iret (z := true) rfl (fun _ => by first | exact Or.inl rfl | exact Or.inr rfl | (rcases (by omega : (1 : Int32).toInt = 0 ∨ (1 : Int32).toInt = 1) with h8 | h8; exact Or.inl (ti_eq h8); exact Or.inr (ti_eq h8))) ⟨a4, b5, v6, rfl, ⟨FR.tr (FR.rf) (FR.sub fa4.1 (by first | exact (fun _ h9 => h9) | decide | (intro c9 h9; simp only [List.mem_cons, List.not_mem_nil, or_false] at h9 ⊢; omega) | (intro c9 h9; simp only [List.mem_cons, List.not_mem_nil, or_false] at h9; exact cA_mem (by omega)) | (intro c9 h9; simp only [List.mem_cons, List.not_mem_nil, or_false] at h9; exact cB_mem (by omega)) | exact cA_sub)), ⟨fun i9 h9 => (fa4.2.1.1 i9 (fun z9 => h9 (by first | exact z9 | (revert z9; simp; done) | (revert z9; simp; omega)))).trans ((show ∀ i9, i9 ∉ [2] → v i9 = v i9 from (fun _ _ => rfl)) i9 h9), V9.2.1.2.1⟩, ⟨fun j _ => by rw [V9.1 6 (by decide)], BF.av V9.2.2⟩⟩, ⟨_, rfl, PSt.ok rfl G9 (hS.next (tkW_k G8) V9.1 V9.2.2 V9.2.1.2.2)⟩⟩
  · skip
    have G9 : xW t z c (p - 1000) = 1 + 16 * (lxP t z c : Int) := if_neg (fun q => c1 (g9.mp q))
    refine qw_aload rfl rfl ?_
    refine qw_const rfl ?_
    refine qw_invV (rest := []) rfl rfl rfl rfl rfl (Nat.le_of_ble_eq_true rfl) rfl (y_X6_fail (d := d0) a b v  1 (by omega) (by omega)) (fun z7 h9 hq8 => ?_)
    obtain ⟨a9, rfl, fa9, x10, rfl, px10⟩ := hq8
    show f_pq _ _ (16, [some (.inr (.inr (some 6))), some (.inr (.inr (some p)))], [.inl x10], cH a9 b v) _
    have F8 := fa9.2
    have z8 := px10
    exact qwp_iret (z := true) rfl (fun _ => by first | exact Or.inl rfl | exact Or.inr rfl | (rcases (by omega : x10.toInt = 0 ∨ x10.toInt = 1) with h8 | h8; exact Or.inl (ti_eq h8); exact Or.inr (ti_eq h8))) ⟨a9, b, v, rfl, ⟨FR.tr (FR.rf) (FR.sub fa9.1 (by first | exact (fun _ h9 => h9) | decide | (intro c9 h9; simp only [List.mem_cons, List.not_mem_nil, or_false] at h9 ⊢; omega) | (intro c9 h9; simp only [List.mem_cons, List.not_mem_nil, or_false] at h9; exact cA_mem (by omega)) | (intro c9 h9; simp only [List.mem_cons, List.not_mem_nil, or_false] at h9; exact cB_mem (by omega)) | exact cA_sub)), ⟨(fun _ _ => rfl), hw⟩, ⟨F8.1, BF.rf⟩⟩, ⟨_, rfl, PSt.no (by omega) (by omega) (by rw [F8.2]; omega)⟩⟩
set_option maxRecDepth 4000 in
theorem y_X6_isNumber {d : Nat} (a : Nat → Nat → Int32) (b : Nat → Nat → Int64) (v : Nat → Option Nat) (z : Nat) (N : Nat) (c : Nat) (t : Nat → Int32) (p : Int32) (q : Int32) (hS : CSt t z N c a b v) : f_pc mtC d 51 [.inr (.inr (some 6)), .inl p, .inl q] (cH a b v) (fun v9 h' => ∃ (a' : Nat → Nat → Int32), h' = cH a' b v ∧ (FR [6] a a' ∧ (∀ j, j ≠ 9 → j ≠ 10 → a' 6 j = a 6 j)) ∧ ∃ x : Int32, v9 = some (.inl x) ∧ (PSt t z N c (tkN t z c p.toInt q.toInt) x a' b v ∧ (tkN t z c p.toInt q.toInt = 0 → (a' 6 9).toInt = nvT t z c))) := by
  refine f_pc_of rfl (fun d0 fu hd => ?_)
  show f_pq _ _ (0, [some (.inr (.inr (some 6))), some (.inl p), some (.inl q)], [], cH a b v) _
  have l1 : (1 : Int32).toInt = 1 := rfl
  have l3 : (3 : Int32).toInt = 3 := rfl
  have l4 : (4 : Int32).toInt = 4 := rfl
  obtain ⟨s0, s1, s2, s3, s4, s5, s6⟩ := hS.pl
  have g9 := hS.1.num p.toInt q.toInt
  have p1 := ti_lo p
  have q1 := ti_hi q
  refine qw_aload rfl rfl ?_
  refine qc_getR (t := some 1) rfl rfl rfl rfl rfl ?_
  refine qc_getI rfl rfl rfl rfl ?_
  refine qw_const rfl ?_
  refine qw_ic_eq rfl (fun c1 => ?_) (fun c1 => ?_)
  · skip
    refine qw_aload rfl rfl ?_
    refine qc_getR (t := some 1) rfl rfl rfl rfl rfl ?_
    refine qc_getL rfl rfl rfl rfl ?_
    refine qw_iload rfl rfl ?_
    refine qw_i2lE rfl (fun y2 ty2 => ?_)
    refine qw_lcmpE rfl (fun x3 tx3 => ?_)
    have c9 := cmp_ti tx3
    have c8 := i2l_ti (x := p) ty2
    refine qw_if_lt rfl (fun c4 => ?_) (fun c4 => ?_)
    · skip
      refine qw_aload rfl rfl ?_
      refine qw_const rfl ?_
      refine qw_invV (rest := []) rfl rfl rfl rfl rfl (Nat.le_of_ble_eq_true rfl) rfl (y_X6_fail (d := d0) a b v  4 (by omega) (by omega)) (fun z5 h9 hq6 => ?_)
      obtain ⟨a7, rfl, fa7, x8, rfl, px8⟩ := hq6
      show f_pq _ _ (48, [some (.inr (.inr (some 6))), some (.inl p), some (.inl q)], [.inl x8], cH a7 b v) _
      have G9 : tkN t z c p.toInt q.toInt = 4 + 16 * (a 1 8).toInt := by rw [g9, if_pos (by omega), if_pos (by omega)]
      have F8 := fa7.2
      have z8 := px8
      exact qwp_iret (z := true) rfl (fun _ => by first | exact Or.inl rfl | exact Or.inr rfl | (rcases (by omega : x8.toInt = 0 ∨ x8.toInt = 1) with h8 | h8; exact Or.inl (ti_eq h8); exact Or.inr (ti_eq h8))) ⟨a7, rfl, ⟨FR.tr (FR.rf) (FR.sub fa7.1 (by first | exact (fun _ h9 => h9) | decide | (intro c9 h9; simp only [List.mem_cons, List.not_mem_nil, or_false] at h9 ⊢; omega) | (intro c9 h9; simp only [List.mem_cons, List.not_mem_nil, or_false] at h9; exact cA_mem (by omega)) | (intro c9 h9; simp only [List.mem_cons, List.not_mem_nil, or_false] at h9; exact cB_mem (by omega)) | exact cA_sub)), fun j _ h9 => F8.1 j h9⟩, ⟨_, rfl, ⟨PSt.no (by omega) (by omega) (by rw [F8.2]; omega), fun h => absurd h (by omega)⟩⟩⟩
    · skip
      refine qw_aload rfl rfl ?_
      refine qc_getR (t := some 1) rfl rfl rfl rfl rfl ?_
      refine qc_getL rfl rfl rfl rfl ?_
      refine qw_iload rfl rfl ?_
      refine qw_i2lE rfl (fun y9 ty9 => ?_)
      refine qw_lcmpE rfl (fun x10 tx10 => ?_)
      have c7 := cmp_ti tx10
      have c6 := i2l_ti (x := q) ty9
      refine qw_if_le rfl (fun c11 => ?_) (fun c11 => ?_)
      · skip
        refine qw_aload rfl rfl ?_
        refine qw_aload rfl rfl ?_
        refine qc_getR (t := some 1) rfl rfl rfl rfl rfl ?_
        refine qc_getL rfl rfl rfl rfl ?_
        refine qw_l2iE rfl (fun x12 tx12 => ?_)
        have l9 := l2i_ti tx12 (by omega)
        have G9 : tkN t z c p.toInt q.toInt = 0 := by rw [g9, if_pos (by omega), if_neg (by omega)]
        have k9 := (tkN_v G9).1
        have w9 := hS.1.2.2.2.2.2.1 (by omega) (by omega)
        rw [lxV_sn (Or.inl k9)] at w9
        have w8 := congrArg Int64.toInt w9
        refine qc_putI (z := false) rfl rfl rfl rfl (by first | (intro h9; cases h9; done) | (intro _; first | exact Or.inl rfl | exact Or.inr rfl | assumption | (rcases (by omega : x12.toInt = 0 ∨ x12.toInt = 1) with h8 | h8; exact Or.inl (ti_eq h8); exact Or.inr (ti_eq h8)))) (fun a13 ea13 => ?_)
        have ua13 : a13 6 9 = x12 := by rw [ea13, mU_same]
        have wa13 := congrArg Int32.toInt ua13
        have ra13_61 : (a13 1 7).toInt = (a 1 7).toInt := by rw [ea13, mU_cell (by omega)]
        refine qw_const rfl ?_
        exact qwp_iret (z := true) rfl (fun _ => by first | exact Or.inl rfl | exact Or.inr rfl | (rcases (by omega : (1 : Int32).toInt = 0 ∨ (1 : Int32).toInt = 1) with h8 | h8; exact Or.inl (ti_eq h8); exact Or.inr (ti_eq h8))) ⟨a13, rfl, ⟨FR.up (FR.rf) (by first | decide | (simp; done) | exact cA_mem (by omega) | exact cB_mem (by omega)) ea13, fun j h9 _ => by rw [ea13, mU_slot h9]⟩, ⟨_, rfl, ⟨PSt.ok rfl G9 (hS.fr (by rw [ea13, mU_cell (by decide)]) (by rw [ea13, mU_cell (by decide)]) (by rw [ea13, mU_cell (by decide)]) (by rw [ea13, mU_slot (by decide)])), fun _ => by rw [ea13, mU_same]; unfold nvT; omega⟩⟩⟩
      · skip
        refine qw_aload rfl rfl ?_
        refine qw_const rfl ?_
        refine qw_invV (rest := []) rfl rfl rfl rfl rfl (Nat.le_of_ble_eq_true rfl) rfl (y_X6_fail (d := d0) a b v  4 (by omega) (by omega)) (fun z14 h9 hq15 => ?_)
        obtain ⟨a16, rfl, fa16, x17, rfl, px17⟩ := hq15
        show f_pq _ _ (48, [some (.inr (.inr (some 6))), some (.inl p), some (.inl q)], [.inl x17], cH a16 b v) _
        have G9 : tkN t z c p.toInt q.toInt = 4 + 16 * (a 1 8).toInt := by rw [g9, if_pos (by omega), if_pos (by omega)]
        have F8 := fa16.2
        have z8 := px17
        exact qwp_iret (z := true) rfl (fun _ => by first | exact Or.inl rfl | exact Or.inr rfl | (rcases (by omega : x17.toInt = 0 ∨ x17.toInt = 1) with h8 | h8; exact Or.inl (ti_eq h8); exact Or.inr (ti_eq h8))) ⟨a16, rfl, ⟨FR.tr (FR.rf) (FR.sub fa16.1 (by first | exact (fun _ h9 => h9) | decide | (intro c9 h9; simp only [List.mem_cons, List.not_mem_nil, or_false] at h9 ⊢; omega) | (intro c9 h9; simp only [List.mem_cons, List.not_mem_nil, or_false] at h9; exact cA_mem (by omega)) | (intro c9 h9; simp only [List.mem_cons, List.not_mem_nil, or_false] at h9; exact cB_mem (by omega)) | exact cA_sub)), fun j _ h9 => F8.1 j h9⟩, ⟨_, rfl, ⟨PSt.no (by omega) (by omega) (by rw [F8.2]; omega), fun h => absurd h (by omega)⟩⟩⟩
  · skip
    refine qw_aload rfl rfl ?_
    refine qw_const rfl ?_
    refine qw_invV (rest := []) rfl rfl rfl rfl rfl (Nat.le_of_ble_eq_true rfl) rfl (y_X6_fail (d := d0) a b v  1 (by omega) (by omega)) (fun z18 h9 hq19 => ?_)
    obtain ⟨a20, rfl, fa20, x21, rfl, px21⟩ := hq19
    show f_pq _ _ (16, [some (.inr (.inr (some 6))), some (.inl p), some (.inl q)], [.inl x21], cH a20 b v) _
    have G9 : tkN t z c p.toInt q.toInt = 1 + 16 * (a 1 8).toInt := by rw [g9, if_neg (by omega)]
    have F8 := fa20.2
    have z8 := px21
    exact qwp_iret (z := true) rfl (fun _ => by first | exact Or.inl rfl | exact Or.inr rfl | (rcases (by omega : x21.toInt = 0 ∨ x21.toInt = 1) with h8 | h8; exact Or.inl (ti_eq h8); exact Or.inr (ti_eq h8))) ⟨a20, rfl, ⟨FR.tr (FR.rf) (FR.sub fa20.1 (by first | exact (fun _ h9 => h9) | decide | (intro c9 h9; simp only [List.mem_cons, List.not_mem_nil, or_false] at h9 ⊢; omega) | (intro c9 h9; simp only [List.mem_cons, List.not_mem_nil, or_false] at h9; exact cA_mem (by omega)) | (intro c9 h9; simp only [List.mem_cons, List.not_mem_nil, or_false] at h9; exact cB_mem (by omega)) | exact cA_sub)), fun j _ h9 => F8.1 j h9⟩, ⟨_, rfl, ⟨PSt.no (by omega) (by omega) (by rw [F8.2]; omega), fun h => absurd h (by omega)⟩⟩⟩
set_option maxRecDepth 4000 in
theorem y_X6_passNumber {d : Nat} (a : Nat → Nat → Int32) (b : Nat → Nat → Int64) (v : Nat → Option Nat) (z : Nat) (N : Nat) (c : Nat) (t : Nat → Int32) (p : Int32) (q : Int32) (hw : f_wdb (v 2) = true) (hS : CSt t z N c a b v) : f_pc mtC d 52 [.inr (.inr (some 6)), .inl p, .inl q] (cH a b v) (fun v9 h' => ∃ (a' : Nat → Nat → Int32) (b' : Nat → Nat → Int64) (v' : Nat → Option Nat), h' = cH a' b' v' ∧ (FR [1, 6] a a' ∧ ((∀ i, i ∉ [2] → v' i = v i) ∧ f_wdb (v' 2) = true) ∧ ((∀ j, j ≠ 9 → j ≠ 10 → a' 6 j = a 6 j) ∧ BF b b')) ∧ ∃ x : Int32, v9 = some (.inl x) ∧ (PSt t z N (c + 1) (tkN t z c p.toInt q.toInt) x a' b' v' ∧ (tkN t z c p.toInt q.toInt = 0 → (a' 6 9).toInt = nvT t z c))) := by
  refine f_pc_of rfl (fun d0 fu hd => ?_)
  show f_pq _ _ (0, [some (.inr (.inr (some 6))), some (.inl p), some (.inl q)], [], cH a b v) _
  have l0 : (0 : Int32).toInt = 0 := rfl
  have l1 : (1 : Int32).toInt = 1 := rfl
  refine qw_aload rfl rfl ?_
  refine qw_iload rfl rfl ?_
  refine qw_iload rfl rfl ?_
  refine qw_invV (rest := []) rfl rfl rfl rfl rfl (Nat.le_of_ble_eq_true rfl) rfl (y_X6_isNumber (d := d0) a b v z N c t p q (by omega)) (fun z1 h9 hq2 => ?_)
  obtain ⟨a3, rfl, fa3, x4, rfl, px4⟩ := hq2
  show f_pq _ _ (6, [some (.inr (.inr (some 6))), some (.inl p), some (.inl q)], [.inl x4], cH a3 b v) _
  have p9 := px4
  have F8 := fa3.2
  refine qw_if_ne rfl (fun c5 => ?_) (fun c5 => ?_)
  · skip
    have A9 : ¬ tkN t z c p.toInt q.toInt = 0 ∧ (a3 6 10).toInt = tkN t z c p.toInt q.toInt := by rcases p9.1 with h | h; omega; exact ⟨h.2.1, h.2.2⟩
    refine qw_const rfl ?_
    exact qwp_iret (z := true) rfl (fun _ => by first | exact Or.inl rfl | exact Or.inr rfl | (rcases (by omega : (0 : Int32).toInt = 0 ∨ (0 : Int32).toInt = 1) with h8 | h8; exact Or.inl (ti_eq h8); exact Or.inr (ti_eq h8))) ⟨a3, b, v, rfl, ⟨FR.tr (FR.rf) (FR.sub fa3.1 (by first | exact (fun _ h9 => h9) | decide | (intro c9 h9; simp only [List.mem_cons, List.not_mem_nil, or_false] at h9 ⊢; omega) | (intro c9 h9; simp only [List.mem_cons, List.not_mem_nil, or_false] at h9; exact cA_mem (by omega)) | (intro c9 h9; simp only [List.mem_cons, List.not_mem_nil, or_false] at h9; exact cB_mem (by omega)) | exact cA_sub)), ⟨(fun _ _ => rfl), hw⟩, ⟨F8, BF.rf⟩⟩, ⟨_, rfl, ⟨PSt.no rfl A9.1 A9.2, fun h => absurd h A9.1⟩⟩⟩
  · skip
    have A9 : CSt t z N c a3 b v ∧ tkN t z c p.toInt q.toInt = 0 := by rcases p9.1 with h | h; exact ⟨h.2.2, h.2.1⟩; omega
    have r9 := A9.1.pl
    refine qw_aload rfl rfl ?_
    refine qc_getR (t := some 1) rfl rfl rfl rfl rfl ?_
    refine qw_invV (rest := []) rfl rfl rfl rfl rfl (Nat.le_of_ble_eq_true rfl) rfl (y_X8_advance (d := d0) a3 b v   (by omega) (by omega)) (fun z6 h9 hq7 => ?_)
    obtain ⟨a8, b9, v10, rfl, fa8, rfl⟩ := hq7
    show f_pq _ _ (18, [some (.inr (.inr (some 6))), some (.inl p), some (.inl q)], [], cH a8 b9 v10) _
    have V9 := fa8
    refine qw_const rfl ?_
    exact qwp_iret (z := true) rfl (fun _ => by first | exact Or.inl rfl | exact Or.inr rfl | (rcases (by omega : (1 : Int32).toInt = 0 ∨ (1 : Int32).toInt = 1) with h8 | h8; exact Or.inl (ti_eq h8); exact Or.inr (ti_eq h8))) ⟨a8, b9, v10, rfl, ⟨FR.tr (FR.tr (FR.rf) (FR.sub fa3.1 (by first | exact (fun _ h9 => h9) | decide | (intro c9 h9; simp only [List.mem_cons, List.not_mem_nil, or_false] at h9 ⊢; omega) | (intro c9 h9; simp only [List.mem_cons, List.not_mem_nil, or_false] at h9; exact cA_mem (by omega)) | (intro c9 h9; simp only [List.mem_cons, List.not_mem_nil, or_false] at h9; exact cB_mem (by omega)) | exact cA_sub))) (FR.sub fa8.1 (by first | exact (fun _ h9 => h9) | decide | (intro c9 h9; simp only [List.mem_cons, List.not_mem_nil, or_false] at h9 ⊢; omega) | (intro c9 h9; simp only [List.mem_cons, List.not_mem_nil, or_false] at h9; exact cA_mem (by omega)) | (intro c9 h9; simp only [List.mem_cons, List.not_mem_nil, or_false] at h9; exact cB_mem (by omega)) | exact cA_sub)), ⟨fun i9 h9 => (fa8.2.1.1 i9 (fun z9 => h9 (by first | exact z9 | (revert z9; simp; done) | (revert z9; simp; omega)))).trans ((show ∀ i9, i9 ∉ [2] → v i9 = v i9 from (fun _ _ => rfl)) i9 h9), V9.2.1.2.1⟩, ⟨fun j h8 h9 => by rw [V9.1 6 (by decide)]; exact F8 j h8 h9, BF.av V9.2.2⟩⟩, ⟨_, rfl, ⟨PSt.ok rfl A9.2 (A9.1.next (tkN_k A9.2) V9.1 V9.2.2 V9.2.1.2.2), fun h => by rw [V9.1 6 (by decide)]; exact p9.2 h⟩⟩⟩
set_option maxRecDepth 4000 in
theorem y_X6_numberBehind {d : Nat} (a : Nat → Nat → Int32) (b : Nat → Nat → Int64) (v : Nat → Option Nat) (z : Nat) (N : Nat) (c : Nat) (t : Nat → Int32) (w : Nat) (p : Int32) (q : Int32) (hw : f_wdb (v 2) = true) (hp : 1000 ≤ w ∧ w < 1031) (hS : CSt t z N c a b v) : f_pc mtC d 53 [.inr (.inr (some 6)), .inr (.inr (some w)), .inl p, .inl q] (cH a b v) (fun v9 h' => ∃ (a' : Nat → Nat → Int32) (b' : Nat → Nat → Int64) (v' : Nat → Option Nat), h' = cH a' b' v' ∧ (FR [1, 6] a a' ∧ ((∀ i, i ∉ [2] → v' i = v i) ∧ f_wdb (v' 2) = true) ∧ ((∀ j, j ≠ 9 → j ≠ 10 → a' 6 j = a 6 j) ∧ BF b b')) ∧ ∃ x : Int32, v9 = some (.inl x) ∧ (PSt t z N (c + 2) (eE (xW t z c (w - 1000)) (tkN t z (c + 1) p.toInt q.toInt)) x a' b' v' ∧ (eE (xW t z c (w - 1000)) (tkN t z (c + 1) p.toInt q.toInt) = 0 → (a' 6 9).toInt = nvT t z (c + 1)))) := by
  refine f_pc_of rfl (fun d0 fu hd => ?_)
  show f_pq _ _ (0, [some (.inr (.inr (some 6))), some (.inr (.inr (some w))), some (.inl p), some (.inl q)], [], cH a b v) _
  have l0 : (0 : Int32).toInt = 0 := rfl
  have l1 : (1 : Int32).toInt = 1 := rfl
  refine qw_aload rfl rfl ?_
  refine qw_aload rfl rfl ?_
  refine qw_invV (rest := []) rfl rfl rfl rfl rfl (Nat.le_of_ble_eq_true rfl) rfl (y_X6_passWord (d := d0) a b v z N c t w (hw) (by omega) (by omega)) (fun z1 h9 hq2 => ?_)
  obtain ⟨a3, b4, v5, rfl, fa3, x6, rfl, px6⟩ := hq2
  show f_pq _ _ (5, [some (.inr (.inr (some 6))), some (.inr (.inr (some w))), some (.inl p), some (.inl q)], [.inl x6], cH a3 b4 v5) _
  have p9 := px6
  have F7 := fa3.2.2
  have w9 := fa3.2.1.2
  refine qw_if_eq rfl (fun c7 => ?_) (fun c7 => ?_)
  · skip
    have A9 : ¬ xW t z c (w - 1000) = 0 ∧ (a3 6 10).toInt = xW t z c (w - 1000) := by rcases p9 with h | h; omega; exact ⟨h.2.1, h.2.2⟩
    refine qw_const rfl ?_
    exact qwp_iret (z := true) rfl (fun _ => by first | exact Or.inl rfl | exact Or.inr rfl | (rcases (by omega : (0 : Int32).toInt = 0 ∨ (0 : Int32).toInt = 1) with h8 | h8; exact Or.inl (ti_eq h8); exact Or.inr (ti_eq h8))) ⟨a3, b4, v5, rfl, ⟨FR.tr (FR.rf) (FR.sub fa3.1 (by first | exact (fun _ h9 => h9) | decide | (intro c9 h9; simp only [List.mem_cons, List.not_mem_nil, or_false] at h9 ⊢; omega) | (intro c9 h9; simp only [List.mem_cons, List.not_mem_nil, or_false] at h9; exact cA_mem (by omega)) | (intro c9 h9; simp only [List.mem_cons, List.not_mem_nil, or_false] at h9; exact cB_mem (by omega)) | exact cA_sub)), ⟨fun i9 h9 => (fa3.2.1.1 i9 (fun z9 => h9 (by first | exact z9 | (revert z9; simp; done) | (revert z9; simp; omega)))).trans ((show ∀ i9, i9 ∉ [2] → v i9 = v i9 from (fun _ _ => rfl)) i9 h9), w9⟩, ⟨fun j _ h9 => F7.1 j h9, F7.2⟩⟩, ⟨_, rfl, ⟨PSt.no rfl (by rw [eE_x A9.1]; exact A9.1) (by rw [eE_x A9.1]; exact A9.2), fun h => absurd h (by rw [eE_x A9.1]; exact A9.1)⟩⟩⟩
  · skip
    have A9 : CSt t z N (c + 1) a3 b4 v5 ∧ xW t z c (w - 1000) = 0 := by rcases p9 with h | h; exact ⟨h.2.2, h.2.1⟩; omega
    have r9 := A9.1.pl
    refine qw_aload rfl rfl ?_
    refine qw_iload rfl rfl ?_
    refine qw_iload rfl rfl ?_
    refine qw_invV (rest := []) rfl rfl rfl rfl rfl (Nat.le_of_ble_eq_true rfl) rfl (y_X6_isNumber (d := d0) a3 b4 v5 z N (c + 1) t p q (A9.1)) (fun z8 h9 hq9 => ?_)
    obtain ⟨a10, rfl, fa10, x11, rfl, px11⟩ := hq9
    show f_pq _ _ (14, [some (.inr (.inr (some 6))), some (.inr (.inr (some w))), some (.inl p), some (.inl q)], [.inl x11], cH a10 b4 v5) _
    have p8 := px11
    have F8 := fa10.2
    refine qw_if_ne rfl (fun c12 => ?_) (fun c12 => ?_)
    · skip
      have B9 : ¬ tkN t z (c + 1) p.toInt q.toInt = 0 ∧ (a10 6 10).toInt = tkN t z (c + 1) p.toInt q.toInt := by rcases p8.1 with h | h; omega; exact ⟨h.2.1, h.2.2⟩
      refine qw_const rfl ?_
      exact qwp_iret (z := true) rfl (fun _ => by first | exact Or.inl rfl | exact Or.inr rfl | (rcases (by omega : (0 : Int32).toInt = 0 ∨ (0 : Int32).toInt = 1) with h8 | h8; exact Or.inl (ti_eq h8); exact Or.inr (ti_eq h8))) ⟨a10, b4, v5, rfl, ⟨FR.tr (FR.tr (FR.rf) (FR.sub fa3.1 (by first | exact (fun _ h9 => h9) | decide | (intro c9 h9; simp only [List.mem_cons, List.not_mem_nil, or_false] at h9 ⊢; omega) | (intro c9 h9; simp only [List.mem_cons, List.not_mem_nil, or_false] at h9; exact cA_mem (by omega)) | (intro c9 h9; simp only [List.mem_cons, List.not_mem_nil, or_false] at h9; exact cB_mem (by omega)) | exact cA_sub))) (FR.sub fa10.1 (by first | exact (fun _ h9 => h9) | decide | (intro c9 h9; simp only [List.mem_cons, List.not_mem_nil, or_false] at h9 ⊢; omega) | (intro c9 h9; simp only [List.mem_cons, List.not_mem_nil, or_false] at h9; exact cA_mem (by omega)) | (intro c9 h9; simp only [List.mem_cons, List.not_mem_nil, or_false] at h9; exact cB_mem (by omega)) | exact cA_sub)), ⟨fun i9 h9 => (fa3.2.1.1 i9 (fun z9 => h9 (by first | exact z9 | (revert z9; simp; done) | (revert z9; simp; omega)))).trans ((show ∀ i9, i9 ∉ [2] → v i9 = v i9 from (fun _ _ => rfl)) i9 h9), w9⟩, ⟨fun j h8 h9 => by rw [F8 j h8 h9]; exact F7.1 j h9, F7.2⟩⟩, ⟨_, rfl, ⟨PSt.no rfl (by rw [A9.2, eE_0 rfl]; exact B9.1) (by rw [A9.2, eE_0 rfl]; exact B9.2), fun h => absurd h (by rw [A9.2, eE_0 rfl]; exact B9.1)⟩⟩⟩
    · skip
      have B9 : CSt t z N (c + 1) a10 b4 v5 ∧ tkN t z (c + 1) p.toInt q.toInt = 0 := by rcases p8.1 with h | h; exact ⟨h.2.2, h.2.1⟩; omega
      have r8 := B9.1.pl
      refine qw_aload rfl rfl ?_
      refine qc_getR (t := some 1) rfl rfl rfl rfl rfl ?_
      refine qw_invV (rest := []) rfl rfl rfl rfl rfl (Nat.le_of_ble_eq_true rfl) rfl (y_X8_advance (d := d0) a10 b4 v5   (by omega) (by omega)) (fun z13 h9 hq14 => ?_)
      obtain ⟨a15, b16, v17, rfl, fa15, rfl⟩ := hq14
      show f_pq _ _ (26, [some (.inr (.inr (some 6))), some (.inr (.inr (some w))), some (.inl p), some (.inl q)], [], cH a15 b16 v17) _
      have V9 := fa15
      refine qw_const rfl ?_
      exact qwp_iret (z := true) rfl (fun _ => by first | exact Or.inl rfl | exact Or.inr rfl | (rcases (by omega : (1 : Int32).toInt = 0 ∨ (1 : Int32).toInt = 1) with h8 | h8; exact Or.inl (ti_eq h8); exact Or.inr (ti_eq h8))) ⟨a15, b16, v17, rfl, ⟨FR.tr (FR.tr (FR.tr (FR.rf) (FR.sub fa3.1 (by first | exact (fun _ h9 => h9) | decide | (intro c9 h9; simp only [List.mem_cons, List.not_mem_nil, or_false] at h9 ⊢; omega) | (intro c9 h9; simp only [List.mem_cons, List.not_mem_nil, or_false] at h9; exact cA_mem (by omega)) | (intro c9 h9; simp only [List.mem_cons, List.not_mem_nil, or_false] at h9; exact cB_mem (by omega)) | exact cA_sub))) (FR.sub fa10.1 (by first | exact (fun _ h9 => h9) | decide | (intro c9 h9; simp only [List.mem_cons, List.not_mem_nil, or_false] at h9 ⊢; omega) | (intro c9 h9; simp only [List.mem_cons, List.not_mem_nil, or_false] at h9; exact cA_mem (by omega)) | (intro c9 h9; simp only [List.mem_cons, List.not_mem_nil, or_false] at h9; exact cB_mem (by omega)) | exact cA_sub))) (FR.sub fa15.1 (by first | exact (fun _ h9 => h9) | decide | (intro c9 h9; simp only [List.mem_cons, List.not_mem_nil, or_false] at h9 ⊢; omega) | (intro c9 h9; simp only [List.mem_cons, List.not_mem_nil, or_false] at h9; exact cA_mem (by omega)) | (intro c9 h9; simp only [List.mem_cons, List.not_mem_nil, or_false] at h9; exact cB_mem (by omega)) | exact cA_sub)), ⟨fun i9 h9 => (fa15.2.1.1 i9 (fun z9 => h9 (by first | exact z9 | (revert z9; simp; done) | (revert z9; simp; omega)))).trans ((show ∀ i9, i9 ∉ [2] → v5 i9 = v i9 from fun i9 h9 => (fa3.2.1.1 i9 (fun z9 => h9 (by first | exact z9 | (revert z9; simp; done) | (revert z9; simp; omega)))).trans ((show ∀ i9, i9 ∉ [2] → v i9 = v i9 from (fun _ _ => rfl)) i9 h9)) i9 h9), V9.2.1.2.1⟩, ⟨fun j h8 h9 => by rw [V9.1 6 (by decide), F8 j h8 h9]; exact F7.1 j h9, F7.2.tr (BF.av V9.2.2)⟩⟩, ⟨_, rfl, ⟨PSt.ok rfl (by rw [A9.2, eE_0 rfl]; exact B9.2) (B9.1.next (tkN_k B9.2) V9.1 V9.2.2 V9.2.1.2.2), fun h => by rw [V9.1 6 (by decide)]; exact p8.2 B9.2⟩⟩⟩
