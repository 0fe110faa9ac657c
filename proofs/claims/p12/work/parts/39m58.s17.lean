set_option maxRecDepth 4000 in
theorem s_takeNumber {K : Nat} (a : Nat → Nat → Int32) (b : Nat → Nat → Int64) (N : Nat)(p : Int32) (r : Int32) (hR : RM K a) (hp : 0 ≤ p.toInt) (hT : N ≤ 1000 ∧ (a 0 7).toInt ≤ N ∧ (a 2 N).toInt = 0) : f_call mtM 2 16 [.inr (.inr (some 0)), .inl p, .inl r] (mH a b) (fun v9 h' => ∃ (a' : Nat → Nat → Int32), h' = mH a' b ∧ RM K a' ∧ (FR [0] a a' ∧ ((∀ j, j ≠ 7 → j ≠ 8 → a' 0 j = a 0 j) ∧ (a 0 7).toInt ≤ (a' 0 7).toInt ∧ (a' 0 7).toInt ≤ N)) ∧ ∃ x : Int32, v9 = some (.inl x) ∧ (((a' 0 8).toInt = 0 ∧ (a 0 8).toInt = 0 ∧ p.toInt ≤ x.toInt ∧ x.toInt ≤ r.toInt ∧ (a' 0 7).toInt = (a 0 7).toInt + 1) ∨ (0 < (a' 0 8).toInt ∧ x.toInt = 0 ∧ (a' 0 7).toInt = (a 0 7).toInt))) := by
  refine f_call_of (d0 := 1) rfl (Nat.le_of_ble_eq_true rfl) (fun d hd => ?_)
  show f_wp _ (0, [some (.inr (.inr (some 0))), some (.inl p), some (.inl r)], [], mH a b) _
  have l0 : (0 : Int32).toInt = 0 := rfl
  have l1 : (1 : Int32).toInt = 1 := rfl
  have l2 : (2 : Int32).toInt = 2 := rfl
  have l4 : (4 : Int32).toInt = 4 := rfl
  have z7 : 0 ≤ (a 0 7).toInt ∧ (a 0 7).toInt ≤ 1000 := hR 0 7
  have z8 : 0 ≤ (a 0 8).toInt ∧ (a 0 8).toInt ≤ 2147483647 := hR 0 8
  have r7 := ti_hi r
  refine w_aload rfl rfl ?_
  refine w_getI (v := .inl (a 0 8)) rfl rfl rfl rfl rfl ?_
  have q1 : 0 ≤ (a 0 8).toInt ∧ (a 0 8).toInt ≤ 2147483647 := hR 0 8
  refine w_if_ne rfl (fun c2 => ?_) (fun c2 => ?_)
  · skip
    refine w_aload rfl rfl ?_
    refine w_getR (v := .inr (.inr (some 2))) rfl rfl rfl rfl rfl ?_
    refine w_aload rfl rfl ?_
    refine w_getI (v := .inl (a 0 7)) rfl rfl rfl rfl rfl ?_
    have q3 : 0 ≤ (a 0 7).toInt ∧ (a 0 7).toInt ≤ 1000 := hR 0 7
    refine m_iald rfl rfl (by omega) (fun x4 ex4 => ?_)
    have qx4 : 0 ≤ x4.toInt ∧ x4.toInt ≤ 4 := by rw [ex4]; exact hR 2 _
    have e9 := congrArg Int32.toInt ex4
    refine w_const rfl ?_
    refine w_ic_eq rfl (fun c5 => ?_) (fun c5 => ?_)
    · skip
      refine w_aload rfl rfl ?_
      refine w_getI (v := .inl (a 0 8)) rfl rfl rfl rfl rfl ?_
      have q6 : 0 ≤ (a 0 8).toInt ∧ (a 0 8).toInt ≤ 2147483647 := hR 0 8
      refine w_if_ne rfl (fun c7 => ?_) (fun c7 => ?_)
      · skip
        refine w_aload rfl rfl ?_
        refine w_getR (v := .inr (.inr (some 4))) rfl rfl rfl rfl rfl ?_
        refine w_aload rfl rfl ?_
        refine w_getI (v := .inl (a 0 7)) rfl rfl rfl rfl rfl ?_
        have q8 : 0 ≤ (a 0 7).toInt ∧ (a 0 7).toInt ≤ 1000 := hR 0 7
        refine m_lald rfl rfl (by omega) (fun y9 ey9 => ?_)
        refine w_iload rfl rfl ?_
        refine w_i2lE rfl (fun y10 ty10 => ?_)
        refine w_lcmpE rfl (fun x11 tx11 => ?_)
        have c9 := cmp_ti tx11
        have c8 := i2l_ti (x := p) ty10
        have e8 := congrArg Int64.toInt ey9
        refine w_if_lt rfl (fun c12 => ?_) (fun c12 => ?_)
        · skip
          refine w_aload rfl rfl ?_
          refine w_const rfl ?_
          refine w_invV (rest := []) rfl rfl rfl rfl rfl (Nat.le_of_ble_eq_true rfl) rfl (by omega) (s_wrong (K := K) a b  4 hR (by omega)) (fun v13 h9 hq14 => ?_)
          obtain ⟨a15, rfl, ha15, fa15, rfl⟩ := hq14
          show f_wp _ (70, [some (.inr (.inr (some 0))), some (.inl p), some (.inl r)], [], mH a15 b) _
          have y7 : (a15 0 7).toInt = (a 0 7).toInt := by rw [fa15.2.1 7 (by decide)]
          refine w_aload rfl rfl ?_
          refine w_getI (v := .inl (a15 0 8)) rfl rfl rfl rfl rfl ?_
          have q16 : 0 ≤ (a15 0 8).toInt ∧ (a15 0 8).toInt ≤ 2147483647 := ha15 0 8
          refine w_if_le rfl (fun c17 => ?_) (fun c17 => ?_)
          · skip
            have y9 := TK.lt hT z7.1 (by omega)
            refine w_aload rfl rfl ?_
            refine w_dup rfl rfl ?_
            refine w_getI (v := .inl (a15 0 7)) rfl rfl rfl rfl rfl ?_
            have q18 : 0 ≤ (a15 0 7).toInt ∧ (a15 0 7).toInt ≤ 1000 := ha15 0 7
            refine w_const rfl ?_
            first | refine w_iadd rfl (by omega) (fun x19 tx19 => ?_) | refine w_iiU rfl (fun x19 tx19 => ?_)
            refine m_putI (z := false) rfl rfl rfl rfl (by first | (intro h9; cases h9; done) | (intro _; first | exact Or.inl rfl | exact Or.inr rfl | assumption)) (fun a20 ea20 => ?_)
            have ha20 : RM K a20 := RM.up ha15 ea20 (show (0 : Int) ≤ _ ∧ _ ≤ (1000 : Int) from by omega)
            have ua20_7 : a20 0 7 = x19 := by rw [ea20, mU_same]
            have wa20_7 := congrArg Int32.toInt ua20_7
            have ua20_8 : (a20 0 8).toInt = (a15 0 8).toInt := by rw [ea20, mU_slot (by decide)]
            refine w_aload rfl rfl ?_
            refine w_getR (v := .inr (.inr (some 4))) rfl rfl rfl rfl rfl ?_
            refine w_aload rfl rfl ?_
            refine w_getI (v := .inl (a20 0 7)) rfl rfl rfl rfl rfl ?_
            have q21 : 0 ≤ (a20 0 7).toInt ∧ (a20 0 7).toInt ≤ 1000 := ha20 0 7
            refine w_const rfl ?_
            first | refine w_isub rfl (by omega) (fun x22 tx22 => ?_) | refine w_iiU rfl (fun x22 tx22 => ?_)
            refine m_lald rfl rfl (by omega) (fun y23 ey23 => ?_)
            have i9 : y23 = b 4 (a 0 7).toInt.toNat := by rw [ey23]; congr 1; omega
            have i8 := congrArg Int64.toInt i9
            refine w_l2iE rfl (fun x24 tx24 => ?_)
            have x9 := l2i_ti tx24 (by omega)
            exact wp_iret (z := false) rfl (fun h9 => by cases h9) ⟨a20, rfl, ha20, ⟨FR.up (FR.tr (FR.rf) (FR.sub fa15.1 (by decide))) (by decide) ea20, by exfalso; omega⟩, ⟨_, rfl, by omega⟩⟩
          · skip
            refine w_const rfl ?_
            exact wp_iret (z := false) rfl (fun h9 => by cases h9) ⟨a15, rfl, ha15, ⟨FR.tr (FR.rf) (FR.sub fa15.1 (by decide)), ⟨fun j _ h8 => fa15.2.1 j h8, by rw [fa15.2.1 7 (by decide)]; omega, by rw [fa15.2.1 7 (by decide)]; omega⟩⟩, ⟨_, rfl, by omega⟩⟩
        · skip
          refine w_aload rfl rfl ?_
          refine w_getR (v := .inr (.inr (some 4))) rfl rfl rfl rfl rfl ?_
          refine w_aload rfl rfl ?_
          refine w_getI (v := .inl (a 0 7)) rfl rfl rfl rfl rfl ?_
          have q25 : 0 ≤ (a 0 7).toInt ∧ (a 0 7).toInt ≤ 1000 := hR 0 7
          refine m_lald rfl rfl (by omega) (fun y26 ey26 => ?_)
          refine w_iload rfl rfl ?_
          refine w_i2lE rfl (fun y27 ty27 => ?_)
          refine w_lcmpE rfl (fun x28 tx28 => ?_)
          have c9 := cmp_ti tx28
          have c8 := i2l_ti (x := r) ty27
          have e8 := congrArg Int64.toInt ey26
          refine w_if_le rfl (fun c29 => ?_) (fun c29 => ?_)
          · skip
            refine w_aload rfl rfl ?_
            refine w_getI (v := .inl (a 0 8)) rfl rfl rfl rfl rfl ?_
            have q30 : 0 ≤ (a 0 8).toInt ∧ (a 0 8).toInt ≤ 2147483647 := hR 0 8
            refine w_if_le rfl (fun c31 => ?_) (fun c31 => ?_)
            · skip
              have y9 := TK.lt hT z7.1 (by omega)
              refine w_aload rfl rfl ?_
              refine w_dup rfl rfl ?_
              refine w_getI (v := .inl (a 0 7)) rfl rfl rfl rfl rfl ?_
              have q32 : 0 ≤ (a 0 7).toInt ∧ (a 0 7).toInt ≤ 1000 := hR 0 7
              refine w_const rfl ?_
              first | refine w_iadd rfl (by omega) (fun x33 tx33 => ?_) | refine w_iiU rfl (fun x33 tx33 => ?_)
              refine m_putI (z := false) rfl rfl rfl rfl (by first | (intro h9; cases h9; done) | (intro _; first | exact Or.inl rfl | exact Or.inr rfl | assumption)) (fun a34 ea34 => ?_)
              have ha34 : RM K a34 := RM.up hR ea34 (show (0 : Int) ≤ _ ∧ _ ≤ (1000 : Int) from by omega)
              have ua34_7 : a34 0 7 = x33 := by rw [ea34, mU_same]
              have wa34_7 := congrArg Int32.toInt ua34_7
              have ua34_8 : (a34 0 8).toInt = (a 0 8).toInt := by rw [ea34, mU_slot (by decide)]
              refine w_aload rfl rfl ?_
              refine w_getR (v := .inr (.inr (some 4))) rfl rfl rfl rfl rfl ?_
              refine w_aload rfl rfl ?_
              refine w_getI (v := .inl (a34 0 7)) rfl rfl rfl rfl rfl ?_
              have q35 : 0 ≤ (a34 0 7).toInt ∧ (a34 0 7).toInt ≤ 1000 := ha34 0 7
              refine w_const rfl ?_
              first | refine w_isub rfl (by omega) (fun x36 tx36 => ?_) | refine w_iiU rfl (fun x36 tx36 => ?_)
              refine m_lald rfl rfl (by omega) (fun y37 ey37 => ?_)
              have i9 : y37 = b 4 (a 0 7).toInt.toNat := by rw [ey37]; congr 1; omega
              have i8 := congrArg Int64.toInt i9
              refine w_l2iE rfl (fun x38 tx38 => ?_)
              have x9 := l2i_ti tx38 (by omega)
              exact wp_iret (z := false) rfl (fun h9 => by cases h9) ⟨a34, rfl, ha34, ⟨FR.up (FR.rf) (by decide) ea34, ⟨fun j h7 _ => by rw [ea34, mU_slot h7], by rw [ea34, mU_same]; omega, by rw [ea34, mU_same]; omega⟩⟩, ⟨_, rfl, by omega⟩⟩
            · skip
              refine w_const rfl ?_
              exact wp_iret (z := false) rfl (fun h9 => by cases h9) ⟨a, rfl, hR, ⟨FR.rf, ⟨fun _ _ _ => rfl, Int.le_refl _, by omega⟩⟩, ⟨_, rfl, by omega⟩⟩
          · skip
            refine w_aload rfl rfl ?_
            refine w_const rfl ?_
            refine w_invV (rest := []) rfl rfl rfl rfl rfl (Nat.le_of_ble_eq_true rfl) rfl (by omega) (s_wrong (K := K) a b  4 hR (by omega)) (fun v39 h9 hq40 => ?_)
            obtain ⟨a41, rfl, ha41, fa41, rfl⟩ := hq40
            show f_wp _ (70, [some (.inr (.inr (some 0))), some (.inl p), some (.inl r)], [], mH a41 b) _
            have y7 : (a41 0 7).toInt = (a 0 7).toInt := by rw [fa41.2.1 7 (by decide)]
            refine w_aload rfl rfl ?_
            refine w_getI (v := .inl (a41 0 8)) rfl rfl rfl rfl rfl ?_
            have q42 : 0 ≤ (a41 0 8).toInt ∧ (a41 0 8).toInt ≤ 2147483647 := ha41 0 8
            refine w_if_le rfl (fun c43 => ?_) (fun c43 => ?_)
            · skip
              have y9 := TK.lt hT z7.1 (by omega)
              refine w_aload rfl rfl ?_
              refine w_dup rfl rfl ?_
              refine w_getI (v := .inl (a41 0 7)) rfl rfl rfl rfl rfl ?_
              have q44 : 0 ≤ (a41 0 7).toInt ∧ (a41 0 7).toInt ≤ 1000 := ha41 0 7
              refine w_const rfl ?_
              first | refine w_iadd rfl (by omega) (fun x45 tx45 => ?_) | refine w_iiU rfl (fun x45 tx45 => ?_)
              refine m_putI (z := false) rfl rfl rfl rfl (by first | (intro h9; cases h9; done) | (intro _; first | exact Or.inl rfl | exact Or.inr rfl | assumption)) (fun a46 ea46 => ?_)
              have ha46 : RM K a46 := RM.up ha41 ea46 (show (0 : Int) ≤ _ ∧ _ ≤ (1000 : Int) from by omega)
              have ua46_7 : a46 0 7 = x45 := by rw [ea46, mU_same]
              have wa46_7 := congrArg Int32.toInt ua46_7
              have ua46_8 : (a46 0 8).toInt = (a41 0 8).toInt := by rw [ea46, mU_slot (by decide)]
              refine w_aload rfl rfl ?_
              refine w_getR (v := .inr (.inr (some 4))) rfl rfl rfl rfl rfl ?_
              refine w_aload rfl rfl ?_
              refine w_getI (v := .inl (a46 0 7)) rfl rfl rfl rfl rfl ?_
              have q47 : 0 ≤ (a46 0 7).toInt ∧ (a46 0 7).toInt ≤ 1000 := ha46 0 7
              refine w_const rfl ?_
              first | refine w_isub rfl (by omega) (fun x48 tx48 => ?_) | refine w_iiU rfl (fun x48 tx48 => ?_)
              refine m_lald rfl rfl (by omega) (fun y49 ey49 => ?_)
              have i9 : y49 = b 4 (a 0 7).toInt.toNat := by rw [ey49]; congr 1; omega
              have i8 := congrArg Int64.toInt i9
              refine w_l2iE rfl (fun x50 tx50 => ?_)
              have x9 := l2i_ti tx50 (by omega)
              exact wp_iret (z := false) rfl (fun h9 => by cases h9) ⟨a46, rfl, ha46, ⟨FR.up (FR.tr (FR.rf) (FR.sub fa41.1 (by decide))) (by decide) ea46, by exfalso; omega⟩, ⟨_, rfl, by omega⟩⟩
            · skip
              refine w_const rfl ?_
              exact wp_iret (z := false) rfl (fun h9 => by cases h9) ⟨a41, rfl, ha41, ⟨FR.tr (FR.rf) (FR.sub fa41.1 (by decide)), ⟨fun j _ h8 => fa41.2.1 j h8, by rw [fa41.2.1 7 (by decide)]; omega, by rw [fa41.2.1 7 (by decide)]; omega⟩⟩, ⟨_, rfl, by omega⟩⟩
      · skip
        refine w_aload rfl rfl ?_
        refine w_getI (v := .inl (a 0 8)) rfl rfl rfl rfl rfl ?_
        have q51 : 0 ≤ (a 0 8).toInt ∧ (a 0 8).toInt ≤ 2147483647 := hR 0 8
        refine w_if_le rfl (fun c52 => ?_) (fun c52 => ?_)
        · skip
          have y9 := TK.lt hT z7.1 (by omega)
          refine w_aload rfl rfl ?_
          refine w_dup rfl rfl ?_
          refine w_getI (v := .inl (a 0 7)) rfl rfl rfl rfl rfl ?_
          have q53 : 0 ≤ (a 0 7).toInt ∧ (a 0 7).toInt ≤ 1000 := hR 0 7
          refine w_const rfl ?_
          first | refine w_iadd rfl (by omega) (fun x54 tx54 => ?_) | refine w_iiU rfl (fun x54 tx54 => ?_)
          refine m_putI (z := false) rfl rfl rfl rfl (by first | (intro h9; cases h9; done) | (intro _; first | exact Or.inl rfl | exact Or.inr rfl | assumption)) (fun a55 ea55 => ?_)
          have ha55 : RM K a55 := RM.up hR ea55 (show (0 : Int) ≤ _ ∧ _ ≤ (1000 : Int) from by omega)
          have ua55_7 : a55 0 7 = x54 := by rw [ea55, mU_same]
          have wa55_7 := congrArg Int32.toInt ua55_7
          have ua55_8 : (a55 0 8).toInt = (a 0 8).toInt := by rw [ea55, mU_slot (by decide)]
          refine w_aload rfl rfl ?_
          refine w_getR (v := .inr (.inr (some 4))) rfl rfl rfl rfl rfl ?_
          refine w_aload rfl rfl ?_
          refine w_getI (v := .inl (a55 0 7)) rfl rfl rfl rfl rfl ?_
          have q56 : 0 ≤ (a55 0 7).toInt ∧ (a55 0 7).toInt ≤ 1000 := ha55 0 7
          refine w_const rfl ?_
          first | refine w_isub rfl (by omega) (fun x57 tx57 => ?_) | refine w_iiU rfl (fun x57 tx57 => ?_)
          refine m_lald rfl rfl (by omega) (fun y58 ey58 => ?_)
          have i9 : y58 = b 4 (a 0 7).toInt.toNat := by rw [ey58]; congr 1; omega
          have i8 := congrArg Int64.toInt i9
          refine w_l2iE rfl (fun x59 tx59 => ?_)
          have x9 := l2i_ti tx59 (by omega)
          exact wp_iret (z := false) rfl (fun h9 => by cases h9) ⟨a55, rfl, ha55, ⟨FR.up (FR.rf) (by decide) ea55, ⟨fun j h7 _ => by rw [ea55, mU_slot h7], by rw [ea55, mU_same]; omega, by rw [ea55, mU_same]; omega⟩⟩, ⟨_, rfl, by omega⟩⟩
        · skip
          refine w_const rfl ?_
          exact wp_iret (z := false) rfl (fun h9 => by cases h9) ⟨a, rfl, hR, ⟨FR.rf, ⟨fun _ _ _ => rfl, Int.le_refl _, by omega⟩⟩, ⟨_, rfl, by omega⟩⟩
    · skip
      refine w_aload rfl rfl ?_
      refine w_const rfl ?_
      refine w_invV (rest := []) rfl rfl rfl rfl rfl (Nat.le_of_ble_eq_true rfl) rfl (by omega) (s_wrong (K := K) a b  1 hR (by omega)) (fun v60 h9 hq61 => ?_)
      obtain ⟨a62, rfl, ha62, fa62, rfl⟩ := hq61
      show f_wp _ (25, [some (.inr (.inr (some 0))), some (.inl p), some (.inl r)], [], mH a62 b) _
      have y7 : (a62 0 7).toInt = (a 0 7).toInt := by rw [fa62.2.1 7 (by decide)]
      refine w_goto rfl ?_
      refine w_aload rfl rfl ?_
      refine w_getI (v := .inl (a62 0 8)) rfl rfl rfl rfl rfl ?_
      have q63 : 0 ≤ (a62 0 8).toInt ∧ (a62 0 8).toInt ≤ 2147483647 := ha62 0 8
      refine w_if_le rfl (fun c64 => ?_) (fun c64 => ?_)
      · skip
        have y9 := TK.lt hT z7.1 (by omega)
        refine w_aload rfl rfl ?_
        refine w_dup rfl rfl ?_
        refine w_getI (v := .inl (a62 0 7)) rfl rfl rfl rfl rfl ?_
        have q65 : 0 ≤ (a62 0 7).toInt ∧ (a62 0 7).toInt ≤ 1000 := ha62 0 7
        refine w_const rfl ?_
        first | refine w_iadd rfl (by omega) (fun x66 tx66 => ?_) | refine w_iiU rfl (fun x66 tx66 => ?_)
        refine m_putI (z := false) rfl rfl rfl rfl (by first | (intro h9; cases h9; done) | (intro _; first | exact Or.inl rfl | exact Or.inr rfl | assumption)) (fun a67 ea67 => ?_)
        have ha67 : RM K a67 := RM.up ha62 ea67 (show (0 : Int) ≤ _ ∧ _ ≤ (1000 : Int) from by omega)
        have ua67_7 : a67 0 7 = x66 := by rw [ea67, mU_same]
        have wa67_7 := congrArg Int32.toInt ua67_7
        have ua67_8 : (a67 0 8).toInt = (a62 0 8).toInt := by rw [ea67, mU_slot (by decide)]
        refine w_aload rfl rfl ?_
        refine w_getR (v := .inr (.inr (some 4))) rfl rfl rfl rfl rfl ?_
        refine w_aload rfl rfl ?_
        refine w_getI (v := .inl (a67 0 7)) rfl rfl rfl rfl rfl ?_
        have q68 : 0 ≤ (a67 0 7).toInt ∧ (a67 0 7).toInt ≤ 1000 := ha67 0 7
        refine w_const rfl ?_
        first | refine w_isub rfl (by omega) (fun x69 tx69 => ?_) | refine w_iiU rfl (fun x69 tx69 => ?_)
        refine m_lald rfl rfl (by omega) (fun y70 ey70 => ?_)
        have i9 : y70 = b 4 (a 0 7).toInt.toNat := by rw [ey70]; congr 1; omega
        have i8 := congrArg Int64.toInt i9
        refine w_l2iE rfl (fun x71 tx71 => ?_)
        have x9 := l2i_ti tx71 (by omega)
        exact wp_iret (z := false) rfl (fun h9 => by cases h9) ⟨a67, rfl, ha67, ⟨FR.up (FR.tr (FR.rf) (FR.sub fa62.1 (by decide))) (by decide) ea67, by exfalso; omega⟩, ⟨_, rfl, by omega⟩⟩
      · skip
        refine w_const rfl ?_
        exact wp_iret (z := false) rfl (fun h9 => by cases h9) ⟨a62, rfl, ha62, ⟨FR.tr (FR.rf) (FR.sub fa62.1 (by decide)), ⟨fun j _ h8 => fa62.2.1 j h8, by rw [fa62.2.1 7 (by decide)]; omega, by rw [fa62.2.1 7 (by decide)]; omega⟩⟩, ⟨_, rfl, by omega⟩⟩
  · skip
    refine w_aload rfl rfl ?_
    refine w_getI (v := .inl (a 0 8)) rfl rfl rfl rfl rfl ?_
    have q72 : 0 ≤ (a 0 8).toInt ∧ (a 0 8).toInt ≤ 2147483647 := hR 0 8
    refine w_if_ne rfl (fun c73 => ?_) (fun c73 => ?_)
    · skip
      refine w_aload rfl rfl ?_
      refine w_getR (v := .inr (.inr (some 4))) rfl rfl rfl rfl rfl ?_
      refine w_aload rfl rfl ?_
      refine w_getI (v := .inl (a 0 7)) rfl rfl rfl rfl rfl ?_
      have q74 : 0 ≤ (a 0 7).toInt ∧ (a 0 7).toInt ≤ 1000 := hR 0 7
      refine m_lald rfl rfl (by omega) (fun y75 ey75 => ?_)
      refine w_iload rfl rfl ?_
      refine w_i2lE rfl (fun y76 ty76 => ?_)
      refine w_lcmpE rfl (fun x77 tx77 => ?_)
      have c9 := cmp_ti tx77
      have c8 := i2l_ti (x := p) ty76
      have e8 := congrArg Int64.toInt ey75
      refine w_if_lt rfl (fun c78 => ?_) (fun c78 => ?_)
      · skip
        refine w_aload rfl rfl ?_
        refine w_const rfl ?_
        refine w_invV (rest := []) rfl rfl rfl rfl rfl (Nat.le_of_ble_eq_true rfl) rfl (by omega) (s_wrong (K := K) a b  4 hR (by omega)) (fun v79 h9 hq80 => ?_)
        obtain ⟨a81, rfl, ha81, fa81, rfl⟩ := hq80
        show f_wp _ (70, [some (.inr (.inr (some 0))), some (.inl p), some (.inl r)], [], mH a81 b) _
        have y7 : (a81 0 7).toInt = (a 0 7).toInt := by rw [fa81.2.1 7 (by decide)]
        refine w_aload rfl rfl ?_
        refine w_getI (v := .inl (a81 0 8)) rfl rfl rfl rfl rfl ?_
        have q82 : 0 ≤ (a81 0 8).toInt ∧ (a81 0 8).toInt ≤ 2147483647 := ha81 0 8
        refine w_if_le rfl (fun c83 => ?_) (fun c83 => ?_)
        · skip
          have y9 := TK.lt hT z7.1 (by omega)
          refine w_aload rfl rfl ?_
          refine w_dup rfl rfl ?_
          refine w_getI (v := .inl (a81 0 7)) rfl rfl rfl rfl rfl ?_
          have q84 : 0 ≤ (a81 0 7).toInt ∧ (a81 0 7).toInt ≤ 1000 := ha81 0 7
          refine w_const rfl ?_
          first | refine w_iadd rfl (by omega) (fun x85 tx85 => ?_) | refine w_iiU rfl (fun x85 tx85 => ?_)
          refine m_putI (z := false) rfl rfl rfl rfl (by first | (intro h9; cases h9; done) | (intro _; first | exact Or.inl rfl | exact Or.inr rfl | assumption)) (fun a86 ea86 => ?_)
          have ha86 : RM K a86 := RM.up ha81 ea86 (show (0 : Int) ≤ _ ∧ _ ≤ (1000 : Int) from by omega)
          have ua86_7 : a86 0 7 = x85 := by rw [ea86, mU_same]
          have wa86_7 := congrArg Int32.toInt ua86_7
          have ua86_8 : (a86 0 8).toInt = (a81 0 8).toInt := by rw [ea86, mU_slot (by decide)]
          refine w_aload rfl rfl ?_
          refine w_getR (v := .inr (.inr (some 4))) rfl rfl rfl rfl rfl ?_
          refine w_aload rfl rfl ?_
          refine w_getI (v := .inl (a86 0 7)) rfl rfl rfl rfl rfl ?_
          have q87 : 0 ≤ (a86 0 7).toInt ∧ (a86 0 7).toInt ≤ 1000 := ha86 0 7
          refine w_const rfl ?_
          first | refine w_isub rfl (by omega) (fun x88 tx88 => ?_) | refine w_iiU rfl (fun x88 tx88 => ?_)
          refine m_lald rfl rfl (by omega) (fun y89 ey89 => ?_)
          have i9 : y89 = b 4 (a 0 7).toInt.toNat := by rw [ey89]; congr 1; omega
          have i8 := congrArg Int64.toInt i9
          refine w_l2iE rfl (fun x90 tx90 => ?_)
          have x9 := l2i_ti tx90 (by omega)
          exact wp_iret (z := false) rfl (fun h9 => by cases h9) ⟨a86, rfl, ha86, ⟨FR.up (FR.tr (FR.rf) (FR.sub fa81.1 (by decide))) (by decide) ea86, by exfalso; omega⟩, ⟨_, rfl, by omega⟩⟩
        · skip
          refine w_const rfl ?_
          exact wp_iret (z := false) rfl (fun h9 => by cases h9) ⟨a81, rfl, ha81, ⟨FR.tr (FR.rf) (FR.sub fa81.1 (by decide)), ⟨fun j _ h8 => fa81.2.1 j h8, by rw [fa81.2.1 7 (by decide)]; omega, by rw [fa81.2.1 7 (by decide)]; omega⟩⟩, ⟨_, rfl, by omega⟩⟩
      · skip
        refine w_aload rfl rfl ?_
        refine w_getR (v := .inr (.inr (some 4))) rfl rfl rfl rfl rfl ?_
        refine w_aload rfl rfl ?_
        refine w_getI (v := .inl (a 0 7)) rfl rfl rfl rfl rfl ?_
        have q91 : 0 ≤ (a 0 7).toInt ∧ (a 0 7).toInt ≤ 1000 := hR 0 7
        refine m_lald rfl rfl (by omega) (fun y92 ey92 => ?_)
        refine w_iload rfl rfl ?_
        refine w_i2lE rfl (fun y93 ty93 => ?_)
        refine w_lcmpE rfl (fun x94 tx94 => ?_)
        have c9 := cmp_ti tx94
        have c8 := i2l_ti (x := r) ty93
        have e8 := congrArg Int64.toInt ey92
        refine w_if_le rfl (fun c95 => ?_) (fun c95 => ?_)
        · skip
          refine w_aload rfl rfl ?_
          refine w_getI (v := .inl (a 0 8)) rfl rfl rfl rfl rfl ?_
          have q96 : 0 ≤ (a 0 8).toInt ∧ (a 0 8).toInt ≤ 2147483647 := hR 0 8
          refine w_if_le rfl (fun c97 => ?_) (fun c97 => ?_)
          · skip
            have y9 := TK.lt hT z7.1 (by omega)
            refine w_aload rfl rfl ?_
            refine w_dup rfl rfl ?_
            refine w_getI (v := .inl (a 0 7)) rfl rfl rfl rfl rfl ?_
            have q98 : 0 ≤ (a 0 7).toInt ∧ (a 0 7).toInt ≤ 1000 := hR 0 7
            refine w_const rfl ?_
            first | refine w_iadd rfl (by omega) (fun x99 tx99 => ?_) | refine w_iiU rfl (fun x99 tx99 => ?_)
            refine m_putI (z := false) rfl rfl rfl rfl (by first | (intro h9; cases h9; done) | (intro _; first | exact Or.inl rfl | exact Or.inr rfl | assumption)) (fun a100 ea100 => ?_)
            have ha100 : RM K a100 := RM.up hR ea100 (show (0 : Int) ≤ _ ∧ _ ≤ (1000 : Int) from by omega)
            have ua100_7 : a100 0 7 = x99 := by rw [ea100, mU_same]
            have wa100_7 := congrArg Int32.toInt ua100_7
            have ua100_8 : (a100 0 8).toInt = (a 0 8).toInt := by rw [ea100, mU_slot (by decide)]
            refine w_aload rfl rfl ?_
            refine w_getR (v := .inr (.inr (some 4))) rfl rfl rfl rfl rfl ?_
            refine w_aload rfl rfl ?_
            refine w_getI (v := .inl (a100 0 7)) rfl rfl rfl rfl rfl ?_
            have q101 : 0 ≤ (a100 0 7).toInt ∧ (a100 0 7).toInt ≤ 1000 := ha100 0 7
            refine w_const rfl ?_
            first | refine w_isub rfl (by omega) (fun x102 tx102 => ?_) | refine w_iiU rfl (fun x102 tx102 => ?_)
            refine m_lald rfl rfl (by omega) (fun y103 ey103 => ?_)
            have i9 : y103 = b 4 (a 0 7).toInt.toNat := by rw [ey103]; congr 1; omega
            have i8 := congrArg Int64.toInt i9
            refine w_l2iE rfl (fun x104 tx104 => ?_)
            have x9 := l2i_ti tx104 (by omega)
            exact wp_iret (z := false) rfl (fun h9 => by cases h9) ⟨a100, rfl, ha100, ⟨FR.up (FR.rf) (by decide) ea100, ⟨fun j h7 _ => by rw [ea100, mU_slot h7], by rw [ea100, mU_same]; omega, by rw [ea100, mU_same]; omega⟩⟩, ⟨_, rfl, by omega⟩⟩
          · skip
            refine w_const rfl ?_
            exact wp_iret (z := false) rfl (fun h9 => by cases h9) ⟨a, rfl, hR, ⟨FR.rf, ⟨fun _ _ _ => rfl, Int.le_refl _, by omega⟩⟩, ⟨_, rfl, by omega⟩⟩
        · skip
          refine w_aload rfl rfl ?_
          refine w_const rfl ?_
          refine w_invV (rest := []) rfl rfl rfl rfl rfl (Nat.le_of_ble_eq_true rfl) rfl (by omega) (s_wrong (K := K) a b  4 hR (by omega)) (fun v105 h9 hq106 => ?_)
          obtain ⟨a107, rfl, ha107, fa107, rfl⟩ := hq106
          show f_wp _ (70, [some (.inr (.inr (some 0))), some (.inl p), some (.inl r)], [], mH a107 b) _
          have y7 : (a107 0 7).toInt = (a 0 7).toInt := by rw [fa107.2.1 7 (by decide)]
          refine w_aload rfl rfl ?_
          refine w_getI (v := .inl (a107 0 8)) rfl rfl rfl rfl rfl ?_
          have q108 : 0 ≤ (a107 0 8).toInt ∧ (a107 0 8).toInt ≤ 2147483647 := ha107 0 8
          refine w_if_le rfl (fun c109 => ?_) (fun c109 => ?_)
          · skip
            have y9 := TK.lt hT z7.1 (by omega)
            refine w_aload rfl rfl ?_
            refine w_dup rfl rfl ?_
            refine w_getI (v := .inl (a107 0 7)) rfl rfl rfl rfl rfl ?_
            have q110 : 0 ≤ (a107 0 7).toInt ∧ (a107 0 7).toInt ≤ 1000 := ha107 0 7
            refine w_const rfl ?_
            first | refine w_iadd rfl (by omega) (fun x111 tx111 => ?_) | refine w_iiU rfl (fun x111 tx111 => ?_)
            refine m_putI (z := false) rfl rfl rfl rfl (by first | (intro h9; cases h9; done) | (intro _; first | exact Or.inl rfl | exact Or.inr rfl | assumption)) (fun a112 ea112 => ?_)
            have ha112 : RM K a112 := RM.up ha107 ea112 (show (0 : Int) ≤ _ ∧ _ ≤ (1000 : Int) from by omega)
            have ua112_7 : a112 0 7 = x111 := by rw [ea112, mU_same]
            have wa112_7 := congrArg Int32.toInt ua112_7
            have ua112_8 : (a112 0 8).toInt = (a107 0 8).toInt := by rw [ea112, mU_slot (by decide)]
            refine w_aload rfl rfl ?_
            refine w_getR (v := .inr (.inr (some 4))) rfl rfl rfl rfl rfl ?_
            refine w_aload rfl rfl ?_
            refine w_getI (v := .inl (a112 0 7)) rfl rfl rfl rfl rfl ?_
            have q113 : 0 ≤ (a112 0 7).toInt ∧ (a112 0 7).toInt ≤ 1000 := ha112 0 7
            refine w_const rfl ?_
            first | refine w_isub rfl (by omega) (fun x114 tx114 => ?_) | refine w_iiU rfl (fun x114 tx114 => ?_)
            refine m_lald rfl rfl (by omega) (fun y115 ey115 => ?_)
            have i9 : y115 = b 4 (a 0 7).toInt.toNat := by rw [ey115]; congr 1; omega
            have i8 := congrArg Int64.toInt i9
            refine w_l2iE rfl (fun x116 tx116 => ?_)
            have x9 := l2i_ti tx116 (by omega)
            exact wp_iret (z := false) rfl (fun h9 => by cases h9) ⟨a112, rfl, ha112, ⟨FR.up (FR.tr (FR.rf) (FR.sub fa107.1 (by decide))) (by decide) ea112, by exfalso; omega⟩, ⟨_, rfl, by omega⟩⟩
          · skip
            refine w_const rfl ?_
            exact wp_iret (z := false) rfl (fun h9 => by cases h9) ⟨a107, rfl, ha107, ⟨FR.tr (FR.rf) (FR.sub fa107.1 (by decide)), ⟨fun j _ h8 => fa107.2.1 j h8, by rw [fa107.2.1 7 (by decide)]; omega, by rw [fa107.2.1 7 (by decide)]; omega⟩⟩, ⟨_, rfl, by omega⟩⟩
    · skip
      refine w_aload rfl rfl ?_
      refine w_getI (v := .inl (a 0 8)) rfl rfl rfl rfl rfl ?_
      have q117 : 0 ≤ (a 0 8).toInt ∧ (a 0 8).toInt ≤ 2147483647 := hR 0 8
      refine w_if_le rfl (fun c118 => ?_) (fun c118 => ?_)
      · skip
        have y9 := TK.lt hT z7.1 (by omega)
        refine w_aload rfl rfl ?_
        refine w_dup rfl rfl ?_
        refine w_getI (v := .inl (a 0 7)) rfl rfl rfl rfl rfl ?_
        have q119 : 0 ≤ (a 0 7).toInt ∧ (a 0 7).toInt ≤ 1000 := hR 0 7
        refine w_const rfl ?_
        first | refine w_iadd rfl (by omega) (fun x120 tx120 => ?_) | refine w_iiU rfl (fun x120 tx120 => ?_)
        refine m_putI (z := false) rfl rfl rfl rfl (by first | (intro h9; cases h9; done) | (intro _; first | exact Or.inl rfl | exact Or.inr rfl | assumption)) (fun a121 ea121 => ?_)
        have ha121 : RM K a121 := RM.up hR ea121 (show (0 : Int) ≤ _ ∧ _ ≤ (1000 : Int) from by omega)
        have ua121_7 : a121 0 7 = x120 := by rw [ea121, mU_same]
        have wa121_7 := congrArg Int32.toInt ua121_7
        have ua121_8 : (a121 0 8).toInt = (a 0 8).toInt := by rw [ea121, mU_slot (by decide)]
        refine w_aload rfl rfl ?_
        refine w_getR (v := .inr (.inr (some 4))) rfl rfl rfl rfl rfl ?_
        refine w_aload rfl rfl ?_
        refine w_getI (v := .inl (a121 0 7)) rfl rfl rfl rfl rfl ?_
        have q122 : 0 ≤ (a121 0 7).toInt ∧ (a121 0 7).toInt ≤ 1000 := ha121 0 7
        refine w_const rfl ?_
        first | refine w_isub rfl (by omega) (fun x123 tx123 => ?_) | refine w_iiU rfl (fun x123 tx123 => ?_)
        refine m_lald rfl rfl (by omega) (fun y124 ey124 => ?_)
        have i9 : y124 = b 4 (a 0 7).toInt.toNat := by rw [ey124]; congr 1; omega
        have i8 := congrArg Int64.toInt i9
        refine w_l2iE rfl (fun x125 tx125 => ?_)
        have x9 := l2i_ti tx125 (by omega)
        exact wp_iret (z := false) rfl (fun h9 => by cases h9) ⟨a121, rfl, ha121, ⟨FR.up (FR.rf) (by decide) ea121, ⟨fun j h7 _ => by rw [ea121, mU_slot h7], by rw [ea121, mU_same]; omega, by rw [ea121, mU_same]; omega⟩⟩, ⟨_, rfl, by omega⟩⟩
      · skip
        refine w_const rfl ?_
        exact wp_iret (z := false) rfl (fun h9 => by cases h9) ⟨a, rfl, hR, ⟨FR.rf, ⟨fun _ _ _ => rfl, Int.le_refl _, by omega⟩⟩, ⟨_, rfl, by omega⟩⟩
