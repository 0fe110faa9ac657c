theorem cmp_ti {x y : Int64} {z : Int32} (hz : z = lg_cmp x y) : (z.toInt < 0 ↔ x.toInt < y.toInt) ∧ (z.toInt ≤ 0 ↔ x.toInt ≤ y.toInt) := by
  subst hz
  have h1 := lg_cmp_lt x y
  have h2 := lg_cmp_le x y
  rw [Int32.lt_iff_toInt_lt, Int64.lt_iff_toInt_lt] at h1
  rw [Int32.le_iff_toInt_le, Int64.le_iff_toInt_le] at h2
  exact ⟨h1, h2⟩
theorem i2l_ti {x : Int32} {y : Int64} (h : y = x.toInt64) : y.toInt = x.toInt := by
  subst h
  exact Int32.toInt_toInt64 x
theorem l2i_ti {x : Int64} {z : Int32} (h : z = x.toInt32) (hb : -2147483648 ≤ x.toInt ∧ x.toInt < 2147483648) : z.toInt = x.toInt := by
  subst h
  rw [Int64.toInt_toInt32]
  exact Int.bmod_eq_of_le (by omega) (by omega)
set_option maxRecDepth 4000 in
theorem s_takeNumber {K : Nat} (a : Nat → Nat → Int32) (b : Nat → Nat → Int64) (N : Nat)(p : Int32) (r : Int32) (hR : RM K a) (hp : 0 ≤ p.toInt) (hT : N ≤ 1000 ∧ (a 0 7).toInt ≤ N ∧ (a 2 N).toInt = 0) : f_call mtM 2 16 [.inr (.inr (some 0)), .inl p, .inl r] (mH a b) (fun v9 h' => ∃ (a' : Nat → Nat → Int32) (b' : Nat → Nat → Int64), h' = mH a' b' ∧ RM K a' ∧ (FR [0] a a' ∧ ((∀ j, j ≠ 7 → j ≠ 8 → a' 0 j = a 0 j) ∧ (a 0 7).toInt ≤ (a' 0 7).toInt ∧ (a' 0 7).toInt ≤ N)) ∧ ∃ x : Int32, v9 = some (.inl x) ∧ (((a' 0 8).toInt = 0 ∧ (a 0 8).toInt = 0 ∧ p.toInt ≤ x.toInt ∧ x.toInt ≤ r.toInt ∧ (a' 0 7).toInt = (a 0 7).toInt + 1) ∨ (0 < (a' 0 8).toInt ∧ x.toInt = 0 ∧ (a' 0 7).toInt = (a 0 7).toInt))) := by
  refine f_call_of (d0 := 1) rfl (Nat.le_of_ble_eq_true rfl) (fun d hd => ?_)
  show f_wp _ (0, [some (.inr (.inr (some 0))), some (.inl p), some (.inl r)], [], mH a b) _
  have l0 : (0 : Int32).toInt = 0 := rfl
  have l1 : (1 : Int32).toInt = 1 := rfl
  have l2 : (2 : Int32).toInt = 2 := rfl
  have l4 : (4 : Int32).toInt = 4 := rfl
  have z7 : 0 ≤ (a 0 7).toInt ∧ (a 0 7).toInt ≤ 1000 := hR 0 7
  have z8 : 0 ≤ (a 0 8).toInt ∧ (a 0 8).toInt ≤ 2147483647 := hR 0 8
  have r7 := ti_hi r
  refine w_aload rfl rfl ?_
  refine w_getI (v := .inl (a 0 8)) rfl rfl rfl rfl rfl ?_
  have q1 : 0 ≤ (a 0 8).toInt ∧ (a 0 8).toInt ≤ 2147483647 := hR 0 8
  refine w_if_ne rfl (fun c2 => ?_) (fun c2 => ?_)
  · skip
    refine w_aload rfl rfl ?_
    refine w_getR (v := .inr (.inr (some 2))) rfl rfl rfl rfl rfl ?_
    refine w_aload rfl rfl ?_
    refine w_getI (v := .inl (a 0 7)) rfl rfl rfl rfl rfl ?_
    have q3 : 0 ≤ (a 0 7).toInt ∧ (a 0 7).toInt ≤ 1000 := hR 0 7
    refine m_iald rfl rfl (by omega) (fun x4 ex4 => ?_)
    have qx4 : 0 ≤ x4.toInt ∧ x4.toInt ≤ 4 := by rw [ex4]; exact hR 2 _
    have e9 := congrArg Int32.toInt ex4
    refine w_const rfl ?_
    refine w_ic_eq rfl (fun c5 => ?_) (fun c5 => ?_)
    · skip
      refine w_aload rfl rfl ?_
      refine w_getI (v := .inl (a 0 8)) rfl rfl rfl rfl rfl ?_
      have q6 : 0 ≤ (a 0 8).toInt ∧ (a 0 8).toInt ≤ 2147483647 := hR 0 8
      refine w_if_ne rfl (fun c7 => ?_) (fun c7 => ?_)
      · skip
        refine w_aload rfl rfl ?_
        refine w_getR (v := .inr (.inr (some 4))) rfl rfl rfl rfl rfl ?_
        refine w_aload rfl rfl ?_
        refine w_getI (v := .inl (a 0 7)) rfl rfl rfl rfl rfl ?_
        have q8 : 0 ≤ (a 0 7).toInt ∧ (a 0 7).toInt ≤ 1000 := hR 0 7
        refine m_lald rfl rfl (by omega) (fun y9 ey9 => ?_)
        refine w_iload rfl rfl ?_
        refine w_i2lE rfl (fun y10 ty10 => ?_)
        refine w_lcmpE rfl (fun x11 tx11 => ?_)
        have c9 := cmp_ti tx11
        have c8 := i2l_ti (x := p) ty10
        have e8 := congrArg Int64.toInt ey9
        refine w_if_lt rfl (fun c12 => ?_) (fun c12 => ?_)
        · skip
          refine w_aload rfl rfl ?_
          refine w_const rfl ?_
          refine w_invV (rest := []) rfl rfl rfl rfl rfl (Nat.le_of_ble_eq_true rfl) rfl (by omega) (s_wrong (K := K) a b  4 hR (by omega)) (fun v13 h9 hq14 => ?_)
          obtain ⟨a15, b16, rfl, ha15, fa15, rfl⟩ := hq14
          show f_wp _ (70, [some (.inr (.inr (some 0))), some (.inl p), some (.inl r)], [], mH a15 b16) _
          have y7 : (a15 0 7).toInt = (a 0 7).toInt := by rw [fa15.2.1 7 (by decide)]
          refine w_aload rfl rfl ?_
          refine w_getI (v := .inl (a15 0 8)) rfl rfl rfl rfl rfl ?_
          have q17 : 0 ≤ (a15 0 8).toInt ∧ (a15 0 8).toInt ≤ 2147483647 := ha15 0 8
          refine w_if_le rfl (fun c18 => ?_) (fun c18 => ?_)
          · skip
            have y9 := TK.lt hT z7.1 (by omega)
            refine w_aload rfl rfl ?_
            refine w_dup rfl rfl ?_
            refine w_getI (v := .inl (a15 0 7)) rfl rfl rfl rfl rfl ?_
            have q19 : 0 ≤ (a15 0 7).toInt ∧ (a15 0 7).toInt ≤ 1000 := ha15 0 7
            refine w_const rfl ?_
            first | refine w_iadd rfl (by omega) (fun x20 tx20 => ?_) | refine w_iiU rfl (fun x20 tx20 => ?_)
            refine m_putI (z := false) rfl rfl rfl rfl (by first | (intro h9; cases h9; done) | (intro _; first | exact Or.inl rfl | exact Or.inr rfl | assumption)) (fun a21 ea21 => ?_)
            have ha21 : RM K a21 := RM.up ha15 ea21 (show (0 : Int) ≤ _ ∧ _ ≤ (1000 : Int) from by omega)
            have ua21_7 : a21 0 7 = x20 := by rw [ea21, mU_same]
            have wa21_7 := congrArg Int32.toInt ua21_7
            have ua21_8 : (a21 0 8).toInt = (a15 0 8).toInt := by rw [ea21, mU_slot (by decide)]
            refine w_aload rfl rfl ?_
            refine w_getR (v := .inr (.inr (some 4))) rfl rfl rfl rfl rfl ?_
            refine w_aload rfl rfl ?_
            refine w_getI (v := .inl (a21 0 7)) rfl rfl rfl rfl rfl ?_
            have q22 : 0 ≤ (a21 0 7).toInt ∧ (a21 0 7).toInt ≤ 1000 := ha21 0 7
            refine w_const rfl ?_
            first | refine w_isub rfl (by omega) (fun x23 tx23 => ?_) | refine w_iiU rfl (fun x23 tx23 => ?_)
            refine m_lald rfl rfl (by omega) (fun y24 ey24 => ?_)
            have i9 : y24 = b 4 (a 0 7).toInt.toNat := by rw [ey24]; congr 1; omega
            have i8 := congrArg Int64.toInt i9
            refine w_l2iE rfl (fun x25 tx25 => ?_)
            have x9 := l2i_ti tx25 (by omega)
            exact wp_iret (z := false) rfl (fun h9 => by cases h9) ⟨a21, b16, rfl, ha21, ⟨FR.up (FR.tr (FR.rf) (FR.sub fa15.1 (by decide))) (by decide) ea21, by exfalso; omega⟩, ⟨_, rfl, by omega⟩⟩
          · skip
            refine w_const rfl ?_
            exact wp_iret (z := false) rfl (fun h9 => by cases h9) ⟨a15, b16, rfl, ha15, ⟨FR.tr (FR.rf) (FR.sub fa15.1 (by decide)), ⟨fun j _ h8 => fa15.2.1 j h8, by rw [fa15.2.1 7 (by decide)]; omega, by rw [fa15.2.1 7 (by decide)]; omega⟩⟩, ⟨_, rfl, by omega⟩⟩
        · skip
          refine w_aload rfl rfl ?_
          refine w_getR (v := .inr (.inr (some 4))) rfl rfl rfl rfl rfl ?_
          refine w_aload rfl rfl ?_
          refine w_getI (v := .inl (a 0 7)) rfl rfl rfl rfl rfl ?_
          have q26 : 0 ≤ (a 0 7).toInt ∧ (a 0 7).toInt ≤ 1000 := hR 0 7
          refine m_lald rfl rfl (by omega) (fun y27 ey27 => ?_)
          refine w_iload rfl rfl ?_
          refine w_i2lE rfl (fun y28 ty28 => ?_)
          refine w_lcmpE rfl (fun x29 tx29 => ?_)
          have c9 := cmp_ti tx29
          have c8 := i2l_ti (x := r) ty28
          have e8 := congrArg Int64.toInt ey27
          refine w_if_le rfl (fun c30 => ?_) (fun c30 => ?_)
          · skip
            refine w_aload rfl rfl ?_
            refine w_getI (v := .inl (a 0 8)) rfl rfl rfl rfl rfl ?_
            have q31 : 0 ≤ (a 0 8).toInt ∧ (a 0 8).toInt ≤ 2147483647 := hR 0 8
            refine w_if_le rfl (fun c32 => ?_) (fun c32 => ?_)
            · skip
              have y9 := TK.lt hT z7.1 (by omega)
              refine w_aload rfl rfl ?_
              refine w_dup rfl rfl ?_
              refine w_getI (v := .inl (a 0 7)) rfl rfl rfl rfl rfl ?_
              have q33 : 0 ≤ (a 0 7).toInt ∧ (a 0 7).toInt ≤ 1000 := hR 0 7
              refine w_const rfl ?_
              first | refine w_iadd rfl (by omega) (fun x34 tx34 => ?_) | refine w_iiU rfl (fun x34 tx34 => ?_)
              refine m_putI (z := false) rfl rfl rfl rfl (by first | (intro h9; cases h9; done) | (intro _; first | exact Or.inl rfl | exact Or.inr rfl | assumption)) (fun a35 ea35 => ?_)
              have ha35 : RM K a35 := RM.up hR ea35 (show (0 : Int) ≤ _ ∧ _ ≤ (1000 : Int) from by omega)
              have ua35_7 : a35 0 7 = x34 := by rw [ea35, mU_same]
              have wa35_7 := congrArg Int32.toInt ua35_7
              have ua35_8 : (a35 0 8).toInt = (a 0 8).toInt := by rw [ea35, mU_slot (by decide)]
              refine w_aload rfl rfl ?_
              refine w_getR (v := .inr (.inr (some 4))) rfl rfl rfl rfl rfl ?_
              refine w_aload rfl rfl ?_
              refine w_getI (v := .inl (a35 0 7)) rfl rfl rfl rfl rfl ?_
              have q36 : 0 ≤ (a35 0 7).toInt ∧ (a35 0 7).toInt ≤ 1000 := ha35 0 7
              refine w_const rfl ?_
              first | refine w_isub rfl (by omega) (fun x37 tx37 => ?_) | refine w_iiU rfl (fun x37 tx37 => ?_)
              refine m_lald rfl rfl (by omega) (fun y38 ey38 => ?_)
              have i9 : y38 = b 4 (a 0 7).toInt.toNat := by rw [ey38]; congr 1; omega
              have i8 := congrArg Int64.toInt i9
              refine w_l2iE rfl (fun x39 tx39 => ?_)
              have x9 := l2i_ti tx39 (by omega)
              exact wp_iret (z := false) rfl (fun h9 => by cases h9) ⟨a35, b, rfl, ha35, ⟨FR.up (FR.rf) (by decide) ea35, ⟨fun j h7 _ => by rw [ea35, mU_slot h7], by rw [ea35, mU_same]; omega, by rw [ea35, mU_same]; omega⟩⟩, ⟨_, rfl, by omega⟩⟩
            · skip
              refine w_const rfl ?_
              exact wp_iret (z := false) rfl (fun h9 => by cases h9) ⟨a, b, rfl, hR, ⟨FR.rf, ⟨fun _ _ _ => rfl, Int.le_refl _, by omega⟩⟩, ⟨_, rfl, by omega⟩⟩
          · skip
            refine w_aload rfl rfl ?_
            refine w_const rfl ?_
            refine w_invV (rest := []) rfl rfl rfl rfl rfl (Nat.le_of_ble_eq_true rfl) rfl (by omega) (s_wrong (K := K) a b  4 hR (by omega)) (fun v40 h9 hq41 => ?_)
            obtain ⟨a42, b43, rfl, ha42, fa42, rfl⟩ := hq41
            show f_wp _ (70, [some (.inr (.inr (some 0))), some (.inl p), some (.inl r)], [], mH a42 b43) _
            have y7 : (a42 0 7).toInt = (a 0 7).toInt := by rw [fa42.2.1 7 (by decide)]
            refine w_aload rfl rfl ?_
            refine w_getI (v := .inl (a42 0 8)) rfl rfl rfl rfl rfl ?_
            have q44 : 0 ≤ (a42 0 8).toInt ∧ (a42 0 8).toInt ≤ 2147483647 := ha42 0 8
            refine w_if_le rfl (fun c45 => ?_) (fun c45 => ?_)
            · skip
              have y9 := TK.lt hT z7.1 (by omega)
              refine w_aload rfl rfl ?_
              refine w_dup rfl rfl ?_
              refine w_getI (v := .inl (a42 0 7)) rfl rfl rfl rfl rfl ?_
              have q46 : 0 ≤ (a42 0 7).toInt ∧ (a42 0 7).toInt ≤ 1000 := ha42 0 7
              refine w_const rfl ?_
              first | refine w_iadd rfl (by omega) (fun x47 tx47 => ?_) | refine w_iiU rfl (fun x47 tx47 => ?_)
              refine m_putI (z := false) rfl rfl rfl rfl (by first | (intro h9; cases h9; done) | (intro _; first | exact Or.inl rfl | exact Or.inr rfl | assumption)) (fun a48 ea48 => ?_)
              have ha48 : RM K a48 := RM.up ha42 ea48 (show (0 : Int) ≤ _ ∧ _ ≤ (1000 : Int) from by omega)
              have ua48_7 : a48 0 7 = x47 := by rw [ea48, mU_same]
              have wa48_7 := congrArg Int32.toInt ua48_7
              have ua48_8 : (a48 0 8).toInt = (a42 0 8).toInt := by rw [ea48, mU_slot (by decide)]
              refine w_aload rfl rfl ?_
              refine w_getR (v := .inr (.inr (some 4))) rfl rfl rfl rfl rfl ?_
              refine w_aload rfl rfl ?_
              refine w_getI (v := .inl (a48 0 7)) rfl rfl rfl rfl rfl ?_
              have q49 : 0 ≤ (a48 0 7).toInt ∧ (a48 0 7).toInt ≤ 1000 := ha48 0 7
              refine w_const rfl ?_
              first | refine w_isub rfl (by omega) (fun x50 tx50 => ?_) | refine w_iiU rfl (fun x50 tx50 => ?_)
              refine m_lald rfl rfl (by omega) (fun y51 ey51 => ?_)
              have i9 : y51 = b 4 (a 0 7).toInt.toNat := by rw [ey51]; congr 1; omega
              have i8 := congrArg Int64.toInt i9
              refine w_l2iE rfl (fun x52 tx52 => ?_)
              have x9 := l2i_ti tx52 (by omega)
              exact wp_iret (z := false) rfl (fun h9 => by cases h9) ⟨a48, b43, rfl, ha48, ⟨FR.up (FR.tr (FR.rf) (FR.sub fa42.1 (by decide))) (by decide) ea48, by exfalso; omega⟩, ⟨_, rfl, by omega⟩⟩
            · skip
              refine w_const rfl ?_
              exact wp_iret (z := false) rfl (fun h9 => by cases h9) ⟨a42, b43, rfl, ha42, ⟨FR.tr (FR.rf) (FR.sub fa42.1 (by decide)), ⟨fun j _ h8 => fa42.2.1 j h8, by rw [fa42.2.1 7 (by decide)]; omega, by rw [fa42.2.1 7 (by decide)]; omega⟩⟩, ⟨_, rfl, by omega⟩⟩
      · skip
        refine w_aload rfl rfl ?_
        refine w_getI (v := .inl (a 0 8)) rfl rfl rfl rfl rfl ?_
        have q53 : 0 ≤ (a 0 8).toInt ∧ (a 0 8).toInt ≤ 2147483647 := hR 0 8
        refine w_if_le rfl (fun c54 => ?_) (fun c54 => ?_)
        · skip
          have y9 := TK.lt hT z7.1 (by omega)
          refine w_aload rfl rfl ?_
          refine w_dup rfl rfl ?_
          refine w_getI (v := .inl (a 0 7)) rfl rfl rfl rfl rfl ?_
          have q55 : 0 ≤ (a 0 7).toInt ∧ (a 0 7).toInt ≤ 1000 := hR 0 7
          refine w_const rfl ?_
          first | refine w_iadd rfl (by omega) (fun x56 tx56 => ?_) | refine w_iiU rfl (fun x56 tx56 => ?_)
          refine m_putI (z := false) rfl rfl rfl rfl (by first | (intro h9; cases h9; done) | (intro _; first | exact Or.inl rfl | exact Or.inr rfl | assumption)) (fun a57 ea57 => ?_)
          have ha57 : RM K a57 := RM.up hR ea57 (show (0 : Int) ≤ _ ∧ _ ≤ (1000 : Int) from by omega)
          have ua57_7 : a57 0 7 = x56 := by rw [ea57, mU_same]
          have wa57_7 := congrArg Int32.toInt ua57_7
          have ua57_8 : (a57 0 8).toInt = (a 0 8).toInt := by rw [ea57, mU_slot (by decide)]
          refine w_aload rfl rfl ?_
          refine w_getR (v := .inr (.inr (some 4))) rfl rfl rfl rfl rfl ?_
          refine w_aload rfl rfl ?_
          refine w_getI (v := .inl (a57 0 7)) rfl rfl rfl rfl rfl ?_
          have q58 : 0 ≤ (a57 0 7).toInt ∧ (a57 0 7).toInt ≤ 1000 := ha57 0 7
          refine w_const rfl ?_
          first | refine w_isub rfl (by omega) (fun x59 tx59 => ?_) | refine w_iiU rfl (fun x59 tx59 => ?_)
          refine m_lald rfl rfl (by omega) (fun y60 ey60 => ?_)
          have i9 : y60 = b 4 (a 0 7).toInt.toNat := by rw [ey60]; congr 1; omega
          have i8 := congrArg Int64.toInt i9
          refine w_l2iE rfl (fun x61 tx61 => ?_)
          have x9 := l2i_ti tx61 (by omega)
          exact wp_iret (z := false) rfl (fun h9 => by cases h9) ⟨a57, b, rfl, ha57, ⟨FR.up (FR.rf) (by decide) ea57, ⟨fun j h7 _ => by rw [ea57, mU_slot h7], by rw [ea57, mU_same]; omega, by rw [ea57, mU_same]; omega⟩⟩, ⟨_, rfl, by omega⟩⟩
        · skip
          refine w_const rfl ?_
          exact wp_iret (z := false) rfl (fun h9 => by cases h9) ⟨a, b, rfl, hR, ⟨FR.rf, ⟨fun _ _ _ => rfl, Int.le_refl _, by omega⟩⟩, ⟨_, rfl, by omega⟩⟩
    · skip
      refine w_aload rfl rfl ?_
      refine w_const rfl ?_
      refine w_invV (rest := []) rfl rfl rfl rfl rfl (Nat.le_of_ble_eq_true rfl) rfl (by omega) (s_wrong (K := K) a b  1 hR (by omega)) (fun v62 h9 hq63 => ?_)
      obtain ⟨a64, b65, rfl, ha64, fa64, rfl⟩ := hq63
      show f_wp _ (25, [some (.inr (.inr (some 0))), some (.inl p), some (.inl r)], [], mH a64 b65) _
      have y7 : (a64 0 7).toInt = (a 0 7).toInt := by rw [fa64.2.1 7 (by decide)]
      refine w_goto rfl ?_
      refine w_aload rfl rfl ?_
      refine w_getI (v := .inl (a64 0 8)) rfl rfl rfl rfl rfl ?_
      have q66 : 0 ≤ (a64 0 8).toInt ∧ (a64 0 8).toInt ≤ 2147483647 := ha64 0 8
      refine w_if_le rfl (fun c67 => ?_) (fun c67 => ?_)
      · skip
        have y9 := TK.lt hT z7.1 (by omega)
        refine w_aload rfl rfl ?_
        refine w_dup rfl rfl ?_
        refine w_getI (v := .inl (a64 0 7)) rfl rfl rfl rfl rfl ?_
        have q68 : 0 ≤ (a64 0 7).toInt ∧ (a64 0 7).toInt ≤ 1000 := ha64 0 7
        refine w_const rfl ?_
        first | refine w_iadd rfl (by omega) (fun x69 tx69 => ?_) | refine w_iiU rfl (fun x69 tx69 => ?_)
        refine m_putI (z := false) rfl rfl rfl rfl (by first | (intro h9; cases h9; done) | (intro _; first | exact Or.inl rfl | exact Or.inr rfl | assumption)) (fun a70 ea70 => ?_)
        have ha70 : RM K a70 := RM.up ha64 ea70 (show (0 : Int) ≤ _ ∧ _ ≤ (1000 : Int) from by omega)
        have ua70_7 : a70 0 7 = x69 := by rw [ea70, mU_same]
        have wa70_7 := congrArg Int32.toInt ua70_7
        have ua70_8 : (a70 0 8).toInt = (a64 0 8).toInt := by rw [ea70, mU_slot (by decide)]
        refine w_aload rfl rfl ?_
        refine w_getR (v := .inr (.inr (some 4))) rfl rfl rfl rfl rfl ?_
        refine w_aload rfl rfl ?_
        refine w_getI (v := .inl (a70 0 7)) rfl rfl rfl rfl rfl ?_
        have q71 : 0 ≤ (a70 0 7).toInt ∧ (a70 0 7).toInt ≤ 1000 := ha70 0 7
        refine w_const rfl ?_
        first | refine w_isub rfl (by omega) (fun x72 tx72 => ?_) | refine w_iiU rfl (fun x72 tx72 => ?_)
        refine m_lald rfl rfl (by omega) (fun y73 ey73 => ?_)
        have i9 : y73 = b 4 (a 0 7).toInt.toNat := by rw [ey73]; congr 1; omega
        have i8 := congrArg Int64.toInt i9
        refine w_l2iE rfl (fun x74 tx74 => ?_)
        have x9 := l2i_ti tx74 (by omega)
        exact wp_iret (z := false) rfl (fun h9 => by cases h9) ⟨a70, b65, rfl, ha70, ⟨FR.up (FR.tr (FR.rf) (FR.sub fa64.1 (by decide))) (by decide) ea70, by exfalso; omega⟩, ⟨_, rfl, by omega⟩⟩
      · skip
        refine w_const rfl ?_
        exact wp_iret (z := false) rfl (fun h9 => by cases h9) ⟨a64, b65, rfl, ha64, ⟨FR.tr (FR.rf) (FR.sub fa64.1 (by decide)), ⟨fun j _ h8 => fa64.2.1 j h8, by rw [fa64.2.1 7 (by decide)]; omega, by rw [fa64.2.1 7 (by decide)]; omega⟩⟩, ⟨_, rfl, by omega⟩⟩
  · skip
    refine w_aload rfl rfl ?_
    refine w_getI (v := .inl (a 0 8)) rfl rfl rfl rfl rfl ?_
    have q75 : 0 ≤ (a 0 8).toInt ∧ (a 0 8).toInt ≤ 2147483647 := hR 0 8
    refine w_if_ne rfl (fun c76 => ?_) (fun c76 => ?_)
    · skip
      refine w_aload rfl rfl ?_
      refine w_getR (v := .inr (.inr (some 4))) rfl rfl rfl rfl rfl ?_
      refine w_aload rfl rfl ?_
      refine w_getI (v := .inl (a 0 7)) rfl rfl rfl rfl rfl ?_
      have q77 : 0 ≤ (a 0 7).toInt ∧ (a 0 7).toInt ≤ 1000 := hR 0 7
      refine m_lald rfl rfl (by omega) (fun y78 ey78 => ?_)
      refine w_iload rfl rfl ?_
      refine w_i2lE rfl (fun y79 ty79 => ?_)
      refine w_lcmpE rfl (fun x80 tx80 => ?_)
      have c9 := cmp_ti tx80
      have c8 := i2l_ti (x := p) ty79
      have e8 := congrArg Int64.toInt ey78
      refine w_if_lt rfl (fun c81 => ?_) (fun c81 => ?_)
      · skip
        refine w_aload rfl rfl ?_
        refine w_const rfl ?_
        refine w_invV (rest := []) rfl rfl rfl rfl rfl (Nat.le_of_ble_eq_true rfl) rfl (by omega) (s_wrong (K := K) a b  4 hR (by omega)) (fun v82 h9 hq83 => ?_)
        obtain ⟨a84, b85, rfl, ha84, fa84, rfl⟩ := hq83
        show f_wp _ (70, [some (.inr (.inr (some 0))), some (.inl p), some (.inl r)], [], mH a84 b85) _
        have y7 : (a84 0 7).toInt = (a 0 7).toInt := by rw [fa84.2.1 7 (by decide)]
        refine w_aload rfl rfl ?_
        refine w_getI (v := .inl (a84 0 8)) rfl rfl rfl rfl rfl ?_
        have q86 : 0 ≤ (a84 0 8).toInt ∧ (a84 0 8).toInt ≤ 2147483647 := ha84 0 8
        refine w_if_le rfl (fun c87 => ?_) (fun c87 => ?_)
        · skip
          have y9 := TK.lt hT z7.1 (by omega)
          refine w_aload rfl rfl ?_
          refine w_dup rfl rfl ?_
          refine w_getI (v := .inl (a84 0 7)) rfl rfl rfl rfl rfl ?_
          have q88 : 0 ≤ (a84 0 7).toInt ∧ (a84 0 7).toInt ≤ 1000 := ha84 0 7
          refine w_const rfl ?_
          first | refine w_iadd rfl (by omega) (fun x89 tx89 => ?_) | refine w_iiU rfl (fun x89 tx89 => ?_)
          refine m_putI (z := false) rfl rfl rfl rfl (by first | (intro h9; cases h9; done) | (intro _; first | exact Or.inl rfl | exact Or.inr rfl | assumption)) (fun a90 ea90 => ?_)
          have ha90 : RM K a90 := RM.up ha84 ea90 (show (0 : Int) ≤ _ ∧ _ ≤ (1000 : Int) from by omega)
          have ua90_7 : a90 0 7 = x89 := by rw [ea90, mU_same]
          have wa90_7 := congrArg Int32.toInt ua90_7
          have ua90_8 : (a90 0 8).toInt = (a84 0 8).toInt := by rw [ea90, mU_slot (by decide)]
          refine w_aload rfl rfl ?_
          refine w_getR (v := .inr (.inr (some 4))) rfl rfl rfl rfl rfl ?_
          refine w_aload rfl rfl ?_
          refine w_getI (v := .inl (a90 0 7)) rfl rfl rfl rfl rfl ?_
          have q91 : 0 ≤ (a90 0 7).toInt ∧ (a90 0 7).toInt ≤ 1000 := ha90 0 7
          refine w_const rfl ?_
          first | refine w_isub rfl (by omega) (fun x92 tx92 => ?_) | refine w_iiU rfl (fun x92 tx92 => ?_)
          refine m_lald rfl rfl (by omega) (fun y93 ey93 => ?_)
          have i9 : y93 = b 4 (a 0 7).toInt.toNat := by rw [ey93]; congr 1; omega
          have i8 := congrArg Int64.toInt i9
          refine w_l2iE rfl (fun x94 tx94 => ?_)
          have x9 := l2i_ti tx94 (by omega)
          exact wp_iret (z := false) rfl (fun h9 => by cases h9) ⟨a90, b85, rfl, ha90, ⟨FR.up (FR.tr (FR.rf) (FR.sub fa84.1 (by decide))) (by decide) ea90, by exfalso; omega⟩, ⟨_, rfl, by omega⟩⟩
        · skip
          refine w_const rfl ?_
          exact wp_iret (z := false) rfl (fun h9 => by cases h9) ⟨a84, b85, rfl, ha84, ⟨FR.tr (FR.rf) (FR.sub fa84.1 (by decide)), ⟨fun j _ h8 => fa84.2.1 j h8, by rw [fa84.2.1 7 (by decide)]; omega, by rw [fa84.2.1 7 (by decide)]; omega⟩⟩, ⟨_, rfl, by omega⟩⟩
      · skip
        refine w_aload rfl rfl ?_
        refine w_getR (v := .inr (.inr (some 4))) rfl rfl rfl rfl rfl ?_
        refine w_aload rfl rfl ?_
        refine w_getI (v := .inl (a 0 7)) rfl rfl rfl rfl rfl ?_
        have q95 : 0 ≤ (a 0 7).toInt ∧ (a 0 7).toInt ≤ 1000 := hR 0 7
        refine m_lald rfl rfl (by omega) (fun y96 ey96 => ?_)
        refine w_iload rfl rfl ?_
        refine w_i2lE rfl (fun y97 ty97 => ?_)
        refine w_lcmpE rfl (fun x98 tx98 => ?_)
        have c9 := cmp_ti tx98
        have c8 := i2l_ti (x := r) ty97
        have e8 := congrArg Int64.toInt ey96
        refine w_if_le rfl (fun c99 => ?_) (fun c99 => ?_)
        · skip
          refine w_aload rfl rfl ?_
          refine w_getI (v := .inl (a 0 8)) rfl rfl rfl rfl rfl ?_
          have q100 : 0 ≤ (a 0 8).toInt ∧ (a 0 8).toInt ≤ 2147483647 := hR 0 8
          refine w_if_le rfl (fun c101 => ?_) (fun c101 => ?_)
          · skip
            have y9 := TK.lt hT z7.1 (by omega)
            refine w_aload rfl rfl ?_
            refine w_dup rfl rfl ?_
            refine w_getI (v := .inl (a 0 7)) rfl rfl rfl rfl rfl ?_
            have q102 : 0 ≤ (a 0 7).toInt ∧ (a 0 7).toInt ≤ 1000 := hR 0 7
            refine w_const rfl ?_
            first | refine w_iadd rfl (by omega) (fun x103 tx103 => ?_) | refine w_iiU rfl (fun x103 tx103 => ?_)
            refine m_putI (z := false) rfl rfl rfl rfl (by first | (intro h9; cases h9; done) | (intro _; first | exact Or.inl rfl | exact Or.inr rfl | assumption)) (fun a104 ea104 => ?_)
            have ha104 : RM K a104 := RM.up hR ea104 (show (0 : Int) ≤ _ ∧ _ ≤ (1000 : Int) from by omega)
            have ua104_7 : a104 0 7 = x103 := by rw [ea104, mU_same]
            have wa104_7 := congrArg Int32.toInt ua104_7
            have ua104_8 : (a104 0 8).toInt = (a 0 8).toInt := by rw [ea104, mU_slot (by decide)]
            refine w_aload rfl rfl ?_
            refine w_getR (v := .inr (.inr (some 4))) rfl rfl rfl rfl rfl ?_
            refine w_aload rfl rfl ?_
            refine w_getI (v := .inl (a104 0 7)) rfl rfl rfl rfl rfl ?_
            have q105 : 0 ≤ (a104 0 7).toInt ∧ (a104 0 7).toInt ≤ 1000 := ha104 0 7
            refine w_const rfl ?_
            first | refine w_isub rfl (by omega) (fun x106 tx106 => ?_) | refine w_iiU rfl (fun x106 tx106 => ?_)
            refine m_lald rfl rfl (by omega) (fun y107 ey107 => ?_)
            have i9 : y107 = b 4 (a 0 7).toInt.toNat := by rw [ey107]; congr 1; omega
            have i8 := congrArg Int64.toInt i9
            refine w_l2iE rfl (fun x108 tx108 => ?_)
            have x9 := l2i_ti tx108 (by omega)
            exact wp_iret (z := false) rfl (fun h9 => by cases h9) ⟨a104, b, rfl, ha104, ⟨FR.up (FR.rf) (by decide) ea104, ⟨fun j h7 _ => by rw [ea104, mU_slot h7], by rw [ea104, mU_same]; omega, by rw [ea104, mU_same]; omega⟩⟩, ⟨_, rfl, by omega⟩⟩
          · skip
            refine w_const rfl ?_
            exact wp_iret (z := false) rfl (fun h9 => by cases h9) ⟨a, b, rfl, hR, ⟨FR.rf, ⟨fun _ _ _ => rfl, Int.le_refl _, by omega⟩⟩, ⟨_, rfl, by omega⟩⟩
        · skip
          refine w_aload rfl rfl ?_
          refine w_const rfl ?_
          refine w_invV (rest := []) rfl rfl rfl rfl rfl (Nat.le_of_ble_eq_true rfl) rfl (by omega) (s_wrong (K := K) a b  4 hR (by omega)) (fun v109 h9 hq110 => ?_)
          obtain ⟨a111, b112, rfl, ha111, fa111, rfl⟩ := hq110
          show f_wp _ (70, [some (.inr (.inr (some 0))), some (.inl p), some (.inl r)], [], mH a111 b112) _
          have y7 : (a111 0 7).toInt = (a 0 7).toInt := by rw [fa111.2.1 7 (by decide)]
          refine w_aload rfl rfl ?_
          refine w_getI (v := .inl (a111 0 8)) rfl rfl rfl rfl rfl ?_
          have q113 : 0 ≤ (a111 0 8).toInt ∧ (a111 0 8).toInt ≤ 2147483647 := ha111 0 8
          refine w_if_le rfl (fun c114 => ?_) (fun c114 => ?_)
          · skip
            have y9 := TK.lt hT z7.1 (by omega)
            refine w_aload rfl rfl ?_
            refine w_dup rfl rfl ?_
            refine w_getI (v := .inl (a111 0 7)) rfl rfl rfl rfl rfl ?_
            have q115 : 0 ≤ (a111 0 7).toInt ∧ (a111 0 7).toInt ≤ 1000 := ha111 0 7
            refine w_const rfl ?_
            first | refine w_iadd rfl (by omega) (fun x116 tx116 => ?_) | refine w_iiU rfl (fun x116 tx116 => ?_)
            refine m_putI (z := false) rfl rfl rfl rfl (by first | (intro h9; cases h9; done) | (intro _; first | exact Or.inl rfl | exact Or.inr rfl | assumption)) (fun a117 ea117 => ?_)
            have ha117 : RM K a117 := RM.up ha111 ea117 (show (0 : Int) ≤ _ ∧ _ ≤ (1000 : Int) from by omega)
            have ua117_7 : a117 0 7 = x116 := by rw [ea117, mU_same]
            have wa117_7 := congrArg Int32.toInt ua117_7
            have ua117_8 : (a117 0 8).toInt = (a111 0 8).toInt := by rw [ea117, mU_slot (by decide)]
            refine w_aload rfl rfl ?_
            refine w_getR (v := .inr (.inr (some 4))) rfl rfl rfl rfl rfl ?_
            refine w_aload rfl rfl ?_
            refine w_getI (v := .inl (a117 0 7)) rfl rfl rfl rfl rfl ?_
            have q118 : 0 ≤ (a117 0 7).toInt ∧ (a117 0 7).toInt ≤ 1000 := ha117 0 7
            refine w_const rfl ?_
            first | refine w_isub rfl (by omega) (fun x119 tx119 => ?_) | refine w_iiU rfl (fun x119 tx119 => ?_)
            refine m_lald rfl rfl (by omega) (fun y120 ey120 => ?_)
            have i9 : y120 = b 4 (a 0 7).toInt.toNat := by rw [ey120]; congr 1; omega
            have i8 := congrArg Int64.toInt i9
            refine w_l2iE rfl (fun x121 tx121 => ?_)
            have x9 := l2i_ti tx121 (by omega)
            exact wp_iret (z := false) rfl (fun h9 => by cases h9) ⟨a117, b112, rfl, ha117, ⟨FR.up (FR.tr (FR.rf) (FR.sub fa111.1 (by decide))) (by decide) ea117, by exfalso; omega⟩, ⟨_, rfl, by omega⟩⟩
          · skip
            refine w_const rfl ?_
            exact wp_iret (z := false) rfl (fun h9 => by cases h9) ⟨a111, b112, rfl, ha111, ⟨FR.tr (FR.rf) (FR.sub fa111.1 (by decide)), ⟨fun j _ h8 => fa111.2.1 j h8, by rw [fa111.2.1 7 (by decide)]; omega, by rw [fa111.2.1 7 (by decide)]; omega⟩⟩, ⟨_, rfl, by omega⟩⟩
    · skip
      refine w_aload rfl rfl ?_
      refine w_getI (v := .inl (a 0 8)) rfl rfl rfl rfl rfl ?_
      have q122 : 0 ≤ (a 0 8).toInt ∧ (a 0 8).toInt ≤ 2147483647 := hR 0 8
      refine w_if_le rfl (fun c123 => ?_) (fun c123 => ?_)
      · skip
        have y9 := TK.lt hT z7.1 (by omega)
        refine w_aload rfl rfl ?_
        refine w_dup rfl rfl ?_
        refine w_getI (v := .inl (a 0 7)) rfl rfl rfl rfl rfl ?_
        have q124 : 0 ≤ (a 0 7).toInt ∧ (a 0 7).toInt ≤ 1000 := hR 0 7
        refine w_const rfl ?_
        first | refine w_iadd rfl (by omega) (fun x125 tx125 => ?_) | refine w_iiU rfl (fun x125 tx125 => ?_)
        refine m_putI (z := false) rfl rfl rfl rfl (by first | (intro h9; cases h9; done) | (intro _; first | exact Or.inl rfl | exact Or.inr rfl | assumption)) (fun a126 ea126 => ?_)
        have ha126 : RM K a126 := RM.up hR ea126 (show (0 : Int) ≤ _ ∧ _ ≤ (1000 : Int) from by omega)
        have ua126_7 : a126 0 7 = x125 := by rw [ea126, mU_same]
        have wa126_7 := congrArg Int32.toInt ua126_7
        have ua126_8 : (a126 0 8).toInt = (a 0 8).toInt := by rw [ea126, mU_slot (by decide)]
        refine w_aload rfl rfl ?_
        refine w_getR (v := .inr (.inr (some 4))) rfl rfl rfl rfl rfl ?_
        refine w_aload rfl rfl ?_
        refine w_getI (v := .inl (a126 0 7)) rfl rfl rfl rfl rfl ?_
        have q127 : 0 ≤ (a126 0 7).toInt ∧ (a126 0 7).toInt ≤ 1000 := ha126 0 7
        refine w_const rfl ?_
        first | refine w_isub rfl (by omega) (fun x128 tx128 => ?_) | refine w_iiU rfl (fun x128 tx128 => ?_)
        refine m_lald rfl rfl (by omega) (fun y129 ey129 => ?_)
        have i9 : y129 = b 4 (a 0 7).toInt.toNat := by rw [ey129]; congr 1; omega
        have i8 := congrArg Int64.toInt i9
        refine w_l2iE rfl (fun x130 tx130 => ?_)
        have x9 := l2i_ti tx130 (by omega)
        exact wp_iret (z := false) rfl (fun h9 => by cases h9) ⟨a126, b, rfl, ha126, ⟨FR.up (FR.rf) (by decide) ea126, ⟨fun j h7 _ => by rw [ea126, mU_slot h7], by rw [ea126, mU_same]; omega, by rw [ea126, mU_same]; omega⟩⟩, ⟨_, rfl, by omega⟩⟩
      · skip
        refine w_const rfl ?_
        exact wp_iret (z := false) rfl (fun h9 => by cases h9) ⟨a, b, rfl, hR, ⟨FR.rf, ⟨fun _ _ _ => rfl, Int.le_refl _, by omega⟩⟩, ⟨_, rfl, by omega⟩⟩
