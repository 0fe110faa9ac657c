set_option maxRecDepth 4000 in
theorem s_isSign_1 {K : Nat} (a : Nat → Nat → Int32) (b : Nat → Nat → Int64) (c : Int32) (hR : RM K a)  : f_call mtM 1 8 [.inr (.inr (some 0)), .inl c] (mH a b) (fun v9 h' => h' = mH a b ∧ ∃ x : Int32, v9 = some (.inl x) ∧ ((x.toInt = 1 ∧ (iS a b c)) ∨ (x.toInt = 0 ∧ ¬ (iS a b c)))) := by
  refine f_call_of (d0 := 0) rfl (Nat.le_of_ble_eq_true rfl) (fun d hd => ?_)
  show f_wp _ (0, [some (.inr (.inr (some 0))), some (.inl c)], [], mH a b) _
  have l0 : (0 : Int32).toInt = 0 := rfl
  have l1 : (1 : Int32).toInt = 1 := rfl
  have l3 : (3 : Int32).toInt = 3 := rfl
  refine w_aload rfl rfl ?_
  refine w_getI (v := .inl (a 0 8)) rfl rfl rfl rfl rfl ?_
  have q1 : 0 ≤ (a 0 8).toInt ∧ (a 0 8).toInt ≤ 2147483647 := hR 0 8
  refine w_if_ne rfl (fun c2 => ?_) (fun c2 => ?_)
  · skip
    refine w_aload rfl rfl ?_
    refine w_getR (v := .inr (.inr (some 2))) rfl rfl rfl rfl rfl ?_
    refine w_aload rfl rfl ?_
    refine w_getI (v := .inl (a 0 7)) rfl rfl rfl rfl rfl ?_
    have q3 : 0 ≤ (a 0 7).toInt ∧ (a 0 7).toInt ≤ 1000 := hR 0 7
    refine m_iald rfl rfl (by omega) (fun x4 ex4 => ?_)
    have qx4 : 0 ≤ x4.toInt ∧ x4.toInt ≤ 4 := by rw [ex4]; exact hR 2 _
    have e9 := congrArg Int32.toInt ex4
    refine w_const rfl ?_
    refine w_ic_ne rfl (fun c5 => ?_) (fun c5 => ?_)
    · skip
      refine w_aload rfl rfl ?_
      refine w_getR (v := .inr (.inr (some 4))) rfl rfl rfl rfl rfl ?_
      refine w_aload rfl rfl ?_
      refine w_getI (v := .inl (a 0 7)) rfl rfl rfl rfl rfl ?_
      have q6 : 0 ≤ (a 0 7).toInt ∧ (a 0 7).toInt ≤ 1000 := hR 0 7
      refine m_lald rfl rfl (by omega) (fun y7 ey7 => ?_)
      have e8 := congrArg Int64.toInt ey7
      refine w_iload rfl rfl ?_
      refine w_i2lE rfl (fun y8 ty8 => ?_)
      have e7 := i2l_ti ty8
      refine w_lcmpE rfl (fun x9 tx9 => ?_)
      have c9 := cmp_ti tx9
      refine w_if_ne rfl (fun c10 => ?_) (fun c10 => ?_)
      · skip
        refine w_const rfl ?_
        refine w_goto rfl ?_
        exact wp_iret (z := true) rfl (fun _ => by first | exact Or.inl rfl | exact Or.inr rfl | (rcases (by omega : (1 : Int32).toInt = 0 ∨ (1 : Int32).toInt = 1) with h8 | h8; exact Or.inl (ti_eq h8); exact Or.inr (ti_eq h8))) ⟨rfl, ⟨_, rfl, by unfold iS; omega⟩⟩
      · skip
        refine w_const rfl ?_
        exact wp_iret (z := true) rfl (fun _ => by first | exact Or.inl rfl | exact Or.inr rfl | (rcases (by omega : (0 : Int32).toInt = 0 ∨ (0 : Int32).toInt = 1) with h8 | h8; exact Or.inl (ti_eq h8); exact Or.inr (ti_eq h8))) ⟨rfl, ⟨_, rfl, by unfold iS; omega⟩⟩
    · skip
      refine w_const rfl ?_
      exact wp_iret (z := true) rfl (fun _ => by first | exact Or.inl rfl | exact Or.inr rfl | (rcases (by omega : (0 : Int32).toInt = 0 ∨ (0 : Int32).toInt = 1) with h8 | h8; exact Or.inl (ti_eq h8); exact Or.inr (ti_eq h8))) ⟨rfl, ⟨_, rfl, by unfold iS; omega⟩⟩
  · skip
    refine w_const rfl ?_
    exact wp_iret (z := true) rfl (fun _ => by first | exact Or.inl rfl | exact Or.inr rfl | (rcases (by omega : (0 : Int32).toInt = 0 ∨ (0 : Int32).toInt = 1) with h8 | h8; exact Or.inl (ti_eq h8); exact Or.inr (ti_eq h8))) ⟨rfl, ⟨_, rfl, by unfold iS; omega⟩⟩
set_option maxRecDepth 4000 in
theorem s_isWord_1 {K : Nat} (a : Nat → Nat → Int32) (b : Nat → Nat → Int64) (c : Int32) (hR : RM K a) (hc : 0 ≤ c.toInt ∧ c.toInt ≤ 30) : f_call mtM 1 9 [.inr (.inr (some 0)), .inl c] (mH a b) (fun v9 h' => h' = mH a b ∧ ∃ x : Int32, v9 = some (.inl x) ∧ ((x.toInt = 1 ∧ (iW a b c)) ∨ (x.toInt = 0 ∧ ¬ (iW a b c)))) := by
  refine f_call_of (d0 := 0) rfl (Nat.le_of_ble_eq_true rfl) (fun d hd => ?_)
  show f_wp _ (0, [some (.inr (.inr (some 0))), some (.inl c)], [], mH a b) _
  have l0 : (0 : Int32).toInt = 0 := rfl
  have l1 : (1 : Int32).toInt = 1 := rfl
  refine w_aload rfl rfl ?_
  refine w_getI (v := .inl (a 0 8)) rfl rfl rfl rfl rfl ?_
  have q1 : 0 ≤ (a 0 8).toInt ∧ (a 0 8).toInt ≤ 2147483647 := hR 0 8
  refine w_if_ne rfl (fun c2 => ?_) (fun c2 => ?_)
  · skip
    refine w_aload rfl rfl ?_
    refine w_getR (v := .inr (.inr (some 2))) rfl rfl rfl rfl rfl ?_
    refine w_aload rfl rfl ?_
    refine w_getI (v := .inl (a 0 7)) rfl rfl rfl rfl rfl ?_
    have q3 : 0 ≤ (a 0 7).toInt ∧ (a 0 7).toInt ≤ 1000 := hR 0 7
    refine m_iald rfl rfl (by omega) (fun x4 ex4 => ?_)
    have qx4 : 0 ≤ x4.toInt ∧ x4.toInt ≤ 4 := by rw [ex4]; exact hR 2 _
    have e9 := congrArg Int32.toInt ex4
    refine w_const rfl ?_
    refine w_ic_ne rfl (fun c5 => ?_) (fun c5 => ?_)
    · skip
      refine w_aload rfl rfl ?_
      refine w_getR (v := .inr (.inr (some 4))) rfl rfl rfl rfl rfl ?_
      refine w_aload rfl rfl ?_
      refine w_getI (v := .inl (a 0 7)) rfl rfl rfl rfl rfl ?_
      have q6 : 0 ≤ (a 0 7).toInt ∧ (a 0 7).toInt ≤ 1000 := hR 0 7
      refine m_lald rfl rfl (by omega) (fun y7 ey7 => ?_)
      have e8 := congrArg Int64.toInt ey7
      refine w_aload rfl rfl ?_
      refine w_getR (v := .inr (.inr (some 5))) rfl rfl rfl rfl rfl ?_
      refine w_iload rfl rfl ?_
      refine m_lald rfl rfl (by omega) (fun y8 ey8 => ?_)
      have e7 := congrArg Int64.toInt ey8
      refine w_lcmpE rfl (fun x9 tx9 => ?_)
      have c9 := cmp_ti tx9
      refine w_if_ne rfl (fun c10 => ?_) (fun c10 => ?_)
      · skip
        refine w_const rfl ?_
        refine w_goto rfl ?_
        exact wp_iret (z := true) rfl (fun _ => by first | exact Or.inl rfl | exact Or.inr rfl | (rcases (by omega : (1 : Int32).toInt = 0 ∨ (1 : Int32).toInt = 1) with h8 | h8; exact Or.inl (ti_eq h8); exact Or.inr (ti_eq h8))) ⟨rfl, ⟨_, rfl, by unfold iW; omega⟩⟩
      · skip
        refine w_const rfl ?_
        exact wp_iret (z := true) rfl (fun _ => by first | exact Or.inl rfl | exact Or.inr rfl | (rcases (by omega : (0 : Int32).toInt = 0 ∨ (0 : Int32).toInt = 1) with h8 | h8; exact Or.inl (ti_eq h8); exact Or.inr (ti_eq h8))) ⟨rfl, ⟨_, rfl, by unfold iW; omega⟩⟩
    · skip
      refine w_const rfl ?_
      exact wp_iret (z := true) rfl (fun _ => by first | exact Or.inl rfl | exact Or.inr rfl | (rcases (by omega : (0 : Int32).toInt = 0 ∨ (0 : Int32).toInt = 1) with h8 | h8; exact Or.inl (ti_eq h8); exact Or.inr (ti_eq h8))) ⟨rfl, ⟨_, rfl, by unfold iW; omega⟩⟩
  · skip
    refine w_const rfl ?_
    exact wp_iret (z := true) rfl (fun _ => by first | exact Or.inl rfl | exact Or.inr rfl | (rcases (by omega : (0 : Int32).toInt = 0 ∨ (0 : Int32).toInt = 1) with h8 | h8; exact Or.inl (ti_eq h8); exact Or.inr (ti_eq h8))) ⟨rfl, ⟨_, rfl, by unfold iW; omega⟩⟩
set_option maxRecDepth 4000 in
theorem s_hasSign_1 {K : Nat} (a : Nat → Nat → Int32) (b : Nat → Nat → Int64) (N : Nat)(c : Int32) (hR : RM K a) (hT : N ≤ 1000 ∧ (a 0 7).toInt ≤ N ∧ (a 2 N).toInt = 0) : f_call mtM 2 11 [.inr (.inr (some 0)), .inl c] (mH a b) (fun v9 h' => ∃ (a' : Nat → Nat → Int32), h' = mH a' b ∧ RM K a' ∧ (FR [0] a a' ∧ (((∀ j, j ≠ 7 → j ≠ 8 → a' 0 j = a 0 j) ∧ (a 0 7).toInt ≤ (a' 0 7).toInt ∧ (a' 0 7).toInt ≤ N) ∧ a' 0 8 = a 0 8 ∧ ((a' 0 7).toInt = (a 0 7).toInt ∨ (a' 0 7).toInt = (a 0 7).toInt + 1))) ∧ ∃ x : Int32, v9 = some (.inl x) ∧ ((x.toInt = 1 ∧ (a' 0 7).toInt = (a 0 7).toInt + 1 ∧ iS a b c) ∨ (x.toInt = 0 ∧ (a' 0 7).toInt = (a 0 7).toInt ∧ ¬ iS a b c))) := by
  refine f_call_of (d0 := 1) rfl (Nat.le_of_ble_eq_true rfl) (fun d hd => ?_)
  show f_wp _ (0, [some (.inr (.inr (some 0))), some (.inl c), none], [], mH a b) _
  have l0 : (0 : Int32).toInt = 0 := rfl
  have l1 : (1 : Int32).toInt = 1 := rfl
  have z7 : 0 ≤ (a 0 7).toInt ∧ (a 0 7).toInt ≤ 1000 := hR 0 7
  have z8 : 0 ≤ (a 0 8).toInt ∧ (a 0 8).toInt ≤ 2147483647 := hR 0 8
  refine w_aload rfl rfl ?_
  refine w_iload rfl rfl ?_
  refine w_invV (rest := []) rfl rfl rfl rfl rfl (Nat.le_of_ble_eq_true rfl) rfl (by omega) (s_isSign_1 (K := K) a b  c hR ) (fun v1 h9 hq2 => ?_)
  obtain ⟨rfl, x3, rfl, px3⟩ := hq2
  show f_wp _ (5, [some (.inr (.inr (some 0))), some (.inl c), none], [.inl x3], mH a b) _
  have pz := px3
  refine w_istore (lo' := [some (.inr (.inr (some 0))), some (.inl c), some (.inl x3)]) rfl rfl ?_
  refine w_aload rfl rfl ?_
  refine w_dup rfl rfl ?_
  refine w_getI (v := .inl (a 0 7)) rfl rfl rfl rfl rfl ?_
  have q4 : 0 ≤ (a 0 7).toInt ∧ (a 0 7).toInt ≤ 1000 := hR 0 7
  refine w_iload rfl rfl ?_
  refine w_if_eq rfl (fun c5 => ?_) (fun c5 => ?_)
  · skip
    have iz := (pz.resolve_left (by omega)).2
    refine w_const rfl ?_
    first | refine w_iadd rfl (by omega) (fun x6 tx6 => ?_) | refine w_iiU rfl (fun x6 tx6 => ?_)
    refine m_putI (z := false) rfl rfl rfl rfl (by first | (intro h9; cases h9; done) | (intro _; first | exact Or.inl rfl | exact Or.inr rfl | assumption)) (fun a7 ea7 => ?_)
    have ha7 : RM K a7 := RM.up hR ea7 (show (0 : Int) ≤ _ ∧ _ ≤ (1000 : Int) from by omega)
    have ua7_7 : a7 0 7 = x6 := by rw [ea7, mU_same]
    have wa7_7 := congrArg Int32.toInt ua7_7
    refine w_iload rfl rfl ?_
    exact wp_iret (z := true) rfl (fun _ => by first | exact Or.inl rfl | exact Or.inr rfl | (rcases (by omega : x3.toInt = 0 ∨ x3.toInt = 1) with h8 | h8; exact Or.inl (ti_eq h8); exact Or.inr (ti_eq h8))) ⟨a7, rfl, ha7, ⟨FR.up (FR.rf) (by decide) ea7, ⟨⟨fun j h7 _ => by rw [ea7, mU_slot h7], by rw [ea7, mU_same]; omega, by rw [ea7, mU_same]; omega⟩, by rw [ea7, mU_slot (by decide)], by rw [ea7, mU_same]; omega⟩⟩, ⟨_, rfl, by rw [ea7, mU_same]; first | exact Or.inl ⟨by omega, by omega, iz⟩ | exact Or.inr ⟨by omega, by omega, iz⟩⟩⟩
  · skip
    have iz := (pz.resolve_right (by omega)).2
    have y9 := TK.lt hT z7.1 (by have i2 := iz.2.1; omega)
    refine w_const rfl ?_
    refine w_goto rfl ?_
    first | refine w_iadd rfl (by omega) (fun x8 tx8 => ?_) | refine w_iiU rfl (fun x8 tx8 => ?_)
    refine m_putI (z := false) rfl rfl rfl rfl (by first | (intro h9; cases h9; done) | (intro _; first | exact Or.inl rfl | exact Or.inr rfl | assumption)) (fun a9 ea9 => ?_)
    have ha9 : RM K a9 := RM.up hR ea9 (show (0 : Int) ≤ _ ∧ _ ≤ (1000 : Int) from by omega)
    have ua9_7 : a9 0 7 = x8 := by rw [ea9, mU_same]
    have wa9_7 := congrArg Int32.toInt ua9_7
    refine w_iload rfl rfl ?_
    exact wp_iret (z := true) rfl (fun _ => by first | exact Or.inl rfl | exact Or.inr rfl | (rcases (by omega : x3.toInt = 0 ∨ x3.toInt = 1) with h8 | h8; exact Or.inl (ti_eq h8); exact Or.inr (ti_eq h8))) ⟨a9, rfl, ha9, ⟨FR.up (FR.rf) (by decide) ea9, ⟨⟨fun j h7 _ => by rw [ea9, mU_slot h7], by rw [ea9, mU_same]; omega, by rw [ea9, mU_same]; omega⟩, by rw [ea9, mU_slot (by decide)], by rw [ea9, mU_same]; omega⟩⟩, ⟨_, rfl, by rw [ea9, mU_same]; first | exact Or.inl ⟨by omega, by omega, iz⟩ | exact Or.inr ⟨by omega, by omega, iz⟩⟩⟩
set_option maxRecDepth 4000 in
theorem s_hasWord_1 {K : Nat} (a : Nat → Nat → Int32) (b : Nat → Nat → Int64) (N : Nat)(c : Int32) (hR : RM K a) (hc : 0 ≤ c.toInt ∧ c.toInt ≤ 30) (hT : N ≤ 1000 ∧ (a 0 7).toInt ≤ N ∧ (a 2 N).toInt = 0) : f_call mtM 2 12 [.inr (.inr (some 0)), .inl c] (mH a b) (fun v9 h' => ∃ (a' : Nat → Nat → Int32), h' = mH a' b ∧ RM K a' ∧ (FR [0] a a' ∧ (((∀ j, j ≠ 7 → j ≠ 8 → a' 0 j = a 0 j) ∧ (a 0 7).toInt ≤ (a' 0 7).toInt ∧ (a' 0 7).toInt ≤ N) ∧ a' 0 8 = a 0 8 ∧ ((a' 0 7).toInt = (a 0 7).toInt ∨ (a' 0 7).toInt = (a 0 7).toInt + 1))) ∧ ∃ x : Int32, v9 = some (.inl x) ∧ ((x.toInt = 1 ∧ (a' 0 7).toInt = (a 0 7).toInt + 1 ∧ iW a b c) ∨ (x.toInt = 0 ∧ (a' 0 7).toInt = (a 0 7).toInt ∧ ¬ iW a b c))) := by
  refine f_call_of (d0 := 1) rfl (Nat.le_of_ble_eq_true rfl) (fun d hd => ?_)
  show f_wp _ (0, [some (.inr (.inr (some 0))), some (.inl c), none], [], mH a b) _
  have l0 : (0 : Int32).toInt = 0 := rfl
  have l1 : (1 : Int32).toInt = 1 := rfl
  have z7 : 0 ≤ (a 0 7).toInt ∧ (a 0 7).toInt ≤ 1000 := hR 0 7
  have z8 : 0 ≤ (a 0 8).toInt ∧ (a 0 8).toInt ≤ 2147483647 := hR 0 8
  refine w_aload rfl rfl ?_
  refine w_iload rfl rfl ?_
  refine w_invV (rest := []) rfl rfl rfl rfl rfl (Nat.le_of_ble_eq_true rfl) rfl (by omega) (s_isWord_1 (K := K) a b  c hR (by omega)) (fun v1 h9 hq2 => ?_)
  obtain ⟨rfl, x3, rfl, px3⟩ := hq2
  show f_wp _ (5, [some (.inr (.inr (some 0))), some (.inl c), none], [.inl x3], mH a b) _
  have pz := px3
  refine w_istore (lo' := [some (.inr (.inr (some 0))), some (.inl c), some (.inl x3)]) rfl rfl ?_
  refine w_aload rfl rfl ?_
  refine w_dup rfl rfl ?_
  refine w_getI (v := .inl (a 0 7)) rfl rfl rfl rfl rfl ?_
  have q4 : 0 ≤ (a 0 7).toInt ∧ (a 0 7).toInt ≤ 1000 := hR 0 7
  refine w_iload rfl rfl ?_
  refine w_if_eq rfl (fun c5 => ?_) (fun c5 => ?_)
  · skip
    have iz := (pz.resolve_left (by omega)).2
    refine w_const rfl ?_
    first | refine w_iadd rfl (by omega) (fun x6 tx6 => ?_) | refine w_iiU rfl (fun x6 tx6 => ?_)
    refine m_putI (z := false) rfl rfl rfl rfl (by first | (intro h9; cases h9; done) | (intro _; first | exact Or.inl rfl | exact Or.inr rfl | assumption)) (fun a7 ea7 => ?_)
    have ha7 : RM K a7 := RM.up hR ea7 (show (0 : Int) ≤ _ ∧ _ ≤ (1000 : Int) from by omega)
    have ua7_7 : a7 0 7 = x6 := by rw [ea7, mU_same]
    have wa7_7 := congrArg Int32.toInt ua7_7
    refine w_iload rfl rfl ?_
    exact wp_iret (z := true) rfl (fun _ => by first | exact Or.inl rfl | exact Or.inr rfl | (rcases (by omega : x3.toInt = 0 ∨ x3.toInt = 1) with h8 | h8; exact Or.inl (ti_eq h8); exact Or.inr (ti_eq h8))) ⟨a7, rfl, ha7, ⟨FR.up (FR.rf) (by decide) ea7, ⟨⟨fun j h7 _ => by rw [ea7, mU_slot h7], by rw [ea7, mU_same]; omega, by rw [ea7, mU_same]; omega⟩, by rw [ea7, mU_slot (by decide)], by rw [ea7, mU_same]; omega⟩⟩, ⟨_, rfl, by rw [ea7, mU_same]; first | exact Or.inl ⟨by omega, by omega, iz⟩ | exact Or.inr ⟨by omega, by omega, iz⟩⟩⟩
  · skip
    have iz := (pz.resolve_right (by omega)).2
    have y9 := TK.lt hT z7.1 (by have i2 := iz.2.1; omega)
    refine w_const rfl ?_
    refine w_goto rfl ?_
    first | refine w_iadd rfl (by omega) (fun x8 tx8 => ?_) | refine w_iiU rfl (fun x8 tx8 => ?_)
    refine m_putI (z := false) rfl rfl rfl rfl (by first | (intro h9; cases h9; done) | (intro _; first | exact Or.inl rfl | exact Or.inr rfl | assumption)) (fun a9 ea9 => ?_)
    have ha9 : RM K a9 := RM.up hR ea9 (show (0 : Int) ≤ _ ∧ _ ≤ (1000 : Int) from by omega)
    have ua9_7 : a9 0 7 = x8 := by rw [ea9, mU_same]
    have wa9_7 := congrArg Int32.toInt ua9_7
    refine w_iload rfl rfl ?_
    exact wp_iret (z := true) rfl (fun _ => by first | exact Or.inl rfl | exact Or.inr rfl | (rcases (by omega : x3.toInt = 0 ∨ x3.toInt = 1) with h8 | h8; exact Or.inl (ti_eq h8); exact Or.inr (ti_eq h8))) ⟨a9, rfl, ha9, ⟨FR.up (FR.rf) (by decide) ea9, ⟨⟨fun j h7 _ => by rw [ea9, mU_slot h7], by rw [ea9, mU_same]; omega, by rw [ea9, mU_same]; omega⟩, by rw [ea9, mU_slot (by decide)], by rw [ea9, mU_same]; omega⟩⟩, ⟨_, rfl, by rw [ea9, mU_same]; first | exact Or.inl ⟨by omega, by omega, iz⟩ | exact Or.inr ⟨by omega, by omega, iz⟩⟩⟩
set_option maxRecDepth 4000 in
theorem s_emit_1 {K : Nat} (a : Nat → Nat → Int32) (b : Nat → Nat → Int64) (c : Int32) (p : Int32) (hR : RM K a) (hc : 0 ≤ c.toInt ∧ c.toInt ≤ 10) (hd9 : (a 0 13).toInt ≤ 999) : f_call mtM 1 29 [.inr (.inr (some 0)), .inl c, .inl p] (mH a b) (fun v9 h' => ∃ (a' : Nat → Nat → Int32), h' = mH a' b ∧ RM K a' ∧ (FR [0, 7, 8] a a' ∧ (EM a a' c p)) ∧ v9 = none) := by
  refine f_call_of (d0 := 0) rfl (Nat.le_of_ble_eq_true rfl) (fun d hd => ?_)
  show f_wp _ (0, [some (.inr (.inr (some 0))), some (.inl c), some (.inl p)], [], mH a b) _
  have l1 : (1 : Int32).toInt = 1 := rfl
  have l1100 : (1100 : Int32).toInt = 1100 := rfl
  refine w_aload rfl rfl ?_
  refine w_getR (v := .inr (.inr (some 7))) rfl rfl rfl rfl rfl ?_
  refine w_const rfl ?_
  refine w_aload rfl rfl ?_
  refine w_getI (v := .inl (a 0 13)) rfl rfl rfl rfl rfl ?_
  have q1 : 0 ≤ (a 0 13).toInt ∧ (a 0 13).toInt ≤ 1000 := hR 0 13
  first | refine w_iadd rfl (by omega) (fun x2 tx2 => ?_) | refine w_iiU rfl (fun x2 tx2 => ?_)
  refine w_iload rfl rfl ?_
  refine m_iast rfl rfl (by omega) (fun a3 ea3 => ?_)
  have ha3 : RM K a3 := RM.up hR ea3 (show (0 : Int) ≤ _ ∧ _ ≤ (10 : Int) from by omega)
  have ua3_13 : (a3 0 13).toInt = (a 0 13).toInt := by rw [ea3, mU_cell (by decide)]
  refine w_aload rfl rfl ?_
  refine w_getR (v := .inr (.inr (some 8))) rfl rfl rfl rfl rfl ?_
  refine w_const rfl ?_
  refine w_aload rfl rfl ?_
  refine w_getI (v := .inl (a3 0 13)) rfl rfl rfl rfl rfl ?_
  have q4 : 0 ≤ (a3 0 13).toInt ∧ (a3 0 13).toInt ≤ 1000 := ha3 0 13
  first | refine w_iadd rfl (by omega) (fun x5 tx5 => ?_) | refine w_iiU rfl (fun x5 tx5 => ?_)
  refine w_iload rfl rfl ?_
  refine m_iast rfl rfl (by omega) (fun a6 ea6 => ?_)
  have ha6 : RM K a6 := RM.up ha3 ea6 ⟨ti_lo _, ti_hi _⟩
  have ua6_13 : (a6 0 13).toInt = (a3 0 13).toInt := by rw [ea6, mU_cell (by decide)]
  refine w_aload rfl rfl ?_
  refine w_dup rfl rfl ?_
  refine w_getI (v := .inl (a6 0 13)) rfl rfl rfl rfl rfl ?_
  have q7 : 0 ≤ (a6 0 13).toInt ∧ (a6 0 13).toInt ≤ 1000 := ha6 0 13
  refine w_const rfl ?_
  first | refine w_iadd rfl (by omega) (fun x8 tx8 => ?_) | refine w_iiU rfl (fun x8 tx8 => ?_)
  refine m_putI (z := false) rfl rfl rfl rfl (by first | (intro h9; cases h9; done) | (intro _; first | exact Or.inl rfl | exact Or.inr rfl | assumption)) (fun a9 ea9 => ?_)
  have ha9 : RM K a9 := RM.up ha6 ea9 (show (0 : Int) ≤ _ ∧ _ ≤ (1000 : Int) from by omega)
  have ua9_13 : a9 0 13 = x8 := by rw [ea9, mU_same]
  have wa9_13 := congrArg Int32.toInt ua9_13
  exact w_ret rfl ⟨a9, rfl, ha9, ⟨FR.up (FR.up (FR.up (FR.rf) (by decide) ea3) (by decide) ea6) (by decide) ea9, ⟨fun j h9 => by rw [ea9, mU_slot h9, ea6, mU_cell (by decide), ea3, mU_cell (by decide)], by rw [ea9, mU_same]; omega, fun j hj => ⟨by rw [ea9, mU_cell (by decide), ea6, mU_cell (by decide), ea3, mU_slot (by omega)], by rw [ea9, mU_cell (by decide), ea6, mU_slot (by omega), ea3, mU_cell (by decide)]⟩, by rw [ea9, mU_cell (by decide), ea6, mU_cell (by decide), ea3, show 1100 + (a 0 13).toInt.toNat = (x2).toInt.toNat from by omega, mU_same], by rw [ea9, mU_cell (by decide), ea6, show 1100 + (a 0 13).toInt.toNat = (x5).toInt.toNat from by omega, mU_same]⟩⟩, rfl⟩
