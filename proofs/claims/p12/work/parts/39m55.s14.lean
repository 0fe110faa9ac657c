set_option maxRecDepth 4000 in
theorem s_both {K : Nat} (a : Nat → Nat → Int32) (b : Nat → Nat → Int64) (c : Int32) (p : Int32) (r : Int32)  : f_call mtM 1 36 [.inl c, .inl p, .inl r] (mH a b) (fun v9 h' => h' = mH a b ∧ ∃ x : Int32, v9 = some (.inl x) ∧ True) := by
  refine f_call_of (d0 := 0) rfl (Nat.le_of_ble_eq_true rfl) (fun d hd => ?_)
  show f_wp _ (0, [some (.inl c), some (.inl p), some (.inl r)], [], mH a b) _
  have l0 : (0 : Int32).toInt = 0 := rfl
  have l1 : (1 : Int32).toInt = 1 := rfl
  refine w_iload rfl rfl ?_
  refine w_tab rfl (fun c1 => ?_) (fun k9 t9 hk9 c1 => ?_)
  · skip
    have c1d := c1
    simp only [List.length_cons, List.length_nil] at c1d
    refine w_iload rfl rfl ?_
    refine w_if_ne rfl (fun c2 => ?_) (fun c2 => ?_)
    · skip
      refine w_iload rfl rfl ?_
      refine w_if_eq rfl (fun c3 => ?_) (fun c3 => ?_)
      · skip
        refine w_const rfl ?_
        exact wp_iret (z := false) rfl (fun h9 => by cases h9) ⟨rfl, ⟨_, rfl, trivial⟩⟩
      · skip
        refine w_const rfl ?_
        refine w_goto rfl ?_
        exact wp_iret (z := false) rfl (fun h9 => by cases h9) ⟨rfl, ⟨_, rfl, trivial⟩⟩
    · skip
      refine w_const rfl ?_
      refine w_goto rfl ?_
      exact wp_iret (z := false) rfl (fun h9 => by cases h9) ⟨rfl, ⟨_, rfl, trivial⟩⟩
  · skip
    match k9, hk9, c1 with
    | 0, hk9, c1 =>
      cases hk9
      refine w_iload rfl rfl ?_
      refine w_iload rfl rfl ?_
      first | refine w_iadd rfl (by omega) (fun x4 tx4 => ?_) | refine w_iiU rfl (fun x4 tx4 => ?_)
      exact wp_iret (z := false) rfl (fun h9 => by cases h9) ⟨rfl, ⟨_, rfl, trivial⟩⟩
    | 1, hk9, c1 =>
      cases hk9
      refine w_iload rfl rfl ?_
      refine w_iload rfl rfl ?_
      first | refine w_isub rfl (by omega) (fun x5 tx5 => ?_) | refine w_iiU rfl (fun x5 tx5 => ?_)
      exact wp_iret (z := false) rfl (fun h9 => by cases h9) ⟨rfl, ⟨_, rfl, trivial⟩⟩
    | 2, hk9, c1 =>
      cases hk9
      refine w_iload rfl rfl ?_
      refine w_iload rfl rfl ?_
      refine w_iiU rfl (fun x6 tx6 => ?_)
      exact wp_iret (z := false) rfl (fun h9 => by cases h9) ⟨rfl, ⟨_, rfl, trivial⟩⟩
    | 3, hk9, c1 =>
      cases hk9
      refine w_iload rfl rfl ?_
      refine w_iload rfl rfl ?_
      refine w_ic_ge rfl (fun c7 => ?_) (fun c7 => ?_)
      · skip
        refine w_const rfl ?_
        exact wp_iret (z := false) rfl (fun h9 => by cases h9) ⟨rfl, ⟨_, rfl, trivial⟩⟩
      · skip
        refine w_const rfl ?_
        refine w_goto rfl ?_
        exact wp_iret (z := false) rfl (fun h9 => by cases h9) ⟨rfl, ⟨_, rfl, trivial⟩⟩
    | 4, hk9, c1 =>
      cases hk9
      refine w_iload rfl rfl ?_
      refine w_iload rfl rfl ?_
      refine w_ic_ne rfl (fun c8 => ?_) (fun c8 => ?_)
      · skip
        refine w_const rfl ?_
        refine w_goto rfl ?_
        exact wp_iret (z := false) rfl (fun h9 => by cases h9) ⟨rfl, ⟨_, rfl, trivial⟩⟩
      · skip
        refine w_const rfl ?_
        exact wp_iret (z := false) rfl (fun h9 => by cases h9) ⟨rfl, ⟨_, rfl, trivial⟩⟩
    | 5, hk9, c1 =>
      cases hk9
      refine w_iload rfl rfl ?_
      refine w_if_eq rfl (fun c9 => ?_) (fun c9 => ?_)
      · skip
        refine w_const rfl ?_
        exact wp_iret (z := false) rfl (fun h9 => by cases h9) ⟨rfl, ⟨_, rfl, trivial⟩⟩
      · skip
        refine w_iload rfl rfl ?_
        refine w_if_eq rfl (fun c10 => ?_) (fun c10 => ?_)
        · skip
          refine w_const rfl ?_
          exact wp_iret (z := false) rfl (fun h9 => by cases h9) ⟨rfl, ⟨_, rfl, trivial⟩⟩
        · skip
          refine w_const rfl ?_
          refine w_goto rfl ?_
          exact wp_iret (z := false) rfl (fun h9 => by cases h9) ⟨rfl, ⟨_, rfl, trivial⟩⟩
    | n9 + 6, hk9, c1 => simp at hk9
set_option maxRecDepth 4000 in
theorem s_takeSign {K : Nat} (a : Nat → Nat → Int32) (b : Nat → Nat → Int64) (N : Nat)(c : Int32) (hR : RM K a) (hT : N ≤ 1000 ∧ (a 0 7).toInt ≤ N ∧ (a 2 N).toInt = 0) : f_call mtM 2 10 [.inr (.inr (some 0)), .inl c] (mH a b) (fun v9 h' => ∃ (a' : Nat → Nat → Int32), h' = mH a' b ∧ RM K a' ∧ (FR [0] a a' ∧ (((∀ j, j ≠ 7 → j ≠ 8 → a' 0 j = a 0 j) ∧ (a 0 7).toInt ≤ (a' 0 7).toInt ∧ (a' 0 7).toInt ≤ N) ∧ (((a' 0 8).toInt = 0 ∧ (a 0 8).toInt = 0 ∧ (a' 0 7).toInt = (a 0 7).toInt + 1) ∨ (0 < (a' 0 8).toInt ∧ (a' 0 7).toInt = (a 0 7).toInt)))) ∧ v9 = none) := by
  refine f_call_of (d0 := 1) rfl (Nat.le_of_ble_eq_true rfl) (fun d hd => ?_)
  show f_wp _ (0, [some (.inr (.inr (some 0))), some (.inl c)], [], mH a b) _
  have l1 : (1 : Int32).toInt = 1 := rfl
  have z7 : 0 ≤ (a 0 7).toInt ∧ (a 0 7).toInt ≤ 1000 := hR 0 7
  have z8 : 0 ≤ (a 0 8).toInt ∧ (a 0 8).toInt ≤ 2147483647 := hR 0 8
  refine w_aload rfl rfl ?_
  refine w_iload rfl rfl ?_
  refine w_invV (rest := []) rfl rfl rfl rfl rfl (Nat.le_of_ble_eq_true rfl) rfl (by omega) (s_isSign (K := K) a b  c hR ) (fun v1 h9 hq2 => ?_)
  obtain ⟨rfl, x3, rfl, px3⟩ := hq2
  show f_wp _ (5, [some (.inr (.inr (some 0))), some (.inl c)], [.inl x3], mH a b) _
  refine w_if_eq rfl (fun c4 => ?_) (fun c4 => ?_)
  · skip
    refine w_aload rfl rfl ?_
    refine w_const rfl ?_
    refine w_invV (rest := []) rfl rfl rfl rfl rfl (Nat.le_of_ble_eq_true rfl) rfl (by omega) (s_wrong (K := K) a b  1 hR (by omega)) (fun v5 h9 hq6 => ?_)
    obtain ⟨a7, rfl, ha7, fa7, rfl⟩ := hq6
    show f_wp _ (26, [some (.inr (.inr (some 0))), some (.inl c)], [], mH a7 b) _
    exact w_ret rfl ⟨a7, rfl, ha7, ⟨FR.tr (FR.rf) (FR.sub fa7.1 (by decide)), ⟨⟨fun j _ h8 => fa7.2.1 j h8, by rw [fa7.2.1 7 (by decide)]; omega, by rw [fa7.2.1 7 (by decide)]; omega⟩, Or.inr ⟨fa7.2.2, by rw [fa7.2.1 7 (by decide)]⟩⟩⟩, rfl⟩
  · skip
    have y9 := TK.lt hT z7.1 (by omega)
    refine w_aload rfl rfl ?_
    refine w_dup rfl rfl ?_
    refine w_getI (v := .inl (a 0 7)) rfl rfl rfl rfl rfl ?_
    have q8 : 0 ≤ (a 0 7).toInt ∧ (a 0 7).toInt ≤ 1000 := hR 0 7
    refine w_const rfl ?_
    first | refine w_iadd rfl (by omega) (fun x9 tx9 => ?_) | refine w_iiU rfl (fun x9 tx9 => ?_)
    refine m_putI (z := false) rfl rfl rfl rfl (by first | (intro h9; cases h9; done) | (intro _; first | exact Or.inl rfl | exact Or.inr rfl | assumption)) (fun a10 ea10 => ?_)
    have ha10 : RM K a10 := RM.up hR ea10 (show (0 : Int) ≤ _ ∧ _ ≤ (1000 : Int) from by omega)
    have ua10_7 : a10 0 7 = x9 := by rw [ea10, mU_same]
    have wa10_7 := congrArg Int32.toInt ua10_7
    refine w_goto rfl ?_
    exact w_ret rfl ⟨a10, rfl, ha10, ⟨FR.up (FR.rf) (by decide) ea10, ⟨⟨fun j h7 _ => by rw [ea10, mU_slot h7], by rw [ea10, mU_same]; omega, by rw [ea10, mU_same]; omega⟩, Or.inl ⟨by rw [ea10, mU_slot (by decide)]; omega, by omega, by rw [ea10, mU_same]; omega⟩⟩⟩, rfl⟩
set_option maxRecDepth 4000 in
theorem s_hasSign {K : Nat} (a : Nat → Nat → Int32) (b : Nat → Nat → Int64) (N : Nat)(c : Int32) (hR : RM K a) (hT : N ≤ 1000 ∧ (a 0 7).toInt ≤ N ∧ (a 2 N).toInt = 0) : f_call mtM 2 11 [.inr (.inr (some 0)), .inl c] (mH a b) (fun v9 h' => ∃ (a' : Nat → Nat → Int32), h' = mH a' b ∧ RM K a' ∧ (FR [0] a a' ∧ (((∀ j, j ≠ 7 → j ≠ 8 → a' 0 j = a 0 j) ∧ (a 0 7).toInt ≤ (a' 0 7).toInt ∧ (a' 0 7).toInt ≤ N) ∧ a' 0 8 = a 0 8 ∧ ((a' 0 7).toInt = (a 0 7).toInt ∨ (a' 0 7).toInt = (a 0 7).toInt + 1))) ∧ ∃ x : Int32, v9 = some (.inl x) ∧ ((x.toInt = 1 ∧ (a' 0 7).toInt = (a 0 7).toInt + 1 ∧ (a 0 8).toInt = 0) ∨ (x.toInt = 0 ∧ (a' 0 7).toInt = (a 0 7).toInt))) := by
  refine f_call_of (d0 := 1) rfl (Nat.le_of_ble_eq_true rfl) (fun d hd => ?_)
  show f_wp _ (0, [some (.inr (.inr (some 0))), some (.inl c), none], [], mH a b) _
  have l0 : (0 : Int32).toInt = 0 := rfl
  have l1 : (1 : Int32).toInt = 1 := rfl
  have z7 : 0 ≤ (a 0 7).toInt ∧ (a 0 7).toInt ≤ 1000 := hR 0 7
  have z8 : 0 ≤ (a 0 8).toInt ∧ (a 0 8).toInt ≤ 2147483647 := hR 0 8
  refine w_aload rfl rfl ?_
  refine w_iload rfl rfl ?_
  refine w_invV (rest := []) rfl rfl rfl rfl rfl (Nat.le_of_ble_eq_true rfl) rfl (by omega) (s_isSign (K := K) a b  c hR ) (fun v1 h9 hq2 => ?_)
  obtain ⟨rfl, x3, rfl, px3⟩ := hq2
  show f_wp _ (5, [some (.inr (.inr (some 0))), some (.inl c), none], [.inl x3], mH a b) _
  refine w_istore (lo' := [some (.inr (.inr (some 0))), some (.inl c), some (.inl x3)]) rfl rfl ?_
  refine w_aload rfl rfl ?_
  refine w_dup rfl rfl ?_
  refine w_getI (v := .inl (a 0 7)) rfl rfl rfl rfl rfl ?_
  have q4 : 0 ≤ (a 0 7).toInt ∧ (a 0 7).toInt ≤ 1000 := hR 0 7
  refine w_iload rfl rfl ?_
  refine w_if_eq rfl (fun c5 => ?_) (fun c5 => ?_)
  · skip
    refine w_const rfl ?_
    first | refine w_iadd rfl (by omega) (fun x6 tx6 => ?_) | refine w_iiU rfl (fun x6 tx6 => ?_)
    refine m_putI (z := false) rfl rfl rfl rfl (by first | (intro h9; cases h9; done) | (intro _; first | exact Or.inl rfl | exact Or.inr rfl | assumption)) (fun a7 ea7 => ?_)
    have ha7 : RM K a7 := RM.up hR ea7 (show (0 : Int) ≤ _ ∧ _ ≤ (1000 : Int) from by omega)
    have ua7_7 : a7 0 7 = x6 := by rw [ea7, mU_same]
    have wa7_7 := congrArg Int32.toInt ua7_7
    refine w_iload rfl rfl ?_
    exact wp_iret (z := true) rfl (fun _ => by first | exact Or.inl rfl | exact Or.inr rfl | (rcases (by omega : x3.toInt = 0 ∨ x3.toInt = 1) with h8 | h8; exact Or.inl (ti_eq h8); exact Or.inr (ti_eq h8))) ⟨a7, rfl, ha7, ⟨FR.up (FR.rf) (by decide) ea7, ⟨⟨fun j h7 _ => by rw [ea7, mU_slot h7], by rw [ea7, mU_same]; omega, by rw [ea7, mU_same]; omega⟩, by rw [ea7, mU_slot (by decide)], by rw [ea7, mU_same]; omega⟩⟩, ⟨_, rfl, by rw [ea7, mU_same]; omega⟩⟩
  · skip
    have y9 := TK.lt hT z7.1 (by omega)
    refine w_const rfl ?_
    refine w_goto rfl ?_
    first | refine w_iadd rfl (by omega) (fun x8 tx8 => ?_) | refine w_iiU rfl (fun x8 tx8 => ?_)
    refine m_putI (z := false) rfl rfl rfl rfl (by first | (intro h9; cases h9; done) | (intro _; first | exact Or.inl rfl | exact Or.inr rfl | assumption)) (fun a9 ea9 => ?_)
    have ha9 : RM K a9 := RM.up hR ea9 (show (0 : Int) ≤ _ ∧ _ ≤ (1000 : Int) from by omega)
    have ua9_7 : a9 0 7 = x8 := by rw [ea9, mU_same]
    have wa9_7 := congrArg Int32.toInt ua9_7
    refine w_iload rfl rfl ?_
    exact wp_iret (z := true) rfl (fun _ => by first | exact Or.inl rfl | exact Or.inr rfl | (rcases (by omega : x3.toInt = 0 ∨ x3.toInt = 1) with h8 | h8; exact Or.inl (ti_eq h8); exact Or.inr (ti_eq h8))) ⟨a9, rfl, ha9, ⟨FR.up (FR.rf) (by decide) ea9, ⟨⟨fun j h7 _ => by rw [ea9, mU_slot h7], by rw [ea9, mU_same]; omega, by rw [ea9, mU_same]; omega⟩, by rw [ea9, mU_slot (by decide)], by rw [ea9, mU_same]; omega⟩⟩, ⟨_, rfl, by rw [ea9, mU_same]; omega⟩⟩
set_option maxRecDepth 4000 in
theorem s_hasWord {K : Nat} (a : Nat → Nat → Int32) (b : Nat → Nat → Int64) (N : Nat)(c : Int32) (hR : RM K a) (hc : 0 ≤ c.toInt ∧ c.toInt ≤ 30) (hT : N ≤ 1000 ∧ (a 0 7).toInt ≤ N ∧ (a 2 N).toInt = 0) : f_call mtM 2 12 [.inr (.inr (some 0)), .inl c] (mH a b) (fun v9 h' => ∃ (a' : Nat → Nat → Int32), h' = mH a' b ∧ RM K a' ∧ (FR [0] a a' ∧ (((∀ j, j ≠ 7 → j ≠ 8 → a' 0 j = a 0 j) ∧ (a 0 7).toInt ≤ (a' 0 7).toInt ∧ (a' 0 7).toInt ≤ N) ∧ a' 0 8 = a 0 8 ∧ ((a' 0 7).toInt = (a 0 7).toInt ∨ (a' 0 7).toInt = (a 0 7).toInt + 1))) ∧ ∃ x : Int32, v9 = some (.inl x) ∧ ((x.toInt = 1 ∧ (a' 0 7).toInt = (a 0 7).toInt + 1 ∧ (a 0 8).toInt = 0) ∨ (x.toInt = 0 ∧ (a' 0 7).toInt = (a 0 7).toInt))) := by
  refine f_call_of (d0 := 1) rfl (Nat.le_of_ble_eq_true rfl) (fun d hd => ?_)
  show f_wp _ (0, [some (.inr (.inr (some 0))), some (.inl c), none], [], mH a b) _
  have l0 : (0 : Int32).toInt = 0 := rfl
  have l1 : (1 : Int32).toInt = 1 := rfl
  have z7 : 0 ≤ (a 0 7).toInt ∧ (a 0 7).toInt ≤ 1000 := hR 0 7
  have z8 : 0 ≤ (a 0 8).toInt ∧ (a 0 8).toInt ≤ 2147483647 := hR 0 8
  refine w_aload rfl rfl ?_
  refine w_iload rfl rfl ?_
  refine w_invV (rest := []) rfl rfl rfl rfl rfl (Nat.le_of_ble_eq_true rfl) rfl (by omega) (s_isWord (K := K) a b  c hR (by omega)) (fun v1 h9 hq2 => ?_)
  obtain ⟨rfl, x3, rfl, px3⟩ := hq2
  show f_wp _ (5, [some (.inr (.inr (some 0))), some (.inl c), none], [.inl x3], mH a b) _
  refine w_istore (lo' := [some (.inr (.inr (some 0))), some (.inl c), some (.inl x3)]) rfl rfl ?_
  refine w_aload rfl rfl ?_
  refine w_dup rfl rfl ?_
  refine w_getI (v := .inl (a 0 7)) rfl rfl rfl rfl rfl ?_
  have q4 : 0 ≤ (a 0 7).toInt ∧ (a 0 7).toInt ≤ 1000 := hR 0 7
  refine w_iload rfl rfl ?_
  refine w_if_eq rfl (fun c5 => ?_) (fun c5 => ?_)
  · skip
    refine w_const rfl ?_
    first | refine w_iadd rfl (by omega) (fun x6 tx6 => ?_) | refine w_iiU rfl (fun x6 tx6 => ?_)
    refine m_putI (z := false) rfl rfl rfl rfl (by first | (intro h9; cases h9; done) | (intro _; first | exact Or.inl rfl | exact Or.inr rfl | assumption)) (fun a7 ea7 => ?_)
    have ha7 : RM K a7 := RM.up hR ea7 (show (0 : Int) ≤ _ ∧ _ ≤ (1000 : Int) from by omega)
    have ua7_7 : a7 0 7 = x6 := by rw [ea7, mU_same]
    have wa7_7 := congrArg Int32.toInt ua7_7
    refine w_iload rfl rfl ?_
    exact wp_iret (z := true) rfl (fun _ => by first | exact Or.inl rfl | exact Or.inr rfl | (rcases (by omega : x3.toInt = 0 ∨ x3.toInt = 1) with h8 | h8; exact Or.inl (ti_eq h8); exact Or.inr (ti_eq h8))) ⟨a7, rfl, ha7, ⟨FR.up (FR.rf) (by decide) ea7, ⟨⟨fun j h7 _ => by rw [ea7, mU_slot h7], by rw [ea7, mU_same]; omega, by rw [ea7, mU_same]; omega⟩, by rw [ea7, mU_slot (by decide)], by rw [ea7, mU_same]; omega⟩⟩, ⟨_, rfl, by rw [ea7, mU_same]; omega⟩⟩
  · skip
    have y9 := TK.lt hT z7.1 (by omega)
    refine w_const rfl ?_
    refine w_goto rfl ?_
    first | refine w_iadd rfl (by omega) (fun x8 tx8 => ?_) | refine w_iiU rfl (fun x8 tx8 => ?_)
    refine m_putI (z := false) rfl rfl rfl rfl (by first | (intro h9; cases h9; done) | (intro _; first | exact Or.inl rfl | exact Or.inr rfl | assumption)) (fun a9 ea9 => ?_)
    have ha9 : RM K a9 := RM.up hR ea9 (show (0 : Int) ≤ _ ∧ _ ≤ (1000 : Int) from by omega)
    have ua9_7 : a9 0 7 = x8 := by rw [ea9, mU_same]
    have wa9_7 := congrArg Int32.toInt ua9_7
    refine w_iload rfl rfl ?_
    exact wp_iret (z := true) rfl (fun _ => by first | exact Or.inl rfl | exact Or.inr rfl | (rcases (by omega : x3.toInt = 0 ∨ x3.toInt = 1) with h8 | h8; exact Or.inl (ti_eq h8); exact Or.inr (ti_eq h8))) ⟨a9, rfl, ha9, ⟨FR.up (FR.rf) (by decide) ea9, ⟨⟨fun j h7 _ => by rw [ea9, mU_slot h7], by rw [ea9, mU_same]; omega, by rw [ea9, mU_same]; omega⟩, by rw [ea9, mU_slot (by decide)], by rw [ea9, mU_same]; omega⟩⟩, ⟨_, rfl, by rw [ea9, mU_same]; omega⟩⟩
