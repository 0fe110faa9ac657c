set_option maxRecDepth 4000 in
theorem s_keeps {K : Nat} (a : Nat → Nat → Int32) (b : Nat → Nat → Int64)  (hR : RM K a)  : f_call mtM 2 40 [.inr (.inr (some 0))] (mH a b) (fun v9 h' => ∃ (a' : Nat → Nat → Int32) (b' : Nat → Nat → Int64), h' = mH a' b' ∧ RM K a' ∧ (FR [0, 15] a a' ∧ (ACA a → ACA a') ∧ ((∀ j, j < 60 → a' 15 j = a 15 j) ∧ (∀ j, 1260 ≤ j → a' 15 j = a 15 j) ∧ (∀ j, j ≠ 23 → a' 0 j = a 0 j))) ∧ v9 = none) := by
  refine f_call_of (d0 := 1) rfl (Nat.le_of_ble_eq_true rfl) (fun d hd => ?_)
  show f_wp _ (0, [some (.inr (.inr (some 0))), none], [], mH a b) _
  have l0 : (0 : Int32).toInt = 0 := rfl
  have l1 : (1 : Int32).toInt = 1 := rfl
  have l5 : (5 : Int32).toInt = 5 := rfl
  have l16 : (16 : Int32).toInt = 16 := rfl
  have l19 : (19 : Int32).toInt = 19 := rfl
  have l60 : (60 : Int32).toInt = 60 := rfl
  refine w_aload rfl rfl ?_
  refine w_getI (v := .inl (a 0 23)) rfl rfl rfl rfl rfl ?_
  have q1 : 0 ≤ (a 0 23).toInt ∧ (a 0 23).toInt ≤ 16 := hR 0 23
  refine w_const rfl ?_
  refine w_ic_ne rfl (fun c2 => ?_) (fun c2 => ?_)
  · skip
    refine w_const rfl ?_
    refine w_istore (lo' := [some (.inr (.inr (some 0))), some (.inl 1)]) rfl rfl ?_
    have loop11 : ∀ (ms9 : Nat) (k : Int32) (a11 : Nat → Nat → Int32) (b11 : Nat → Nat → Int64) , (16 - k.toInt).toNat = ms9 → RM K a11 → FR [0, 15] a a11 → (ACA a → ACA a11) → (1 ≤ k.toInt ∧ k.toInt ≤ 16) → ((∀ j, j < 60 → a11 15 j = a 15 j) ∧ (∀ j, 1260 ≤ j → a11 15 j = a 15 j) ∧ a11 0 = a 0) → f_wp (f_code (t_X13_keeps (f_ev mtM d))) (11, [some (.inr (.inr (some 0))), some (.inl k)], [], mH a11 b11) (fun v9 h' => ∃ (a' : Nat → Nat → Int32) (b' : Nat → Nat → Int64), h' = mH a' b' ∧ RM K a' ∧ (FR [0, 15] a a' ∧ (ACA a → ACA a') ∧ ((∀ j, j < 60 → a' 15 j = a 15 j) ∧ (∀ j, 1260 ≤ j → a' 15 j = a 15 j) ∧ (∀ j, j ≠ 23 → a' 0 j = a 0 j))) ∧ v9 = none) := by
      intro ms9
      induction ms9 using Nat.strongRecOn with
      | _ ms11 ih11 =>
        intro k a11 b11  hm11 hR11 hF11 hC11 hk hS
        have z9 : (a11 0 23).toInt = (a 0 23).toInt := by rw [hS.2.2]
        refine w_iload rfl rfl ?_
        refine w_const rfl ?_
        refine w_ic_ge rfl (fun c3 => ?_) (fun c3 => ?_)
        · skip
          refine w_aload rfl rfl ?_
          refine w_dup rfl rfl ?_
          refine w_getI (v := .inl (a11 0 23)) rfl rfl rfl rfl rfl ?_
          have q4 : 0 ≤ (a11 0 23).toInt ∧ (a11 0 23).toInt ≤ 16 := hR11 0 23
          refine w_const rfl ?_
          first | refine w_isub rfl (by omega) (fun x5 tx5 => ?_) | refine w_iiU rfl (fun x5 tx5 => ?_)
          refine m_putI (z := false) rfl rfl rfl rfl (by first | (intro h9; cases h9; done) | (intro _; first | exact Or.inl rfl | exact Or.inr rfl | assumption)) (fun a6 ea6 => ?_)
          have ha6 : RM K a6 := RM.up hR11 ea6 (show (0 : Int) ≤ _ ∧ _ ≤ (16 : Int) from by omega)
          have ua6_23 : a6 0 23 = x5 := by rw [ea6, mU_same]
          have wa6_23 := congrArg Int32.toInt ua6_23
          refine w_aload rfl rfl ?_
          refine w_const rfl ?_
          refine w_const rfl ?_
          refine w_const rfl ?_
          refine w_aload rfl rfl ?_
          refine w_getI (v := .inl (a6 0 23)) rfl rfl rfl rfl rfl ?_
          have q7 : 0 ≤ (a6 0 23).toInt ∧ (a6 0 23).toInt ≤ 16 := ha6 0 23
          first | refine w_iadd rfl (by omega) (fun x8 tx8 => ?_) | refine w_iiU rfl (fun x8 tx8 => ?_)
          first | refine w_imul rfl (c := 60) rfl (by omega) (fun x9 tx9 => ?_) | refine w_iiU rfl (fun x9 tx9 => ?_)
          refine w_const rfl ?_
          refine w_invV (rest := []) rfl rfl rfl rfl rfl (Nat.le_of_ble_eq_true rfl) rfl (by omega) (s_copies (K := K) a6 b11  0 x9 19 ha6 (by omega) (by omega) (by omega)) (fun v10 h9 hq11 => ?_)
          obtain ⟨a12, b13, rfl, ha12, fa12, rfl⟩ := hq11
          have ua12_23 : (a12 0 23).toInt = (a6 0 23).toInt := by rw [fa12.1 0 (by decide)]
          show f_wp _ (69, [some (.inr (.inr (some 0))), some (.inl k)], [], mH a12 b13) _
          refine w_aload rfl rfl ?_
          refine w_dup rfl rfl ?_
          refine w_getI (v := .inl (a12 0 23)) rfl rfl rfl rfl rfl ?_
          have q14 : 0 ≤ (a12 0 23).toInt ∧ (a12 0 23).toInt ≤ 16 := ha12 0 23
          refine w_const rfl ?_
          first | refine w_iadd rfl (by omega) (fun x15 tx15 => ?_) | refine w_iiU rfl (fun x15 tx15 => ?_)
          refine m_putI (z := false) rfl rfl rfl rfl (by first | (intro h9; cases h9; done) | (intro _; first | exact Or.inl rfl | exact Or.inr rfl | assumption)) (fun a16 ea16 => ?_)
          have ha16 : RM K a16 := RM.up ha12 ea16 (show (0 : Int) ≤ _ ∧ _ ≤ (16 : Int) from by omega)
          have ua16_23 : a16 0 23 = x15 := by rw [ea16, mU_same]
          have wa16_23 := congrArg Int32.toInt ua16_23
          exact w_ret rfl ⟨a16, b13, rfl, ha16, ⟨FR.up (FR.tr (FR.up (hF11) (by decide) ea6) (FR.sub fa12.1 (by decide))) (by decide) ea16, fun h7 => ACA.up ((fun h7 => fa12.2.1 ((fun h7 => ACA.up ((hC11) h7) ea6 (by decide)) h7)) h7) ea16 (by decide), ⟨fun j hj => by rw [ea16, mU_cell (by decide), fa12.2.2 j, if_neg (by omega), ea6, mU_cell (by decide)]; exact hS.1 j hj, fun j hj => by rw [ea16, mU_cell (by decide), fa12.2.2 j, if_neg (by omega), ea6, mU_cell (by decide)]; exact hS.2.1 j hj, fun j hj => by rw [ea16, mU_slot hj, fa12.1 0 (by decide), ea6, mU_slot hj, hS.2.2]⟩⟩, rfl⟩
        · skip
          refine w_aload rfl rfl ?_
          refine w_const rfl ?_
          refine w_const rfl ?_
          refine w_iload rfl rfl ?_
          first | refine w_iadd rfl (by omega) (fun x17 tx17 => ?_) | refine w_iiU rfl (fun x17 tx17 => ?_)
          first | refine w_imul rfl (c := 60) rfl (by omega) (fun x18 tx18 => ?_) | refine w_iiU rfl (fun x18 tx18 => ?_)
          refine w_const rfl ?_
          refine w_const rfl ?_
          refine w_iload rfl rfl ?_
          first | refine w_iadd rfl (by omega) (fun x19 tx19 => ?_) | refine w_iiU rfl (fun x19 tx19 => ?_)
          refine w_const rfl ?_
          first | refine w_isub rfl (by omega) (fun x20 tx20 => ?_) | refine w_iiU rfl (fun x20 tx20 => ?_)
          first | refine w_imul rfl (c := 60) rfl (by omega) (fun x21 tx21 => ?_) | refine w_iiU rfl (fun x21 tx21 => ?_)
          refine w_const rfl ?_
          refine w_invV (rest := []) rfl rfl rfl rfl rfl (Nat.le_of_ble_eq_true rfl) rfl (by omega) (s_copies (K := K) a11 b11  x18 x21 19 hR11 (by omega) (by omega) (by omega)) (fun v22 h9 hq23 => ?_)
          obtain ⟨a24, b25, rfl, ha24, fa24, rfl⟩ := hq23
          have ua24_23 : (a24 0 23).toInt = (a11 0 23).toInt := by rw [fa24.1 0 (by decide)]
          show f_wp _ (37, [some (.inr (.inr (some 0))), some (.inl k)], [], mH a24 b25) _
          refine w_iinc (lo' := fun z9 => [some (.inr (.inr (some 0))), some (.inl z9)]) rfl rfl (fun _ => rfl) (by omega) (fun x26 tx26 => ?_)
          refine w_goto rfl ?_
          exact ih11 (16 - x26.toInt).toNat (by omega) x26 a24 b25 rfl ha24 (FR.tr (hF11) (FR.sub fa24.1 (by decide))) (fun h7 => fa24.2.1 ((hC11) h7)) (by omega) (⟨fun j hj => by rw [fa24.2.2 j, if_neg (by omega)]; exact hS.1 j hj, fun j hj => by rw [fa24.2.2 j, if_neg (by omega)]; exact hS.2.1 j hj, by rw [fa24.1 0 (by decide)]; exact hS.2.2⟩)
    exact loop11 _ 1 a b rfl hR (FR.rf) (id) (by omega) (⟨fun _ _ => rfl, fun _ _ => rfl, rfl⟩)
  · skip
    refine w_aload rfl rfl ?_
    refine w_const rfl ?_
    refine w_const rfl ?_
    refine w_const rfl ?_
    refine w_aload rfl rfl ?_
    refine w_getI (v := .inl (a 0 23)) rfl rfl rfl rfl rfl ?_
    have q27 : 0 ≤ (a 0 23).toInt ∧ (a 0 23).toInt ≤ 16 := hR 0 23
    first | refine w_iadd rfl (by omega) (fun x28 tx28 => ?_) | refine w_iiU rfl (fun x28 tx28 => ?_)
    first | refine w_imul rfl (c := 60) rfl (by omega) (fun x29 tx29 => ?_) | refine w_iiU rfl (fun x29 tx29 => ?_)
    refine w_const rfl ?_
    refine w_invV (rest := []) rfl rfl rfl rfl rfl (Nat.le_of_ble_eq_true rfl) rfl (by omega) (s_copies (K := K) a b  0 x29 19 hR (by omega) (by omega) (by omega)) (fun v30 h9 hq31 => ?_)
    obtain ⟨a32, b33, rfl, ha32, fa32, rfl⟩ := hq31
    have ua32_23 : (a32 0 23).toInt = (a 0 23).toInt := by rw [fa32.1 0 (by decide)]
    show f_wp _ (69, [some (.inr (.inr (some 0))), none], [], mH a32 b33) _
    refine w_aload rfl rfl ?_
    refine w_dup rfl rfl ?_
    refine w_getI (v := .inl (a32 0 23)) rfl rfl rfl rfl rfl ?_
    have q34 : 0 ≤ (a32 0 23).toInt ∧ (a32 0 23).toInt ≤ 16 := ha32 0 23
    refine w_const rfl ?_
    first | refine w_iadd rfl (by omega) (fun x35 tx35 => ?_) | refine w_iiU rfl (fun x35 tx35 => ?_)
    refine m_putI (z := false) rfl rfl rfl rfl (by first | (intro h9; cases h9; done) | (intro _; first | exact Or.inl rfl | exact Or.inr rfl | assumption)) (fun a36 ea36 => ?_)
    have ha36 : RM K a36 := RM.up ha32 ea36 (show (0 : Int) ≤ _ ∧ _ ≤ (16 : Int) from by omega)
    have ua36_23 : a36 0 23 = x35 := by rw [ea36, mU_same]
    have wa36_23 := congrArg Int32.toInt ua36_23
    exact w_ret rfl ⟨a36, b33, rfl, ha36, ⟨FR.up (FR.tr (FR.rf) (FR.sub fa32.1 (by decide))) (by decide) ea36, fun h7 => ACA.up ((fun h7 => fa32.2.1 ((id) h7)) h7) ea36 (by decide), ⟨fun j hj => by rw [ea36, mU_cell (by decide), fa32.2.2 j, if_neg (by omega)], fun j hj => by rw [ea36, mU_cell (by decide), fa32.2.2 j, if_neg (by omega)], fun j hj => by rw [ea36, mU_slot hj, fa32.1 0 (by decide)]⟩⟩, rfl⟩
set_option maxRecDepth 4000 in
theorem s_undo {K : Nat} (a : Nat → Nat → Int32) (b : Nat → Nat → Int64)  (hR : RM K a)  : f_call mtM 2 77 [.inr (.inr (some 0))] (mH a b) (fun v9 h' => ∃ (a' : Nat → Nat → Int32) (b' : Nat → Nat → Int64), h' = mH a' b' ∧ RM K a' ∧ (FR [0, 15] a a' ∧ (ACA a → ACA a') ∧ True) ∧ ∃ x : Int32, v9 = some (.inl x) ∧ (x.toInt = 0 ∨ x.toInt = 1)) := by
  refine f_call_of (d0 := 1) rfl (Nat.le_of_ble_eq_true rfl) (fun d hd => ?_)
  show f_wp _ (0, [some (.inr (.inr (some 0)))], [], mH a b) _
  have l0 : (0 : Int32).toInt = 0 := rfl
  have l1 : (1 : Int32).toInt = 1 := rfl
  have l5 : (5 : Int32).toInt = 5 := rfl
  have l19 : (19 : Int32).toInt = 19 := rfl
  have l60 : (60 : Int32).toInt = 60 := rfl
  refine w_aload rfl rfl ?_
  refine w_const rfl ?_
  refine m_putI (z := false) rfl rfl rfl rfl (by first | (intro h9; cases h9; done) | (intro _; first | exact Or.inl rfl | exact Or.inr rfl | assumption)) (fun a1 ea1 => ?_)
  have ha1 : RM K a1 := RM.up hR ea1 ⟨ti_lo _, ti_hi _⟩
  have ua1_0 : a1 0 0 = (0 : Int32) := by rw [ea1, mU_same]
  have wa1_0 := congrArg Int32.toInt ua1_0
  refine w_aload rfl rfl ?_
  refine w_getI (v := .inl (a1 0 23)) rfl rfl rfl rfl rfl ?_
  have q2 : 0 ≤ (a1 0 23).toInt ∧ (a1 0 23).toInt ≤ 16 := ha1 0 23
  refine w_if_ne rfl (fun c3 => ?_) (fun c3 => ?_)
  · skip
    refine w_const rfl ?_
    exact wp_iret (z := true) rfl (fun _ => by first | exact Or.inl rfl | exact Or.inr rfl | (rcases (by omega : (0 : Int32).toInt = 0 ∨ (0 : Int32).toInt = 1) with h8 | h8; exact Or.inl (ti_eq h8); exact Or.inr (ti_eq h8))) ⟨a1, b, rfl, ha1, ⟨FR.up (FR.rf) (by decide) ea1, fun h7 => ACA.up ((id) h7) ea1 (by decide), trivial⟩, ⟨_, rfl, by omega⟩⟩
  · skip
    refine w_aload rfl rfl ?_
    refine w_dup rfl rfl ?_
    refine w_getI (v := .inl (a1 0 23)) rfl rfl rfl rfl rfl ?_
    have q4 : 0 ≤ (a1 0 23).toInt ∧ (a1 0 23).toInt ≤ 16 := ha1 0 23
    refine w_const rfl ?_
    first | refine w_isub rfl (by omega) (fun x5 tx5 => ?_) | refine w_iiU rfl (fun x5 tx5 => ?_)
    refine m_putI (z := false) rfl rfl rfl rfl (by first | (intro h9; cases h9; done) | (intro _; first | exact Or.inl rfl | exact Or.inr rfl | assumption)) (fun a6 ea6 => ?_)
    have ha6 : RM K a6 := RM.up ha1 ea6 (show (0 : Int) ≤ _ ∧ _ ≤ (16 : Int) from by omega)
    have ua6_23 : a6 0 23 = x5 := by rw [ea6, mU_same]
    have wa6_23 := congrArg Int32.toInt ua6_23
    refine w_aload rfl rfl ?_
    refine w_const rfl ?_
    refine w_const rfl ?_
    refine w_aload rfl rfl ?_
    refine w_getI (v := .inl (a6 0 23)) rfl rfl rfl rfl rfl ?_
    have q7 : 0 ≤ (a6 0 23).toInt ∧ (a6 0 23).toInt ≤ 16 := ha6 0 23
    first | refine w_iadd rfl (by omega) (fun x8 tx8 => ?_) | refine w_iiU rfl (fun x8 tx8 => ?_)
    first | refine w_imul rfl (c := 60) rfl (by omega) (fun x9 tx9 => ?_) | refine w_iiU rfl (fun x9 tx9 => ?_)
    refine w_const rfl ?_
    refine w_const rfl ?_
    refine w_invV (rest := []) rfl rfl rfl rfl rfl (Nat.le_of_ble_eq_true rfl) rfl (by omega) (s_copies (K := K) a6 b  x9 0 19 ha6 (by omega) (by omega) (by omega)) (fun v10 h9 hq11 => ?_)
    obtain ⟨a12, b13, rfl, ha12, fa12, rfl⟩ := hq11
    have ua12_23 : (a12 0 23).toInt = (a6 0 23).toInt := by rw [fa12.1 0 (by decide)]
    show f_wp _ (40, [some (.inr (.inr (some 0)))], [], mH a12 b13) _
    refine w_const rfl ?_
    exact wp_iret (z := true) rfl (fun _ => by first | exact Or.inl rfl | exact Or.inr rfl | (rcases (by omega : (1 : Int32).toInt = 0 ∨ (1 : Int32).toInt = 1) with h8 | h8; exact Or.inl (ti_eq h8); exact Or.inr (ti_eq h8))) ⟨a12, b13, rfl, ha12, ⟨FR.tr (FR.up (FR.up (FR.rf) (by decide) ea1) (by decide) ea6) (FR.sub fa12.1 (by decide)), fun h7 => fa12.2.1 ((fun h7 => ACA.up ((fun h7 => ACA.up ((id) h7) ea1 (by decide)) h7) ea6 (by decide)) h7), trivial⟩, ⟨_, rfl, by omega⟩⟩
set_option maxRecDepth 4000 in
theorem s_mark {K : Nat} (a : Nat → Nat → Int32) (b : Nat → Nat → Int64) (m : Int32) (bk : Int32) (hR : RM K a) (hbk : bk.toInt = 0 ∨ bk.toInt = 1) : f_call mtM 2 112 [.inr (.inr (some 0)), .inl m, .inl bk] (mH a b) (fun v9 h' => ∃ (a' : Nat → Nat → Int32) (b' : Nat → Nat → Int64), h' = mH a' b' ∧ RM K a' ∧ (FR [0, 15, 16] a a' ∧ (ACA a → ACA a') ∧ True) ∧ ∃ x : Int32, v9 = some (.inl x) ∧ (x.toInt = 0 ∨ x.toInt = 1)) := by
  refine f_call_of (d0 := 1) rfl (Nat.le_of_ble_eq_true rfl) (fun d hd => ?_)
  show f_wp _ (0, [some (.inr (.inr (some 0))), some (.inl m), some (.inl bk)], [], mH a b) _
  have l0 : (0 : Int32).toInt = 0 := rfl
  have l1 : (1 : Int32).toInt = 1 := rfl
  have l3 : (3 : Int32).toInt = 3 := rfl
  have l60 : (60 : Int32).toInt = 60 := rfl
  refine w_aload rfl rfl ?_
  refine w_const rfl ?_
  refine m_putI (z := false) rfl rfl rfl rfl (by first | (intro h9; cases h9; done) | (intro _; first | exact Or.inl rfl | exact Or.inr rfl | assumption)) (fun a1 ea1 => ?_)
  have ha1 : RM K a1 := RM.up hR ea1 ⟨ti_lo _, ti_hi _⟩
  have ua1_0 : a1 0 0 = (0 : Int32) := by rw [ea1, mU_same]
  have wa1_0 := congrArg Int32.toInt ua1_0
  refine w_iload rfl rfl ?_
  refine w_const rfl ?_
  refine w_const rfl ?_
  refine w_invS (rest := []) rfl (Nat.le_of_ble_eq_true rfl) rfl (Nat.le_of_ble_eq_true rfl) rfl (by omega) (s_within (K := K) a1 b  m 0 3  ) (fun v2 h9 hq3 => ?_)
  obtain ⟨rfl, x4, rfl, px4⟩ := hq3
  show f_wp _ (11, [some (.inr (.inr (some 0))), some (.inl m), some (.inl bk)], [.inl x4], mH a1 b) _
  refine w_if_eq rfl (fun c5 => ?_) (fun c5 => ?_)
  · skip
    refine w_const rfl ?_
    exact wp_iret (z := true) rfl (fun _ => by first | exact Or.inl rfl | exact Or.inr rfl | (rcases (by omega : (0 : Int32).toInt = 0 ∨ (0 : Int32).toInt = 1) with h8 | h8; exact Or.inl (ti_eq h8); exact Or.inr (ti_eq h8))) ⟨a1, b, rfl, ha1, ⟨FR.up (FR.rf) (by decide) ea1, fun h7 => ACA.up ((id) h7) ea1 (by decide), trivial⟩, ⟨_, rfl, by omega⟩⟩
  · skip
    refine w_iload rfl rfl ?_
    refine w_if_eq rfl (fun c6 => ?_) (fun c6 => ?_)
    · skip
      refine w_aload rfl rfl ?_
      refine w_getR (v := .inr (.inr (some 16))) rfl rfl rfl rfl rfl ?_
      refine w_iload rfl rfl ?_
      refine w_const rfl ?_
      refine m_bast rfl rfl (by omega) (fun a7 ea7 => ?_)
      have ha7 : RM K a7 := RM.up ha1 ea7 (ti_nz _)
      refine w_aload rfl rfl ?_
      refine w_iload rfl rfl ?_
      refine w_if_eq rfl (fun c8 => ?_) (fun c8 => ?_)
      · skip
        refine w_const rfl ?_
        refine w_iload rfl rfl ?_
        refine w_if_eq rfl (fun c9 => ?_) (fun c9 => ?_)
        · skip
          refine w_const rfl ?_
          refine w_const rfl ?_
          refine w_iload rfl rfl ?_
          first | refine w_iadd rfl (by omega) (fun x10 tx10 => ?_) | refine w_iiU rfl (fun x10 tx10 => ?_)
          first | refine w_imul rfl (c := 60) rfl (by omega) (fun x11 tx11 => ?_) | refine w_iiU rfl (fun x11 tx11 => ?_)
          refine w_const rfl ?_
          refine w_invV (rest := []) rfl rfl rfl rfl rfl (Nat.le_of_ble_eq_true rfl) rfl (by omega) (s_copies (K := K) a7 b  0 x11 60 ha7 (by omega) (by omega) (by omega)) (fun v12 h9 hq13 => ?_)
          obtain ⟨a14, b15, rfl, ha14, fa14, rfl⟩ := hq13
          show f_wp _ (70, [some (.inr (.inr (some 0))), some (.inl m), some (.inl bk)], [], mH a14 b15) _
          refine w_aload rfl rfl ?_
          refine w_iload rfl rfl ?_
          refine w_if_eq rfl (fun c16 => ?_) (fun c16 => ?_)
          · skip
            refine w_aload rfl rfl ?_
            refine w_getI (v := .inl (a14 0 23)) rfl rfl rfl rfl rfl ?_
            have q17 : 0 ≤ (a14 0 23).toInt ∧ (a14 0 23).toInt ≤ 16 := ha14 0 23
            refine m_putI (z := false) rfl rfl rfl rfl (by first | (intro h9; cases h9; done) | (intro _; first | exact Or.inl rfl | exact Or.inr rfl | assumption)) (fun a18 ea18 => ?_)
            have ha18 : RM K a18 := RM.up ha14 ea18 (show (0 : Int) ≤ _ ∧ _ ≤ (16 : Int) from by omega)
            have ua18_23 : a18 0 23 = (a14 0 23) := by rw [ea18, mU_same]
            have wa18_23 := congrArg Int32.toInt ua18_23
            refine w_const rfl ?_
            exact wp_iret (z := true) rfl (fun _ => by first | exact Or.inl rfl | exact Or.inr rfl | (rcases (by omega : (1 : Int32).toInt = 0 ∨ (1 : Int32).toInt = 1) with h8 | h8; exact Or.inl (ti_eq h8); exact Or.inr (ti_eq h8))) ⟨a18, b15, rfl, ha18, ⟨FR.up (FR.tr (FR.up (FR.up (FR.rf) (by decide) ea1) (by decide) ea7) (FR.sub fa14.1 (by decide))) (by decide) ea18, fun h7 => ACA.up ((fun h7 => fa14.2.1 ((fun h7 => ACA.up ((fun h7 => ACA.up ((id) h7) ea1 (by decide)) h7) ea7 (by decide)) h7)) h7) ea18 (by decide), trivial⟩, ⟨_, rfl, by omega⟩⟩
          · skip
            refine w_const rfl ?_
            refine w_goto rfl ?_
            refine m_putI (z := false) rfl rfl rfl rfl (by first | (intro h9; cases h9; done) | (intro _; first | exact Or.inl rfl | exact Or.inr rfl | assumption)) (fun a19 ea19 => ?_)
            have ha19 : RM K a19 := RM.up ha14 ea19 (show (0 : Int) ≤ _ ∧ _ ≤ (16 : Int) from by omega)
            have ua19_23 : a19 0 23 = (0 : Int32) := by rw [ea19, mU_same]
            have wa19_23 := congrArg Int32.toInt ua19_23
            refine w_const rfl ?_
            exact wp_iret (z := true) rfl (fun _ => by first | exact Or.inl rfl | exact Or.inr rfl | (rcases (by omega : (1 : Int32).toInt = 0 ∨ (1 : Int32).toInt = 1) with h8 | h8; exact Or.inl (ti_eq h8); exact Or.inr (ti_eq h8))) ⟨a19, b15, rfl, ha19, ⟨FR.up (FR.tr (FR.up (FR.up (FR.rf) (by decide) ea1) (by decide) ea7) (FR.sub fa14.1 (by decide))) (by decide) ea19, fun h7 => ACA.up ((fun h7 => fa14.2.1 ((fun h7 => ACA.up ((fun h7 => ACA.up ((id) h7) ea1 (by decide)) h7) ea7 (by decide)) h7)) h7) ea19 (by decide), trivial⟩, ⟨_, rfl, by omega⟩⟩
        · skip
          refine w_const rfl ?_
          refine w_goto rfl ?_
          refine w_const rfl ?_
          refine w_invV (rest := []) rfl rfl rfl rfl rfl (Nat.le_of_ble_eq_true rfl) rfl (by omega) (s_copies (K := K) a7 b  0 0 60 ha7 (by omega) (by omega) (by omega)) (fun v20 h9 hq21 => ?_)
          obtain ⟨a22, b23, rfl, ha22, fa22, rfl⟩ := hq21
          show f_wp _ (70, [some (.inr (.inr (some 0))), some (.inl m), some (.inl bk)], [], mH a22 b23) _
          refine w_aload rfl rfl ?_
          refine w_iload rfl rfl ?_
          refine w_if_eq rfl (fun c24 => ?_) (fun c24 => ?_)
          · skip
            refine w_aload rfl rfl ?_
            refine w_getI (v := .inl (a22 0 23)) rfl rfl rfl rfl rfl ?_
            have q25 : 0 ≤ (a22 0 23).toInt ∧ (a22 0 23).toInt ≤ 16 := ha22 0 23
            refine m_putI (z := false) rfl rfl rfl rfl (by first | (intro h9; cases h9; done) | (intro _; first | exact Or.inl rfl | exact Or.inr rfl | assumption)) (fun a26 ea26 => ?_)
            have ha26 : RM K a26 := RM.up ha22 ea26 (show (0 : Int) ≤ _ ∧ _ ≤ (16 : Int) from by omega)
            have ua26_23 : a26 0 23 = (a22 0 23) := by rw [ea26, mU_same]
            have wa26_23 := congrArg Int32.toInt ua26_23
            refine w_const rfl ?_
            exact wp_iret (z := true) rfl (fun _ => by first | exact Or.inl rfl | exact Or.inr rfl | (rcases (by omega : (1 : Int32).toInt = 0 ∨ (1 : Int32).toInt = 1) with h8 | h8; exact Or.inl (ti_eq h8); exact Or.inr (ti_eq h8))) ⟨a26, b23, rfl, ha26, ⟨FR.up (FR.tr (FR.up (FR.up (FR.rf) (by decide) ea1) (by decide) ea7) (FR.sub fa22.1 (by decide))) (by decide) ea26, fun h7 => ACA.up ((fun h7 => fa22.2.1 ((fun h7 => ACA.up ((fun h7 => ACA.up ((id) h7) ea1 (by decide)) h7) ea7 (by decide)) h7)) h7) ea26 (by decide), trivial⟩, ⟨_, rfl, by omega⟩⟩
          · skip
            refine w_const rfl ?_
            refine w_goto rfl ?_
            refine m_putI (z := false) rfl rfl rfl rfl (by first | (intro h9; cases h9; done) | (intro _; first | exact Or.inl rfl | exact Or.inr rfl | assumption)) (fun a27 ea27 => ?_)
            have ha27 : RM K a27 := RM.up ha22 ea27 (show (0 : Int) ≤ _ ∧ _ ≤ (16 : Int) from by omega)
            have ua27_23 : a27 0 23 = (0 : Int32) := by rw [ea27, mU_same]
            have wa27_23 := congrArg Int32.toInt ua27_23
            refine w_const rfl ?_
            exact wp_iret (z := true) rfl (fun _ => by first | exact Or.inl rfl | exact Or.inr rfl | (rcases (by omega : (1 : Int32).toInt = 0 ∨ (1 : Int32).toInt = 1) with h8 | h8; exact Or.inl (ti_eq h8); exact Or.inr (ti_eq h8))) ⟨a27, b23, rfl, ha27, ⟨FR.up (FR.tr (FR.up (FR.up (FR.rf) (by decide) ea1) (by decide) ea7) (FR.sub fa22.1 (by decide))) (by decide) ea27, fun h7 => ACA.up ((fun h7 => fa22.2.1 ((fun h7 => ACA.up ((fun h7 => ACA.up ((id) h7) ea1 (by decide)) h7) ea7 (by decide)) h7)) h7) ea27 (by decide), trivial⟩, ⟨_, rfl, by omega⟩⟩
      · skip
        refine w_const rfl ?_
        refine w_const rfl ?_
        refine w_iload rfl rfl ?_
        first | refine w_iadd rfl (by omega) (fun x28 tx28 => ?_) | refine w_iiU rfl (fun x28 tx28 => ?_)
        first | refine w_imul rfl (c := 60) rfl (by omega) (fun x29 tx29 => ?_) | refine w_iiU rfl (fun x29 tx29 => ?_)
        refine w_goto rfl ?_
        refine w_iload rfl rfl ?_
        refine w_if_eq rfl (fun c30 => ?_) (fun c30 => ?_)
        · skip
          refine w_const rfl ?_
          refine w_const rfl ?_
          refine w_iload rfl rfl ?_
          first | refine w_iadd rfl (by omega) (fun x31 tx31 => ?_) | refine w_iiU rfl (fun x31 tx31 => ?_)
          first | refine w_imul rfl (c := 60) rfl (by omega) (fun x32 tx32 => ?_) | refine w_iiU rfl (fun x32 tx32 => ?_)
          refine w_const rfl ?_
          refine w_invV (rest := []) rfl rfl rfl rfl rfl (Nat.le_of_ble_eq_true rfl) rfl (by omega) (s_copies (K := K) a7 b  x29 x32 60 ha7 (by omega) (by omega) (by omega)) (fun v33 h9 hq34 => ?_)
          obtain ⟨a35, b36, rfl, ha35, fa35, rfl⟩ := hq34
          show f_wp _ (70, [some (.inr (.inr (some 0))), some (.inl m), some (.inl bk)], [], mH a35 b36) _
          refine w_aload rfl rfl ?_
          refine w_iload rfl rfl ?_
          refine w_if_eq rfl (fun c37 => ?_) (fun c37 => ?_)
          · skip
            refine w_aload rfl rfl ?_
            refine w_getI (v := .inl (a35 0 23)) rfl rfl rfl rfl rfl ?_
            have q38 : 0 ≤ (a35 0 23).toInt ∧ (a35 0 23).toInt ≤ 16 := ha35 0 23
            refine m_putI (z := false) rfl rfl rfl rfl (by first | (intro h9; cases h9; done) | (intro _; first | exact Or.inl rfl | exact Or.inr rfl | assumption)) (fun a39 ea39 => ?_)
            have ha39 : RM K a39 := RM.up ha35 ea39 (show (0 : Int) ≤ _ ∧ _ ≤ (16 : Int) from by omega)
            have ua39_23 : a39 0 23 = (a35 0 23) := by rw [ea39, mU_same]
            have wa39_23 := congrArg Int32.toInt ua39_23
            refine w_const rfl ?_
            exact wp_iret (z := true) rfl (fun _ => by first | exact Or.inl rfl | exact Or.inr rfl | (rcases (by omega : (1 : Int32).toInt = 0 ∨ (1 : Int32).toInt = 1) with h8 | h8; exact Or.inl (ti_eq h8); exact Or.inr (ti_eq h8))) ⟨a39, b36, rfl, ha39, ⟨FR.up (FR.tr (FR.up (FR.up (FR.rf) (by decide) ea1) (by decide) ea7) (FR.sub fa35.1 (by decide))) (by decide) ea39, fun h7 => ACA.up ((fun h7 => fa35.2.1 ((fun h7 => ACA.up ((fun h7 => ACA.up ((id) h7) ea1 (by decide)) h7) ea7 (by decide)) h7)) h7) ea39 (by decide), trivial⟩, ⟨_, rfl, by omega⟩⟩
          · skip
            refine w_const rfl ?_
            refine w_goto rfl ?_
            refine m_putI (z := false) rfl rfl rfl rfl (by first | (intro h9; cases h9; done) | (intro _; first | exact Or.inl rfl | exact Or.inr rfl | assumption)) (fun a40 ea40 => ?_)
            have ha40 : RM K a40 := RM.up ha35 ea40 (show (0 : Int) ≤ _ ∧ _ ≤ (16 : Int) from by omega)
            have ua40_23 : a40 0 23 = (0 : Int32) := by rw [ea40, mU_same]
            have wa40_23 := congrArg Int32.toInt ua40_23
            refine w_const rfl ?_
            exact wp_iret (z := true) rfl (fun _ => by first | exact Or.inl rfl | exact Or.inr rfl | (rcases (by omega : (1 : Int32).toInt = 0 ∨ (1 : Int32).toInt = 1) with h8 | h8; exact Or.inl (ti_eq h8); exact Or.inr (ti_eq h8))) ⟨a40, b36, rfl, ha40, ⟨FR.up (FR.tr (FR.up (FR.up (FR.rf) (by decide) ea1) (by decide) ea7) (FR.sub fa35.1 (by decide))) (by decide) ea40, fun h7 => ACA.up ((fun h7 => fa35.2.1 ((fun h7 => ACA.up ((fun h7 => ACA.up ((id) h7) ea1 (by decide)) h7) ea7 (by decide)) h7)) h7) ea40 (by decide), trivial⟩, ⟨_, rfl, by omega⟩⟩
        · skip
          refine w_const rfl ?_
          refine w_goto rfl ?_
          refine w_const rfl ?_
          refine w_invV (rest := []) rfl rfl rfl rfl rfl (Nat.le_of_ble_eq_true rfl) rfl (by omega) (s_copies (K := K) a7 b  x29 0 60 ha7 (by omega) (by omega) (by omega)) (fun v41 h9 hq42 => ?_)
          obtain ⟨a43, b44, rfl, ha43, fa43, rfl⟩ := hq42
          show f_wp _ (70, [some (.inr (.inr (some 0))), some (.inl m), some (.inl bk)], [], mH a43 b44) _
          refine w_aload rfl rfl ?_
          refine w_iload rfl rfl ?_
          refine w_if_eq rfl (fun c45 => ?_) (fun c45 => ?_)
          · skip
            refine w_aload rfl rfl ?_
            refine w_getI (v := .inl (a43 0 23)) rfl rfl rfl rfl rfl ?_
            have q46 : 0 ≤ (a43 0 23).toInt ∧ (a43 0 23).toInt ≤ 16 := ha43 0 23
            refine m_putI (z := false) rfl rfl rfl rfl (by first | (intro h9; cases h9; done) | (intro _; first | exact Or.inl rfl | exact Or.inr rfl | assumption)) (fun a47 ea47 => ?_)
            have ha47 : RM K a47 := RM.up ha43 ea47 (show (0 : Int) ≤ _ ∧ _ ≤ (16 : Int) from by omega)
            have ua47_23 : a47 0 23 = (a43 0 23) := by rw [ea47, mU_same]
            have wa47_23 := congrArg Int32.toInt ua47_23
            refine w_const rfl ?_
            exact wp_iret (z := true) rfl (fun _ => by first | exact Or.inl rfl | exact Or.inr rfl | (rcases (by omega : (1 : Int32).toInt = 0 ∨ (1 : Int32).toInt = 1) with h8 | h8; exact Or.inl (ti_eq h8); exact Or.inr (ti_eq h8))) ⟨a47, b44, rfl, ha47, ⟨FR.up (FR.tr (FR.up (FR.up (FR.rf) (by decide) ea1) (by decide) ea7) (FR.sub fa43.1 (by decide))) (by decide) ea47, fun h7 => ACA.up ((fun h7 => fa43.2.1 ((fun h7 => ACA.up ((fun h7 => ACA.up ((id) h7) ea1 (by decide)) h7) ea7 (by decide)) h7)) h7) ea47 (by decide), trivial⟩, ⟨_, rfl, by omega⟩⟩
          · skip
            refine w_const rfl ?_
            refine w_goto rfl ?_
            refine m_putI (z := false) rfl rfl rfl rfl (by first | (intro h9; cases h9; done) | (intro _; first | exact Or.inl rfl | exact Or.inr rfl | assumption)) (fun a48 ea48 => ?_)
            have ha48 : RM K a48 := RM.up ha43 ea48 (show (0 : Int) ≤ _ ∧ _ ≤ (16 : Int) from by omega)
            have ua48_23 : a48 0 23 = (0 : Int32) := by rw [ea48, mU_same]
            have wa48_23 := congrArg Int32.toInt ua48_23
            refine w_const rfl ?_
            exact wp_iret (z := true) rfl (fun _ => by first | exact Or.inl rfl | exact Or.inr rfl | (rcases (by omega : (1 : Int32).toInt = 0 ∨ (1 : Int32).toInt = 1) with h8 | h8; exact Or.inl (ti_eq h8); exact Or.inr (ti_eq h8))) ⟨a48, b44, rfl, ha48, ⟨FR.up (FR.tr (FR.up (FR.up (FR.rf) (by decide) ea1) (by decide) ea7) (FR.sub fa43.1 (by decide))) (by decide) ea48, fun h7 => ACA.up ((fun h7 => fa43.2.1 ((fun h7 => ACA.up ((fun h7 => ACA.up ((id) h7) ea1 (by decide)) h7) ea7 (by decide)) h7)) h7) ea48 (by decide), trivial⟩, ⟨_, rfl, by omega⟩⟩
    · skip
      refine w_aload rfl rfl ?_
      refine w_getR (v := .inr (.inr (some 16))) rfl rfl rfl rfl rfl ?_
      refine w_iload rfl rfl ?_
      refine m_bald rfl rfl (by omega) (fun x49 ex49 => ?_)
      have qx49 : 0 ≤ x49.toInt ∧ x49.toInt ≤ 1 := by rw [ex49]; exact ha1 16 _
      refine w_if_ne rfl (fun c50 => ?_) (fun c50 => ?_)
      · skip
        refine w_const rfl ?_
        exact wp_iret (z := true) rfl (fun _ => by first | exact Or.inl rfl | exact Or.inr rfl | (rcases (by omega : (0 : Int32).toInt = 0 ∨ (0 : Int32).toInt = 1) with h8 | h8; exact Or.inl (ti_eq h8); exact Or.inr (ti_eq h8))) ⟨a1, b, rfl, ha1, ⟨FR.up (FR.rf) (by decide) ea1, fun h7 => ACA.up ((id) h7) ea1 (by decide), trivial⟩, ⟨_, rfl, by omega⟩⟩
      · skip
        refine w_aload rfl rfl ?_
        refine w_getR (v := .inr (.inr (some 16))) rfl rfl rfl rfl rfl ?_
        refine w_iload rfl rfl ?_
        refine w_const rfl ?_
        refine m_bast rfl rfl (by omega) (fun a51 ea51 => ?_)
        have ha51 : RM K a51 := RM.up ha1 ea51 (ti_nz _)
        refine w_aload rfl rfl ?_
        refine w_iload rfl rfl ?_
        refine w_if_eq rfl (fun c52 => ?_) (fun c52 => ?_)
        · skip
          refine w_const rfl ?_
          refine w_iload rfl rfl ?_
          refine w_if_eq rfl (fun c53 => ?_) (fun c53 => ?_)
          · skip
            refine w_const rfl ?_
            refine w_const rfl ?_
            refine w_iload rfl rfl ?_
            first | refine w_iadd rfl (by omega) (fun x54 tx54 => ?_) | refine w_iiU rfl (fun x54 tx54 => ?_)
            first | refine w_imul rfl (c := 60) rfl (by omega) (fun x55 tx55 => ?_) | refine w_iiU rfl (fun x55 tx55 => ?_)
            refine w_const rfl ?_
            refine w_invV (rest := []) rfl rfl rfl rfl rfl (Nat.le_of_ble_eq_true rfl) rfl (by omega) (s_copies (K := K) a51 b  0 x55 60 ha51 (by omega) (by omega) (by omega)) (fun v56 h9 hq57 => ?_)
            obtain ⟨a58, b59, rfl, ha58, fa58, rfl⟩ := hq57
            show f_wp _ (70, [some (.inr (.inr (some 0))), some (.inl m), some (.inl bk)], [], mH a58 b59) _
            refine w_aload rfl rfl ?_
            refine w_iload rfl rfl ?_
            refine w_if_eq rfl (fun c60 => ?_) (fun c60 => ?_)
            · skip
              refine w_aload rfl rfl ?_
              refine w_getI (v := .inl (a58 0 23)) rfl rfl rfl rfl rfl ?_
              have q61 : 0 ≤ (a58 0 23).toInt ∧ (a58 0 23).toInt ≤ 16 := ha58 0 23
              refine m_putI (z := false) rfl rfl rfl rfl (by first | (intro h9; cases h9; done) | (intro _; first | exact Or.inl rfl | exact Or.inr rfl | assumption)) (fun a62 ea62 => ?_)
              have ha62 : RM K a62 := RM.up ha58 ea62 (show (0 : Int) ≤ _ ∧ _ ≤ (16 : Int) from by omega)
              have ua62_23 : a62 0 23 = (a58 0 23) := by rw [ea62, mU_same]
              have wa62_23 := congrArg Int32.toInt ua62_23
              refine w_const rfl ?_
              exact wp_iret (z := true) rfl (fun _ => by first | exact Or.inl rfl | exact Or.inr rfl | (rcases (by omega : (1 : Int32).toInt = 0 ∨ (1 : Int32).toInt = 1) with h8 | h8; exact Or.inl (ti_eq h8); exact Or.inr (ti_eq h8))) ⟨a62, b59, rfl, ha62, ⟨FR.up (FR.tr (FR.up (FR.up (FR.rf) (by decide) ea1) (by decide) ea51) (FR.sub fa58.1 (by decide))) (by decide) ea62, fun h7 => ACA.up ((fun h7 => fa58.2.1 ((fun h7 => ACA.up ((fun h7 => ACA.up ((id) h7) ea1 (by decide)) h7) ea51 (by decide)) h7)) h7) ea62 (by decide), trivial⟩, ⟨_, rfl, by omega⟩⟩
            · skip
              refine w_const rfl ?_
              refine w_goto rfl ?_
              refine m_putI (z := false) rfl rfl rfl rfl (by first | (intro h9; cases h9; done) | (intro _; first | exact Or.inl rfl | exact Or.inr rfl | assumption)) (fun a63 ea63 => ?_)
              have ha63 : RM K a63 := RM.up ha58 ea63 (show (0 : Int) ≤ _ ∧ _ ≤ (16 : Int) from by omega)
              have ua63_23 : a63 0 23 = (0 : Int32) := by rw [ea63, mU_same]
              have wa63_23 := congrArg Int32.toInt ua63_23
              refine w_const rfl ?_
              exact wp_iret (z := true) rfl (fun _ => by first | exact Or.inl rfl | exact Or.inr rfl | (rcases (by omega : (1 : Int32).toInt = 0 ∨ (1 : Int32).toInt = 1) with h8 | h8; exact Or.inl (ti_eq h8); exact Or.inr (ti_eq h8))) ⟨a63, b59, rfl, ha63, ⟨FR.up (FR.tr (FR.up (FR.up (FR.rf) (by decide) ea1) (by decide) ea51) (FR.sub fa58.1 (by decide))) (by decide) ea63, fun h7 => ACA.up ((fun h7 => fa58.2.1 ((fun h7 => ACA.up ((fun h7 => ACA.up ((id) h7) ea1 (by decide)) h7) ea51 (by decide)) h7)) h7) ea63 (by decide), trivial⟩, ⟨_, rfl, by omega⟩⟩
          · skip
            refine w_const rfl ?_
            refine w_goto rfl ?_
            refine w_const rfl ?_
            refine w_invV (rest := []) rfl rfl rfl rfl rfl (Nat.le_of_ble_eq_true rfl) rfl (by omega) (s_copies (K := K) a51 b  0 0 60 ha51 (by omega) (by omega) (by omega)) (fun v64 h9 hq65 => ?_)
            obtain ⟨a66, b67, rfl, ha66, fa66, rfl⟩ := hq65
            show f_wp _ (70, [some (.inr (.inr (some 0))), some (.inl m), some (.inl bk)], [], mH a66 b67) _
            refine w_aload rfl rfl ?_
            refine w_iload rfl rfl ?_
            refine w_if_eq rfl (fun c68 => ?_) (fun c68 => ?_)
            · skip
              refine w_aload rfl rfl ?_
              refine w_getI (v := .inl (a66 0 23)) rfl rfl rfl rfl rfl ?_
              have q69 : 0 ≤ (a66 0 23).toInt ∧ (a66 0 23).toInt ≤ 16 := ha66 0 23
              refine m_putI (z := false) rfl rfl rfl rfl (by first | (intro h9; cases h9; done) | (intro _; first | exact Or.inl rfl | exact Or.inr rfl | assumption)) (fun a70 ea70 => ?_)
              have ha70 : RM K a70 := RM.up ha66 ea70 (show (0 : Int) ≤ _ ∧ _ ≤ (16 : Int) from by omega)
              have ua70_23 : a70 0 23 = (a66 0 23) := by rw [ea70, mU_same]
              have wa70_23 := congrArg Int32.toInt ua70_23
              refine w_const rfl ?_
              exact wp_iret (z := true) rfl (fun _ => by first | exact Or.inl rfl | exact Or.inr rfl | (rcases (by omega : (1 : Int32).toInt = 0 ∨ (1 : Int32).toInt = 1) with h8 | h8; exact Or.inl (ti_eq h8); exact Or.inr (ti_eq h8))) ⟨a70, b67, rfl, ha70, ⟨FR.up (FR.tr (FR.up (FR.up (FR.rf) (by decide) ea1) (by decide) ea51) (FR.sub fa66.1 (by decide))) (by decide) ea70, fun h7 => ACA.up ((fun h7 => fa66.2.1 ((fun h7 => ACA.up ((fun h7 => ACA.up ((id) h7) ea1 (by decide)) h7) ea51 (by decide)) h7)) h7) ea70 (by decide), trivial⟩, ⟨_, rfl, by omega⟩⟩
            · skip
              refine w_const rfl ?_
              refine w_goto rfl ?_
              refine m_putI (z := false) rfl rfl rfl rfl (by first | (intro h9; cases h9; done) | (intro _; first | exact Or.inl rfl | exact Or.inr rfl | assumption)) (fun a71 ea71 => ?_)
              have ha71 : RM K a71 := RM.up ha66 ea71 (show (0 : Int) ≤ _ ∧ _ ≤ (16 : Int) from by omega)
              have ua71_23 : a71 0 23 = (0 : Int32) := by rw [ea71, mU_same]
              have wa71_23 := congrArg Int32.toInt ua71_23
              refine w_const rfl ?_
              exact wp_iret (z := true) rfl (fun _ => by first | exact Or.inl rfl | exact Or.inr rfl | (rcases (by omega : (1 : Int32).toInt = 0 ∨ (1 : Int32).toInt = 1) with h8 | h8; exact Or.inl (ti_eq h8); exact Or.inr (ti_eq h8))) ⟨a71, b67, rfl, ha71, ⟨FR.up (FR.tr (FR.up (FR.up (FR.rf) (by decide) ea1) (by decide) ea51) (FR.sub fa66.1 (by decide))) (by decide) ea71, fun h7 => ACA.up ((fun h7 => fa66.2.1 ((fun h7 => ACA.up ((fun h7 => ACA.up ((id) h7) ea1 (by decide)) h7) ea51 (by decide)) h7)) h7) ea71 (by decide), trivial⟩, ⟨_, rfl, by omega⟩⟩
        · skip
          refine w_const rfl ?_
          refine w_const rfl ?_
          refine w_iload rfl rfl ?_
          first | refine w_iadd rfl (by omega) (fun x72 tx72 => ?_) | refine w_iiU rfl (fun x72 tx72 => ?_)
          first | refine w_imul rfl (c := 60) rfl (by omega) (fun x73 tx73 => ?_) | refine w_iiU rfl (fun x73 tx73 => ?_)
          refine w_goto rfl ?_
          refine w_iload rfl rfl ?_
          refine w_if_eq rfl (fun c74 => ?_) (fun c74 => ?_)
          · skip
            refine w_const rfl ?_
            refine w_const rfl ?_
            refine w_iload rfl rfl ?_
            first | refine w_iadd rfl (by omega) (fun x75 tx75 => ?_) | refine w_iiU rfl (fun x75 tx75 => ?_)
            first | refine w_imul rfl (c := 60) rfl (by omega) (fun x76 tx76 => ?_) | refine w_iiU rfl (fun x76 tx76 => ?_)
            refine w_const rfl ?_
            refine w_invV (rest := []) rfl rfl rfl rfl rfl (Nat.le_of_ble_eq_true rfl) rfl (by omega) (s_copies (K := K) a51 b  x73 x76 60 ha51 (by omega) (by omega) (by omega)) (fun v77 h9 hq78 => ?_)
            obtain ⟨a79, b80, rfl, ha79, fa79, rfl⟩ := hq78
            show f_wp _ (70, [some (.inr (.inr (some 0))), some (.inl m), some (.inl bk)], [], mH a79 b80) _
            refine w_aload rfl rfl ?_
            refine w_iload rfl rfl ?_
            refine w_if_eq rfl (fun c81 => ?_) (fun c81 => ?_)
            · skip
              refine w_aload rfl rfl ?_
              refine w_getI (v := .inl (a79 0 23)) rfl rfl rfl rfl rfl ?_
              have q82 : 0 ≤ (a79 0 23).toInt ∧ (a79 0 23).toInt ≤ 16 := ha79 0 23
              refine m_putI (z := false) rfl rfl rfl rfl (by first | (intro h9; cases h9; done) | (intro _; first | exact Or.inl rfl | exact Or.inr rfl | assumption)) (fun a83 ea83 => ?_)
              have ha83 : RM K a83 := RM.up ha79 ea83 (show (0 : Int) ≤ _ ∧ _ ≤ (16 : Int) from by omega)
              have ua83_23 : a83 0 23 = (a79 0 23) := by rw [ea83, mU_same]
              have wa83_23 := congrArg Int32.toInt ua83_23
              refine w_const rfl ?_
              exact wp_iret (z := true) rfl (fun _ => by first | exact Or.inl rfl | exact Or.inr rfl | (rcases (by omega : (1 : Int32).toInt = 0 ∨ (1 : Int32).toInt = 1) with h8 | h8; exact Or.inl (ti_eq h8); exact Or.inr (ti_eq h8))) ⟨a83, b80, rfl, ha83, ⟨FR.up (FR.tr (FR.up (FR.up (FR.rf) (by decide) ea1) (by decide) ea51) (FR.sub fa79.1 (by decide))) (by decide) ea83, fun h7 => ACA.up ((fun h7 => fa79.2.1 ((fun h7 => ACA.up ((fun h7 => ACA.up ((id) h7) ea1 (by decide)) h7) ea51 (by decide)) h7)) h7) ea83 (by decide), trivial⟩, ⟨_, rfl, by omega⟩⟩
            · skip
              refine w_const rfl ?_
              refine w_goto rfl ?_
              refine m_putI (z := false) rfl rfl rfl rfl (by first | (intro h9; cases h9; done) | (intro _; first | exact Or.inl rfl | exact Or.inr rfl | assumption)) (fun a84 ea84 => ?_)
              have ha84 : RM K a84 := RM.up ha79 ea84 (show (0 : Int) ≤ _ ∧ _ ≤ (16 : Int) from by omega)
              have ua84_23 : a84 0 23 = (0 : Int32) := by rw [ea84, mU_same]
              have wa84_23 := congrArg Int32.toInt ua84_23
              refine w_const rfl ?_
              exact wp_iret (z := true) rfl (fun _ => by first | exact Or.inl rfl | exact Or.inr rfl | (rcases (by omega : (1 : Int32).toInt = 0 ∨ (1 : Int32).toInt = 1) with h8 | h8; exact Or.inl (ti_eq h8); exact Or.inr (ti_eq h8))) ⟨a84, b80, rfl, ha84, ⟨FR.up (FR.tr (FR.up (FR.up (FR.rf) (by decide) ea1) (by decide) ea51) (FR.sub fa79.1 (by decide))) (by decide) ea84, fun h7 => ACA.up ((fun h7 => fa79.2.1 ((fun h7 => ACA.up ((fun h7 => ACA.up ((id) h7) ea1 (by decide)) h7) ea51 (by decide)) h7)) h7) ea84 (by decide), trivial⟩, ⟨_, rfl, by omega⟩⟩
          · skip
            refine w_const rfl ?_
            refine w_goto rfl ?_
            refine w_const rfl ?_
            refine w_invV (rest := []) rfl rfl rfl rfl rfl (Nat.le_of_ble_eq_true rfl) rfl (by omega) (s_copies (K := K) a51 b  x73 0 60 ha51 (by omega) (by omega) (by omega)) (fun v85 h9 hq86 => ?_)
            obtain ⟨a87, b88, rfl, ha87, fa87, rfl⟩ := hq86
            show f_wp _ (70, [some (.inr (.inr (some 0))), some (.inl m), some (.inl bk)], [], mH a87 b88) _
            refine w_aload rfl rfl ?_
            refine w_iload rfl rfl ?_
            refine w_if_eq rfl (fun c89 => ?_) (fun c89 => ?_)
            · skip
              refine w_aload rfl rfl ?_
              refine w_getI (v := .inl (a87 0 23)) rfl rfl rfl rfl rfl ?_
              have q90 : 0 ≤ (a87 0 23).toInt ∧ (a87 0 23).toInt ≤ 16 := ha87 0 23
              refine m_putI (z := false) rfl rfl rfl rfl (by first | (intro h9; cases h9; done) | (intro _; first | exact Or.inl rfl | exact Or.inr rfl | assumption)) (fun a91 ea91 => ?_)
              have ha91 : RM K a91 := RM.up ha87 ea91 (show (0 : Int) ≤ _ ∧ _ ≤ (16 : Int) from by omega)
              have ua91_23 : a91 0 23 = (a87 0 23) := by rw [ea91, mU_same]
              have wa91_23 := congrArg Int32.toInt ua91_23
              refine w_const rfl ?_
              exact wp_iret (z := true) rfl (fun _ => by first | exact Or.inl rfl | exact Or.inr rfl | (rcases (by omega : (1 : Int32).toInt = 0 ∨ (1 : Int32).toInt = 1) with h8 | h8; exact Or.inl (ti_eq h8); exact Or.inr (ti_eq h8))) ⟨a91, b88, rfl, ha91, ⟨FR.up (FR.tr (FR.up (FR.up (FR.rf) (by decide) ea1) (by decide) ea51) (FR.sub fa87.1 (by decide))) (by decide) ea91, fun h7 => ACA.up ((fun h7 => fa87.2.1 ((fun h7 => ACA.up ((fun h7 => ACA.up ((id) h7) ea1 (by decide)) h7) ea51 (by decide)) h7)) h7) ea91 (by decide), trivial⟩, ⟨_, rfl, by omega⟩⟩
            · skip
              refine w_const rfl ?_
              refine w_goto rfl ?_
              refine m_putI (z := false) rfl rfl rfl rfl (by first | (intro h9; cases h9; done) | (intro _; first | exact Or.inl rfl | exact Or.inr rfl | assumption)) (fun a92 ea92 => ?_)
              have ha92 : RM K a92 := RM.up ha87 ea92 (show (0 : Int) ≤ _ ∧ _ ≤ (16 : Int) from by omega)
              have ua92_23 : a92 0 23 = (0 : Int32) := by rw [ea92, mU_same]
              have wa92_23 := congrArg Int32.toInt ua92_23
              refine w_const rfl ?_
              exact wp_iret (z := true) rfl (fun _ => by first | exact Or.inl rfl | exact Or.inr rfl | (rcases (by omega : (1 : Int32).toInt = 0 ∨ (1 : Int32).toInt = 1) with h8 | h8; exact Or.inl (ti_eq h8); exact Or.inr (ti_eq h8))) ⟨a92, b88, rfl, ha92, ⟨FR.up (FR.tr (FR.up (FR.up (FR.rf) (by decide) ea1) (by decide) ea51) (FR.sub fa87.1 (by decide))) (by decide) ea92, fun h7 => ACA.up ((fun h7 => fa87.2.1 ((fun h7 => ACA.up ((fun h7 => ACA.up ((id) h7) ea1 (by decide)) h7) ea51 (by decide)) h7)) h7) ea92 (by decide), trivial⟩, ⟨_, rfl, by omega⟩⟩
set_option maxRecDepth 4000 in
theorem s_feed {K : Nat} (a : Nat → Nat → Int32) (b : Nat → Nat → Int64) (L_a : Int64) (L_b : Int64) (L_c : Int64) (hR : RM K a)  : f_call mtM 2 0 [.inr (.inr (some 0)), .inr (.inl L_a), .inr (.inl L_b), .inr (.inl L_c)] (mH a b) (fun v9 h' => ∃ (a' : Nat → Nat → Int32) (b' : Nat → Nat → Int64), h' = mH a' b' ∧ RM K a' ∧ (FR [0, 1] a a' ∧ True) ∧ ∃ x : Int32, v9 = some (.inl x) ∧ (0 ≤ x.toInt ∧ x.toInt ≤ 1000)) := by
  refine f_call_of (d0 := 1) rfl (Nat.le_of_ble_eq_true rfl) (fun d hd => ?_)
  show f_wp _ (0, [some (.inr (.inr (some 0))), some (.inr (.inl L_a)), none, some (.inr (.inl L_b)), none, some (.inr (.inl L_c)), none], [], mH a b) _
  have l0 : (0 : Int32).toInt = 0 := rfl
  refine w_aload rfl rfl ?_
  refine w_const rfl ?_
  refine m_putI (z := false) rfl rfl rfl rfl (by first | (intro h9; cases h9; done) | (intro _; first | exact Or.inl rfl | exact Or.inr rfl | assumption)) (fun a1 ea1 => ?_)
  have ha1 : RM K a1 := RM.up hR ea1 ⟨ti_lo _, ti_hi _⟩
  have ua1_0 : a1 0 0 = (0 : Int32) := by rw [ea1, mU_same]
  have wa1_0 := congrArg Int32.toInt ua1_0
  refine w_aload rfl rfl ?_
  refine w_lload rfl rfl ?_
  refine w_invV (rest := []) rfl rfl rfl rfl rfl (Nat.le_of_ble_eq_true rfl) rfl (by omega) (s_lay (K := K) a1 b  L_a ha1 ) (fun v2 h9 hq3 => ?_)
  obtain ⟨a4, b5, rfl, ha4, fa4, rfl⟩ := hq3
  show f_wp _ (10, [some (.inr (.inr (some 0))), some (.inr (.inl L_a)), none, some (.inr (.inl L_b)), none, some (.inr (.inl L_c)), none], [], mH a4 b5) _
  refine w_aload rfl rfl ?_
  refine w_lload rfl rfl ?_
  refine w_invV (rest := []) rfl rfl rfl rfl rfl (Nat.le_of_ble_eq_true rfl) rfl (by omega) (s_lay (K := K) a4 b5  L_b ha4 ) (fun v6 h9 hq7 => ?_)
  obtain ⟨a8, b9, rfl, ha8, fa8, rfl⟩ := hq7
  show f_wp _ (15, [some (.inr (.inr (some 0))), some (.inr (.inl L_a)), none, some (.inr (.inl L_b)), none, some (.inr (.inl L_c)), none], [], mH a8 b9) _
  refine w_aload rfl rfl ?_
  refine w_lload rfl rfl ?_
  refine w_invV (rest := []) rfl rfl rfl rfl rfl (Nat.le_of_ble_eq_true rfl) rfl (by omega) (s_lay (K := K) a8 b9  L_c ha8 ) (fun v10 h9 hq11 => ?_)
  obtain ⟨a12, b13, rfl, ha12, fa12, rfl⟩ := hq11
  show f_wp _ (21, [some (.inr (.inr (some 0))), some (.inr (.inl L_a)), none, some (.inr (.inl L_b)), none, some (.inr (.inl L_c)), none], [], mH a12 b13) _
  refine w_aload rfl rfl ?_
  refine w_getI (v := .inl (a12 0 2)) rfl rfl rfl rfl rfl ?_
  have q14 : 0 ≤ (a12 0 2).toInt ∧ (a12 0 2).toInt ≤ 1000 := ha12 0 2
  exact wp_iret (z := false) rfl (fun h9 => by cases h9) ⟨a12, b13, rfl, ha12, ⟨FR.tr (FR.tr (FR.tr (FR.up (FR.rf) (by decide) ea1) (FR.sub fa4.1 (by decide))) (FR.sub fa8.1 (by decide))) (FR.sub fa12.1 (by decide)), trivial⟩, ⟨_, rfl, by omega⟩⟩
set_option maxRecDepth 4000 in
theorem s_mayOf {K : Nat} (a : Nat → Nat → Int32) (b : Nat → Nat → Int64) (q : Int32) (w : Int32) (hR : RM K a) (hb : 0 ≤ q.toInt ∧ q.toInt ≤ 1260 ∧ q.toInt % 60 = 0) (hw : 0 ≤ w.toInt ∧ w.toInt < 6) (hA : AC a q.toInt.toNat) : f_call mtM 4 68 [.inr (.inr (some 0)), .inl q, .inl w] (mH a b) (fun v9 h' => ∃ (a' : Nat → Nat → Int32) (b' : Nat → Nat → Int64), h' = mH a' b' ∧ RM K a' ∧ (FR [17] a a' ∧ True) ∧ ∃ x : Int32, v9 = some (.inl x) ∧ True) := by
  refine f_call_of (d0 := 3) rfl (Nat.le_of_ble_eq_true rfl) (fun d hd => ?_)
  show f_wp _ (0, [some (.inr (.inr (some 0))), some (.inl q), some (.inl w), none, none], [], mH a b) _
  have l0 : (0 : Int32).toInt = 0 := rfl
  have l1 : (1 : Int32).toInt = 1 := rfl
  refine w_const rfl ?_
  refine w_istore (lo' := [some (.inr (.inr (some 0))), some (.inl q), some (.inl w), some (.inl 0), none]) rfl rfl ?_
  refine w_const rfl ?_
  refine w_istore (lo' := [some (.inr (.inr (some 0))), some (.inl q), some (.inl w), some (.inl 0), some (.inl 0)]) rfl rfl ?_
  have loop5 : ∀ (ms9 : Nat) (set : Int32) (h : Int32) (a5 : Nat → Nat → Int32) (b5 : Nat → Nat → Int64) , (6 - h.toInt).toNat = ms9 → RM K a5 → FR [17] a a5 → (0 ≤ h.toInt ∧ h.toInt ≤ 6) → f_wp (f_code (t_X13_mayOf (f_ev mtM d))) (5, [some (.inr (.inr (some 0))), some (.inl q), some (.inl w), some (.inl set), some (.inl h)], [], mH a5 b5) (fun v9 h' => ∃ (a' : Nat → Nat → Int32) (b' : Nat → Nat → Int64), h' = mH a' b' ∧ RM K a' ∧ (FR [17] a a' ∧ True) ∧ ∃ x : Int32, v9 = some (.inl x) ∧ True) := by
    intro ms9
    induction ms9 using Nat.strongRecOn with
    | _ ms5 ih5 =>
      intro set h a5 b5  hm5 hR5 hF5 hh
      refine w_iload rfl rfl ?_
      refine w_aload rfl rfl ?_
      refine w_invV (rest := [.inl h]) rfl rfl rfl rfl rfl (Nat.le_of_ble_eq_true rfl) rfl (by omega) (s_rivers (K := K) a5 b5   hR5 ) (fun v1 h9 hq2 => ?_)
      obtain ⟨rfl, x3, rfl, px3⟩ := hq2
      show f_wp _ (11, [some (.inr (.inr (some 0))), some (.inl q), some (.inl w), some (.inl set), some (.inl h)], [.inl x3, .inl h], mH a5 b5) _
      refine w_ic_ge rfl (fun c4 => ?_) (fun c4 => ?_)
      · skip
        refine w_iload rfl rfl ?_
        exact wp_iret (z := false) rfl (fun h9 => by cases h9) ⟨a5, b5, rfl, hR5, ⟨hF5, trivial⟩, ⟨_, rfl, trivial⟩⟩
      · skip
        refine w_iload rfl rfl ?_
        refine w_aload rfl rfl ?_
        refine w_iload rfl rfl ?_
        refine w_iload rfl rfl ?_
        refine w_iload rfl rfl ?_
        refine w_invV (rest := [.inl set]) rfl rfl rfl rfl rfl (Nat.le_of_ble_eq_true rfl) rfl (by omega) (s_mayWed (K := K) a5 b5  q w h hR5 (by omega) (by omega) (by omega) (hA.same (fun r9 _ => by rw [hF5 15 (by decide)]))) (fun v5 h9 hq6 => ?_)
        obtain ⟨a7, b8, rfl, ha7, fa7, x9, rfl, px9⟩ := hq6
        show f_wp _ (23, [some (.inr (.inr (some 0))), some (.inl q), some (.inl w), some (.inl set), some (.inl h)], [.inl x9, .inl set], mH a7 b8) _
        refine w_if_eq rfl (fun c10 => ?_) (fun c10 => ?_)
        · skip
          refine w_const rfl ?_
          refine w_iiE rfl (fun x11 tx11 => ?_)
          refine w_istore (lo' := [some (.inr (.inr (some 0))), some (.inl q), some (.inl w), some (.inl x11), some (.inl h)]) rfl rfl ?_
          refine w_iinc (lo' := fun z9 => [some (.inr (.inr (some 0))), some (.inl q), some (.inl w), some (.inl x11), some (.inl z9)]) rfl rfl (fun _ => rfl) (by omega) (fun x12 tx12 => ?_)
          refine w_goto rfl ?_
          exact ih5 (6 - x12.toInt).toNat (by omega) x11 x12 a7 b8 rfl ha7 (FR.tr (hF5) (FR.sub fa7.1 (by decide))) (by omega)
        · skip
          refine w_const rfl ?_
          refine w_iload rfl rfl ?_
          refine w_iiE rfl (fun x13 tx13 => ?_)
          refine w_goto rfl ?_
          refine w_iiE rfl (fun x14 tx14 => ?_)
          refine w_istore (lo' := [some (.inr (.inr (some 0))), some (.inl q), some (.inl w), some (.inl x14), some (.inl h)]) rfl rfl ?_
          refine w_iinc (lo' := fun z9 => [some (.inr (.inr (some 0))), some (.inl q), some (.inl w), some (.inl x14), some (.inl z9)]) rfl rfl (fun _ => rfl) (by omega) (fun x15 tx15 => ?_)
          refine w_goto rfl ?_
          exact ih5 (6 - x15.toInt).toNat (by omega) x14 x15 a7 b8 rfl ha7 (FR.tr (hF5) (FR.sub fa7.1 (by decide))) (by omega)
  exact loop5 _ 0 0 a b rfl hR (FR.rf) (by omega)
set_option maxRecDepth 4000 in
theorem s_near {K : Nat} (a : Nat → Nat → Int32) (b : Nat → Nat → Int64) (r : Int32) (s : Int32) (hR : RM K a)  : f_call mtM 3 63 [.inr (.inr (some 0)), .inl r, .inl s] (mH a b) (fun v9 h' => ∃ (a' : Nat → Nat → Int32) (b' : Nat → Nat → Int64), h' = mH a' b' ∧ RM K a' ∧ (FR [0, 17] a a' ∧ True) ∧ ∃ x : Int32, v9 = some (.inl x) ∧ True) := by
  refine f_call_of (d0 := 2) rfl (Nat.le_of_ble_eq_true rfl) (fun d hd => ?_)
  show f_wp _ (0, [some (.inr (.inr (some 0))), some (.inl r), some (.inl s)], [], mH a b) _
  have lm1 : (-1 : Int32).toInt = -1 := rfl
  have l0 : (0 : Int32).toInt = 0 := rfl
  refine w_aload rfl rfl ?_
  refine w_const rfl ?_
  refine m_putI (z := false) rfl rfl rfl rfl (by first | (intro h9; cases h9; done) | (intro _; first | exact Or.inl rfl | exact Or.inr rfl | assumption)) (fun a1 ea1 => ?_)
  have ha1 : RM K a1 := RM.up hR ea1 ⟨ti_lo _, ti_hi _⟩
  have ua1_0 : a1 0 0 = (0 : Int32) := by rw [ea1, mU_same]
  have wa1_0 := congrArg Int32.toInt ua1_0
  refine w_aload rfl rfl ?_
  refine w_iload rfl rfl ?_
  refine w_invV (rest := []) rfl rfl rfl rfl rfl (Nat.le_of_ble_eq_true rfl) rfl (by omega) (s_isRiver (K := K) a1 b  r ha1 ) (fun v2 h9 hq3 => ?_)
  obtain ⟨rfl, x4, rfl, px4⟩ := hq3
  show f_wp _ (10, [some (.inr (.inr (some 0))), some (.inl r), some (.inl s)], [.inl x4], mH a1 b) _
  refine w_if_eq rfl (fun c5 => ?_) (fun c5 => ?_)
  · skip
    refine w_const rfl ?_
    exact wp_iret (z := false) rfl (fun h9 => by cases h9) ⟨a1, b, rfl, ha1, ⟨FR.up (FR.rf) (by decide) ea1, trivial⟩, ⟨_, rfl, trivial⟩⟩
  · skip
    refine w_aload rfl rfl ?_
    refine w_iload rfl rfl ?_
    refine w_invV (rest := []) rfl rfl rfl rfl rfl (Nat.le_of_ble_eq_true rfl) rfl (by omega) (s_isRiver (K := K) a1 b  s ha1 ) (fun v6 h9 hq7 => ?_)
    obtain ⟨rfl, x8, rfl, px8⟩ := hq7
    show f_wp _ (18, [some (.inr (.inr (some 0))), some (.inl r), some (.inl s)], [.inl x8], mH a1 b) _
    refine w_if_eq rfl (fun c9 => ?_) (fun c9 => ?_)
    · skip
      refine w_const rfl ?_
      exact wp_iret (z := false) rfl (fun h9 => by cases h9) ⟨a1, b, rfl, ha1, ⟨FR.up (FR.rf) (by decide) ea1, trivial⟩, ⟨_, rfl, trivial⟩⟩
    · skip
      refine w_aload rfl rfl ?_
      refine w_iload rfl rfl ?_
      refine w_iload rfl rfl ?_
      refine w_invV (rest := []) rfl rfl rfl rfl rfl (Nat.le_of_ble_eq_true rfl) rfl (by omega) (s_nearOf (K := K) a1 b  r s ha1 (by omega) (by omega)) (fun v10 h9 hq11 => ?_)
      obtain ⟨a12, b13, rfl, ha12, fa12, x14, rfl, px14⟩ := hq11
      show f_wp _ (27, [some (.inr (.inr (some 0))), some (.inl r), some (.inl s)], [.inl x14], mH a12 b13) _
      refine w_goto rfl ?_
      exact wp_iret (z := false) rfl (fun h9 => by cases h9) ⟨a12, b13, rfl, ha12, ⟨FR.tr (FR.up (FR.rf) (by decide) ea1) (FR.sub fa12.1 (by decide)), trivial⟩, ⟨_, rfl, trivial⟩⟩
set_option maxRecDepth 4000 in
theorem s_dig {K : Nat} (a : Nat → Nat → Int32) (b : Nat → Nat → Int64) (r : Int32) (s : Int32) (hR : RM K a)  : f_call mtM 4 66 [.inr (.inr (some 0)), .inl r, .inl s] (mH a b) (fun v9 h' => ∃ (a' : Nat → Nat → Int32) (b' : Nat → Nat → Int64), h' = mH a' b' ∧ RM K a' ∧ (FR [0] a a' ∧ True) ∧ ∃ x : Int32, v9 = some (.inl x) ∧ True) := by
  refine f_call_of (d0 := 3) rfl (Nat.le_of_ble_eq_true rfl) (fun d hd => ?_)
  show f_wp _ (0, [some (.inr (.inr (some 0))), some (.inl r), some (.inl s)], [], mH a b) _
  have lm1 : (-1 : Int32).toInt = -1 := rfl
  have l0 : (0 : Int32).toInt = 0 := rfl
  refine w_aload rfl rfl ?_
  refine w_const rfl ?_
  refine m_putI (z := false) rfl rfl rfl rfl (by first | (intro h9; cases h9; done) | (intro _; first | exact Or.inl rfl | exact Or.inr rfl | assumption)) (fun a1 ea1 => ?_)
  have ha1 : RM K a1 := RM.up hR ea1 ⟨ti_lo _, ti_hi _⟩
  have ua1_0 : a1 0 0 = (0 : Int32) := by rw [ea1, mU_same]
  have wa1_0 := congrArg Int32.toInt ua1_0
  refine w_aload rfl rfl ?_
  refine w_iload rfl rfl ?_
  refine w_invV (rest := []) rfl rfl rfl rfl rfl (Nat.le_of_ble_eq_true rfl) rfl (by omega) (s_isRiver (K := K) a1 b  r ha1 ) (fun v2 h9 hq3 => ?_)
  obtain ⟨rfl, x4, rfl, px4⟩ := hq3
  show f_wp _ (10, [some (.inr (.inr (some 0))), some (.inl r), some (.inl s)], [.inl x4], mH a1 b) _
  refine w_if_eq rfl (fun c5 => ?_) (fun c5 => ?_)
  · skip
    refine w_const rfl ?_
    exact wp_iret (z := false) rfl (fun h9 => by cases h9) ⟨a1, b, rfl, ha1, ⟨FR.up (FR.rf) (by decide) ea1, trivial⟩, ⟨_, rfl, trivial⟩⟩
  · skip
    refine w_aload rfl rfl ?_
    refine w_iload rfl rfl ?_
    refine w_invV (rest := []) rfl rfl rfl rfl rfl (Nat.le_of_ble_eq_true rfl) rfl (by omega) (s_isRiver (K := K) a1 b  s ha1 ) (fun v6 h9 hq7 => ?_)
    obtain ⟨rfl, x8, rfl, px8⟩ := hq7
    show f_wp _ (18, [some (.inr (.inr (some 0))), some (.inl r), some (.inl s)], [.inl x8], mH a1 b) _
    refine w_if_eq rfl (fun c9 => ?_) (fun c9 => ?_)
    · skip
      refine w_const rfl ?_
      exact wp_iret (z := false) rfl (fun h9 => by cases h9) ⟨a1, b, rfl, ha1, ⟨FR.up (FR.rf) (by decide) ea1, trivial⟩, ⟨_, rfl, trivial⟩⟩
    · skip
      refine w_iload rfl rfl ?_
      refine w_iload rfl rfl ?_
      refine w_ic_eq rfl (fun c10 => ?_) (fun c10 => ?_)
      · skip
        refine w_const rfl ?_
        exact wp_iret (z := false) rfl (fun h9 => by cases h9) ⟨a1, b, rfl, ha1, ⟨FR.up (FR.rf) (by decide) ea1, trivial⟩, ⟨_, rfl, trivial⟩⟩
      · skip
        refine w_aload rfl rfl ?_
        refine w_iload rfl rfl ?_
        refine w_iload rfl rfl ?_
        refine w_invV (rest := []) rfl rfl rfl rfl rfl (Nat.le_of_ble_eq_true rfl) rfl (by omega) (s_digOf (K := K) a1 b  r s ha1 (by omega) (by omega)) (fun v11 h9 hq12 => ?_)
        obtain ⟨rfl, x13, rfl, px13⟩ := hq12
        show f_wp _ (32, [some (.inr (.inr (some 0))), some (.inl r), some (.inl s)], [.inl x13], mH a1 b) _
        refine w_goto rfl ?_
        exact wp_iret (z := false) rfl (fun h9 => by cases h9) ⟨a1, b, rfl, ha1, ⟨FR.up (FR.rf) (by decide) ea1, trivial⟩, ⟨_, rfl, trivial⟩⟩
set_option maxRecDepth 4000 in
theorem s_may {K : Nat} (a : Nat → Nat → Int32) (b : Nat → Nat → Int64) (r : Int32) (hR : RM K a) (hA : ACA a) : f_call mtM 5 69 [.inr (.inr (some 0)), .inl r] (mH a b) (fun v9 h' => ∃ (a' : Nat → Nat → Int32) (b' : Nat → Nat → Int64), h' = mH a' b' ∧ RM K a' ∧ (FR [0, 17] a a' ∧ True) ∧ ∃ x : Int32, v9 = some (.inl x) ∧ True) := by
  refine f_call_of (d0 := 4) rfl (Nat.le_of_ble_eq_true rfl) (fun d hd => ?_)
  show f_wp _ (0, [some (.inr (.inr (some 0))), some (.inl r)], [], mH a b) _
  have lm1 : (-1 : Int32).toInt = -1 := rfl
  have l0 : (0 : Int32).toInt = 0 := rfl
  refine w_aload rfl rfl ?_
  refine w_const rfl ?_
  refine m_putI (z := false) rfl rfl rfl rfl (by first | (intro h9; cases h9; done) | (intro _; first | exact Or.inl rfl | exact Or.inr rfl | assumption)) (fun a1 ea1 => ?_)
  have ha1 : RM K a1 := RM.up hR ea1 ⟨ti_lo _, ti_hi _⟩
  have ua1_0 : a1 0 0 = (0 : Int32) := by rw [ea1, mU_same]
  have wa1_0 := congrArg Int32.toInt ua1_0
  refine w_aload rfl rfl ?_
  refine w_iload rfl rfl ?_
  refine w_invV (rest := []) rfl rfl rfl rfl rfl (Nat.le_of_ble_eq_true rfl) rfl (by omega) (s_isRiver (K := K) a1 b  r ha1 ) (fun v2 h9 hq3 => ?_)
  obtain ⟨rfl, x4, rfl, px4⟩ := hq3
  show f_wp _ (10, [some (.inr (.inr (some 0))), some (.inl r)], [.inl x4], mH a1 b) _
  refine w_if_eq rfl (fun c5 => ?_) (fun c5 => ?_)
  · skip
    refine w_const rfl ?_
    exact wp_iret (z := false) rfl (fun h9 => by cases h9) ⟨a1, b, rfl, ha1, ⟨FR.up (FR.rf) (by decide) ea1, trivial⟩, ⟨_, rfl, trivial⟩⟩
  · skip
    refine w_aload rfl rfl ?_
    refine w_const rfl ?_
    refine w_iload rfl rfl ?_
    refine w_invV (rest := []) rfl rfl rfl rfl rfl (Nat.le_of_ble_eq_true rfl) rfl (by omega) (s_mayOf (K := K) a1 b  0 r ha1 (by omega) (by omega) (((fun h7 => ACA.up ((id) h7) ea1 (by decide)) hA) 0 (by decide))) (fun v6 h9 hq7 => ?_)
    obtain ⟨a8, b9, rfl, ha8, fa8, x10, rfl, px10⟩ := hq7
    show f_wp _ (19, [some (.inr (.inr (some 0))), some (.inl r)], [.inl x10], mH a8 b9) _
    refine w_goto rfl ?_
    exact wp_iret (z := false) rfl (fun h9 => by cases h9) ⟨a8, b9, rfl, ha8, ⟨FR.tr (FR.up (FR.rf) (by decide) ea1) (FR.sub fa8.1 (by decide)), trivial⟩, ⟨_, rfl, trivial⟩⟩
set_option maxRecDepth 4000 in
theorem s_flow {K : Nat} (a : Nat → Nat → Int32) (b : Nat → Nat → Int64) (r : Int32) (e : Int32) (s : Int32) (hR : RM K a) (hA : ACA a) : f_call mtM 12 60 [.inr (.inr (some 0)), .inl r, .inl e, .inl s] (mH a b) (fun v9 h' => ∃ (a' : Nat → Nat → Int32) (b' : Nat → Nat → Int64), h' = mH a' b' ∧ RM K a' ∧ (FR [0] a a' ∧ True) ∧ ∃ x : Int32, v9 = some (.inl x) ∧ True) := by
  refine f_call_of (d0 := 11) rfl (Nat.le_of_ble_eq_true rfl) (fun d hd => ?_)
  show f_wp _ (0, [some (.inr (.inr (some 0))), some (.inl r), some (.inl e), some (.inl s)], [], mH a b) _
  have lm1 : (-1 : Int32).toInt = -1 := rfl
  have l0 : (0 : Int32).toInt = 0 := rfl
  have l3 : (3 : Int32).toInt = 3 := rfl
  have l99 : (99 : Int32).toInt = 99 := rfl
  refine w_aload rfl rfl ?_
  refine w_const rfl ?_
  refine m_putI (z := false) rfl rfl rfl rfl (by first | (intro h9; cases h9; done) | (intro _; first | exact Or.inl rfl | exact Or.inr rfl | assumption)) (fun a1 ea1 => ?_)
  have ha1 : RM K a1 := RM.up hR ea1 ⟨ti_lo _, ti_hi _⟩
  have ua1_0 : a1 0 0 = (0 : Int32) := by rw [ea1, mU_same]
  have wa1_0 := congrArg Int32.toInt ua1_0
  refine w_aload rfl rfl ?_
  refine w_iload rfl rfl ?_
  refine w_invV (rest := []) rfl rfl rfl rfl rfl (Nat.le_of_ble_eq_true rfl) rfl (by omega) (s_isRiver (K := K) a1 b  r ha1 ) (fun v2 h9 hq3 => ?_)
  obtain ⟨rfl, x4, rfl, px4⟩ := hq3
  show f_wp _ (10, [some (.inr (.inr (some 0))), some (.inl r), some (.inl e), some (.inl s)], [.inl x4], mH a1 b) _
  refine w_if_eq rfl (fun c5 => ?_) (fun c5 => ?_)
  · skip
    refine w_const rfl ?_
    exact wp_iret (z := false) rfl (fun h9 => by cases h9) ⟨a1, b, rfl, ha1, ⟨FR.up (FR.rf) (by decide) ea1, trivial⟩, ⟨_, rfl, trivial⟩⟩
  · skip
    refine w_iload rfl rfl ?_
    refine w_const rfl ?_
    refine w_const rfl ?_
    refine w_invS (rest := []) rfl (Nat.le_of_ble_eq_true rfl) rfl (Nat.le_of_ble_eq_true rfl) rfl (by omega) (s_within (K := K) a1 b  e 0 99  ) (fun v6 h9 hq7 => ?_)
    obtain ⟨rfl, x8, rfl, px8⟩ := hq7
    show f_wp _ (20, [some (.inr (.inr (some 0))), some (.inl r), some (.inl e), some (.inl s)], [.inl x8], mH a1 b) _
    refine w_if_eq rfl (fun c9 => ?_) (fun c9 => ?_)
    · skip
      refine w_const rfl ?_
      exact wp_iret (z := false) rfl (fun h9 => by cases h9) ⟨a1, b, rfl, ha1, ⟨FR.up (FR.rf) (by decide) ea1, trivial⟩, ⟨_, rfl, trivial⟩⟩
    · skip
      refine w_iload rfl rfl ?_
      refine w_const rfl ?_
      refine w_const rfl ?_
      refine w_invS (rest := []) rfl (Nat.le_of_ble_eq_true rfl) rfl (Nat.le_of_ble_eq_true rfl) rfl (by omega) (s_within (K := K) a1 b  s 0 3  ) (fun v10 h9 hq11 => ?_)
      obtain ⟨rfl, x12, rfl, px12⟩ := hq11
      show f_wp _ (29, [some (.inr (.inr (some 0))), some (.inl r), some (.inl e), some (.inl s)], [.inl x12], mH a1 b) _
      refine w_if_eq rfl (fun c13 => ?_) (fun c13 => ?_)
      · skip
        refine w_const rfl ?_
        exact wp_iret (z := false) rfl (fun h9 => by cases h9) ⟨a1, b, rfl, ha1, ⟨FR.up (FR.rf) (by decide) ea1, trivial⟩, ⟨_, rfl, trivial⟩⟩
      · skip
        refine w_aload rfl rfl ?_
        refine w_iload rfl rfl ?_
        refine w_iload rfl rfl ?_
        refine w_invV (rest := []) rfl rfl rfl rfl rfl (Nat.le_of_ble_eq_true rfl) rfl (by omega) (s_isThere (K := K) a1 b  r e ha1 (by omega)) (fun v14 h9 hq15 => ?_)
        obtain ⟨rfl, x16, rfl, px16⟩ := hq15
        show f_wp _ (38, [some (.inr (.inr (some 0))), some (.inl r), some (.inl e), some (.inl s)], [.inl x16], mH a1 b) _
        refine w_if_eq rfl (fun c17 => ?_) (fun c17 => ?_)
        · skip
          refine w_const rfl ?_
          exact wp_iret (z := false) rfl (fun h9 => by cases h9) ⟨a1, b, rfl, ha1, ⟨FR.up (FR.rf) (by decide) ea1, trivial⟩, ⟨_, rfl, trivial⟩⟩
        · skip
          refine w_aload rfl rfl ?_
          refine w_const rfl ?_
          refine w_iload rfl rfl ?_
          refine w_iload rfl rfl ?_
          refine w_iload rfl rfl ?_
          refine w_invV (rest := []) rfl rfl rfl rfl rfl (Nat.le_of_ble_eq_true rfl) rfl (by omega) (s_flowAt (K := K) a1 b  0 r e s ha1 (by omega) (by omega) (by omega) (((fun h7 => ACA.up ((id) h7) ea1 (by decide)) hA) 0 (by decide))) (fun v18 h9 hq19 => ?_)
          obtain ⟨rfl, x20, rfl, px20⟩ := hq19
          show f_wp _ (49, [some (.inr (.inr (some 0))), some (.inl r), some (.inl e), some (.inl s)], [.inl x20], mH a1 b) _
          refine w_goto rfl ?_
          exact wp_iret (z := false) rfl (fun h9 => by cases h9) ⟨a1, b, rfl, ha1, ⟨FR.up (FR.rf) (by decide) ea1, trivial⟩, ⟨_, rfl, trivial⟩⟩
