set_option maxRecDepth 4000 in
theorem s_keeps {K : Nat} (a : Nat → Nat → Int32) (b : Nat → Nat → Int64)  (hR : RM K a) (hA : AC a 0) (hU : (a 0 23).toInt = 16 → ∀ m, m < 16 → AC a (60 * (5 + m))) : f_call mtM 2 40 [.inr (.inr (some 0))] (mH a b) (fun v9 h' => ∃ (a' : Nat → Nat → Int32), h' = mH a' b ∧ RM K a' ∧ (FR [0, 15] a a' ∧ (∀ m9, m9 < 22 → ACm m9 a → ACm m9 a') ∧ ((∀ j, j < 60 → a' 15 j = a 15 j) ∧ (∀ j, 1260 ≤ j → a' 15 j = a 15 j) ∧ (∀ j, j ≠ 23 → a' 0 j = a 0 j) ∧ 1 ≤ (a' 0 23).toInt ∧ (a' 0 23).toInt ≤ (a 0 23).toInt + 1 ∧ AC a' (60 * (4 + (a' 0 23).toInt.toNat)))) ∧ v9 = none) := by
  refine f_call_of (d0 := 1) rfl (Nat.le_of_ble_eq_true rfl) (fun d hd => ?_)
  show f_wp _ (0, [some (.inr (.inr (some 0))), none], [], mH a b) _
  have l0 : (0 : Int32).toInt = 0 := rfl
  have l1 : (1 : Int32).toInt = 1 := rfl
  have l5 : (5 : Int32).toInt = 5 := rfl
  have l16 : (16 : Int32).toInt = 16 := rfl
  have l19 : (19 : Int32).toInt = 19 := rfl
  have l60 : (60 : Int32).toInt = 60 := rfl
  refine w_aload rfl rfl ?_
  refine w_getI (v := .inl (a 0 23)) rfl rfl rfl rfl rfl ?_
  have q1 : 0 ≤ (a 0 23).toInt ∧ (a 0 23).toInt ≤ 16 := hR 0 23
  refine w_const rfl ?_
  refine w_ic_ne rfl (fun c2 => ?_) (fun c2 => ?_)
  · skip
    refine w_const rfl ?_
    refine w_istore (lo' := [some (.inr (.inr (some 0))), some (.inl 1)]) rfl rfl ?_
    have loop11 : ∀ (ms9 : Nat) (k : Int32) (a11 : Nat → Nat → Int32) , (16 - k.toInt).toNat = ms9 → RM K a11 → FR [0, 15] a a11 → (∀ m9, m9 < 22 → ACm m9 a → ACm m9 a11) → (1 ≤ k.toInt ∧ k.toInt ≤ 16) → ((∀ j, j < 60 → a11 15 j = a 15 j) ∧ (∀ j, 1260 ≤ j → a11 15 j = a 15 j) ∧ a11 0 = a 0) → f_wp (f_code (t_X13_keeps (f_ev mtM d))) (11, [some (.inr (.inr (some 0))), some (.inl k)], [], mH a11 b) (fun v9 h' => ∃ (a' : Nat → Nat → Int32), h' = mH a' b ∧ RM K a' ∧ (FR [0, 15] a a' ∧ (∀ m9, m9 < 22 → ACm m9 a → ACm m9 a') ∧ ((∀ j, j < 60 → a' 15 j = a 15 j) ∧ (∀ j, 1260 ≤ j → a' 15 j = a 15 j) ∧ (∀ j, j ≠ 23 → a' 0 j = a 0 j) ∧ 1 ≤ (a' 0 23).toInt ∧ (a' 0 23).toInt ≤ (a 0 23).toInt + 1 ∧ AC a' (60 * (4 + (a' 0 23).toInt.toNat)))) ∧ v9 = none) := by
      intro ms9
      induction ms9 using Nat.strongRecOn with
      | _ ms11 ih11 =>
        intro k a11  hm11 hR11 hF11 hC11 hk hS
        have z9 : (a11 0 23).toInt = (a 0 23).toInt := by rw [hS.2.2]
        refine w_iload rfl rfl ?_
        refine w_const rfl ?_
        refine w_ic_ge rfl (fun c3 => ?_) (fun c3 => ?_)
        · skip
          refine w_aload rfl rfl ?_
          refine w_dup rfl rfl ?_
          refine w_getI (v := .inl (a11 0 23)) rfl rfl rfl rfl rfl ?_
          have q4 : 0 ≤ (a11 0 23).toInt ∧ (a11 0 23).toInt ≤ 16 := hR11 0 23
          refine w_const rfl ?_
          first | refine w_isub rfl (by omega) (fun x5 tx5 => ?_) | refine w_iiU rfl (fun x5 tx5 => ?_)
          refine m_putI (z := false) rfl rfl rfl rfl (by first | (intro h9; cases h9; done) | (intro _; first | exact Or.inl rfl | exact Or.inr rfl | assumption)) (fun a6 ea6 => ?_)
          have ha6 : RM K a6 := RM.up hR11 ea6 (show (0 : Int) ≤ _ ∧ _ ≤ (16 : Int) from by omega)
          have ua6_23 : a6 0 23 = x5 := by rw [ea6, mU_same]
          have wa6_23 := congrArg Int32.toInt ua6_23
          refine w_aload rfl rfl ?_
          refine w_const rfl ?_
          refine w_const rfl ?_
          refine w_const rfl ?_
          refine w_aload rfl rfl ?_
          refine w_getI (v := .inl (a6 0 23)) rfl rfl rfl rfl rfl ?_
          have q7 : 0 ≤ (a6 0 23).toInt ∧ (a6 0 23).toInt ≤ 16 := ha6 0 23
          first | refine w_iadd rfl (by omega) (fun x8 tx8 => ?_) | refine w_iiU rfl (fun x8 tx8 => ?_)
          first | refine w_imul rfl (c := 60) rfl (by omega) (fun x9 tx9 => ?_) | refine w_iiU rfl (fun x9 tx9 => ?_)
          refine w_const rfl ?_
          have s8 : AC a6 0 := AC.at ((fun (m9 : Nat) (l9 : m9 < 22) (h7 : ACm m9 a) => ACm.up ((hC11) m9 l9 h7) ea6 (by decide)) 0 (by decide) hA) (by decide)
          refine w_invV (rest := []) rfl rfl rfl rfl rfl (Nat.le_of_ble_eq_true rfl) rfl (by omega) (s_copies (K := K) a6 b  0 x9 19 ha6 (by omega) (by omega) (by omega) (AC.at s8 (by decide))) (fun v10 h9 hq11 => ?_)
          obtain ⟨a12, rfl, ha12, fa12, rfl⟩ := hq11
          have ua12_23 : (a12 0 23).toInt = (a6 0 23).toInt := by rw [fa12.1 0 (by decide)]
          show f_wp _ (69, [some (.inr (.inr (some 0))), some (.inl k)], [], mH a12 b) _
          have s9 := AC.copied (q := 0) s8 (by decide) fa12.2.2
          refine w_aload rfl rfl ?_
          refine w_dup rfl rfl ?_
          refine w_getI (v := .inl (a12 0 23)) rfl rfl rfl rfl rfl ?_
          have q13 : 0 ≤ (a12 0 23).toInt ∧ (a12 0 23).toInt ≤ 16 := ha12 0 23
          refine w_const rfl ?_
          first | refine w_iadd rfl (by omega) (fun x14 tx14 => ?_) | refine w_iiU rfl (fun x14 tx14 => ?_)
          refine m_putI (z := false) rfl rfl rfl rfl (by first | (intro h9; cases h9; done) | (intro _; first | exact Or.inl rfl | exact Or.inr rfl | assumption)) (fun a15 ea15 => ?_)
          have ha15 : RM K a15 := RM.up ha12 ea15 (show (0 : Int) ≤ _ ∧ _ ≤ (16 : Int) from by omega)
          have ua15_23 : a15 0 23 = x14 := by rw [ea15, mU_same]
          have wa15_23 := congrArg Int32.toInt ua15_23
          exact w_ret rfl ⟨a15, rfl, ha15, ⟨FR.up (FR.tr (FR.up (hF11) (by decide) ea6) (FR.sub fa12.1 (by decide))) (by decide) ea15, fun (m9 : Nat) (l9 : m9 < 22) (h7 : ACm m9 a) => ACm.up ((fun (m9 : Nat) (l9 : m9 < 22) (h7 : ACm m9 a) => fa12.2.1 m9 (by omega) ((fun (m9 : Nat) (l9 : m9 < 22) (h7 : ACm m9 a) => ACm.up ((hC11) m9 l9 h7) ea6 (by decide)) m9 l9 h7)) m9 l9 h7) ea15 (by decide), ⟨fun j hj => by rw [ea15, mU_cell (by decide), fa12.2.2 j, if_neg (by omega), ea6, mU_cell (by decide)]; exact hS.1 j hj, fun j hj => by rw [ea15, mU_cell (by decide), fa12.2.2 j, if_neg (by omega), ea6, mU_cell (by decide)]; exact hS.2.1 j hj, fun j hj => by rw [ea15, mU_slot hj, fa12.1 0 (by decide), ea6, mU_slot hj, hS.2.2], by omega, by omega, AC.at (AC.same s9 (fun r9 _ => by rw [ea15, mU_cell (by decide)])) (by omega)⟩⟩, rfl⟩
        · skip
          refine w_aload rfl rfl ?_
          refine w_const rfl ?_
          refine w_const rfl ?_
          refine w_iload rfl rfl ?_
          first | refine w_iadd rfl (by omega) (fun x16 tx16 => ?_) | refine w_iiU rfl (fun x16 tx16 => ?_)
          first | refine w_imul rfl (c := 60) rfl (by omega) (fun x17 tx17 => ?_) | refine w_iiU rfl (fun x17 tx17 => ?_)
          refine w_const rfl ?_
          refine w_const rfl ?_
          refine w_iload rfl rfl ?_
          first | refine w_iadd rfl (by omega) (fun x18 tx18 => ?_) | refine w_iiU rfl (fun x18 tx18 => ?_)
          refine w_const rfl ?_
          first | refine w_isub rfl (by omega) (fun x19 tx19 => ?_) | refine w_iiU rfl (fun x19 tx19 => ?_)
          first | refine w_imul rfl (c := 60) rfl (by omega) (fun x20 tx20 => ?_) | refine w_iiU rfl (fun x20 tx20 => ?_)
          refine w_const rfl ?_
          refine w_invV (rest := []) rfl rfl rfl rfl rfl (Nat.le_of_ble_eq_true rfl) rfl (by omega) (s_copies (K := K) a11 b  x17 x20 19 hR11 (by omega) (by omega) (by omega) (AC.at ((hC11) (5 + k.toInt.toNat) (by omega) (hU (by omega) k.toInt.toNat (by omega))) (by omega))) (fun v21 h9 hq22 => ?_)
          obtain ⟨a23, rfl, ha23, fa23, rfl⟩ := hq22
          have ua23_23 : (a23 0 23).toInt = (a11 0 23).toInt := by rw [fa23.1 0 (by decide)]
          show f_wp _ (37, [some (.inr (.inr (some 0))), some (.inl k)], [], mH a23 b) _
          refine w_iinc (lo' := fun z9 => [some (.inr (.inr (some 0))), some (.inl z9)]) rfl rfl (fun _ => rfl) (by omega) (fun x24 tx24 => ?_)
          refine w_goto rfl ?_
          exact ih11 (16 - x24.toInt).toNat (by omega) x24 a23 rfl ha23 (FR.tr (hF11) (FR.sub fa23.1 (by decide))) (fun (m9 : Nat) (l9 : m9 < 22) (h7 : ACm m9 a) => fa23.2.1 m9 (by omega) ((hC11) m9 l9 h7)) (by omega) (⟨fun j hj => by rw [fa23.2.2 j, if_neg (by omega)]; exact hS.1 j hj, fun j hj => by rw [fa23.2.2 j, if_neg (by omega)]; exact hS.2.1 j hj, by rw [fa23.1 0 (by decide)]; exact hS.2.2⟩)
    exact loop11 _ 1 a rfl hR (FR.rf) (fun (m9 : Nat) (l9 : m9 < 22) (h7 : ACm m9 a) => h7) (by omega) (⟨fun _ _ => rfl, fun _ _ => rfl, rfl⟩)
  · skip
    refine w_aload rfl rfl ?_
    refine w_const rfl ?_
    refine w_const rfl ?_
    refine w_const rfl ?_
    refine w_aload rfl rfl ?_
    refine w_getI (v := .inl (a 0 23)) rfl rfl rfl rfl rfl ?_
    have q25 : 0 ≤ (a 0 23).toInt ∧ (a 0 23).toInt ≤ 16 := hR 0 23
    first | refine w_iadd rfl (by omega) (fun x26 tx26 => ?_) | refine w_iiU rfl (fun x26 tx26 => ?_)
    first | refine w_imul rfl (c := 60) rfl (by omega) (fun x27 tx27 => ?_) | refine w_iiU rfl (fun x27 tx27 => ?_)
    refine w_const rfl ?_
    have s8 : AC a 0 := AC.at ((fun (m9 : Nat) (l9 : m9 < 22) (h7 : ACm m9 a) => h7) 0 (by decide) hA) (by decide)
    refine w_invV (rest := []) rfl rfl rfl rfl rfl (Nat.le_of_ble_eq_true rfl) rfl (by omega) (s_copies (K := K) a b  0 x27 19 hR (by omega) (by omega) (by omega) (AC.at s8 (by decide))) (fun v28 h9 hq29 => ?_)
    obtain ⟨a30, rfl, ha30, fa30, rfl⟩ := hq29
    have ua30_23 : (a30 0 23).toInt = (a 0 23).toInt := by rw [fa30.1 0 (by decide)]
    show f_wp _ (69, [some (.inr (.inr (some 0))), none], [], mH a30 b) _
    have s9 := AC.copied (q := 0) s8 (by decide) fa30.2.2
    refine w_aload rfl rfl ?_
    refine w_dup rfl rfl ?_
    refine w_getI (v := .inl (a30 0 23)) rfl rfl rfl rfl rfl ?_
    have q31 : 0 ≤ (a30 0 23).toInt ∧ (a30 0 23).toInt ≤ 16 := ha30 0 23
    refine w_const rfl ?_
    first | refine w_iadd rfl (by omega) (fun x32 tx32 => ?_) | refine w_iiU rfl (fun x32 tx32 => ?_)
    refine m_putI (z := false) rfl rfl rfl rfl (by first | (intro h9; cases h9; done) | (intro _; first | exact Or.inl rfl | exact Or.inr rfl | assumption)) (fun a33 ea33 => ?_)
    have ha33 : RM K a33 := RM.up ha30 ea33 (show (0 : Int) ≤ _ ∧ _ ≤ (16 : Int) from by omega)
    have ua33_23 : a33 0 23 = x32 := by rw [ea33, mU_same]
    have wa33_23 := congrArg Int32.toInt ua33_23
    exact w_ret rfl ⟨a33, rfl, ha33, ⟨FR.up (FR.tr (FR.rf) (FR.sub fa30.1 (by decide))) (by decide) ea33, fun (m9 : Nat) (l9 : m9 < 22) (h7 : ACm m9 a) => ACm.up ((fun (m9 : Nat) (l9 : m9 < 22) (h7 : ACm m9 a) => fa30.2.1 m9 (by omega) ((fun (m9 : Nat) (l9 : m9 < 22) (h7 : ACm m9 a) => h7) m9 l9 h7)) m9 l9 h7) ea33 (by decide), ⟨fun j hj => by rw [ea33, mU_cell (by decide), fa30.2.2 j, if_neg (by omega)], fun j hj => by rw [ea33, mU_cell (by decide), fa30.2.2 j, if_neg (by omega)], fun j hj => by rw [ea33, mU_slot hj, fa30.1 0 (by decide)], by omega, by omega, AC.at (AC.same s9 (fun r9 _ => by rw [ea33, mU_cell (by decide)])) (by omega)⟩⟩, rfl⟩
set_option maxRecDepth 4000 in
theorem s_undo {K : Nat} (a : Nat → Nat → Int32) (b : Nat → Nat → Int64)  (hR : RM K a) (hU : ∀ k : Nat, (k : Int) < (a 0 23).toInt → AC a (60 * (5 + k))) : f_call mtM 2 77 [.inr (.inr (some 0))] (mH a b) (fun v9 h' => ∃ (a' : Nat → Nat → Int32), h' = mH a' b ∧ RM K a' ∧ (FR [0, 15] a a' ∧ (∀ m9, m9 < 22 → ACm m9 a → ACm m9 a') ∧ ((a' 0 23).toInt ≤ (a 0 23).toInt)) ∧ ∃ x : Int32, v9 = some (.inl x) ∧ (x.toInt = 0 ∨ x.toInt = 1)) := by
  refine f_call_of (d0 := 1) rfl (Nat.le_of_ble_eq_true rfl) (fun d hd => ?_)
  show f_wp _ (0, [some (.inr (.inr (some 0)))], [], mH a b) _
  have l0 : (0 : Int32).toInt = 0 := rfl
  have l1 : (1 : Int32).toInt = 1 := rfl
  have l5 : (5 : Int32).toInt = 5 := rfl
  have l19 : (19 : Int32).toInt = 19 := rfl
  have l60 : (60 : Int32).toInt = 60 := rfl
  have k23 : 0 ≤ (a 0 23).toInt ∧ (a 0 23).toInt ≤ 16 := hR 0 23
  refine w_aload rfl rfl ?_
  refine w_const rfl ?_
  refine m_putI (z := false) rfl rfl rfl rfl (by first | (intro h9; cases h9; done) | (intro _; first | exact Or.inl rfl | exact Or.inr rfl | assumption)) (fun a1 ea1 => ?_)
  have ha1 : RM K a1 := RM.up hR ea1 ⟨ti_lo _, ti_hi _⟩
  have ua1_0 : a1 0 0 = (0 : Int32) := by rw [ea1, mU_same]
  have wa1_0 := congrArg Int32.toInt ua1_0
  have u0 : (a1 0 23).toInt = (a 0 23).toInt := by rw [ea1, mU_slot (by decide)]
  refine w_aload rfl rfl ?_
  refine w_getI (v := .inl (a1 0 23)) rfl rfl rfl rfl rfl ?_
  have q2 : 0 ≤ (a1 0 23).toInt ∧ (a1 0 23).toInt ≤ 16 := ha1 0 23
  refine w_if_ne rfl (fun c3 => ?_) (fun c3 => ?_)
  · skip
    refine w_const rfl ?_
    exact wp_iret (z := true) rfl (fun _ => by first | exact Or.inl rfl | exact Or.inr rfl | (rcases (by omega : (0 : Int32).toInt = 0 ∨ (0 : Int32).toInt = 1) with h8 | h8; exact Or.inl (ti_eq h8); exact Or.inr (ti_eq h8))) ⟨a1, rfl, ha1, ⟨FR.up (FR.rf) (by decide) ea1, fun (m9 : Nat) (l9 : m9 < 22) (h7 : ACm m9 a) => ACm.up ((fun (m9 : Nat) (l9 : m9 < 22) (h7 : ACm m9 a) => h7) m9 l9 h7) ea1 (by decide), by first | omega | (rw [ea1]; first | (rw [mU_same]; omega) | (rw [mU_slot (by decide)]; omega) | (rw [mU_slot (by decide)]; exact Int.le_refl _))⟩, ⟨_, rfl, by omega⟩⟩
  · skip
    refine w_aload rfl rfl ?_
    refine w_dup rfl rfl ?_
    refine w_getI (v := .inl (a1 0 23)) rfl rfl rfl rfl rfl ?_
    have q4 : 0 ≤ (a1 0 23).toInt ∧ (a1 0 23).toInt ≤ 16 := ha1 0 23
    refine w_const rfl ?_
    first | refine w_isub rfl (by omega) (fun x5 tx5 => ?_) | refine w_iiU rfl (fun x5 tx5 => ?_)
    refine m_putI (z := false) rfl rfl rfl rfl (by first | (intro h9; cases h9; done) | (intro _; first | exact Or.inl rfl | exact Or.inr rfl | assumption)) (fun a6 ea6 => ?_)
    have ha6 : RM K a6 := RM.up ha1 ea6 (show (0 : Int) ≤ _ ∧ _ ≤ (16 : Int) from by omega)
    have ua6_23 : a6 0 23 = x5 := by rw [ea6, mU_same]
    have wa6_23 := congrArg Int32.toInt ua6_23
    refine w_aload rfl rfl ?_
    refine w_const rfl ?_
    refine w_const rfl ?_
    refine w_aload rfl rfl ?_
    refine w_getI (v := .inl (a6 0 23)) rfl rfl rfl rfl rfl ?_
    have q7 : 0 ≤ (a6 0 23).toInt ∧ (a6 0 23).toInt ≤ 16 := ha6 0 23
    first | refine w_iadd rfl (by omega) (fun x8 tx8 => ?_) | refine w_iiU rfl (fun x8 tx8 => ?_)
    first | refine w_imul rfl (c := 60) rfl (by omega) (fun x9 tx9 => ?_) | refine w_iiU rfl (fun x9 tx9 => ?_)
    refine w_const rfl ?_
    refine w_const rfl ?_
    refine w_invV (rest := []) rfl rfl rfl rfl rfl (Nat.le_of_ble_eq_true rfl) rfl (by omega) (s_copies (K := K) a6 b  x9 0 19 ha6 (by omega) (by omega) (by omega) (AC.at ((fun (m9 : Nat) (l9 : m9 < 22) (h7 : ACm m9 a) => ACm.up ((fun (m9 : Nat) (l9 : m9 < 22) (h7 : ACm m9 a) => ACm.up ((fun (m9 : Nat) (l9 : m9 < 22) (h7 : ACm m9 a) => h7) m9 l9 h7) ea1 (by decide)) m9 l9 h7) ea6 (by decide)) (5 + ((a 0 23).toInt.toNat - 1)) (by omega) (hU ((a 0 23).toInt.toNat - 1) (by omega))) (by omega))) (fun v10 h9 hq11 => ?_)
    obtain ⟨a12, rfl, ha12, fa12, rfl⟩ := hq11
    have ua12_23 : (a12 0 23).toInt = (a6 0 23).toInt := by rw [fa12.1 0 (by decide)]
    show f_wp _ (40, [some (.inr (.inr (some 0)))], [], mH a12 b) _
    refine w_const rfl ?_
    exact wp_iret (z := true) rfl (fun _ => by first | exact Or.inl rfl | exact Or.inr rfl | (rcases (by omega : (1 : Int32).toInt = 0 ∨ (1 : Int32).toInt = 1) with h8 | h8; exact Or.inl (ti_eq h8); exact Or.inr (ti_eq h8))) ⟨a12, rfl, ha12, ⟨FR.tr (FR.up (FR.up (FR.rf) (by decide) ea1) (by decide) ea6) (FR.sub fa12.1 (by decide)), fun (m9 : Nat) (l9 : m9 < 22) (h7 : ACm m9 a) => fa12.2.1 m9 (by omega) ((fun (m9 : Nat) (l9 : m9 < 22) (h7 : ACm m9 a) => ACm.up ((fun (m9 : Nat) (l9 : m9 < 22) (h7 : ACm m9 a) => ACm.up ((fun (m9 : Nat) (l9 : m9 < 22) (h7 : ACm m9 a) => h7) m9 l9 h7) ea1 (by decide)) m9 l9 h7) ea6 (by decide)) m9 l9 h7), by first | omega | (rw [fa12.1 0 (by decide), ea6]; first | (rw [mU_same]; omega) | (rw [mU_slot (by decide)]; omega) | (rw [mU_slot (by decide)]; exact Int.le_refl _))⟩, ⟨_, rfl, by omega⟩⟩
set_option maxRecDepth 4000 in
theorem s_mark {K : Nat} (a : Nat → Nat → Int32) (b : Nat → Nat → Int64) (m : Int32) (bk : Int32) (hR : RM K a) (hbk : bk.toInt = 0 ∨ bk.toInt = 1) (hA : AC a 0) (hM : ∀ m9 : Nat, m9 < 4 → (a 16 m9).toInt ≠ 0 → AC a (60 * (1 + m9))) : f_call mtM 2 112 [.inr (.inr (some 0)), .inl m, .inl bk] (mH a b) (fun v9 h' => ∃ (a' : Nat → Nat → Int32), h' = mH a' b ∧ RM K a' ∧ (FR [0, 15, 16] a a' ∧ (∀ m9, m9 < 22 → ACm m9 a → ACm m9 a') ∧ ((∀ m9 : Nat, m9 < 4 → (a' 16 m9).toInt ≠ 0 → (a 16 m9).toInt ≠ 0 ∨ AC a' (60 * (1 + m9))) ∧ (a' 0 23).toInt ≤ (a 0 23).toInt)) ∧ ∃ x : Int32, v9 = some (.inl x) ∧ (x.toInt = 0 ∨ x.toInt = 1)) := by
  refine f_call_of (d0 := 1) rfl (Nat.le_of_ble_eq_true rfl) (fun d hd => ?_)
  show f_wp _ (0, [some (.inr (.inr (some 0))), some (.inl m), some (.inl bk)], [], mH a b) _
  have l0 : (0 : Int32).toInt = 0 := rfl
  have l1 : (1 : Int32).toInt = 1 := rfl
  have l3 : (3 : Int32).toInt = 3 := rfl
  have l60 : (60 : Int32).toInt = 60 := rfl
  have k23 : 0 ≤ (a 0 23).toInt ∧ (a 0 23).toInt ≤ 16 := hR 0 23
  refine w_aload rfl rfl ?_
  refine w_const rfl ?_
  refine m_putI (z := false) rfl rfl rfl rfl (by first | (intro h9; cases h9; done) | (intro _; first | exact Or.inl rfl | exact Or.inr rfl | assumption)) (fun a1 ea1 => ?_)
  have ha1 : RM K a1 := RM.up hR ea1 ⟨ti_lo _, ti_hi _⟩
  have ua1_0 : a1 0 0 = (0 : Int32) := by rw [ea1, mU_same]
  have wa1_0 := congrArg Int32.toInt ua1_0
  have u0 : (a1 0 23).toInt = (a 0 23).toInt := by rw [ea1, mU_slot (by decide)]
  refine w_iload rfl rfl ?_
  refine w_const rfl ?_
  refine w_const rfl ?_
  refine w_invS (rest := []) rfl (Nat.le_of_ble_eq_true rfl) rfl (Nat.le_of_ble_eq_true rfl) rfl (by omega) (s_within (K := K) a1 b  m 0 3  ) (fun v2 h9 hq3 => ?_)
  obtain ⟨rfl, x4, rfl, px4⟩ := hq3
  show f_wp _ (11, [some (.inr (.inr (some 0))), some (.inl m), some (.inl bk)], [.inl x4], mH a1 b) _
  refine w_if_eq rfl (fun c5 => ?_) (fun c5 => ?_)
  · skip
    refine w_const rfl ?_
    exact wp_iret (z := true) rfl (fun _ => by first | exact Or.inl rfl | exact Or.inr rfl | (rcases (by omega : (0 : Int32).toInt = 0 ∨ (0 : Int32).toInt = 1) with h8 | h8; exact Or.inl (ti_eq h8); exact Or.inr (ti_eq h8))) ⟨a1, rfl, ha1, ⟨FR.up (FR.rf) (by decide) ea1, fun (m9 : Nat) (l9 : m9 < 22) (h7 : ACm m9 a) => ACm.up ((fun (m9 : Nat) (l9 : m9 < 22) (h7 : ACm m9 a) => h7) m9 l9 h7) ea1 (by decide), ⟨fun m9 _ h9 => Or.inl (by rw [ea1, mU_cell (by decide)] at h9; exact h9), by rw [ea1, mU_slot (by decide)]; exact Int.le_refl _⟩⟩, ⟨_, rfl, by omega⟩⟩
  · skip
    refine w_iload rfl rfl ?_
    refine w_if_eq rfl (fun c6 => ?_) (fun c6 => ?_)
    · skip
      refine w_aload rfl rfl ?_
      refine w_getR (v := .inr (.inr (some 16))) rfl rfl rfl rfl rfl ?_
      refine w_iload rfl rfl ?_
      refine w_const rfl ?_
      refine m_bast rfl rfl (by omega) (fun a7 ea7 => ?_)
      have ha7 : RM K a7 := RM.up ha1 ea7 (ti_nz _)
      have u5 : (a7 0 23).toInt = (a 0 23).toInt := by rw [ea7, mU_cell (by decide)]; exact u0
      refine w_aload rfl rfl ?_
      refine w_iload rfl rfl ?_
      refine w_if_eq rfl (fun c8 => ?_) (fun c8 => ?_)
      · skip
        refine w_const rfl ?_
        refine w_iload rfl rfl ?_
        refine w_if_eq rfl (fun c9 => ?_) (fun c9 => ?_)
        · skip
          refine w_const rfl ?_
          refine w_const rfl ?_
          refine w_iload rfl rfl ?_
          first | refine w_iadd rfl (by omega) (fun x10 tx10 => ?_) | refine w_iiU rfl (fun x10 tx10 => ?_)
          first | refine w_imul rfl (c := 60) rfl (by omega) (fun x11 tx11 => ?_) | refine w_iiU rfl (fun x11 tx11 => ?_)
          refine w_const rfl ?_
          have s8 : AC a7 0 := AC.at ((fun (m9 : Nat) (l9 : m9 < 22) (h7 : ACm m9 a) => ACm.up ((fun (m9 : Nat) (l9 : m9 < 22) (h7 : ACm m9 a) => ACm.up ((fun (m9 : Nat) (l9 : m9 < 22) (h7 : ACm m9 a) => h7) m9 l9 h7) ea1 (by decide)) m9 l9 h7) ea7 (by decide)) 0 (by decide) hA) (by decide)
          refine w_invV (rest := []) rfl rfl rfl rfl rfl (Nat.le_of_ble_eq_true rfl) rfl (by omega) (s_copies (K := K) a7 b  0 x11 60 ha7 (by omega) (by omega) (by omega) (by first | exact AC.at ((fun (m9 : Nat) (l9 : m9 < 22) (h7 : ACm m9 a) => ACm.up ((fun (m9 : Nat) (l9 : m9 < 22) (h7 : ACm m9 a) => ACm.up ((fun (m9 : Nat) (l9 : m9 < 22) (h7 : ACm m9 a) => h7) m9 l9 h7) ea1 (by decide)) m9 l9 h7) ea7 (by decide)) 0 (by decide) hA) (by omega) | exact AC.at ((fun (m9 : Nat) (l9 : m9 < 22) (h7 : ACm m9 a) => ACm.up ((fun (m9 : Nat) (l9 : m9 < 22) (h7 : ACm m9 a) => ACm.up ((fun (m9 : Nat) (l9 : m9 < 22) (h7 : ACm m9 a) => h7) m9 l9 h7) ea1 (by decide)) m9 l9 h7) ea7 (by decide)) 0 (by decide) hA) (by decide) | exact AC.at ((fun (m9 : Nat) (l9 : m9 < 22) (h7 : ACm m9 a) => ACm.up ((fun (m9 : Nat) (l9 : m9 < 22) (h7 : ACm m9 a) => ACm.up ((fun (m9 : Nat) (l9 : m9 < 22) (h7 : ACm m9 a) => h7) m9 l9 h7) ea1 (by decide)) m9 l9 h7) ea7 (by decide)) (1 + m.toInt.toNat) (by omega) (hM m.toInt.toNat (by omega) (by omega))) (by omega))) (fun v12 h9 hq13 => ?_)
          obtain ⟨a14, rfl, ha14, fa14, rfl⟩ := hq13
          show f_wp _ (70, [some (.inr (.inr (some 0))), some (.inl m), some (.inl bk)], [], mH a14 b) _
          have u6 : (a14 0 23).toInt = (a 0 23).toInt := by rw [fa14.1 0 (by decide)]; exact u5
          have s9 : AC a14 (60 * (1 + m.toInt.toNat)) ∨ bk.toInt = 1 := by first | exact Or.inr (by omega) | exact Or.inl (AC.at (AC.copied (q := 0) s8 (by decide) fa14.2.2) (by omega))
          refine w_aload rfl rfl ?_
          refine w_iload rfl rfl ?_
          refine w_if_eq rfl (fun c15 => ?_) (fun c15 => ?_)
          · skip
            refine w_aload rfl rfl ?_
            refine w_getI (v := .inl (a14 0 23)) rfl rfl rfl rfl rfl ?_
            have q16 : 0 ≤ (a14 0 23).toInt ∧ (a14 0 23).toInt ≤ 16 := ha14 0 23
            refine m_putI (z := false) rfl rfl rfl rfl (by first | (intro h9; cases h9; done) | (intro _; first | exact Or.inl rfl | exact Or.inr rfl | assumption)) (fun a17 ea17 => ?_)
            have ha17 : RM K a17 := RM.up ha14 ea17 (show (0 : Int) ≤ _ ∧ _ ≤ (16 : Int) from by omega)
            have ua17_23 : a17 0 23 = (a14 0 23) := by rw [ea17, mU_same]
            have wa17_23 := congrArg Int32.toInt ua17_23
            refine w_const rfl ?_
            exact wp_iret (z := true) rfl (fun _ => by first | exact Or.inl rfl | exact Or.inr rfl | (rcases (by omega : (1 : Int32).toInt = 0 ∨ (1 : Int32).toInt = 1) with h8 | h8; exact Or.inl (ti_eq h8); exact Or.inr (ti_eq h8))) ⟨a17, rfl, ha17, ⟨FR.up (FR.tr (FR.up (FR.up (FR.rf) (by decide) ea1) (by decide) ea7) (FR.sub fa14.1 (by decide))) (by decide) ea17, fun (m9 : Nat) (l9 : m9 < 22) (h7 : ACm m9 a) => ACm.up ((fun (m9 : Nat) (l9 : m9 < 22) (h7 : ACm m9 a) => fa14.2.1 m9 (by omega) ((fun (m9 : Nat) (l9 : m9 < 22) (h7 : ACm m9 a) => ACm.up ((fun (m9 : Nat) (l9 : m9 < 22) (h7 : ACm m9 a) => ACm.up ((fun (m9 : Nat) (l9 : m9 < 22) (h7 : ACm m9 a) => h7) m9 l9 h7) ea1 (by decide)) m9 l9 h7) ea7 (by decide)) m9 l9 h7)) m9 l9 h7) ea17 (by decide), ⟨fun m9 l9 h9 => by by_cases z9 : m9 = m.toInt.toNat; (first | (left; subst z9; omega) | (right; subst z9; exact AC.same (s9.resolve_right (by omega)) (fun r9 _ => by rw [ea17, mU_cell (by decide)]))); (left; rw [ea17, mU_cell (by decide), fa14.1 16 (by decide), ea7, mU_slot (by omega), ea1, mU_cell (by decide)] at h9; exact h9), by omega⟩⟩, ⟨_, rfl, by omega⟩⟩
          · skip
            refine w_const rfl ?_
            refine w_goto rfl ?_
            refine m_putI (z := false) rfl rfl rfl rfl (by first | (intro h9; cases h9; done) | (intro _; first | exact Or.inl rfl | exact Or.inr rfl | assumption)) (fun a18 ea18 => ?_)
            have ha18 : RM K a18 := RM.up ha14 ea18 (show (0 : Int) ≤ _ ∧ _ ≤ (16 : Int) from by omega)
            have ua18_23 : a18 0 23 = (0 : Int32) := by rw [ea18, mU_same]
            have wa18_23 := congrArg Int32.toInt ua18_23
            refine w_const rfl ?_
            exact wp_iret (z := true) rfl (fun _ => by first | exact Or.inl rfl | exact Or.inr rfl | (rcases (by omega : (1 : Int32).toInt = 0 ∨ (1 : Int32).toInt = 1) with h8 | h8; exact Or.inl (ti_eq h8); exact Or.inr (ti_eq h8))) ⟨a18, rfl, ha18, ⟨FR.up (FR.tr (FR.up (FR.up (FR.rf) (by decide) ea1) (by decide) ea7) (FR.sub fa14.1 (by decide))) (by decide) ea18, fun (m9 : Nat) (l9 : m9 < 22) (h7 : ACm m9 a) => ACm.up ((fun (m9 : Nat) (l9 : m9 < 22) (h7 : ACm m9 a) => fa14.2.1 m9 (by omega) ((fun (m9 : Nat) (l9 : m9 < 22) (h7 : ACm m9 a) => ACm.up ((fun (m9 : Nat) (l9 : m9 < 22) (h7 : ACm m9 a) => ACm.up ((fun (m9 : Nat) (l9 : m9 < 22) (h7 : ACm m9 a) => h7) m9 l9 h7) ea1 (by decide)) m9 l9 h7) ea7 (by decide)) m9 l9 h7)) m9 l9 h7) ea18 (by decide), ⟨fun m9 l9 h9 => by by_cases z9 : m9 = m.toInt.toNat; (first | (left; subst z9; omega) | (right; subst z9; exact AC.same (s9.resolve_right (by omega)) (fun r9 _ => by rw [ea18, mU_cell (by decide)]))); (left; rw [ea18, mU_cell (by decide), fa14.1 16 (by decide), ea7, mU_slot (by omega), ea1, mU_cell (by decide)] at h9; exact h9), by omega⟩⟩, ⟨_, rfl, by omega⟩⟩
        · skip
          refine w_const rfl ?_
          refine w_goto rfl ?_
          refine w_const rfl ?_
          have s8 : AC a7 0 := AC.at ((fun (m9 : Nat) (l9 : m9 < 22) (h7 : ACm m9 a) => ACm.up ((fun (m9 : Nat) (l9 : m9 < 22) (h7 : ACm m9 a) => ACm.up ((fun (m9 : Nat) (l9 : m9 < 22) (h7 : ACm m9 a) => h7) m9 l9 h7) ea1 (by decide)) m9 l9 h7) ea7 (by decide)) 0 (by decide) hA) (by decide)
          refine w_invV (rest := []) rfl rfl rfl rfl rfl (Nat.le_of_ble_eq_true rfl) rfl (by omega) (s_copies (K := K) a7 b  0 0 60 ha7 (by omega) (by omega) (by omega) (by first | exact AC.at ((fun (m9 : Nat) (l9 : m9 < 22) (h7 : ACm m9 a) => ACm.up ((fun (m9 : Nat) (l9 : m9 < 22) (h7 : ACm m9 a) => ACm.up ((fun (m9 : Nat) (l9 : m9 < 22) (h7 : ACm m9 a) => h7) m9 l9 h7) ea1 (by decide)) m9 l9 h7) ea7 (by decide)) 0 (by decide) hA) (by omega) | exact AC.at ((fun (m9 : Nat) (l9 : m9 < 22) (h7 : ACm m9 a) => ACm.up ((fun (m9 : Nat) (l9 : m9 < 22) (h7 : ACm m9 a) => ACm.up ((fun (m9 : Nat) (l9 : m9 < 22) (h7 : ACm m9 a) => h7) m9 l9 h7) ea1 (by decide)) m9 l9 h7) ea7 (by decide)) 0 (by decide) hA) (by decide) | exact AC.at ((fun (m9 : Nat) (l9 : m9 < 22) (h7 : ACm m9 a) => ACm.up ((fun (m9 : Nat) (l9 : m9 < 22) (h7 : ACm m9 a) => ACm.up ((fun (m9 : Nat) (l9 : m9 < 22) (h7 : ACm m9 a) => h7) m9 l9 h7) ea1 (by decide)) m9 l9 h7) ea7 (by decide)) (1 + m.toInt.toNat) (by omega) (hM m.toInt.toNat (by omega) (by omega))) (by omega))) (fun v19 h9 hq20 => ?_)
          obtain ⟨a21, rfl, ha21, fa21, rfl⟩ := hq20
          show f_wp _ (70, [some (.inr (.inr (some 0))), some (.inl m), some (.inl bk)], [], mH a21 b) _
          have u6 : (a21 0 23).toInt = (a 0 23).toInt := by rw [fa21.1 0 (by decide)]; exact u5
          have s9 : AC a21 (60 * (1 + m.toInt.toNat)) ∨ bk.toInt = 1 := by first | exact Or.inr (by omega) | exact Or.inl (AC.at (AC.copied (q := 0) s8 (by decide) fa21.2.2) (by omega))
          refine w_aload rfl rfl ?_
          refine w_iload rfl rfl ?_
          refine w_if_eq rfl (fun c22 => ?_) (fun c22 => ?_)
          · skip
            refine w_aload rfl rfl ?_
            refine w_getI (v := .inl (a21 0 23)) rfl rfl rfl rfl rfl ?_
            have q23 : 0 ≤ (a21 0 23).toInt ∧ (a21 0 23).toInt ≤ 16 := ha21 0 23
            refine m_putI (z := false) rfl rfl rfl rfl (by first | (intro h9; cases h9; done) | (intro _; first | exact Or.inl rfl | exact Or.inr rfl | assumption)) (fun a24 ea24 => ?_)
            have ha24 : RM K a24 := RM.up ha21 ea24 (show (0 : Int) ≤ _ ∧ _ ≤ (16 : Int) from by omega)
            have ua24_23 : a24 0 23 = (a21 0 23) := by rw [ea24, mU_same]
            have wa24_23 := congrArg Int32.toInt ua24_23
            refine w_const rfl ?_
            exact wp_iret (z := true) rfl (fun _ => by first | exact Or.inl rfl | exact Or.inr rfl | (rcases (by omega : (1 : Int32).toInt = 0 ∨ (1 : Int32).toInt = 1) with h8 | h8; exact Or.inl (ti_eq h8); exact Or.inr (ti_eq h8))) ⟨a24, rfl, ha24, ⟨FR.up (FR.tr (FR.up (FR.up (FR.rf) (by decide) ea1) (by decide) ea7) (FR.sub fa21.1 (by decide))) (by decide) ea24, fun (m9 : Nat) (l9 : m9 < 22) (h7 : ACm m9 a) => ACm.up ((fun (m9 : Nat) (l9 : m9 < 22) (h7 : ACm m9 a) => fa21.2.1 m9 (by omega) ((fun (m9 : Nat) (l9 : m9 < 22) (h7 : ACm m9 a) => ACm.up ((fun (m9 : Nat) (l9 : m9 < 22) (h7 : ACm m9 a) => ACm.up ((fun (m9 : Nat) (l9 : m9 < 22) (h7 : ACm m9 a) => h7) m9 l9 h7) ea1 (by decide)) m9 l9 h7) ea7 (by decide)) m9 l9 h7)) m9 l9 h7) ea24 (by decide), ⟨fun m9 l9 h9 => by by_cases z9 : m9 = m.toInt.toNat; (first | (left; subst z9; omega) | (right; subst z9; exact AC.same (s9.resolve_right (by omega)) (fun r9 _ => by rw [ea24, mU_cell (by decide)]))); (left; rw [ea24, mU_cell (by decide), fa21.1 16 (by decide), ea7, mU_slot (by omega), ea1, mU_cell (by decide)] at h9; exact h9), by omega⟩⟩, ⟨_, rfl, by omega⟩⟩
          · skip
            refine w_const rfl ?_
            refine w_goto rfl ?_
            refine m_putI (z := false) rfl rfl rfl rfl (by first | (intro h9; cases h9; done) | (intro _; first | exact Or.inl rfl | exact Or.inr rfl | assumption)) (fun a25 ea25 => ?_)
            have ha25 : RM K a25 := RM.up ha21 ea25 (show (0 : Int) ≤ _ ∧ _ ≤ (16 : Int) from by omega)
            have ua25_23 : a25 0 23 = (0 : Int32) := by rw [ea25, mU_same]
            have wa25_23 := congrArg Int32.toInt ua25_23
            refine w_const rfl ?_
            exact wp_iret (z := true) rfl (fun _ => by first | exact Or.inl rfl | exact Or.inr rfl | (rcases (by omega : (1 : Int32).toInt = 0 ∨ (1 : Int32).toInt = 1) with h8 | h8; exact Or.inl (ti_eq h8); exact Or.inr (ti_eq h8))) ⟨a25, rfl, ha25, ⟨FR.up (FR.tr (FR.up (FR.up (FR.rf) (by decide) ea1) (by decide) ea7) (FR.sub fa21.1 (by decide))) (by decide) ea25, fun (m9 : Nat) (l9 : m9 < 22) (h7 : ACm m9 a) => ACm.up ((fun (m9 : Nat) (l9 : m9 < 22) (h7 : ACm m9 a) => fa21.2.1 m9 (by omega) ((fun (m9 : Nat) (l9 : m9 < 22) (h7 : ACm m9 a) => ACm.up ((fun (m9 : Nat) (l9 : m9 < 22) (h7 : ACm m9 a) => ACm.up ((fun (m9 : Nat) (l9 : m9 < 22) (h7 : ACm m9 a) => h7) m9 l9 h7) ea1 (by decide)) m9 l9 h7) ea7 (by decide)) m9 l9 h7)) m9 l9 h7) ea25 (by decide), ⟨fun m9 l9 h9 => by by_cases z9 : m9 = m.toInt.toNat; (first | (left; subst z9; omega) | (right; subst z9; exact AC.same (s9.resolve_right (by omega)) (fun r9 _ => by rw [ea25, mU_cell (by decide)]))); (left; rw [ea25, mU_cell (by decide), fa21.1 16 (by decide), ea7, mU_slot (by omega), ea1, mU_cell (by decide)] at h9; exact h9), by omega⟩⟩, ⟨_, rfl, by omega⟩⟩
      · skip
        refine w_const rfl ?_
        refine w_const rfl ?_
        refine w_iload rfl rfl ?_
        first | refine w_iadd rfl (by omega) (fun x26 tx26 => ?_) | refine w_iiU rfl (fun x26 tx26 => ?_)
        first | refine w_imul rfl (c := 60) rfl (by omega) (fun x27 tx27 => ?_) | refine w_iiU rfl (fun x27 tx27 => ?_)
        refine w_goto rfl ?_
        refine w_iload rfl rfl ?_
        refine w_if_eq rfl (fun c28 => ?_) (fun c28 => ?_)
        · skip
          refine w_const rfl ?_
          refine w_const rfl ?_
          refine w_iload rfl rfl ?_
          first | refine w_iadd rfl (by omega) (fun x29 tx29 => ?_) | refine w_iiU rfl (fun x29 tx29 => ?_)
          first | refine w_imul rfl (c := 60) rfl (by omega) (fun x30 tx30 => ?_) | refine w_iiU rfl (fun x30 tx30 => ?_)
          refine w_const rfl ?_
          have s8 : AC a7 0 := AC.at ((fun (m9 : Nat) (l9 : m9 < 22) (h7 : ACm m9 a) => ACm.up ((fun (m9 : Nat) (l9 : m9 < 22) (h7 : ACm m9 a) => ACm.up ((fun (m9 : Nat) (l9 : m9 < 22) (h7 : ACm m9 a) => h7) m9 l9 h7) ea1 (by decide)) m9 l9 h7) ea7 (by decide)) 0 (by decide) hA) (by decide)
          refine w_invV (rest := []) rfl rfl rfl rfl rfl (Nat.le_of_ble_eq_true rfl) rfl (by omega) (s_copies (K := K) a7 b  x27 x30 60 ha7 (by omega) (by omega) (by omega) (by first | exact AC.at ((fun (m9 : Nat) (l9 : m9 < 22) (h7 : ACm m9 a) => ACm.up ((fun (m9 : Nat) (l9 : m9 < 22) (h7 : ACm m9 a) => ACm.up ((fun (m9 : Nat) (l9 : m9 < 22) (h7 : ACm m9 a) => h7) m9 l9 h7) ea1 (by decide)) m9 l9 h7) ea7 (by decide)) 0 (by decide) hA) (by omega) | exact AC.at ((fun (m9 : Nat) (l9 : m9 < 22) (h7 : ACm m9 a) => ACm.up ((fun (m9 : Nat) (l9 : m9 < 22) (h7 : ACm m9 a) => ACm.up ((fun (m9 : Nat) (l9 : m9 < 22) (h7 : ACm m9 a) => h7) m9 l9 h7) ea1 (by decide)) m9 l9 h7) ea7 (by decide)) 0 (by decide) hA) (by decide) | exact AC.at ((fun (m9 : Nat) (l9 : m9 < 22) (h7 : ACm m9 a) => ACm.up ((fun (m9 : Nat) (l9 : m9 < 22) (h7 : ACm m9 a) => ACm.up ((fun (m9 : Nat) (l9 : m9 < 22) (h7 : ACm m9 a) => h7) m9 l9 h7) ea1 (by decide)) m9 l9 h7) ea7 (by decide)) (1 + m.toInt.toNat) (by omega) (hM m.toInt.toNat (by omega) (by omega))) (by omega))) (fun v31 h9 hq32 => ?_)
          obtain ⟨a33, rfl, ha33, fa33, rfl⟩ := hq32
          show f_wp _ (70, [some (.inr (.inr (some 0))), some (.inl m), some (.inl bk)], [], mH a33 b) _
          have u6 : (a33 0 23).toInt = (a 0 23).toInt := by rw [fa33.1 0 (by decide)]; exact u5
          have s9 : AC a33 (60 * (1 + m.toInt.toNat)) ∨ bk.toInt = 1 := by first | exact Or.inr (by omega) | exact Or.inl (AC.at (AC.copied (q := 0) s8 (by decide) fa33.2.2) (by omega))
          refine w_aload rfl rfl ?_
          refine w_iload rfl rfl ?_
          refine w_if_eq rfl (fun c34 => ?_) (fun c34 => ?_)
          · skip
            refine w_aload rfl rfl ?_
            refine w_getI (v := .inl (a33 0 23)) rfl rfl rfl rfl rfl ?_
            have q35 : 0 ≤ (a33 0 23).toInt ∧ (a33 0 23).toInt ≤ 16 := ha33 0 23
            refine m_putI (z := false) rfl rfl rfl rfl (by first | (intro h9; cases h9; done) | (intro _; first | exact Or.inl rfl | exact Or.inr rfl | assumption)) (fun a36 ea36 => ?_)
            have ha36 : RM K a36 := RM.up ha33 ea36 (show (0 : Int) ≤ _ ∧ _ ≤ (16 : Int) from by omega)
            have ua36_23 : a36 0 23 = (a33 0 23) := by rw [ea36, mU_same]
            have wa36_23 := congrArg Int32.toInt ua36_23
            refine w_const rfl ?_
            exact wp_iret (z := true) rfl (fun _ => by first | exact Or.inl rfl | exact Or.inr rfl | (rcases (by omega : (1 : Int32).toInt = 0 ∨ (1 : Int32).toInt = 1) with h8 | h8; exact Or.inl (ti_eq h8); exact Or.inr (ti_eq h8))) ⟨a36, rfl, ha36, ⟨FR.up (FR.tr (FR.up (FR.up (FR.rf) (by decide) ea1) (by decide) ea7) (FR.sub fa33.1 (by decide))) (by decide) ea36, fun (m9 : Nat) (l9 : m9 < 22) (h7 : ACm m9 a) => ACm.up ((fun (m9 : Nat) (l9 : m9 < 22) (h7 : ACm m9 a) => fa33.2.1 m9 (by omega) ((fun (m9 : Nat) (l9 : m9 < 22) (h7 : ACm m9 a) => ACm.up ((fun (m9 : Nat) (l9 : m9 < 22) (h7 : ACm m9 a) => ACm.up ((fun (m9 : Nat) (l9 : m9 < 22) (h7 : ACm m9 a) => h7) m9 l9 h7) ea1 (by decide)) m9 l9 h7) ea7 (by decide)) m9 l9 h7)) m9 l9 h7) ea36 (by decide), ⟨fun m9 l9 h9 => by by_cases z9 : m9 = m.toInt.toNat; (first | (left; subst z9; omega) | (right; subst z9; exact AC.same (s9.resolve_right (by omega)) (fun r9 _ => by rw [ea36, mU_cell (by decide)]))); (left; rw [ea36, mU_cell (by decide), fa33.1 16 (by decide), ea7, mU_slot (by omega), ea1, mU_cell (by decide)] at h9; exact h9), by omega⟩⟩, ⟨_, rfl, by omega⟩⟩
          · skip
            refine w_const rfl ?_
            refine w_goto rfl ?_
            refine m_putI (z := false) rfl rfl rfl rfl (by first | (intro h9; cases h9; done) | (intro _; first | exact Or.inl rfl | exact Or.inr rfl | assumption)) (fun a37 ea37 => ?_)
            have ha37 : RM K a37 := RM.up ha33 ea37 (show (0 : Int) ≤ _ ∧ _ ≤ (16 : Int) from by omega)
            have ua37_23 : a37 0 23 = (0 : Int32) := by rw [ea37, mU_same]
            have wa37_23 := congrArg Int32.toInt ua37_23
            refine w_const rfl ?_
            exact wp_iret (z := true) rfl (fun _ => by first | exact Or.inl rfl | exact Or.inr rfl | (rcases (by omega : (1 : Int32).toInt = 0 ∨ (1 : Int32).toInt = 1) with h8 | h8; exact Or.inl (ti_eq h8); exact Or.inr (ti_eq h8))) ⟨a37, rfl, ha37, ⟨FR.up (FR.tr (FR.up (FR.up (FR.rf) (by decide) ea1) (by decide) ea7) (FR.sub fa33.1 (by decide))) (by decide) ea37, fun (m9 : Nat) (l9 : m9 < 22) (h7 : ACm m9 a) => ACm.up ((fun (m9 : Nat) (l9 : m9 < 22) (h7 : ACm m9 a) => fa33.2.1 m9 (by omega) ((fun (m9 : Nat) (l9 : m9 < 22) (h7 : ACm m9 a) => ACm.up ((fun (m9 : Nat) (l9 : m9 < 22) (h7 : ACm m9 a) => ACm.up ((fun (m9 : Nat) (l9 : m9 < 22) (h7 : ACm m9 a) => h7) m9 l9 h7) ea1 (by decide)) m9 l9 h7) ea7 (by decide)) m9 l9 h7)) m9 l9 h7) ea37 (by decide), ⟨fun m9 l9 h9 => by by_cases z9 : m9 = m.toInt.toNat; (first | (left; subst z9; omega) | (right; subst z9; exact AC.same (s9.resolve_right (by omega)) (fun r9 _ => by rw [ea37, mU_cell (by decide)]))); (left; rw [ea37, mU_cell (by decide), fa33.1 16 (by decide), ea7, mU_slot (by omega), ea1, mU_cell (by decide)] at h9; exact h9), by omega⟩⟩, ⟨_, rfl, by omega⟩⟩
        · skip
          refine w_const rfl ?_
          refine w_goto rfl ?_
          refine w_const rfl ?_
          have s8 : AC a7 0 := AC.at ((fun (m9 : Nat) (l9 : m9 < 22) (h7 : ACm m9 a) => ACm.up ((fun (m9 : Nat) (l9 : m9 < 22) (h7 : ACm m9 a) => ACm.up ((fun (m9 : Nat) (l9 : m9 < 22) (h7 : ACm m9 a) => h7) m9 l9 h7) ea1 (by decide)) m9 l9 h7) ea7 (by decide)) 0 (by decide) hA) (by decide)
          refine w_invV (rest := []) rfl rfl rfl rfl rfl (Nat.le_of_ble_eq_true rfl) rfl (by omega) (s_copies (K := K) a7 b  x27 0 60 ha7 (by omega) (by omega) (by omega) (by first | exact AC.at ((fun (m9 : Nat) (l9 : m9 < 22) (h7 : ACm m9 a) => ACm.up ((fun (m9 : Nat) (l9 : m9 < 22) (h7 : ACm m9 a) => ACm.up ((fun (m9 : Nat) (l9 : m9 < 22) (h7 : ACm m9 a) => h7) m9 l9 h7) ea1 (by decide)) m9 l9 h7) ea7 (by decide)) 0 (by decide) hA) (by omega) | exact AC.at ((fun (m9 : Nat) (l9 : m9 < 22) (h7 : ACm m9 a) => ACm.up ((fun (m9 : Nat) (l9 : m9 < 22) (h7 : ACm m9 a) => ACm.up ((fun (m9 : Nat) (l9 : m9 < 22) (h7 : ACm m9 a) => h7) m9 l9 h7) ea1 (by decide)) m9 l9 h7) ea7 (by decide)) 0 (by decide) hA) (by decide) | exact AC.at ((fun (m9 : Nat) (l9 : m9 < 22) (h7 : ACm m9 a) => ACm.up ((fun (m9 : Nat) (l9 : m9 < 22) (h7 : ACm m9 a) => ACm.up ((fun (m9 : Nat) (l9 : m9 < 22) (h7 : ACm m9 a) => h7) m9 l9 h7) ea1 (by decide)) m9 l9 h7) ea7 (by decide)) (1 + m.toInt.toNat) (by omega) (hM m.toInt.toNat (by omega) (by omega))) (by omega))) (fun v38 h9 hq39 => ?_)
          obtain ⟨a40, rfl, ha40, fa40, rfl⟩ := hq39
          show f_wp _ (70, [some (.inr (.inr (some 0))), some (.inl m), some (.inl bk)], [], mH a40 b) _
          have u6 : (a40 0 23).toInt = (a 0 23).toInt := by rw [fa40.1 0 (by decide)]; exact u5
          have s9 : AC a40 (60 * (1 + m.toInt.toNat)) ∨ bk.toInt = 1 := by first | exact Or.inr (by omega) | exact Or.inl (AC.at (AC.copied (q := 0) s8 (by decide) fa40.2.2) (by omega))
          refine w_aload rfl rfl ?_
          refine w_iload rfl rfl ?_
          refine w_if_eq rfl (fun c41 => ?_) (fun c41 => ?_)
          · skip
            refine w_aload rfl rfl ?_
            refine w_getI (v := .inl (a40 0 23)) rfl rfl rfl rfl rfl ?_
            have q42 : 0 ≤ (a40 0 23).toInt ∧ (a40 0 23).toInt ≤ 16 := ha40 0 23
            refine m_putI (z := false) rfl rfl rfl rfl (by first | (intro h9; cases h9; done) | (intro _; first | exact Or.inl rfl | exact Or.inr rfl | assumption)) (fun a43 ea43 => ?_)
            have ha43 : RM K a43 := RM.up ha40 ea43 (show (0 : Int) ≤ _ ∧ _ ≤ (16 : Int) from by omega)
            have ua43_23 : a43 0 23 = (a40 0 23) := by rw [ea43, mU_same]
            have wa43_23 := congrArg Int32.toInt ua43_23
            refine w_const rfl ?_
            exact wp_iret (z := true) rfl (fun _ => by first | exact Or.inl rfl | exact Or.inr rfl | (rcases (by omega : (1 : Int32).toInt = 0 ∨ (1 : Int32).toInt = 1) with h8 | h8; exact Or.inl (ti_eq h8); exact Or.inr (ti_eq h8))) ⟨a43, rfl, ha43, ⟨FR.up (FR.tr (FR.up (FR.up (FR.rf) (by decide) ea1) (by decide) ea7) (FR.sub fa40.1 (by decide))) (by decide) ea43, fun (m9 : Nat) (l9 : m9 < 22) (h7 : ACm m9 a) => ACm.up ((fun (m9 : Nat) (l9 : m9 < 22) (h7 : ACm m9 a) => fa40.2.1 m9 (by omega) ((fun (m9 : Nat) (l9 : m9 < 22) (h7 : ACm m9 a) => ACm.up ((fun (m9 : Nat) (l9 : m9 < 22) (h7 : ACm m9 a) => ACm.up ((fun (m9 : Nat) (l9 : m9 < 22) (h7 : ACm m9 a) => h7) m9 l9 h7) ea1 (by decide)) m9 l9 h7) ea7 (by decide)) m9 l9 h7)) m9 l9 h7) ea43 (by decide), ⟨fun m9 l9 h9 => by by_cases z9 : m9 = m.toInt.toNat; (first | (left; subst z9; omega) | (right; subst z9; exact AC.same (s9.resolve_right (by omega)) (fun r9 _ => by rw [ea43, mU_cell (by decide)]))); (left; rw [ea43, mU_cell (by decide), fa40.1 16 (by decide), ea7, mU_slot (by omega), ea1, mU_cell (by decide)] at h9; exact h9), by omega⟩⟩, ⟨_, rfl, by omega⟩⟩
          · skip
            refine w_const rfl ?_
            refine w_goto rfl ?_
            refine m_putI (z := false) rfl rfl rfl rfl (by first | (intro h9; cases h9; done) | (intro _; first | exact Or.inl rfl | exact Or.inr rfl | assumption)) (fun a44 ea44 => ?_)
            have ha44 : RM K a44 := RM.up ha40 ea44 (show (0 : Int) ≤ _ ∧ _ ≤ (16 : Int) from by omega)
            have ua44_23 : a44 0 23 = (0 : Int32) := by rw [ea44, mU_same]
            have wa44_23 := congrArg Int32.toInt ua44_23
            refine w_const rfl ?_
            exact wp_iret (z := true) rfl (fun _ => by first | exact Or.inl rfl | exact Or.inr rfl | (rcases (by omega : (1 : Int32).toInt = 0 ∨ (1 : Int32).toInt = 1) with h8 | h8; exact Or.inl (ti_eq h8); exact Or.inr (ti_eq h8))) ⟨a44, rfl, ha44, ⟨FR.up (FR.tr (FR.up (FR.up (FR.rf) (by decide) ea1) (by decide) ea7) (FR.sub fa40.1 (by decide))) (by decide) ea44, fun (m9 : Nat) (l9 : m9 < 22) (h7 : ACm m9 a) => ACm.up ((fun (m9 : Nat) (l9 : m9 < 22) (h7 : ACm m9 a) => fa40.2.1 m9 (by omega) ((fun (m9 : Nat) (l9 : m9 < 22) (h7 : ACm m9 a) => ACm.up ((fun (m9 : Nat) (l9 : m9 < 22) (h7 : ACm m9 a) => ACm.up ((fun (m9 : Nat) (l9 : m9 < 22) (h7 : ACm m9 a) => h7) m9 l9 h7) ea1 (by decide)) m9 l9 h7) ea7 (by decide)) m9 l9 h7)) m9 l9 h7) ea44 (by decide), ⟨fun m9 l9 h9 => by by_cases z9 : m9 = m.toInt.toNat; (first | (left; subst z9; omega) | (right; subst z9; exact AC.same (s9.resolve_right (by omega)) (fun r9 _ => by rw [ea44, mU_cell (by decide)]))); (left; rw [ea44, mU_cell (by decide), fa40.1 16 (by decide), ea7, mU_slot (by omega), ea1, mU_cell (by decide)] at h9; exact h9), by omega⟩⟩, ⟨_, rfl, by omega⟩⟩
    · skip
      refine w_aload rfl rfl ?_
      refine w_getR (v := .inr (.inr (some 16))) rfl rfl rfl rfl rfl ?_
      refine w_iload rfl rfl ?_
      refine m_bald rfl rfl (by omega) (fun x45 ex45 => ?_)
      have qx45 : 0 ≤ x45.toInt ∧ x45.toInt ≤ 1 := by rw [ex45]; exact ha1 16 _
      have b9 : x45.toInt = (a 16 m.toInt.toNat).toInt := by rw [ex45, ea1, mU_cell (by decide)]
      refine w_if_ne rfl (fun c46 => ?_) (fun c46 => ?_)
      · skip
        refine w_const rfl ?_
        exact wp_iret (z := true) rfl (fun _ => by first | exact Or.inl rfl | exact Or.inr rfl | (rcases (by omega : (0 : Int32).toInt = 0 ∨ (0 : Int32).toInt = 1) with h8 | h8; exact Or.inl (ti_eq h8); exact Or.inr (ti_eq h8))) ⟨a1, rfl, ha1, ⟨FR.up (FR.rf) (by decide) ea1, fun (m9 : Nat) (l9 : m9 < 22) (h7 : ACm m9 a) => ACm.up ((fun (m9 : Nat) (l9 : m9 < 22) (h7 : ACm m9 a) => h7) m9 l9 h7) ea1 (by decide), ⟨fun m9 _ h9 => Or.inl (by rw [ea1, mU_cell (by decide)] at h9; exact h9), by rw [ea1, mU_slot (by decide)]; exact Int.le_refl _⟩⟩, ⟨_, rfl, by omega⟩⟩
      · skip
        refine w_aload rfl rfl ?_
        refine w_getR (v := .inr (.inr (some 16))) rfl rfl rfl rfl rfl ?_
        refine w_iload rfl rfl ?_
        refine w_const rfl ?_
        refine m_bast rfl rfl (by omega) (fun a47 ea47 => ?_)
        have ha47 : RM K a47 := RM.up ha1 ea47 (ti_nz _)
        have u5 : (a47 0 23).toInt = (a 0 23).toInt := by rw [ea47, mU_cell (by decide)]; exact u0
        refine w_aload rfl rfl ?_
        refine w_iload rfl rfl ?_
        refine w_if_eq rfl (fun c48 => ?_) (fun c48 => ?_)
        · skip
          refine w_const rfl ?_
          refine w_iload rfl rfl ?_
          refine w_if_eq rfl (fun c49 => ?_) (fun c49 => ?_)
          · skip
            refine w_const rfl ?_
            refine w_const rfl ?_
            refine w_iload rfl rfl ?_
            first | refine w_iadd rfl (by omega) (fun x50 tx50 => ?_) | refine w_iiU rfl (fun x50 tx50 => ?_)
            first | refine w_imul rfl (c := 60) rfl (by omega) (fun x51 tx51 => ?_) | refine w_iiU rfl (fun x51 tx51 => ?_)
            refine w_const rfl ?_
            have s8 : AC a47 0 := AC.at ((fun (m9 : Nat) (l9 : m9 < 22) (h7 : ACm m9 a) => ACm.up ((fun (m9 : Nat) (l9 : m9 < 22) (h7 : ACm m9 a) => ACm.up ((fun (m9 : Nat) (l9 : m9 < 22) (h7 : ACm m9 a) => h7) m9 l9 h7) ea1 (by decide)) m9 l9 h7) ea47 (by decide)) 0 (by decide) hA) (by decide)
            refine w_invV (rest := []) rfl rfl rfl rfl rfl (Nat.le_of_ble_eq_true rfl) rfl (by omega) (s_copies (K := K) a47 b  0 x51 60 ha47 (by omega) (by omega) (by omega) (by first | exact AC.at ((fun (m9 : Nat) (l9 : m9 < 22) (h7 : ACm m9 a) => ACm.up ((fun (m9 : Nat) (l9 : m9 < 22) (h7 : ACm m9 a) => ACm.up ((fun (m9 : Nat) (l9 : m9 < 22) (h7 : ACm m9 a) => h7) m9 l9 h7) ea1 (by decide)) m9 l9 h7) ea47 (by decide)) 0 (by decide) hA) (by omega) | exact AC.at ((fun (m9 : Nat) (l9 : m9 < 22) (h7 : ACm m9 a) => ACm.up ((fun (m9 : Nat) (l9 : m9 < 22) (h7 : ACm m9 a) => ACm.up ((fun (m9 : Nat) (l9 : m9 < 22) (h7 : ACm m9 a) => h7) m9 l9 h7) ea1 (by decide)) m9 l9 h7) ea47 (by decide)) 0 (by decide) hA) (by decide) | exact AC.at ((fun (m9 : Nat) (l9 : m9 < 22) (h7 : ACm m9 a) => ACm.up ((fun (m9 : Nat) (l9 : m9 < 22) (h7 : ACm m9 a) => ACm.up ((fun (m9 : Nat) (l9 : m9 < 22) (h7 : ACm m9 a) => h7) m9 l9 h7) ea1 (by decide)) m9 l9 h7) ea47 (by decide)) (1 + m.toInt.toNat) (by omega) (hM m.toInt.toNat (by omega) (by omega))) (by omega))) (fun v52 h9 hq53 => ?_)
            obtain ⟨a54, rfl, ha54, fa54, rfl⟩ := hq53
            show f_wp _ (70, [some (.inr (.inr (some 0))), some (.inl m), some (.inl bk)], [], mH a54 b) _
            have u6 : (a54 0 23).toInt = (a 0 23).toInt := by rw [fa54.1 0 (by decide)]; exact u5
            have s9 : AC a54 (60 * (1 + m.toInt.toNat)) ∨ bk.toInt = 1 := by first | exact Or.inr (by omega) | exact Or.inl (AC.at (AC.copied (q := 0) s8 (by decide) fa54.2.2) (by omega))
            refine w_aload rfl rfl ?_
            refine w_iload rfl rfl ?_
            refine w_if_eq rfl (fun c55 => ?_) (fun c55 => ?_)
            · skip
              refine w_aload rfl rfl ?_
              refine w_getI (v := .inl (a54 0 23)) rfl rfl rfl rfl rfl ?_
              have q56 : 0 ≤ (a54 0 23).toInt ∧ (a54 0 23).toInt ≤ 16 := ha54 0 23
              refine m_putI (z := false) rfl rfl rfl rfl (by first | (intro h9; cases h9; done) | (intro _; first | exact Or.inl rfl | exact Or.inr rfl | assumption)) (fun a57 ea57 => ?_)
              have ha57 : RM K a57 := RM.up ha54 ea57 (show (0 : Int) ≤ _ ∧ _ ≤ (16 : Int) from by omega)
              have ua57_23 : a57 0 23 = (a54 0 23) := by rw [ea57, mU_same]
              have wa57_23 := congrArg Int32.toInt ua57_23
              refine w_const rfl ?_
              exact wp_iret (z := true) rfl (fun _ => by first | exact Or.inl rfl | exact Or.inr rfl | (rcases (by omega : (1 : Int32).toInt = 0 ∨ (1 : Int32).toInt = 1) with h8 | h8; exact Or.inl (ti_eq h8); exact Or.inr (ti_eq h8))) ⟨a57, rfl, ha57, ⟨FR.up (FR.tr (FR.up (FR.up (FR.rf) (by decide) ea1) (by decide) ea47) (FR.sub fa54.1 (by decide))) (by decide) ea57, fun (m9 : Nat) (l9 : m9 < 22) (h7 : ACm m9 a) => ACm.up ((fun (m9 : Nat) (l9 : m9 < 22) (h7 : ACm m9 a) => fa54.2.1 m9 (by omega) ((fun (m9 : Nat) (l9 : m9 < 22) (h7 : ACm m9 a) => ACm.up ((fun (m9 : Nat) (l9 : m9 < 22) (h7 : ACm m9 a) => ACm.up ((fun (m9 : Nat) (l9 : m9 < 22) (h7 : ACm m9 a) => h7) m9 l9 h7) ea1 (by decide)) m9 l9 h7) ea47 (by decide)) m9 l9 h7)) m9 l9 h7) ea57 (by decide), ⟨fun m9 l9 h9 => by by_cases z9 : m9 = m.toInt.toNat; (first | (left; subst z9; omega) | (right; subst z9; exact AC.same (s9.resolve_right (by omega)) (fun r9 _ => by rw [ea57, mU_cell (by decide)]))); (left; rw [ea57, mU_cell (by decide), fa54.1 16 (by decide), ea47, mU_slot (by omega), ea1, mU_cell (by decide)] at h9; exact h9), by omega⟩⟩, ⟨_, rfl, by omega⟩⟩
            · skip
              refine w_const rfl ?_
              refine w_goto rfl ?_
              refine m_putI (z := false) rfl rfl rfl rfl (by first | (intro h9; cases h9; done) | (intro _; first | exact Or.inl rfl | exact Or.inr rfl | assumption)) (fun a58 ea58 => ?_)
              have ha58 : RM K a58 := RM.up ha54 ea58 (show (0 : Int) ≤ _ ∧ _ ≤ (16 : Int) from by omega)
              have ua58_23 : a58 0 23 = (0 : Int32) := by rw [ea58, mU_same]
              have wa58_23 := congrArg Int32.toInt ua58_23
              refine w_const rfl ?_
              exact wp_iret (z := true) rfl (fun _ => by first | exact Or.inl rfl | exact Or.inr rfl | (rcases (by omega : (1 : Int32).toInt = 0 ∨ (1 : Int32).toInt = 1) with h8 | h8; exact Or.inl (ti_eq h8); exact Or.inr (ti_eq h8))) ⟨a58, rfl, ha58, ⟨FR.up (FR.tr (FR.up (FR.up (FR.rf) (by decide) ea1) (by decide) ea47) (FR.sub fa54.1 (by decide))) (by decide) ea58, fun (m9 : Nat) (l9 : m9 < 22) (h7 : ACm m9 a) => ACm.up ((fun (m9 : Nat) (l9 : m9 < 22) (h7 : ACm m9 a) => fa54.2.1 m9 (by omega) ((fun (m9 : Nat) (l9 : m9 < 22) (h7 : ACm m9 a) => ACm.up ((fun (m9 : Nat) (l9 : m9 < 22) (h7 : ACm m9 a) => ACm.up ((fun (m9 : Nat) (l9 : m9 < 22) (h7 : ACm m9 a) => h7) m9 l9 h7) ea1 (by decide)) m9 l9 h7) ea47 (by decide)) m9 l9 h7)) m9 l9 h7) ea58 (by decide), ⟨fun m9 l9 h9 => by by_cases z9 : m9 = m.toInt.toNat; (first | (left; subst z9; omega) | (right; subst z9; exact AC.same (s9.resolve_right (by omega)) (fun r9 _ => by rw [ea58, mU_cell (by decide)]))); (left; rw [ea58, mU_cell (by decide), fa54.1 16 (by decide), ea47, mU_slot (by omega), ea1, mU_cell (by decide)] at h9; exact h9), by omega⟩⟩, ⟨_, rfl, by omega⟩⟩
          · skip
            refine w_const rfl ?_
            refine w_goto rfl ?_
            refine w_const rfl ?_
            have s8 : AC a47 0 := AC.at ((fun (m9 : Nat) (l9 : m9 < 22) (h7 : ACm m9 a) => ACm.up ((fun (m9 : Nat) (l9 : m9 < 22) (h7 : ACm m9 a) => ACm.up ((fun (m9 : Nat) (l9 : m9 < 22) (h7 : ACm m9 a) => h7) m9 l9 h7) ea1 (by decide)) m9 l9 h7) ea47 (by decide)) 0 (by decide) hA) (by decide)
            refine w_invV (rest := []) rfl rfl rfl rfl rfl (Nat.le_of_ble_eq_true rfl) rfl (by omega) (s_copies (K := K) a47 b  0 0 60 ha47 (by omega) (by omega) (by omega) (by first | exact AC.at ((fun (m9 : Nat) (l9 : m9 < 22) (h7 : ACm m9 a) => ACm.up ((fun (m9 : Nat) (l9 : m9 < 22) (h7 : ACm m9 a) => ACm.up ((fun (m9 : Nat) (l9 : m9 < 22) (h7 : ACm m9 a) => h7) m9 l9 h7) ea1 (by decide)) m9 l9 h7) ea47 (by decide)) 0 (by decide) hA) (by omega) | exact AC.at ((fun (m9 : Nat) (l9 : m9 < 22) (h7 : ACm m9 a) => ACm.up ((fun (m9 : Nat) (l9 : m9 < 22) (h7 : ACm m9 a) => ACm.up ((fun (m9 : Nat) (l9 : m9 < 22) (h7 : ACm m9 a) => h7) m9 l9 h7) ea1 (by decide)) m9 l9 h7) ea47 (by decide)) 0 (by decide) hA) (by decide) | exact AC.at ((fun (m9 : Nat) (l9 : m9 < 22) (h7 : ACm m9 a) => ACm.up ((fun (m9 : Nat) (l9 : m9 < 22) (h7 : ACm m9 a) => ACm.up ((fun (m9 : Nat) (l9 : m9 < 22) (h7 : ACm m9 a) => h7) m9 l9 h7) ea1 (by decide)) m9 l9 h7) ea47 (by decide)) (1 + m.toInt.toNat) (by omega) (hM m.toInt.toNat (by omega) (by omega))) (by omega))) (fun v59 h9 hq60 => ?_)
            obtain ⟨a61, rfl, ha61, fa61, rfl⟩ := hq60
            show f_wp _ (70, [some (.inr (.inr (some 0))), some (.inl m), some (.inl bk)], [], mH a61 b) _
            have u6 : (a61 0 23).toInt = (a 0 23).toInt := by rw [fa61.1 0 (by decide)]; exact u5
            have s9 : AC a61 (60 * (1 + m.toInt.toNat)) ∨ bk.toInt = 1 := by first | exact Or.inr (by omega) | exact Or.inl (AC.at (AC.copied (q := 0) s8 (by decide) fa61.2.2) (by omega))
            refine w_aload rfl rfl ?_
            refine w_iload rfl rfl ?_
            refine w_if_eq rfl (fun c62 => ?_) (fun c62 => ?_)
            · skip
              refine w_aload rfl rfl ?_
              refine w_getI (v := .inl (a61 0 23)) rfl rfl rfl rfl rfl ?_
              have q63 : 0 ≤ (a61 0 23).toInt ∧ (a61 0 23).toInt ≤ 16 := ha61 0 23
              refine m_putI (z := false) rfl rfl rfl rfl (by first | (intro h9; cases h9; done) | (intro _; first | exact Or.inl rfl | exact Or.inr rfl | assumption)) (fun a64 ea64 => ?_)
              have ha64 : RM K a64 := RM.up ha61 ea64 (show (0 : Int) ≤ _ ∧ _ ≤ (16 : Int) from by omega)
              have ua64_23 : a64 0 23 = (a61 0 23) := by rw [ea64, mU_same]
              have wa64_23 := congrArg Int32.toInt ua64_23
              refine w_const rfl ?_
              exact wp_iret (z := true) rfl (fun _ => by first | exact Or.inl rfl | exact Or.inr rfl | (rcases (by omega : (1 : Int32).toInt = 0 ∨ (1 : Int32).toInt = 1) with h8 | h8; exact Or.inl (ti_eq h8); exact Or.inr (ti_eq h8))) ⟨a64, rfl, ha64, ⟨FR.up (FR.tr (FR.up (FR.up (FR.rf) (by decide) ea1) (by decide) ea47) (FR.sub fa61.1 (by decide))) (by decide) ea64, fun (m9 : Nat) (l9 : m9 < 22) (h7 : ACm m9 a) => ACm.up ((fun (m9 : Nat) (l9 : m9 < 22) (h7 : ACm m9 a) => fa61.2.1 m9 (by omega) ((fun (m9 : Nat) (l9 : m9 < 22) (h7 : ACm m9 a) => ACm.up ((fun (m9 : Nat) (l9 : m9 < 22) (h7 : ACm m9 a) => ACm.up ((fun (m9 : Nat) (l9 : m9 < 22) (h7 : ACm m9 a) => h7) m9 l9 h7) ea1 (by decide)) m9 l9 h7) ea47 (by decide)) m9 l9 h7)) m9 l9 h7) ea64 (by decide), ⟨fun m9 l9 h9 => by by_cases z9 : m9 = m.toInt.toNat; (first | (left; subst z9; omega) | (right; subst z9; exact AC.same (s9.resolve_right (by omega)) (fun r9 _ => by rw [ea64, mU_cell (by decide)]))); (left; rw [ea64, mU_cell (by decide), fa61.1 16 (by decide), ea47, mU_slot (by omega), ea1, mU_cell (by decide)] at h9; exact h9), by omega⟩⟩, ⟨_, rfl, by omega⟩⟩
            · skip
              refine w_const rfl ?_
              refine w_goto rfl ?_
              refine m_putI (z := false) rfl rfl rfl rfl (by first | (intro h9; cases h9; done) | (intro _; first | exact Or.inl rfl | exact Or.inr rfl | assumption)) (fun a65 ea65 => ?_)
              have ha65 : RM K a65 := RM.up ha61 ea65 (show (0 : Int) ≤ _ ∧ _ ≤ (16 : Int) from by omega)
              have ua65_23 : a65 0 23 = (0 : Int32) := by rw [ea65, mU_same]
              have wa65_23 := congrArg Int32.toInt ua65_23
              refine w_const rfl ?_
              exact wp_iret (z := true) rfl (fun _ => by first | exact Or.inl rfl | exact Or.inr rfl | (rcases (by omega : (1 : Int32).toInt = 0 ∨ (1 : Int32).toInt = 1) with h8 | h8; exact Or.inl (ti_eq h8); exact Or.inr (ti_eq h8))) ⟨a65, rfl, ha65, ⟨FR.up (FR.tr (FR.up (FR.up (FR.rf) (by decide) ea1) (by decide) ea47) (FR.sub fa61.1 (by decide))) (by decide) ea65, fun (m9 : Nat) (l9 : m9 < 22) (h7 : ACm m9 a) => ACm.up ((fun (m9 : Nat) (l9 : m9 < 22) (h7 : ACm m9 a) => fa61.2.1 m9 (by omega) ((fun (m9 : Nat) (l9 : m9 < 22) (h7 : ACm m9 a) => ACm.up ((fun (m9 : Nat) (l9 : m9 < 22) (h7 : ACm m9 a) => ACm.up ((fun (m9 : Nat) (l9 : m9 < 22) (h7 : ACm m9 a) => h7) m9 l9 h7) ea1 (by decide)) m9 l9 h7) ea47 (by decide)) m9 l9 h7)) m9 l9 h7) ea65 (by decide), ⟨fun m9 l9 h9 => by by_cases z9 : m9 = m.toInt.toNat; (first | (left; subst z9; omega) | (right; subst z9; exact AC.same (s9.resolve_right (by omega)) (fun r9 _ => by rw [ea65, mU_cell (by decide)]))); (left; rw [ea65, mU_cell (by decide), fa61.1 16 (by decide), ea47, mU_slot (by omega), ea1, mU_cell (by decide)] at h9; exact h9), by omega⟩⟩, ⟨_, rfl, by omega⟩⟩
        · skip
          refine w_const rfl ?_
          refine w_const rfl ?_
          refine w_iload rfl rfl ?_
          first | refine w_iadd rfl (by omega) (fun x66 tx66 => ?_) | refine w_iiU rfl (fun x66 tx66 => ?_)
          first | refine w_imul rfl (c := 60) rfl (by omega) (fun x67 tx67 => ?_) | refine w_iiU rfl (fun x67 tx67 => ?_)
          refine w_goto rfl ?_
          refine w_iload rfl rfl ?_
          refine w_if_eq rfl (fun c68 => ?_) (fun c68 => ?_)
          · skip
            refine w_const rfl ?_
            refine w_const rfl ?_
            refine w_iload rfl rfl ?_
            first | refine w_iadd rfl (by omega) (fun x69 tx69 => ?_) | refine w_iiU rfl (fun x69 tx69 => ?_)
            first | refine w_imul rfl (c := 60) rfl (by omega) (fun x70 tx70 => ?_) | refine w_iiU rfl (fun x70 tx70 => ?_)
            refine w_const rfl ?_
            have s8 : AC a47 0 := AC.at ((fun (m9 : Nat) (l9 : m9 < 22) (h7 : ACm m9 a) => ACm.up ((fun (m9 : Nat) (l9 : m9 < 22) (h7 : ACm m9 a) => ACm.up ((fun (m9 : Nat) (l9 : m9 < 22) (h7 : ACm m9 a) => h7) m9 l9 h7) ea1 (by decide)) m9 l9 h7) ea47 (by decide)) 0 (by decide) hA) (by decide)
            refine w_invV (rest := []) rfl rfl rfl rfl rfl (Nat.le_of_ble_eq_true rfl) rfl (by omega) (s_copies (K := K) a47 b  x67 x70 60 ha47 (by omega) (by omega) (by omega) (by first | exact AC.at ((fun (m9 : Nat) (l9 : m9 < 22) (h7 : ACm m9 a) => ACm.up ((fun (m9 : Nat) (l9 : m9 < 22) (h7 : ACm m9 a) => ACm.up ((fun (m9 : Nat) (l9 : m9 < 22) (h7 : ACm m9 a) => h7) m9 l9 h7) ea1 (by decide)) m9 l9 h7) ea47 (by decide)) 0 (by decide) hA) (by omega) | exact AC.at ((fun (m9 : Nat) (l9 : m9 < 22) (h7 : ACm m9 a) => ACm.up ((fun (m9 : Nat) (l9 : m9 < 22) (h7 : ACm m9 a) => ACm.up ((fun (m9 : Nat) (l9 : m9 < 22) (h7 : ACm m9 a) => h7) m9 l9 h7) ea1 (by decide)) m9 l9 h7) ea47 (by decide)) 0 (by decide) hA) (by decide) | exact AC.at ((fun (m9 : Nat) (l9 : m9 < 22) (h7 : ACm m9 a) => ACm.up ((fun (m9 : Nat) (l9 : m9 < 22) (h7 : ACm m9 a) => ACm.up ((fun (m9 : Nat) (l9 : m9 < 22) (h7 : ACm m9 a) => h7) m9 l9 h7) ea1 (by decide)) m9 l9 h7) ea47 (by decide)) (1 + m.toInt.toNat) (by omega) (hM m.toInt.toNat (by omega) (by omega))) (by omega))) (fun v71 h9 hq72 => ?_)
            obtain ⟨a73, rfl, ha73, fa73, rfl⟩ := hq72
            show f_wp _ (70, [some (.inr (.inr (some 0))), some (.inl m), some (.inl bk)], [], mH a73 b) _
            have u6 : (a73 0 23).toInt = (a 0 23).toInt := by rw [fa73.1 0 (by decide)]; exact u5
            have s9 : AC a73 (60 * (1 + m.toInt.toNat)) ∨ bk.toInt = 1 := by first | exact Or.inr (by omega) | exact Or.inl (AC.at (AC.copied (q := 0) s8 (by decide) fa73.2.2) (by omega))
            refine w_aload rfl rfl ?_
            refine w_iload rfl rfl ?_
            refine w_if_eq rfl (fun c74 => ?_) (fun c74 => ?_)
            · skip
              refine w_aload rfl rfl ?_
              refine w_getI (v := .inl (a73 0 23)) rfl rfl rfl rfl rfl ?_
              have q75 : 0 ≤ (a73 0 23).toInt ∧ (a73 0 23).toInt ≤ 16 := ha73 0 23
              refine m_putI (z := false) rfl rfl rfl rfl (by first | (intro h9; cases h9; done) | (intro _; first | exact Or.inl rfl | exact Or.inr rfl | assumption)) (fun a76 ea76 => ?_)
              have ha76 : RM K a76 := RM.up ha73 ea76 (show (0 : Int) ≤ _ ∧ _ ≤ (16 : Int) from by omega)
              have ua76_23 : a76 0 23 = (a73 0 23) := by rw [ea76, mU_same]
              have wa76_23 := congrArg Int32.toInt ua76_23
              refine w_const rfl ?_
              exact wp_iret (z := true) rfl (fun _ => by first | exact Or.inl rfl | exact Or.inr rfl | (rcases (by omega : (1 : Int32).toInt = 0 ∨ (1 : Int32).toInt = 1) with h8 | h8; exact Or.inl (ti_eq h8); exact Or.inr (ti_eq h8))) ⟨a76, rfl, ha76, ⟨FR.up (FR.tr (FR.up (FR.up (FR.rf) (by decide) ea1) (by decide) ea47) (FR.sub fa73.1 (by decide))) (by decide) ea76, fun (m9 : Nat) (l9 : m9 < 22) (h7 : ACm m9 a) => ACm.up ((fun (m9 : Nat) (l9 : m9 < 22) (h7 : ACm m9 a) => fa73.2.1 m9 (by omega) ((fun (m9 : Nat) (l9 : m9 < 22) (h7 : ACm m9 a) => ACm.up ((fun (m9 : Nat) (l9 : m9 < 22) (h7 : ACm m9 a) => ACm.up ((fun (m9 : Nat) (l9 : m9 < 22) (h7 : ACm m9 a) => h7) m9 l9 h7) ea1 (by decide)) m9 l9 h7) ea47 (by decide)) m9 l9 h7)) m9 l9 h7) ea76 (by decide), ⟨fun m9 l9 h9 => by by_cases z9 : m9 = m.toInt.toNat; (first | (left; subst z9; omega) | (right; subst z9; exact AC.same (s9.resolve_right (by omega)) (fun r9 _ => by rw [ea76, mU_cell (by decide)]))); (left; rw [ea76, mU_cell (by decide), fa73.1 16 (by decide), ea47, mU_slot (by omega), ea1, mU_cell (by decide)] at h9; exact h9), by omega⟩⟩, ⟨_, rfl, by omega⟩⟩
            · skip
              refine w_const rfl ?_
              refine w_goto rfl ?_
              refine m_putI (z := false) rfl rfl rfl rfl (by first | (intro h9; cases h9; done) | (intro _; first | exact Or.inl rfl | exact Or.inr rfl | assumption)) (fun a77 ea77 => ?_)
              have ha77 : RM K a77 := RM.up ha73 ea77 (show (0 : Int) ≤ _ ∧ _ ≤ (16 : Int) from by omega)
              have ua77_23 : a77 0 23 = (0 : Int32) := by rw [ea77, mU_same]
              have wa77_23 := congrArg Int32.toInt ua77_23
              refine w_const rfl ?_
              exact wp_iret (z := true) rfl (fun _ => by first | exact Or.inl rfl | exact Or.inr rfl | (rcases (by omega : (1 : Int32).toInt = 0 ∨ (1 : Int32).toInt = 1) with h8 | h8; exact Or.inl (ti_eq h8); exact Or.inr (ti_eq h8))) ⟨a77, rfl, ha77, ⟨FR.up (FR.tr (FR.up (FR.up (FR.rf) (by decide) ea1) (by decide) ea47) (FR.sub fa73.1 (by decide))) (by decide) ea77, fun (m9 : Nat) (l9 : m9 < 22) (h7 : ACm m9 a) => ACm.up ((fun (m9 : Nat) (l9 : m9 < 22) (h7 : ACm m9 a) => fa73.2.1 m9 (by omega) ((fun (m9 : Nat) (l9 : m9 < 22) (h7 : ACm m9 a) => ACm.up ((fun (m9 : Nat) (l9 : m9 < 22) (h7 : ACm m9 a) => ACm.up ((fun (m9 : Nat) (l9 : m9 < 22) (h7 : ACm m9 a) => h7) m9 l9 h7) ea1 (by decide)) m9 l9 h7) ea47 (by decide)) m9 l9 h7)) m9 l9 h7) ea77 (by decide), ⟨fun m9 l9 h9 => by by_cases z9 : m9 = m.toInt.toNat; (first | (left; subst z9; omega) | (right; subst z9; exact AC.same (s9.resolve_right (by omega)) (fun r9 _ => by rw [ea77, mU_cell (by decide)]))); (left; rw [ea77, mU_cell (by decide), fa73.1 16 (by decide), ea47, mU_slot (by omega), ea1, mU_cell (by decide)] at h9; exact h9), by omega⟩⟩, ⟨_, rfl, by omega⟩⟩
          · skip
            refine w_const rfl ?_
            refine w_goto rfl ?_
            refine w_const rfl ?_
            have s8 : AC a47 0 := AC.at ((fun (m9 : Nat) (l9 : m9 < 22) (h7 : ACm m9 a) => ACm.up ((fun (m9 : Nat) (l9 : m9 < 22) (h7 : ACm m9 a) => ACm.up ((fun (m9 : Nat) (l9 : m9 < 22) (h7 : ACm m9 a) => h7) m9 l9 h7) ea1 (by decide)) m9 l9 h7) ea47 (by decide)) 0 (by decide) hA) (by decide)
            refine w_invV (rest := []) rfl rfl rfl rfl rfl (Nat.le_of_ble_eq_true rfl) rfl (by omega) (s_copies (K := K) a47 b  x67 0 60 ha47 (by omega) (by omega) (by omega) (by first | exact AC.at ((fun (m9 : Nat) (l9 : m9 < 22) (h7 : ACm m9 a) => ACm.up ((fun (m9 : Nat) (l9 : m9 < 22) (h7 : ACm m9 a) => ACm.up ((fun (m9 : Nat) (l9 : m9 < 22) (h7 : ACm m9 a) => h7) m9 l9 h7) ea1 (by decide)) m9 l9 h7) ea47 (by decide)) 0 (by decide) hA) (by omega) | exact AC.at ((fun (m9 : Nat) (l9 : m9 < 22) (h7 : ACm m9 a) => ACm.up ((fun (m9 : Nat) (l9 : m9 < 22) (h7 : ACm m9 a) => ACm.up ((fun (m9 : Nat) (l9 : m9 < 22) (h7 : ACm m9 a) => h7) m9 l9 h7) ea1 (by decide)) m9 l9 h7) ea47 (by decide)) 0 (by decide) hA) (by decide) | exact AC.at ((fun (m9 : Nat) (l9 : m9 < 22) (h7 : ACm m9 a) => ACm.up ((fun (m9 : Nat) (l9 : m9 < 22) (h7 : ACm m9 a) => ACm.up ((fun (m9 : Nat) (l9 : m9 < 22) (h7 : ACm m9 a) => h7) m9 l9 h7) ea1 (by decide)) m9 l9 h7) ea47 (by decide)) (1 + m.toInt.toNat) (by omega) (hM m.toInt.toNat (by omega) (by omega))) (by omega))) (fun v78 h9 hq79 => ?_)
            obtain ⟨a80, rfl, ha80, fa80, rfl⟩ := hq79
            show f_wp _ (70, [some (.inr (.inr (some 0))), some (.inl m), some (.inl bk)], [], mH a80 b) _
            have u6 : (a80 0 23).toInt = (a 0 23).toInt := by rw [fa80.1 0 (by decide)]; exact u5
            have s9 : AC a80 (60 * (1 + m.toInt.toNat)) ∨ bk.toInt = 1 := by first | exact Or.inr (by omega) | exact Or.inl (AC.at (AC.copied (q := 0) s8 (by decide) fa80.2.2) (by omega))
            refine w_aload rfl rfl ?_
            refine w_iload rfl rfl ?_
            refine w_if_eq rfl (fun c81 => ?_) (fun c81 => ?_)
            · skip
              refine w_aload rfl rfl ?_
              refine w_getI (v := .inl (a80 0 23)) rfl rfl rfl rfl rfl ?_
              have q82 : 0 ≤ (a80 0 23).toInt ∧ (a80 0 23).toInt ≤ 16 := ha80 0 23
              refine m_putI (z := false) rfl rfl rfl rfl (by first | (intro h9; cases h9; done) | (intro _; first | exact Or.inl rfl | exact Or.inr rfl | assumption)) (fun a83 ea83 => ?_)
              have ha83 : RM K a83 := RM.up ha80 ea83 (show (0 : Int) ≤ _ ∧ _ ≤ (16 : Int) from by omega)
              have ua83_23 : a83 0 23 = (a80 0 23) := by rw [ea83, mU_same]
              have wa83_23 := congrArg Int32.toInt ua83_23
              refine w_const rfl ?_
              exact wp_iret (z := true) rfl (fun _ => by first | exact Or.inl rfl | exact Or.inr rfl | (rcases (by omega : (1 : Int32).toInt = 0 ∨ (1 : Int32).toInt = 1) with h8 | h8; exact Or.inl (ti_eq h8); exact Or.inr (ti_eq h8))) ⟨a83, rfl, ha83, ⟨FR.up (FR.tr (FR.up (FR.up (FR.rf) (by decide) ea1) (by decide) ea47) (FR.sub fa80.1 (by decide))) (by decide) ea83, fun (m9 : Nat) (l9 : m9 < 22) (h7 : ACm m9 a) => ACm.up ((fun (m9 : Nat) (l9 : m9 < 22) (h7 : ACm m9 a) => fa80.2.1 m9 (by omega) ((fun (m9 : Nat) (l9 : m9 < 22) (h7 : ACm m9 a) => ACm.up ((fun (m9 : Nat) (l9 : m9 < 22) (h7 : ACm m9 a) => ACm.up ((fun (m9 : Nat) (l9 : m9 < 22) (h7 : ACm m9 a) => h7) m9 l9 h7) ea1 (by decide)) m9 l9 h7) ea47 (by decide)) m9 l9 h7)) m9 l9 h7) ea83 (by decide), ⟨fun m9 l9 h9 => by by_cases z9 : m9 = m.toInt.toNat; (first | (left; subst z9; omega) | (right; subst z9; exact AC.same (s9.resolve_right (by omega)) (fun r9 _ => by rw [ea83, mU_cell (by decide)]))); (left; rw [ea83, mU_cell (by decide), fa80.1 16 (by decide), ea47, mU_slot (by omega), ea1, mU_cell (by decide)] at h9; exact h9), by omega⟩⟩, ⟨_, rfl, by omega⟩⟩
            · skip
              refine w_const rfl ?_
              refine w_goto rfl ?_
              refine m_putI (z := false) rfl rfl rfl rfl (by first | (intro h9; cases h9; done) | (intro _; first | exact Or.inl rfl | exact Or.inr rfl | assumption)) (fun a84 ea84 => ?_)
              have ha84 : RM K a84 := RM.up ha80 ea84 (show (0 : Int) ≤ _ ∧ _ ≤ (16 : Int) from by omega)
              have ua84_23 : a84 0 23 = (0 : Int32) := by rw [ea84, mU_same]
              have wa84_23 := congrArg Int32.toInt ua84_23
              refine w_const rfl ?_
              exact wp_iret (z := true) rfl (fun _ => by first | exact Or.inl rfl | exact Or.inr rfl | (rcases (by omega : (1 : Int32).toInt = 0 ∨ (1 : Int32).toInt = 1) with h8 | h8; exact Or.inl (ti_eq h8); exact Or.inr (ti_eq h8))) ⟨a84, rfl, ha84, ⟨FR.up (FR.tr (FR.up (FR.up (FR.rf) (by decide) ea1) (by decide) ea47) (FR.sub fa80.1 (by decide))) (by decide) ea84, fun (m9 : Nat) (l9 : m9 < 22) (h7 : ACm m9 a) => ACm.up ((fun (m9 : Nat) (l9 : m9 < 22) (h7 : ACm m9 a) => fa80.2.1 m9 (by omega) ((fun (m9 : Nat) (l9 : m9 < 22) (h7 : ACm m9 a) => ACm.up ((fun (m9 : Nat) (l9 : m9 < 22) (h7 : ACm m9 a) => ACm.up ((fun (m9 : Nat) (l9 : m9 < 22) (h7 : ACm m9 a) => h7) m9 l9 h7) ea1 (by decide)) m9 l9 h7) ea47 (by decide)) m9 l9 h7)) m9 l9 h7) ea84 (by decide), ⟨fun m9 l9 h9 => by by_cases z9 : m9 = m.toInt.toNat; (first | (left; subst z9; omega) | (right; subst z9; exact AC.same (s9.resolve_right (by omega)) (fun r9 _ => by rw [ea84, mU_cell (by decide)]))); (left; rw [ea84, mU_cell (by decide), fa80.1 16 (by decide), ea47, mU_slot (by omega), ea1, mU_cell (by decide)] at h9; exact h9), by omega⟩⟩, ⟨_, rfl, by omega⟩⟩
set_option maxRecDepth 4000 in
theorem s_feed {K : Nat} (a : Nat → Nat → Int32) (b : Nat → Nat → Int64) (L_a : Int64) (L_b : Int64) (L_c : Int64) (hR : RM K a)  : f_call mtM 2 0 [.inr (.inr (some 0)), .inr (.inl L_a), .inr (.inl L_b), .inr (.inl L_c)] (mH a b) (fun v9 h' => ∃ (a' : Nat → Nat → Int32), h' = mH a' b ∧ RM K a' ∧ (FR [0, 1] a a' ∧ True) ∧ ∃ x : Int32, v9 = some (.inl x) ∧ (0 ≤ x.toInt ∧ x.toInt ≤ 1000)) := by
  refine f_call_of (d0 := 1) rfl (Nat.le_of_ble_eq_true rfl) (fun d hd => ?_)
  show f_wp _ (0, [some (.inr (.inr (some 0))), some (.inr (.inl L_a)), none, some (.inr (.inl L_b)), none, some (.inr (.inl L_c)), none], [], mH a b) _
  have l0 : (0 : Int32).toInt = 0 := rfl
  refine w_aload rfl rfl ?_
  refine w_const rfl ?_
  refine m_putI (z := false) rfl rfl rfl rfl (by first | (intro h9; cases h9; done) | (intro _; first | exact Or.inl rfl | exact Or.inr rfl | assumption)) (fun a1 ea1 => ?_)
  have ha1 : RM K a1 := RM.up hR ea1 ⟨ti_lo _, ti_hi _⟩
  have ua1_0 : a1 0 0 = (0 : Int32) := by rw [ea1, mU_same]
  have wa1_0 := congrArg Int32.toInt ua1_0
  refine w_aload rfl rfl ?_
  refine w_lload rfl rfl ?_
  refine w_invV (rest := []) rfl rfl rfl rfl rfl (Nat.le_of_ble_eq_true rfl) rfl (by omega) (s_lay (K := K) a1 b  L_a ha1 ) (fun v2 h9 hq3 => ?_)
  obtain ⟨a4, rfl, ha4, fa4, rfl⟩ := hq3
  show f_wp _ (10, [some (.inr (.inr (some 0))), some (.inr (.inl L_a)), none, some (.inr (.inl L_b)), none, some (.inr (.inl L_c)), none], [], mH a4 b) _
  refine w_aload rfl rfl ?_
  refine w_lload rfl rfl ?_
  refine w_invV (rest := []) rfl rfl rfl rfl rfl (Nat.le_of_ble_eq_true rfl) rfl (by omega) (s_lay (K := K) a4 b  L_b ha4 ) (fun v5 h9 hq6 => ?_)
  obtain ⟨a7, rfl, ha7, fa7, rfl⟩ := hq6
  show f_wp _ (15, [some (.inr (.inr (some 0))), some (.inr (.inl L_a)), none, some (.inr (.inl L_b)), none, some (.inr (.inl L_c)), none], [], mH a7 b) _
  refine w_aload rfl rfl ?_
  refine w_lload rfl rfl ?_
  refine w_invV (rest := []) rfl rfl rfl rfl rfl (Nat.le_of_ble_eq_true rfl) rfl (by omega) (s_lay (K := K) a7 b  L_c ha7 ) (fun v8 h9 hq9 => ?_)
  obtain ⟨a10, rfl, ha10, fa10, rfl⟩ := hq9
  show f_wp _ (21, [some (.inr (.inr (some 0))), some (.inr (.inl L_a)), none, some (.inr (.inl L_b)), none, some (.inr (.inl L_c)), none], [], mH a10 b) _
  refine w_aload rfl rfl ?_
  refine w_getI (v := .inl (a10 0 2)) rfl rfl rfl rfl rfl ?_
  have q11 : 0 ≤ (a10 0 2).toInt ∧ (a10 0 2).toInt ≤ 1000 := ha10 0 2
  exact wp_iret (z := false) rfl (fun h9 => by cases h9) ⟨a10, rfl, ha10, ⟨FR.tr (FR.tr (FR.tr (FR.up (FR.rf) (by decide) ea1) (FR.sub fa4.1 (by decide))) (FR.sub fa7.1 (by decide))) (FR.sub fa10.1 (by decide)), trivial⟩, ⟨_, rfl, by omega⟩⟩
set_option maxRecDepth 4000 in
theorem s_mayOf {K : Nat} (a : Nat → Nat → Int32) (b : Nat → Nat → Int64) (q : Int32) (w : Int32) (hR : RM K a) (hb : 0 ≤ q.toInt ∧ q.toInt ≤ 1260 ∧ q.toInt % 60 = 0) (hw : 0 ≤ w.toInt ∧ w.toInt < 6) (hA : AC a q.toInt.toNat) : f_call mtM 4 68 [.inr (.inr (some 0)), .inl q, .inl w] (mH a b) (fun v9 h' => ∃ (a' : Nat → Nat → Int32), h' = mH a' b ∧ RM K a' ∧ (FR [17] a a' ∧ True) ∧ ∃ x : Int32, v9 = some (.inl x) ∧ True) := by
  refine f_call_of (d0 := 3) rfl (Nat.le_of_ble_eq_true rfl) (fun d hd => ?_)
  show f_wp _ (0, [some (.inr (.inr (some 0))), some (.inl q), some (.inl w), none, none], [], mH a b) _
  have l0 : (0 : Int32).toInt = 0 := rfl
  have l1 : (1 : Int32).toInt = 1 := rfl
  refine w_const rfl ?_
  refine w_istore (lo' := [some (.inr (.inr (some 0))), some (.inl q), some (.inl w), some (.inl 0), none]) rfl rfl ?_
  refine w_const rfl ?_
  refine w_istore (lo' := [some (.inr (.inr (some 0))), some (.inl q), some (.inl w), some (.inl 0), some (.inl 0)]) rfl rfl ?_
  have loop5 : ∀ (ms9 : Nat) (set : Int32) (h : Int32) (a5 : Nat → Nat → Int32) , (6 - h.toInt).toNat = ms9 → RM K a5 → FR [17] a a5 → (0 ≤ h.toInt ∧ h.toInt ≤ 6) → f_wp (f_code (t_X13_mayOf (f_ev mtM d))) (5, [some (.inr (.inr (some 0))), some (.inl q), some (.inl w), some (.inl set), some (.inl h)], [], mH a5 b) (fun v9 h' => ∃ (a' : Nat → Nat → Int32), h' = mH a' b ∧ RM K a' ∧ (FR [17] a a' ∧ True) ∧ ∃ x : Int32, v9 = some (.inl x) ∧ True) := by
    intro ms9
    induction ms9 using Nat.strongRecOn with
    | _ ms5 ih5 =>
      intro set h a5  hm5 hR5 hF5 hh
      refine w_iload rfl rfl ?_
      refine w_aload rfl rfl ?_
      refine w_invV (rest := [.inl h]) rfl rfl rfl rfl rfl (Nat.le_of_ble_eq_true rfl) rfl (by omega) (s_rivers (K := K) a5 b   hR5 ) (fun v1 h9 hq2 => ?_)
      obtain ⟨rfl, x3, rfl, px3⟩ := hq2
      show f_wp _ (11, [some (.inr (.inr (some 0))), some (.inl q), some (.inl w), some (.inl set), some (.inl h)], [.inl x3, .inl h], mH a5 b) _
      refine w_ic_ge rfl (fun c4 => ?_) (fun c4 => ?_)
      · skip
        refine w_iload rfl rfl ?_
        exact wp_iret (z := false) rfl (fun h9 => by cases h9) ⟨a5, rfl, hR5, ⟨hF5, trivial⟩, ⟨_, rfl, trivial⟩⟩
      · skip
        refine w_iload rfl rfl ?_
        refine w_aload rfl rfl ?_
        refine w_iload rfl rfl ?_
        refine w_iload rfl rfl ?_
        refine w_iload rfl rfl ?_
        refine w_invV (rest := [.inl set]) rfl rfl rfl rfl rfl (Nat.le_of_ble_eq_true rfl) rfl (by omega) (s_mayWed (K := K) a5 b  q w h hR5 (by omega) (by omega) (by omega) (hA.same (fun r9 _ => by rw [hF5 15 (by decide)]))) (fun v5 h9 hq6 => ?_)
        obtain ⟨a7, rfl, ha7, fa7, x8, rfl, px8⟩ := hq6
        show f_wp _ (23, [some (.inr (.inr (some 0))), some (.inl q), some (.inl w), some (.inl set), some (.inl h)], [.inl x8, .inl set], mH a7 b) _
        refine w_if_eq rfl (fun c9 => ?_) (fun c9 => ?_)
        · skip
          refine w_const rfl ?_
          refine w_iiE rfl (fun x10 tx10 => ?_)
          refine w_istore (lo' := [some (.inr (.inr (some 0))), some (.inl q), some (.inl w), some (.inl x10), some (.inl h)]) rfl rfl ?_
          refine w_iinc (lo' := fun z9 => [some (.inr (.inr (some 0))), some (.inl q), some (.inl w), some (.inl x10), some (.inl z9)]) rfl rfl (fun _ => rfl) (by omega) (fun x11 tx11 => ?_)
          refine w_goto rfl ?_
          exact ih5 (6 - x11.toInt).toNat (by omega) x10 x11 a7 rfl ha7 (FR.tr (hF5) (FR.sub fa7.1 (by decide))) (by omega)
        · skip
          refine w_const rfl ?_
          refine w_iload rfl rfl ?_
          refine w_iiE rfl (fun x12 tx12 => ?_)
          refine w_goto rfl ?_
          refine w_iiE rfl (fun x13 tx13 => ?_)
          refine w_istore (lo' := [some (.inr (.inr (some 0))), some (.inl q), some (.inl w), some (.inl x13), some (.inl h)]) rfl rfl ?_
          refine w_iinc (lo' := fun z9 => [some (.inr (.inr (some 0))), some (.inl q), some (.inl w), some (.inl x13), some (.inl z9)]) rfl rfl (fun _ => rfl) (by omega) (fun x14 tx14 => ?_)
          refine w_goto rfl ?_
          exact ih5 (6 - x14.toInt).toNat (by omega) x13 x14 a7 rfl ha7 (FR.tr (hF5) (FR.sub fa7.1 (by decide))) (by omega)
  exact loop5 _ 0 0 a rfl hR (FR.rf) (by omega)
set_option maxRecDepth 4000 in
theorem s_near {K : Nat} (a : Nat → Nat → Int32) (b : Nat → Nat → Int64) (r : Int32) (s : Int32) (hR : RM K a)  : f_call mtM 3 63 [.inr (.inr (some 0)), .inl r, .inl s] (mH a b) (fun v9 h' => ∃ (a' : Nat → Nat → Int32), h' = mH a' b ∧ RM K a' ∧ (FR [0, 17] a a' ∧ True) ∧ ∃ x : Int32, v9 = some (.inl x) ∧ True) := by
  refine f_call_of (d0 := 2) rfl (Nat.le_of_ble_eq_true rfl) (fun d hd => ?_)
  show f_wp _ (0, [some (.inr (.inr (some 0))), some (.inl r), some (.inl s)], [], mH a b) _
  have lm1 : (-1 : Int32).toInt = -1 := rfl
  have l0 : (0 : Int32).toInt = 0 := rfl
  refine w_aload rfl rfl ?_
  refine w_const rfl ?_
  refine m_putI (z := false) rfl rfl rfl rfl (by first | (intro h9; cases h9; done) | (intro _; first | exact Or.inl rfl | exact Or.inr rfl | assumption)) (fun a1 ea1 => ?_)
  have ha1 : RM K a1 := RM.up hR ea1 ⟨ti_lo _, ti_hi _⟩
  have ua1_0 : a1 0 0 = (0 : Int32) := by rw [ea1, mU_same]
  have wa1_0 := congrArg Int32.toInt ua1_0
  refine w_aload rfl rfl ?_
  refine w_iload rfl rfl ?_
  refine w_invV (rest := []) rfl rfl rfl rfl rfl (Nat.le_of_ble_eq_true rfl) rfl (by omega) (s_isRiver (K := K) a1 b  r ha1 ) (fun v2 h9 hq3 => ?_)
  obtain ⟨rfl, x4, rfl, px4⟩ := hq3
  show f_wp _ (10, [some (.inr (.inr (some 0))), some (.inl r), some (.inl s)], [.inl x4], mH a1 b) _
  refine w_if_eq rfl (fun c5 => ?_) (fun c5 => ?_)
  · skip
    refine w_const rfl ?_
    exact wp_iret (z := false) rfl (fun h9 => by cases h9) ⟨a1, rfl, ha1, ⟨FR.up (FR.rf) (by decide) ea1, trivial⟩, ⟨_, rfl, trivial⟩⟩
  · skip
    refine w_aload rfl rfl ?_
    refine w_iload rfl rfl ?_
    refine w_invV (rest := []) rfl rfl rfl rfl rfl (Nat.le_of_ble_eq_true rfl) rfl (by omega) (s_isRiver (K := K) a1 b  s ha1 ) (fun v6 h9 hq7 => ?_)
    obtain ⟨rfl, x8, rfl, px8⟩ := hq7
    show f_wp _ (18, [some (.inr (.inr (some 0))), some (.inl r), some (.inl s)], [.inl x8], mH a1 b) _
    refine w_if_eq rfl (fun c9 => ?_) (fun c9 => ?_)
    · skip
      refine w_const rfl ?_
      exact wp_iret (z := false) rfl (fun h9 => by cases h9) ⟨a1, rfl, ha1, ⟨FR.up (FR.rf) (by decide) ea1, trivial⟩, ⟨_, rfl, trivial⟩⟩
    · skip
      refine w_aload rfl rfl ?_
      refine w_iload rfl rfl ?_
      refine w_iload rfl rfl ?_
      refine w_invV (rest := []) rfl rfl rfl rfl rfl (Nat.le_of_ble_eq_true rfl) rfl (by omega) (s_nearOf (K := K) a1 b  r s ha1 (by omega) (by omega)) (fun v10 h9 hq11 => ?_)
      obtain ⟨a12, rfl, ha12, fa12, x13, rfl, px13⟩ := hq11
      show f_wp _ (27, [some (.inr (.inr (some 0))), some (.inl r), some (.inl s)], [.inl x13], mH a12 b) _
      refine w_goto rfl ?_
      exact wp_iret (z := false) rfl (fun h9 => by cases h9) ⟨a12, rfl, ha12, ⟨FR.tr (FR.up (FR.rf) (by decide) ea1) (FR.sub fa12.1 (by decide)), trivial⟩, ⟨_, rfl, trivial⟩⟩
set_option maxRecDepth 4000 in
theorem s_dig {K : Nat} (a : Nat → Nat → Int32) (b : Nat → Nat → Int64) (r : Int32) (s : Int32) (hR : RM K a)  : f_call mtM 4 66 [.inr (.inr (some 0)), .inl r, .inl s] (mH a b) (fun v9 h' => ∃ (a' : Nat → Nat → Int32), h' = mH a' b ∧ RM K a' ∧ (FR [0] a a' ∧ True) ∧ ∃ x : Int32, v9 = some (.inl x) ∧ True) := by
  refine f_call_of (d0 := 3) rfl (Nat.le_of_ble_eq_true rfl) (fun d hd => ?_)
  show f_wp _ (0, [some (.inr (.inr (some 0))), some (.inl r), some (.inl s)], [], mH a b) _
  have lm1 : (-1 : Int32).toInt = -1 := rfl
  have l0 : (0 : Int32).toInt = 0 := rfl
  refine w_aload rfl rfl ?_
  refine w_const rfl ?_
  refine m_putI (z := false) rfl rfl rfl rfl (by first | (intro h9; cases h9; done) | (intro _; first | exact Or.inl rfl | exact Or.inr rfl | assumption)) (fun a1 ea1 => ?_)
  have ha1 : RM K a1 := RM.up hR ea1 ⟨ti_lo _, ti_hi _⟩
  have ua1_0 : a1 0 0 = (0 : Int32) := by rw [ea1, mU_same]
  have wa1_0 := congrArg Int32.toInt ua1_0
  refine w_aload rfl rfl ?_
  refine w_iload rfl rfl ?_
  refine w_invV (rest := []) rfl rfl rfl rfl rfl (Nat.le_of_ble_eq_true rfl) rfl (by omega) (s_isRiver (K := K) a1 b  r ha1 ) (fun v2 h9 hq3 => ?_)
  obtain ⟨rfl, x4, rfl, px4⟩ := hq3
  show f_wp _ (10, [some (.inr (.inr (some 0))), some (.inl r), some (.inl s)], [.inl x4], mH a1 b) _
  refine w_if_eq rfl (fun c5 => ?_) (fun c5 => ?_)
  · skip
    refine w_const rfl ?_
    exact wp_iret (z := false) rfl (fun h9 => by cases h9) ⟨a1, rfl, ha1, ⟨FR.up (FR.rf) (by decide) ea1, trivial⟩, ⟨_, rfl, trivial⟩⟩
  · skip
    refine w_aload rfl rfl ?_
    refine w_iload rfl rfl ?_
    refine w_invV (rest := []) rfl rfl rfl rfl rfl (Nat.le_of_ble_eq_true rfl) rfl (by omega) (s_isRiver (K := K) a1 b  s ha1 ) (fun v6 h9 hq7 => ?_)
    obtain ⟨rfl, x8, rfl, px8⟩ := hq7
    show f_wp _ (18, [some (.inr (.inr (some 0))), some (.inl r), some (.inl s)], [.inl x8], mH a1 b) _
    refine w_if_eq rfl (fun c9 => ?_) (fun c9 => ?_)
    · skip
      refine w_const rfl ?_
      exact wp_iret (z := false) rfl (fun h9 => by cases h9) ⟨a1, rfl, ha1, ⟨FR.up (FR.rf) (by decide) ea1, trivial⟩, ⟨_, rfl, trivial⟩⟩
    · skip
      refine w_iload rfl rfl ?_
      refine w_iload rfl rfl ?_
      refine w_ic_eq rfl (fun c10 => ?_) (fun c10 => ?_)
      · skip
        refine w_const rfl ?_
        exact wp_iret (z := false) rfl (fun h9 => by cases h9) ⟨a1, rfl, ha1, ⟨FR.up (FR.rf) (by decide) ea1, trivial⟩, ⟨_, rfl, trivial⟩⟩
      · skip
        refine w_aload rfl rfl ?_
        refine w_iload rfl rfl ?_
        refine w_iload rfl rfl ?_
        refine w_invV (rest := []) rfl rfl rfl rfl rfl (Nat.le_of_ble_eq_true rfl) rfl (by omega) (s_digOf (K := K) a1 b  r s ha1 (by omega) (by omega)) (fun v11 h9 hq12 => ?_)
        obtain ⟨rfl, x13, rfl, px13⟩ := hq12
        show f_wp _ (32, [some (.inr (.inr (some 0))), some (.inl r), some (.inl s)], [.inl x13], mH a1 b) _
        refine w_goto rfl ?_
        exact wp_iret (z := false) rfl (fun h9 => by cases h9) ⟨a1, rfl, ha1, ⟨FR.up (FR.rf) (by decide) ea1, trivial⟩, ⟨_, rfl, trivial⟩⟩
set_option maxRecDepth 4000 in
theorem s_may {K : Nat} (a : Nat → Nat → Int32) (b : Nat → Nat → Int64) (r : Int32) (hR : RM K a) (hA : AC a 0) : f_call mtM 5 69 [.inr (.inr (some 0)), .inl r] (mH a b) (fun v9 h' => ∃ (a' : Nat → Nat → Int32), h' = mH a' b ∧ RM K a' ∧ (FR [0, 17] a a' ∧ True) ∧ ∃ x : Int32, v9 = some (.inl x) ∧ True) := by
  refine f_call_of (d0 := 4) rfl (Nat.le_of_ble_eq_true rfl) (fun d hd => ?_)
  show f_wp _ (0, [some (.inr (.inr (some 0))), some (.inl r)], [], mH a b) _
  have lm1 : (-1 : Int32).toInt = -1 := rfl
  have l0 : (0 : Int32).toInt = 0 := rfl
  refine w_aload rfl rfl ?_
  refine w_const rfl ?_
  refine m_putI (z := false) rfl rfl rfl rfl (by first | (intro h9; cases h9; done) | (intro _; first | exact Or.inl rfl | exact Or.inr rfl | assumption)) (fun a1 ea1 => ?_)
  have ha1 : RM K a1 := RM.up hR ea1 ⟨ti_lo _, ti_hi _⟩
  have ua1_0 : a1 0 0 = (0 : Int32) := by rw [ea1, mU_same]
  have wa1_0 := congrArg Int32.toInt ua1_0
  refine w_aload rfl rfl ?_
  refine w_iload rfl rfl ?_
  refine w_invV (rest := []) rfl rfl rfl rfl rfl (Nat.le_of_ble_eq_true rfl) rfl (by omega) (s_isRiver (K := K) a1 b  r ha1 ) (fun v2 h9 hq3 => ?_)
  obtain ⟨rfl, x4, rfl, px4⟩ := hq3
  show f_wp _ (10, [some (.inr (.inr (some 0))), some (.inl r)], [.inl x4], mH a1 b) _
  refine w_if_eq rfl (fun c5 => ?_) (fun c5 => ?_)
  · skip
    refine w_const rfl ?_
    exact wp_iret (z := false) rfl (fun h9 => by cases h9) ⟨a1, rfl, ha1, ⟨FR.up (FR.rf) (by decide) ea1, trivial⟩, ⟨_, rfl, trivial⟩⟩
  · skip
    refine w_aload rfl rfl ?_
    refine w_const rfl ?_
    refine w_iload rfl rfl ?_
    refine w_invV (rest := []) rfl rfl rfl rfl rfl (Nat.le_of_ble_eq_true rfl) rfl (by omega) (s_mayOf (K := K) a1 b  0 r ha1 (by omega) (by omega) (((fun (m9 : Nat) (l9 : m9 < 22) (h7 : ACm m9 a) => ACm.up ((fun (m9 : Nat) (l9 : m9 < 22) (h7 : ACm m9 a) => h7) m9 l9 h7) ea1 (by decide)) 0 (by decide) hA))) (fun v6 h9 hq7 => ?_)
    obtain ⟨a8, rfl, ha8, fa8, x9, rfl, px9⟩ := hq7
    show f_wp _ (19, [some (.inr (.inr (some 0))), some (.inl r)], [.inl x9], mH a8 b) _
    refine w_goto rfl ?_
    exact wp_iret (z := false) rfl (fun h9 => by cases h9) ⟨a8, rfl, ha8, ⟨FR.tr (FR.up (FR.rf) (by decide) ea1) (FR.sub fa8.1 (by decide)), trivial⟩, ⟨_, rfl, trivial⟩⟩
set_option maxRecDepth 4000 in
theorem s_flow {K : Nat} (a : Nat → Nat → Int32) (b : Nat → Nat → Int64) (r : Int32) (e : Int32) (s : Int32) (hR : RM K a) (hA : AC a 0) : f_call mtM 12 60 [.inr (.inr (some 0)), .inl r, .inl e, .inl s] (mH a b) (fun v9 h' => ∃ (a' : Nat → Nat → Int32), h' = mH a' b ∧ RM K a' ∧ (FR [0] a a' ∧ True) ∧ ∃ x : Int32, v9 = some (.inl x) ∧ True) := by
  refine f_call_of (d0 := 11) rfl (Nat.le_of_ble_eq_true rfl) (fun d hd => ?_)
  show f_wp _ (0, [some (.inr (.inr (some 0))), some (.inl r), some (.inl e), some (.inl s)], [], mH a b) _
  have lm1 : (-1 : Int32).toInt = -1 := rfl
  have l0 : (0 : Int32).toInt = 0 := rfl
  have l3 : (3 : Int32).toInt = 3 := rfl
  have l99 : (99 : Int32).toInt = 99 := rfl
  refine w_aload rfl rfl ?_
  refine w_const rfl ?_
  refine m_putI (z := false) rfl rfl rfl rfl (by first | (intro h9; cases h9; done) | (intro _; first | exact Or.inl rfl | exact Or.inr rfl | assumption)) (fun a1 ea1 => ?_)
  have ha1 : RM K a1 := RM.up hR ea1 ⟨ti_lo _, ti_hi _⟩
  have ua1_0 : a1 0 0 = (0 : Int32) := by rw [ea1, mU_same]
  have wa1_0 := congrArg Int32.toInt ua1_0
  refine w_aload rfl rfl ?_
  refine w_iload rfl rfl ?_
  refine w_invV (rest := []) rfl rfl rfl rfl rfl (Nat.le_of_ble_eq_true rfl) rfl (by omega) (s_isRiver (K := K) a1 b  r ha1 ) (fun v2 h9 hq3 => ?_)
  obtain ⟨rfl, x4, rfl, px4⟩ := hq3
  show f_wp _ (10, [some (.inr (.inr (some 0))), some (.inl r), some (.inl e), some (.inl s)], [.inl x4], mH a1 b) _
  refine w_if_eq rfl (fun c5 => ?_) (fun c5 => ?_)
  · skip
    refine w_const rfl ?_
    exact wp_iret (z := false) rfl (fun h9 => by cases h9) ⟨a1, rfl, ha1, ⟨FR.up (FR.rf) (by decide) ea1, trivial⟩, ⟨_, rfl, trivial⟩⟩
  · skip
    refine w_iload rfl rfl ?_
    refine w_const rfl ?_
    refine w_const rfl ?_
    refine w_invS (rest := []) rfl (Nat.le_of_ble_eq_true rfl) rfl (Nat.le_of_ble_eq_true rfl) rfl (by omega) (s_within (K := K) a1 b  e 0 99  ) (fun v6 h9 hq7 => ?_)
    obtain ⟨rfl, x8, rfl, px8⟩ := hq7
    show f_wp _ (20, [some (.inr (.inr (some 0))), some (.inl r), some (.inl e), some (.inl s)], [.inl x8], mH a1 b) _
    refine w_if_eq rfl (fun c9 => ?_) (fun c9 => ?_)
    · skip
      refine w_const rfl ?_
      exact wp_iret (z := false) rfl (fun h9 => by cases h9) ⟨a1, rfl, ha1, ⟨FR.up (FR.rf) (by decide) ea1, trivial⟩, ⟨_, rfl, trivial⟩⟩
    · skip
      refine w_iload rfl rfl ?_
      refine w_const rfl ?_
      refine w_const rfl ?_
      refine w_invS (rest := []) rfl (Nat.le_of_ble_eq_true rfl) rfl (Nat.le_of_ble_eq_true rfl) rfl (by omega) (s_within (K := K) a1 b  s 0 3  ) (fun v10 h9 hq11 => ?_)
      obtain ⟨rfl, x12, rfl, px12⟩ := hq11
      show f_wp _ (29, [some (.inr (.inr (some 0))), some (.inl r), some (.inl e), some (.inl s)], [.inl x12], mH a1 b) _
      refine w_if_eq rfl (fun c13 => ?_) (fun c13 => ?_)
      · skip
        refine w_const rfl ?_
        exact wp_iret (z := false) rfl (fun h9 => by cases h9) ⟨a1, rfl, ha1, ⟨FR.up (FR.rf) (by decide) ea1, trivial⟩, ⟨_, rfl, trivial⟩⟩
      · skip
        refine w_aload rfl rfl ?_
        refine w_iload rfl rfl ?_
        refine w_iload rfl rfl ?_
        refine w_invV (rest := []) rfl rfl rfl rfl rfl (Nat.le_of_ble_eq_true rfl) rfl (by omega) (s_isThere (K := K) a1 b  r e ha1 (by omega)) (fun v14 h9 hq15 => ?_)
        obtain ⟨rfl, x16, rfl, px16⟩ := hq15
        show f_wp _ (38, [some (.inr (.inr (some 0))), some (.inl r), some (.inl e), some (.inl s)], [.inl x16], mH a1 b) _
        refine w_if_eq rfl (fun c17 => ?_) (fun c17 => ?_)
        · skip
          refine w_const rfl ?_
          exact wp_iret (z := false) rfl (fun h9 => by cases h9) ⟨a1, rfl, ha1, ⟨FR.up (FR.rf) (by decide) ea1, trivial⟩, ⟨_, rfl, trivial⟩⟩
        · skip
          refine w_aload rfl rfl ?_
          refine w_const rfl ?_
          refine w_iload rfl rfl ?_
          refine w_iload rfl rfl ?_
          refine w_iload rfl rfl ?_
          refine w_invV (rest := []) rfl rfl rfl rfl rfl (Nat.le_of_ble_eq_true rfl) rfl (by omega) (s_flowAt (K := K) a1 b  0 r e s ha1 (by omega) (by omega) (by omega) (((fun (m9 : Nat) (l9 : m9 < 22) (h7 : ACm m9 a) => ACm.up ((fun (m9 : Nat) (l9 : m9 < 22) (h7 : ACm m9 a) => h7) m9 l9 h7) ea1 (by decide)) 0 (by decide) hA))) (fun v18 h9 hq19 => ?_)
          obtain ⟨rfl, x20, rfl, px20⟩ := hq19
          show f_wp _ (49, [some (.inr (.inr (some 0))), some (.inl r), some (.inl e), some (.inl s)], [.inl x20], mH a1 b) _
          refine w_goto rfl ?_
          exact wp_iret (z := false) rfl (fun h9 => by cases h9) ⟨a1, rfl, ha1, ⟨FR.up (FR.rf) (by decide) ea1, trivial⟩, ⟨_, rfl, trivial⟩⟩
