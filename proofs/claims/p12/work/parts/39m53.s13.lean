set_option maxRecDepth 4000 in
theorem s_goesOn_n {K : Nat} : ∀ (n : Nat) (a : Nat → Nat → Int32) (b : Nat → Nat → Int64) (k t dg : Int32), RM K a → AC a 1260 → 0 ≤ k.toInt → CN a k.toInt.toNat → (6 - k.toInt).toNat = n → f_call mtM (n + 5) 91 [.inr (.inr (some 0)), .inl k, .inl t, .inl dg] (mH a b) (fun v9 h' => ∃ (a' : Nat → Nat → Int32), h' = mH a' b ∧ RM K a' ∧ (FR [0, 15, 17, 21, 22] a a' ∧ (∀ m9, m9 < 22 → ACm m9 a → ACm m9 a') ∧ ((∀ j, a' 15 j = a 15 j) ∧ (∀ i, i ≤ k.toInt.toNat → a' 21 i = a 21 i))) ∧ v9 = none) := by
  intro n
  induction n using Nat.strongRecOn with
  | _ n ih =>
  intro a b k t dg hR hA hk hCN hn
  refine f_call_of (d0 := n + 4) rfl (Nat.le_of_ble_eq_true rfl) (fun d hd => ?_)
  show f_wp _ (0, [some (.inr (.inr (some 0))), some (.inl k), some (.inl t), some (.inl dg), none, none], [], mH a b) _
  have lm1 : (-1 : Int32).toInt = -1 := rfl
  have l0 : (0 : Int32).toInt = 0 := rfl
  have l1 : (1 : Int32).toInt = 1 := rfl
  have l1260 : (1260 : Int32).toInt = 1260 := rfl
  have l1261 : (1261 : Int32).toInt = 1261 := rfl
  have k5 := CN.le hR hA hCN
  refine w_aload rfl rfl ?_
  refine w_getR (v := .inr (.inr (some 21))) rfl rfl rfl rfl rfl ?_
  refine w_iload rfl rfl ?_
  refine m_iald rfl rfl (by omega) (fun x1 ex1 => ?_)
  have qx1 : 0 ≤ x1.toInt ∧ x1.toInt ≤ 5 := by rw [ex1]; exact hR 21 _
  have w9 : x1 = a 21 k.toInt.toNat := ex1
  refine w_istore (lo' := [some (.inr (.inr (some 0))), some (.inl k), some (.inl t), some (.inl dg), some (.inl x1), none]) rfl rfl ?_
  refine w_iload rfl rfl ?_
  refine w_iload rfl rfl ?_
  refine w_ic_ne rfl (fun c2 => ?_) (fun c2 => ?_)
  · skip
    refine w_aload rfl rfl ?_
    refine w_getI (v := .inl (a 0 37)) rfl rfl rfl rfl rfl ?_
    have q3 : -1 ≤ (a 0 37).toInt ∧ (a 0 37).toInt ≤ 5 := hR 0 37
    refine w_if_lt rfl (fun c4 => ?_) (fun c4 => ?_)
    · skip
      refine w_aload rfl rfl ?_
      refine w_iload rfl rfl ?_
      refine m_putI (z := false) rfl rfl rfl rfl (by first | (intro h9; cases h9; done) | (intro _; first | exact Or.inl rfl | exact Or.inr rfl | assumption)) (fun a5 ea5 => ?_)
      have ha5 : RM K a5 := RM.up hR ea5 ⟨ti_lo _, ti_hi _⟩
      have ua5_36 : a5 0 36 = dg := by rw [ea5, mU_same]
      have wa5_36 := congrArg Int32.toInt ua5_36
      have ua5_37 : (a5 0 37).toInt = (a 0 37).toInt := by rw [ea5, mU_slot (by decide)]
      refine w_aload rfl rfl ?_
      refine w_iload rfl rfl ?_
      refine m_putI (z := false) rfl rfl rfl rfl (by first | (intro h9; cases h9; done) | (intro _; first | exact Or.inl rfl | exact Or.inr rfl | assumption)) (fun a6 ea6 => ?_)
      have ha6 : RM K a6 := RM.up ha5 ea6 (show (-1 : Int) ≤ _ ∧ _ ≤ (5 : Int) from by omega)
      have ua6_37 : a6 0 37 = k := by rw [ea6, mU_same]
      have wa6_37 := congrArg Int32.toInt ua6_37
      refine w_const rfl ?_
      refine w_istore (lo' := [some (.inr (.inr (some 0))), some (.inl k), some (.inl t), some (.inl dg), some (.inl x1), some (.inl 0)]) rfl rfl ?_
      have loop58 : ∀ (ms9 : Nat) (i : Int32) (a58 : Nat → Nat → Int32) , (6 - i.toInt).toNat = ms9 → RM K a58 → FR [0, 15, 17, 21, 22] a a58 → (0 ≤ i.toInt ∧ i.toInt ≤ 6) → (a58 15 = a 15 ∧ a58 21 = a 21) → f_wp (f_code (t_X13_goesOn (f_ev mtM d))) (58, [some (.inr (.inr (some 0))), some (.inl k), some (.inl t), some (.inl dg), some (.inl x1), some (.inl i)], [], mH a58 b) (fun v9 h' => ∃ (a' : Nat → Nat → Int32), h' = mH a' b ∧ RM K a' ∧ (FR [0, 15, 17, 21, 22] a a' ∧ (∀ m9, m9 < 22 → ACm m9 a → ACm m9 a') ∧ ((∀ j, a' 15 j = a 15 j) ∧ (∀ i, i ≤ k.toInt.toNat → a' 21 i = a 21 i))) ∧ v9 = none) := by
        intro ms9
        induction ms9 using Nat.strongRecOn with
        | _ ms58 ih58 =>
          intro i a58  hm58 hR58 hF58 hi hS8
          refine w_iload rfl rfl ?_
          refine w_iload rfl rfl ?_
          refine w_ic_gt rfl (fun c7 => ?_) (fun c7 => ?_)
          · skip
            exact w_ret rfl ⟨a58, rfl, hR58, ⟨hF58, fun m9 hm9 h7 => AC.same h7 (fun r9 _ => by rw [hS8.1]), ⟨fun j => by rw [hS8.1], fun i _ => by rw [hS8.2]⟩⟩, rfl⟩
          · skip
            refine w_aload rfl rfl ?_
            refine w_getR (v := .inr (.inr (some 22))) rfl rfl rfl rfl rfl ?_
            refine w_iload rfl rfl ?_
            refine w_aload rfl rfl ?_
            refine w_getR (v := .inr (.inr (some 21))) rfl rfl rfl rfl rfl ?_
            refine w_iload rfl rfl ?_
            refine m_iald rfl rfl (by omega) (fun x8 ex8 => ?_)
            have qx8 : 0 ≤ x8.toInt ∧ x8.toInt ≤ 5 := by rw [ex8]; exact hR58 21 _
            refine m_iast rfl rfl (by omega) (fun a9 ea9 => ?_)
            have ha9 : RM K a9 := RM.up hR58 ea9 ⟨ti_lo _, ti_hi _⟩
            have ua9_37 : (a9 0 37).toInt = (a58 0 37).toInt := by rw [ea9, mU_cell (by decide)]
            refine w_iinc (lo' := fun z9 => [some (.inr (.inr (some 0))), some (.inl k), some (.inl t), some (.inl dg), some (.inl x1), some (.inl z9)]) rfl rfl (fun _ => rfl) (by omega) (fun x10 tx10 => ?_)
            refine w_goto rfl ?_
            exact ih58 (6 - x10.toInt).toNat (by omega) x10 a9 rfl ha9 (FR.up (hF58) (by decide) ea9) (by omega) (⟨by rw [ea9, mU_cell (by decide)]; exact hS8.1, by rw [ea9, mU_cell (by decide)]; exact hS8.2⟩)
      exact loop58 _ 0 a6 rfl ha6 (FR.up (FR.up (FR.rf) (by decide) ea5) (by decide) ea6) (by omega) (⟨by rw [ea6, mU_cell (by decide), ea5, mU_cell (by decide)], by rw [ea6, mU_cell (by decide), ea5, mU_cell (by decide)]⟩)
    · skip
      refine w_iload rfl rfl ?_
      refine w_aload rfl rfl ?_
      refine w_getI (v := .inl (a 0 36)) rfl rfl rfl rfl rfl ?_
      refine w_ic_lt rfl (fun c11 => ?_) (fun c11 => ?_)
      · skip
        refine w_aload rfl rfl ?_
        refine w_iload rfl rfl ?_
        refine m_putI (z := false) rfl rfl rfl rfl (by first | (intro h9; cases h9; done) | (intro _; first | exact Or.inl rfl | exact Or.inr rfl | assumption)) (fun a12 ea12 => ?_)
        have ha12 : RM K a12 := RM.up hR ea12 ⟨ti_lo _, ti_hi _⟩
        have ua12_36 : a12 0 36 = dg := by rw [ea12, mU_same]
        have wa12_36 := congrArg Int32.toInt ua12_36
        have ua12_37 : (a12 0 37).toInt = (a 0 37).toInt := by rw [ea12, mU_slot (by decide)]
        refine w_aload rfl rfl ?_
        refine w_iload rfl rfl ?_
        refine m_putI (z := false) rfl rfl rfl rfl (by first | (intro h9; cases h9; done) | (intro _; first | exact Or.inl rfl | exact Or.inr rfl | assumption)) (fun a13 ea13 => ?_)
        have ha13 : RM K a13 := RM.up ha12 ea13 (show (-1 : Int) ≤ _ ∧ _ ≤ (5 : Int) from by omega)
        have ua13_36 : (a13 0 36).toInt = (a12 0 36).toInt := by rw [ea13, mU_slot (by decide)]
        have ua13_37 : a13 0 37 = k := by rw [ea13, mU_same]
        have wa13_37 := congrArg Int32.toInt ua13_37
        refine w_const rfl ?_
        refine w_istore (lo' := [some (.inr (.inr (some 0))), some (.inl k), some (.inl t), some (.inl dg), some (.inl x1), some (.inl 0)]) rfl rfl ?_
        have loop58 : ∀ (ms9 : Nat) (i : Int32) (a58 : Nat → Nat → Int32) , (6 - i.toInt).toNat = ms9 → RM K a58 → FR [0, 15, 17, 21, 22] a a58 → (0 ≤ i.toInt ∧ i.toInt ≤ 6) → (a58 15 = a 15 ∧ a58 21 = a 21) → f_wp (f_code (t_X13_goesOn (f_ev mtM d))) (58, [some (.inr (.inr (some 0))), some (.inl k), some (.inl t), some (.inl dg), some (.inl x1), some (.inl i)], [], mH a58 b) (fun v9 h' => ∃ (a' : Nat → Nat → Int32), h' = mH a' b ∧ RM K a' ∧ (FR [0, 15, 17, 21, 22] a a' ∧ (∀ m9, m9 < 22 → ACm m9 a → ACm m9 a') ∧ ((∀ j, a' 15 j = a 15 j) ∧ (∀ i, i ≤ k.toInt.toNat → a' 21 i = a 21 i))) ∧ v9 = none) := by
          intro ms9
          induction ms9 using Nat.strongRecOn with
          | _ ms58 ih58 =>
            intro i a58  hm58 hR58 hF58 hi hS8
            refine w_iload rfl rfl ?_
            refine w_iload rfl rfl ?_
            refine w_ic_gt rfl (fun c14 => ?_) (fun c14 => ?_)
            · skip
              exact w_ret rfl ⟨a58, rfl, hR58, ⟨hF58, fun m9 hm9 h7 => AC.same h7 (fun r9 _ => by rw [hS8.1]), ⟨fun j => by rw [hS8.1], fun i _ => by rw [hS8.2]⟩⟩, rfl⟩
            · skip
              refine w_aload rfl rfl ?_
              refine w_getR (v := .inr (.inr (some 22))) rfl rfl rfl rfl rfl ?_
              refine w_iload rfl rfl ?_
              refine w_aload rfl rfl ?_
              refine w_getR (v := .inr (.inr (some 21))) rfl rfl rfl rfl rfl ?_
              refine w_iload rfl rfl ?_
              refine m_iald rfl rfl (by omega) (fun x15 ex15 => ?_)
              have qx15 : 0 ≤ x15.toInt ∧ x15.toInt ≤ 5 := by rw [ex15]; exact hR58 21 _
              refine m_iast rfl rfl (by omega) (fun a16 ea16 => ?_)
              have ha16 : RM K a16 := RM.up hR58 ea16 ⟨ti_lo _, ti_hi _⟩
              have ua16_36 : (a16 0 36).toInt = (a58 0 36).toInt := by rw [ea16, mU_cell (by decide)]
              have ua16_37 : (a16 0 37).toInt = (a58 0 37).toInt := by rw [ea16, mU_cell (by decide)]
              refine w_iinc (lo' := fun z9 => [some (.inr (.inr (some 0))), some (.inl k), some (.inl t), some (.inl dg), some (.inl x1), some (.inl z9)]) rfl rfl (fun _ => rfl) (by omega) (fun x17 tx17 => ?_)
              refine w_goto rfl ?_
              exact ih58 (6 - x17.toInt).toNat (by omega) x17 a16 rfl ha16 (FR.up (hF58) (by decide) ea16) (by omega) (⟨by rw [ea16, mU_cell (by decide)]; exact hS8.1, by rw [ea16, mU_cell (by decide)]; exact hS8.2⟩)
        exact loop58 _ 0 a13 rfl ha13 (FR.up (FR.up (FR.rf) (by decide) ea12) (by decide) ea13) (by omega) (⟨by rw [ea13, mU_cell (by decide), ea12, mU_cell (by decide)], by rw [ea13, mU_cell (by decide), ea12, mU_cell (by decide)]⟩)
      · skip
        refine w_iload rfl rfl ?_
        refine w_aload rfl rfl ?_
        refine w_getI (v := .inl (a 0 36)) rfl rfl rfl rfl rfl ?_
        refine w_ic_ne rfl (fun c18 => ?_) (fun c18 => ?_)
        · skip
          refine w_iload rfl rfl ?_
          refine w_aload rfl rfl ?_
          refine w_getI (v := .inl (a 0 37)) rfl rfl rfl rfl rfl ?_
          have q19 : -1 ≤ (a 0 37).toInt ∧ (a 0 37).toInt ≤ 5 := hR 0 37
          refine w_ic_ge rfl (fun c20 => ?_) (fun c20 => ?_)
          · skip
            exact w_ret rfl ⟨a, rfl, hR, ⟨FR.rf, fun m9 hm9 h7 => AC.same h7 (fun r9 _ => by rfl), ⟨fun _ => rfl, fun _ _ => rfl⟩⟩, rfl⟩
          · skip
            refine w_aload rfl rfl ?_
            refine w_iload rfl rfl ?_
            refine m_putI (z := false) rfl rfl rfl rfl (by first | (intro h9; cases h9; done) | (intro _; first | exact Or.inl rfl | exact Or.inr rfl | assumption)) (fun a21 ea21 => ?_)
            have ha21 : RM K a21 := RM.up hR ea21 ⟨ti_lo _, ti_hi _⟩
            have ua21_36 : a21 0 36 = dg := by rw [ea21, mU_same]
            have wa21_36 := congrArg Int32.toInt ua21_36
            have ua21_37 : (a21 0 37).toInt = (a 0 37).toInt := by rw [ea21, mU_slot (by decide)]
            refine w_aload rfl rfl ?_
            refine w_iload rfl rfl ?_
            refine m_putI (z := false) rfl rfl rfl rfl (by first | (intro h9; cases h9; done) | (intro _; first | exact Or.inl rfl | exact Or.inr rfl | assumption)) (fun a22 ea22 => ?_)
            have ha22 : RM K a22 := RM.up ha21 ea22 (show (-1 : Int) ≤ _ ∧ _ ≤ (5 : Int) from by omega)
            have ua22_36 : (a22 0 36).toInt = (a21 0 36).toInt := by rw [ea22, mU_slot (by decide)]
            have ua22_37 : a22 0 37 = k := by rw [ea22, mU_same]
            have wa22_37 := congrArg Int32.toInt ua22_37
            refine w_const rfl ?_
            refine w_istore (lo' := [some (.inr (.inr (some 0))), some (.inl k), some (.inl t), some (.inl dg), some (.inl x1), some (.inl 0)]) rfl rfl ?_
            have loop58 : ∀ (ms9 : Nat) (i : Int32) (a58 : Nat → Nat → Int32) , (6 - i.toInt).toNat = ms9 → RM K a58 → FR [0, 15, 17, 21, 22] a a58 → (0 ≤ i.toInt ∧ i.toInt ≤ 6) → (a58 15 = a 15 ∧ a58 21 = a 21) → f_wp (f_code (t_X13_goesOn (f_ev mtM d))) (58, [some (.inr (.inr (some 0))), some (.inl k), some (.inl t), some (.inl dg), some (.inl x1), some (.inl i)], [], mH a58 b) (fun v9 h' => ∃ (a' : Nat → Nat → Int32), h' = mH a' b ∧ RM K a' ∧ (FR [0, 15, 17, 21, 22] a a' ∧ (∀ m9, m9 < 22 → ACm m9 a → ACm m9 a') ∧ ((∀ j, a' 15 j = a 15 j) ∧ (∀ i, i ≤ k.toInt.toNat → a' 21 i = a 21 i))) ∧ v9 = none) := by
              intro ms9
              induction ms9 using Nat.strongRecOn with
              | _ ms58 ih58 =>
                intro i a58  hm58 hR58 hF58 hi hS8
                refine w_iload rfl rfl ?_
                refine w_iload rfl rfl ?_
                refine w_ic_gt rfl (fun c23 => ?_) (fun c23 => ?_)
                · skip
                  exact w_ret rfl ⟨a58, rfl, hR58, ⟨hF58, fun m9 hm9 h7 => AC.same h7 (fun r9 _ => by rw [hS8.1]), ⟨fun j => by rw [hS8.1], fun i _ => by rw [hS8.2]⟩⟩, rfl⟩
                · skip
                  refine w_aload rfl rfl ?_
                  refine w_getR (v := .inr (.inr (some 22))) rfl rfl rfl rfl rfl ?_
                  refine w_iload rfl rfl ?_
                  refine w_aload rfl rfl ?_
                  refine w_getR (v := .inr (.inr (some 21))) rfl rfl rfl rfl rfl ?_
                  refine w_iload rfl rfl ?_
                  refine m_iald rfl rfl (by omega) (fun x24 ex24 => ?_)
                  have qx24 : 0 ≤ x24.toInt ∧ x24.toInt ≤ 5 := by rw [ex24]; exact hR58 21 _
                  refine m_iast rfl rfl (by omega) (fun a25 ea25 => ?_)
                  have ha25 : RM K a25 := RM.up hR58 ea25 ⟨ti_lo _, ti_hi _⟩
                  have ua25_36 : (a25 0 36).toInt = (a58 0 36).toInt := by rw [ea25, mU_cell (by decide)]
                  have ua25_37 : (a25 0 37).toInt = (a58 0 37).toInt := by rw [ea25, mU_cell (by decide)]
                  refine w_iinc (lo' := fun z9 => [some (.inr (.inr (some 0))), some (.inl k), some (.inl t), some (.inl dg), some (.inl x1), some (.inl z9)]) rfl rfl (fun _ => rfl) (by omega) (fun x26 tx26 => ?_)
                  refine w_goto rfl ?_
                  exact ih58 (6 - x26.toInt).toNat (by omega) x26 a25 rfl ha25 (FR.up (hF58) (by decide) ea25) (by omega) (⟨by rw [ea25, mU_cell (by decide)]; exact hS8.1, by rw [ea25, mU_cell (by decide)]; exact hS8.2⟩)
            exact loop58 _ 0 a22 rfl ha22 (FR.up (FR.up (FR.rf) (by decide) ea21) (by decide) ea22) (by omega) (⟨by rw [ea22, mU_cell (by decide), ea21, mU_cell (by decide)], by rw [ea22, mU_cell (by decide), ea21, mU_cell (by decide)]⟩)
        · skip
          exact w_ret rfl ⟨a, rfl, hR, ⟨FR.rf, fun m9 hm9 h7 => AC.same h7 (fun r9 _ => by rfl), ⟨fun _ => rfl, fun _ _ => rfl⟩⟩, rfl⟩
  · skip
    refine w_const rfl ?_
    refine w_istore (lo' := [some (.inr (.inr (some 0))), some (.inl k), some (.inl t), some (.inl dg), some (.inl x1), some (.inl 0)]) rfl rfl ?_
    have loop88 : ∀ (ms9 : Nat) (h : Int32) (a88 : Nat → Nat → Int32) , (6 - h.toInt).toNat = ms9 → RM K a88 → FR [0, 15, 17, 21, 22] a a88 → (0 ≤ h.toInt ∧ h.toInt ≤ 6) → ((∀ j, a88 15 j = a 15 j) ∧ (∀ i, i ≤ k.toInt.toNat → a88 21 i = a 21 i)) → f_wp (f_code (t_X13_goesOn (f_ev mtM d))) (88, [some (.inr (.inr (some 0))), some (.inl k), some (.inl t), some (.inl dg), some (.inl x1), some (.inl h)], [], mH a88 b) (fun v9 h' => ∃ (a' : Nat → Nat → Int32), h' = mH a' b ∧ RM K a' ∧ (FR [0, 15, 17, 21, 22] a a' ∧ (∀ m9, m9 < 22 → ACm m9 a → ACm m9 a') ∧ ((∀ j, a' 15 j = a 15 j) ∧ (∀ i, i ≤ k.toInt.toNat → a' 21 i = a 21 i))) ∧ v9 = none) := by
      intro ms9
      induction ms9 using Nat.strongRecOn with
      | _ ms88 ih88 =>
        intro h a88  hm88 hR88 hF88 hh hS
        refine w_iload rfl rfl ?_
        refine w_aload rfl rfl ?_
        refine w_invV (rest := [.inl h]) rfl rfl rfl rfl rfl (Nat.le_of_ble_eq_true rfl) rfl (by omega) (s_rivers (K := K) a88 b   hR88 ) (fun v27 h9 hq28 => ?_)
        obtain ⟨rfl, x29, rfl, px29⟩ := hq28
        show f_wp _ (94, [some (.inr (.inr (some 0))), some (.inl k), some (.inl t), some (.inl dg), some (.inl x1), some (.inl h)], [.inl x29, .inl h], mH a88 b) _
        refine w_ic_ge rfl (fun c30 => ?_) (fun c30 => ?_)
        · skip
          exact w_ret rfl ⟨a88, rfl, hR88, ⟨hF88, fun m9 hm9 h7 => AC.same h7 (fun r9 _ => by rw [hS.1]), hS⟩, rfl⟩
        · skip
          refine w_aload rfl rfl ?_
          refine w_const rfl ?_
          refine w_iload rfl rfl ?_
          refine w_iload rfl rfl ?_
          refine w_invV (rest := []) rfl rfl rfl rfl rfl (Nat.le_of_ble_eq_true rfl) rfl (by omega) (s_mayWed (K := K) a88 b  1260 x1 h hR88 (by omega) (by omega) (by omega) (hA.same (fun r9 _ => by rw [hS.1]; first | done | rfl))) (fun v31 h9 hq32 => ?_)
          obtain ⟨a33, rfl, ha33, fa33, x34, rfl, px34⟩ := hq32
          show f_wp _ (108, [some (.inr (.inr (some 0))), some (.inl k), some (.inl t), some (.inl dg), some (.inl x1), some (.inl h)], [.inl x34], mH a33 b) _
          have pw := px34
          refine w_if_eq rfl (fun c35 => ?_) (fun c35 => ?_)
          · skip
            refine w_iinc (lo' := fun z9 => [some (.inr (.inr (some 0))), some (.inl k), some (.inl t), some (.inl dg), some (.inl x1), some (.inl z9)]) rfl rfl (fun _ => rfl) (by omega) (fun x36 tx36 => ?_)
            refine w_goto rfl ?_
            exact ih88 (6 - x36.toInt).toNat (by omega) x36 a33 rfl ha33 (FR.tr (hF88) (FR.sub fa33.1 (by decide))) (by omega) (⟨fun j => by rw [fa33.1 15 (by decide)]; exact hS.1 j, fun i hi => by rw [fa33.1 21 (by decide)]; exact hS.2 i hi⟩)
          · skip
            obtain ⟨-, m8, -, m7⟩ := pw.resolve_right (by omega)
            have m6 := RM.wed hR88 (j := 1260 + 1 + x1.toInt.toNat) (by omega)
            have m8 : (a88 15 (1260 + 1 + x1.toInt.toNat)).toInt < 0 := m8
            have m9 : (a88 15 (1260 + 1 + x1.toInt.toNat)).toInt = -1 := by omega
            refine w_aload rfl rfl ?_
            refine w_getR (v := .inr (.inr (some 15))) rfl rfl rfl rfl rfl ?_
            refine w_const rfl ?_
            refine w_iload rfl rfl ?_
            first | refine w_iadd rfl (by omega) (fun x37 tx37 => ?_) | refine w_iiU rfl (fun x37 tx37 => ?_)
            refine w_iload rfl rfl ?_
            refine m_iast rfl rfl (by omega) (fun a38 ea38 => ?_)
            have ha38 : RM K a38 := RM.up ha33 ea38 (st_wed (by omega) (by omega))
            have A9 : AC a38 1260 := AC.wed (a := a88) (w := x1.toInt.toNat) (h := h.toInt.toNat) (hA.same (fun r9 _ => by rw [hS.1])) (by omega) (by omega) (fun x9 _ => RM.wed hR88 (by omega)) m7 (by rw [show 1260 + 1 + x1.toInt.toNat = (x37).toInt.toNat from by omega, ea38, mU_same]; omega) (fun x9 h8 h9 => by rw [ea38, mU_slot (by omega), fa33.1 15 (by decide)])
            have N8 : CN a88 k.toInt.toNat := hCN.same hS.1 hS.2
            have q8 : (a88 21 k.toInt.toNat).toInt.toNat = x1.toInt.toNat := by rw [hS.2 _ (Nat.le_refl _), ← w9]
            have N9 : CN a38 k.toInt.toNat := CN.wed hR88 N8 (by rw [ea38, mU_cell (by decide), fa33.1 21 (by decide)]) (by rw [q8]; exact m8) (fun x9 h8 h9 => by rw [q8] at h9; rw [ea38, mU_slot (by omega), fa33.1 15 (by decide)])
            have q9 : (a38 21 k.toInt.toNat).toInt.toNat = x1.toInt.toNat := by rw [ea38, mU_cell (by decide), fa33.1 21 (by decide)]; exact q8
            have v9 : (a38 15 (1260 + 1 + (a38 21 k.toInt.toNat).toInt.toNat)).toInt = h.toInt := by rw [q9, show 1260 + 1 + x1.toInt.toNat = (x37).toInt.toNat from by omega, ea38, mU_same]
            have k6 := CN.room (h := h.toInt.toNat) ha38 A9 N9 (by omega) (by rw [v9]; omega)
            refine w_aload rfl rfl ?_
            refine w_getR (v := .inr (.inr (some 21))) rfl rfl rfl rfl rfl ?_
            refine w_iload rfl rfl ?_
            refine w_const rfl ?_
            first | refine w_iadd rfl (by omega) (fun x39 tx39 => ?_) | refine w_iiU rfl (fun x39 tx39 => ?_)
            refine w_iload rfl rfl ?_
            refine m_iast rfl rfl (by omega) (fun a40 ea40 => ?_)
            have ha40 : RM K a40 := RM.up ha38 ea40 (show (0 : Int) ≤ _ ∧ _ ≤ (5 : Int) from by omega)
            have N7 : CN a40 (k.toInt.toNat + 1) := CN.add N9 (by rw [ea40, show (x39).toInt.toNat = k.toInt.toNat + 1 from by omega]) v9
            have A8 : AC a40 1260 := A9.same (fun r9 _ => by rw [ea40, mU_cell (by decide)])
            refine w_aload rfl rfl ?_
            refine w_iload rfl rfl ?_
            refine w_const rfl ?_
            first | refine w_iadd rfl (by omega) (fun x41 tx41 => ?_) | refine w_iiU rfl (fun x41 tx41 => ?_)
            refine w_iload rfl rfl ?_
            refine w_iload rfl rfl ?_
            refine w_aload rfl rfl ?_
            refine w_iload rfl rfl ?_
            refine w_iload rfl rfl ?_
            refine w_invV (rest := [.inl dg, .inl t, .inl x41, .inr (.inr (some 0))]) rfl rfl rfl rfl rfl (Nat.le_of_ble_eq_true rfl) rfl (by omega) (s_digOf (K := K) a40 b  x1 h ha40 (by omega) (by omega)) (fun v42 h9 hq43 => ?_)
            obtain ⟨rfl, x44, rfl, px44⟩ := hq43
            show f_wp _ (148, [some (.inr (.inr (some 0))), some (.inl k), some (.inl t), some (.inl dg), some (.inl x1), some (.inl h)], [.inl x44, .inl dg, .inl t, .inl x41, .inr (.inr (some 0))], mH a40 b) _
            first | refine w_iadd rfl (by omega) (fun x45 tx45 => ?_) | refine w_iiU rfl (fun x45 tx45 => ?_)
            refine w_invV (rest := []) rfl rfl rfl rfl rfl (Nat.le_of_ble_eq_true rfl) rfl (by omega) (ih (6 - x41.toInt).toNat (by omega) a40 b x41 t x45 ha40 A8 (by omega) (by rw [show x41.toInt.toNat = k.toInt.toNat + 1 from by omega]; exact N7) rfl) (fun v46 h9 hq47 => ?_)
            obtain ⟨a48, rfl, ha48, fa48, rfl⟩ := hq47
            show f_wp _ (152, [some (.inr (.inr (some 0))), some (.inl k), some (.inl t), some (.inl dg), some (.inl x1), some (.inl h)], [], mH a48 b) _
            refine w_aload rfl rfl ?_
            refine w_getR (v := .inr (.inr (some 15))) rfl rfl rfl rfl rfl ?_
            refine w_const rfl ?_
            refine w_iload rfl rfl ?_
            first | refine w_iadd rfl (by omega) (fun x49 tx49 => ?_) | refine w_iiU rfl (fun x49 tx49 => ?_)
            refine w_const rfl ?_
            refine m_iast rfl rfl (by omega) (fun a50 ea50 => ?_)
            have ha50 : RM K a50 := RM.up ha48 ea50 (st_wed (by omega) (by omega))
            refine w_iinc (lo' := fun z9 => [some (.inr (.inr (some 0))), some (.inl k), some (.inl t), some (.inl dg), some (.inl x1), some (.inl z9)]) rfl rfl (fun _ => rfl) (by omega) (fun x51 tx51 => ?_)
            refine w_goto rfl ?_
            exact ih88 (6 - x51.toInt).toNat (by omega) x51 a50 rfl ha50 (FR.up (FR.tr (FR.up (FR.up (FR.tr (hF88) (FR.sub fa33.1 (by decide))) (by decide) ea38) (by decide) ea40) (FR.sub fa48.1 (by decide))) (by decide) ea50) (by omega) (⟨fun j => by rw [ea50, mU_get]; split; (rename_i h5; rw [← hS.1 j]; apply ti_eq; rw [h5.2, show (x49).toInt.toNat = 1260 + 1 + x1.toInt.toNat from by omega, m9]; rfl); (rename_i h5; rw [fa48.2.2.1 j, ea40, mU_cell (by decide), ea38, mU_slot (by omega), fa33.1 15 (by decide)]; exact hS.1 j), fun i hi => by rw [ea50, mU_cell (by decide), fa48.2.2.2 i (by omega), ea40, mU_slot (by omega), ea38, mU_cell (by decide), fa33.1 21 (by decide)]; exact hS.2 i hi⟩)
    exact loop88 _ 0 a rfl hR (FR.rf) (by omega) (⟨fun _ => rfl, fun _ _ => rfl⟩)
theorem s_goesOn {K : Nat} (a : Nat → Nat → Int32) (b : Nat → Nat → Int64) (k t dg : Int32) (hR : RM K a) (hA : AC a 1260) (hk : 0 ≤ k.toInt) (hCN : CN a k.toInt.toNat) : f_call mtM 11 91 [.inr (.inr (some 0)), .inl k, .inl t, .inl dg] (mH a b) (fun v9 h' => ∃ (a' : Nat → Nat → Int32), h' = mH a' b ∧ RM K a' ∧ (FR [0, 15, 17, 21, 22] a a' ∧ (∀ m9, m9 < 22 → ACm m9 a → ACm m9 a') ∧ ((∀ j, a' 15 j = a 15 j) ∧ (∀ i, i ≤ k.toInt.toNat → a' 21 i = a 21 i))) ∧ v9 = none) := by
  have h := s_goesOn_n (K := K) _ a b k t dg hR hA hk hCN rfl
  exact fun d hd => h d (by omega)
set_option maxRecDepth 4000 in
theorem s_chain {K : Nat} (a : Nat → Nat → Int32) (b : Nat → Nat → Int64) (r : Int32) (s : Int32) (w : Int32) (hR : RM K a)  : f_call mtM 12 92 [.inr (.inr (some 0)), .inl r, .inl s, .inl w] (mH a b) (fun v9 h' => ∃ (a' : Nat → Nat → Int32), h' = mH a' b ∧ RM K a' ∧ (FR [0, 15, 17, 21, 22] a a' ∧ (∀ m9, m9 < 22 → ACm m9 a → ACm m9 a') ∧ True) ∧ ∃ x : Int32, v9 = some (.inl x) ∧ True) := by
  refine f_call_of (d0 := 11) rfl (Nat.le_of_ble_eq_true rfl) (fun d hd => ?_)
  show f_wp _ (0, [some (.inr (.inr (some 0))), some (.inl r), some (.inl s), some (.inl w)], [], mH a b) _
  have lm1 : (-1 : Int32).toInt = -1 := rfl
  have l0 : (0 : Int32).toInt = 0 := rfl
  have l1 : (1 : Int32).toInt = 1 := rfl
  have l2 : (2 : Int32).toInt = 2 := rfl
  have l1260 : (1260 : Int32).toInt = 1260 := rfl
  refine w_aload rfl rfl ?_
  refine w_const rfl ?_
  refine m_putI (z := false) rfl rfl rfl rfl (by first | (intro h9; cases h9; done) | (intro _; first | exact Or.inl rfl | exact Or.inr rfl | assumption)) (fun a1 ea1 => ?_)
  have ha1 : RM K a1 := RM.up hR ea1 ⟨ti_lo _, ti_hi _⟩
  have ua1_0 : a1 0 0 = (0 : Int32) := by rw [ea1, mU_same]
  have wa1_0 := congrArg Int32.toInt ua1_0
  refine w_aload rfl rfl ?_
  refine w_iload rfl rfl ?_
  refine w_invV (rest := []) rfl rfl rfl rfl rfl (Nat.le_of_ble_eq_true rfl) rfl (by omega) (s_isRiver (K := K) a1 b  r ha1 ) (fun v2 h9 hq3 => ?_)
  obtain ⟨rfl, x4, rfl, px4⟩ := hq3
  show f_wp _ (10, [some (.inr (.inr (some 0))), some (.inl r), some (.inl s), some (.inl w)], [.inl x4], mH a1 b) _
  refine w_if_eq rfl (fun c5 => ?_) (fun c5 => ?_)
  · skip
    refine w_const rfl ?_
    exact wp_iret (z := false) rfl (fun h9 => by cases h9) ⟨a1, rfl, ha1, ⟨FR.up (FR.rf) (by decide) ea1, fun (m9 : Nat) (l9 : m9 < 22) (h7 : ACm m9 a) => ACm.up ((fun (m9 : Nat) (l9 : m9 < 22) (h7 : ACm m9 a) => h7) m9 l9 h7) ea1 (by decide), trivial⟩, ⟨_, rfl, trivial⟩⟩
  · skip
    refine w_aload rfl rfl ?_
    refine w_iload rfl rfl ?_
    refine w_invV (rest := []) rfl rfl rfl rfl rfl (Nat.le_of_ble_eq_true rfl) rfl (by omega) (s_isRiver (K := K) a1 b  s ha1 ) (fun v6 h9 hq7 => ?_)
    obtain ⟨rfl, x8, rfl, px8⟩ := hq7
    show f_wp _ (18, [some (.inr (.inr (some 0))), some (.inl r), some (.inl s), some (.inl w)], [.inl x8], mH a1 b) _
    refine w_if_eq rfl (fun c9 => ?_) (fun c9 => ?_)
    · skip
      refine w_const rfl ?_
      exact wp_iret (z := false) rfl (fun h9 => by cases h9) ⟨a1, rfl, ha1, ⟨FR.up (FR.rf) (by decide) ea1, fun (m9 : Nat) (l9 : m9 < 22) (h7 : ACm m9 a) => ACm.up ((fun (m9 : Nat) (l9 : m9 < 22) (h7 : ACm m9 a) => h7) m9 l9 h7) ea1 (by decide), trivial⟩, ⟨_, rfl, trivial⟩⟩
    · skip
      refine w_iload rfl rfl ?_
      refine w_iload rfl rfl ?_
      refine w_ic_eq rfl (fun c10 => ?_) (fun c10 => ?_)
      · skip
        refine w_const rfl ?_
        exact wp_iret (z := false) rfl (fun h9 => by cases h9) ⟨a1, rfl, ha1, ⟨FR.up (FR.rf) (by decide) ea1, fun (m9 : Nat) (l9 : m9 < 22) (h7 : ACm m9 a) => ACm.up ((fun (m9 : Nat) (l9 : m9 < 22) (h7 : ACm m9 a) => h7) m9 l9 h7) ea1 (by decide), trivial⟩, ⟨_, rfl, trivial⟩⟩
      · skip
        refine w_iload rfl rfl ?_
        refine w_if_ge rfl (fun c11 => ?_) (fun c11 => ?_)
        · skip
          refine w_aload rfl rfl ?_
          refine w_const rfl ?_
          refine w_invV (rest := []) rfl rfl rfl rfl rfl (Nat.le_of_ble_eq_true rfl) rfl (by omega) (s_starts (K := K) a1 b  1260 ha1 (by omega)) (fun v12 h9 hq13 => ?_)
          obtain ⟨a14, rfl, ha14, fa14, rfl⟩ := hq13
          show f_wp _ (39, [some (.inr (.inr (some 0))), some (.inl r), some (.inl s), some (.inl w)], [], mH a14 b) _
          refine w_aload rfl rfl ?_
          refine w_const rfl ?_
          refine m_putI (z := false) rfl rfl rfl rfl (by first | (intro h9; cases h9; done) | (intro _; first | exact Or.inl rfl | exact Or.inr rfl | assumption)) (fun a15 ea15 => ?_)
          have ha15 : RM K a15 := RM.up ha14 ea15 (show (-1 : Int) ≤ _ ∧ _ ≤ (5 : Int) from by omega)
          have ua15_37 : a15 0 37 = ((-1) : Int32) := by rw [ea15, mU_same]
          have wa15_37 := congrArg Int32.toInt ua15_37
          refine w_aload rfl rfl ?_
          refine w_getR (v := .inr (.inr (some 21))) rfl rfl rfl rfl rfl ?_
          refine w_const rfl ?_
          refine w_iload rfl rfl ?_
          refine m_iast rfl rfl (by omega) (fun a16 ea16 => ?_)
          have ha16 : RM K a16 := RM.up ha15 ea16 (show (0 : Int) ≤ _ ∧ _ ≤ (5 : Int) from by omega)
          have f9 := fa14
          refine w_aload rfl rfl ?_
          refine w_const rfl ?_
          refine w_iload rfl rfl ?_
          refine w_const rfl ?_
          refine w_invV (rest := []) rfl rfl rfl rfl rfl (Nat.le_of_ble_eq_true rfl) rfl (by omega) (s_goesOn (K := K) a16 b  0 s 0 ha16 ((AC.start (fun r9 h8 => f9.2.2.2 r9 h8)).same (fun r9 _ => by rw [ea16, mU_cell (by decide), ea15, mU_cell (by decide)]; first | done | rfl)) (by omega) (fun i hi => absurd hi (by omega))) (fun v17 h9 hq18 => ?_)
          obtain ⟨a19, rfl, ha19, fa19, rfl⟩ := hq18
          show f_wp _ (58, [some (.inr (.inr (some 0))), some (.inl r), some (.inl s), some (.inl w)], [], mH a19 b) _
          refine w_aload rfl rfl ?_
          refine w_getI (v := .inl (a19 0 37)) rfl rfl rfl rfl rfl ?_
          have q20 : -1 ≤ (a19 0 37).toInt ∧ (a19 0 37).toInt ≤ 5 := ha19 0 37
          refine w_if_lt rfl (fun c21 => ?_) (fun c21 => ?_)
          · skip
            refine w_const rfl ?_
            exact wp_iret (z := false) rfl (fun h9 => by cases h9) ⟨a19, rfl, ha19, ⟨FR.tr (FR.up (FR.up (FR.tr (FR.up (FR.rf) (by decide) ea1) (FR.sub fa14.1 (by decide))) (by decide) ea15) (by decide) ea16) (FR.sub fa19.1 (by decide)), fun (m9 : Nat) (l9 : m9 < 22) (h7 : ACm m9 a) => fa19.2.1 m9 (by omega) ((fun (m9 : Nat) (l9 : m9 < 22) (h7 : ACm m9 a) => ACm.up ((fun (m9 : Nat) (l9 : m9 < 22) (h7 : ACm m9 a) => ACm.up ((fun (m9 : Nat) (l9 : m9 < 22) (h7 : ACm m9 a) => fa14.2.1 m9 (by omega) ((fun (m9 : Nat) (l9 : m9 < 22) (h7 : ACm m9 a) => ACm.up ((fun (m9 : Nat) (l9 : m9 < 22) (h7 : ACm m9 a) => h7) m9 l9 h7) ea1 (by decide)) m9 l9 h7)) m9 l9 h7) ea15 (by decide)) m9 l9 h7) ea16 (by decide)) m9 l9 h7), trivial⟩, ⟨_, rfl, trivial⟩⟩
          · skip
            refine w_iload rfl rfl ?_
            refine w_const rfl ?_
            refine w_aload rfl rfl ?_
            refine w_getI (v := .inl (a19 0 37)) rfl rfl rfl rfl rfl ?_
            have q22 : -1 ≤ (a19 0 37).toInt ∧ (a19 0 37).toInt ≤ 5 := ha19 0 37
            first | refine w_iadd rfl (by omega) (fun x23 tx23 => ?_) | refine w_iiU rfl (fun x23 tx23 => ?_)
            refine w_ic_le rfl (fun c24 => ?_) (fun c24 => ?_)
            · skip
              refine w_iload rfl rfl ?_
              refine w_if_ne rfl (fun c25 => ?_) (fun c25 => ?_)
              · skip
                refine w_aload rfl rfl ?_
                refine w_getI (v := .inl (a19 0 36)) rfl rfl rfl rfl rfl ?_
                refine w_goto rfl ?_
                exact wp_iret (z := false) rfl (fun h9 => by cases h9) ⟨a19, rfl, ha19, ⟨FR.tr (FR.up (FR.up (FR.tr (FR.up (FR.rf) (by decide) ea1) (FR.sub fa14.1 (by decide))) (by decide) ea15) (by decide) ea16) (FR.sub fa19.1 (by decide)), fun (m9 : Nat) (l9 : m9 < 22) (h7 : ACm m9 a) => fa19.2.1 m9 (by omega) ((fun (m9 : Nat) (l9 : m9 < 22) (h7 : ACm m9 a) => ACm.up ((fun (m9 : Nat) (l9 : m9 < 22) (h7 : ACm m9 a) => ACm.up ((fun (m9 : Nat) (l9 : m9 < 22) (h7 : ACm m9 a) => fa14.2.1 m9 (by omega) ((fun (m9 : Nat) (l9 : m9 < 22) (h7 : ACm m9 a) => ACm.up ((fun (m9 : Nat) (l9 : m9 < 22) (h7 : ACm m9 a) => h7) m9 l9 h7) ea1 (by decide)) m9 l9 h7)) m9 l9 h7) ea15 (by decide)) m9 l9 h7) ea16 (by decide)) m9 l9 h7), trivial⟩, ⟨_, rfl, trivial⟩⟩
              · skip
                refine w_iload rfl rfl ?_
                refine w_const rfl ?_
                refine w_ic_ne rfl (fun c26 => ?_) (fun c26 => ?_)
                · skip
                  refine w_aload rfl rfl ?_
                  refine w_getI (v := .inl (a19 0 37)) rfl rfl rfl rfl rfl ?_
                  have q27 : -1 ≤ (a19 0 37).toInt ∧ (a19 0 37).toInt ≤ 5 := ha19 0 37
                  refine w_goto rfl ?_
                  exact wp_iret (z := false) rfl (fun h9 => by cases h9) ⟨a19, rfl, ha19, ⟨FR.tr (FR.up (FR.up (FR.tr (FR.up (FR.rf) (by decide) ea1) (FR.sub fa14.1 (by decide))) (by decide) ea15) (by decide) ea16) (FR.sub fa19.1 (by decide)), fun (m9 : Nat) (l9 : m9 < 22) (h7 : ACm m9 a) => fa19.2.1 m9 (by omega) ((fun (m9 : Nat) (l9 : m9 < 22) (h7 : ACm m9 a) => ACm.up ((fun (m9 : Nat) (l9 : m9 < 22) (h7 : ACm m9 a) => ACm.up ((fun (m9 : Nat) (l9 : m9 < 22) (h7 : ACm m9 a) => fa14.2.1 m9 (by omega) ((fun (m9 : Nat) (l9 : m9 < 22) (h7 : ACm m9 a) => ACm.up ((fun (m9 : Nat) (l9 : m9 < 22) (h7 : ACm m9 a) => h7) m9 l9 h7) ea1 (by decide)) m9 l9 h7)) m9 l9 h7) ea15 (by decide)) m9 l9 h7) ea16 (by decide)) m9 l9 h7), trivial⟩, ⟨_, rfl, trivial⟩⟩
                · skip
                  refine w_aload rfl rfl ?_
                  refine w_getR (v := .inr (.inr (some 22))) rfl rfl rfl rfl rfl ?_
                  refine w_iload rfl rfl ?_
                  refine w_const rfl ?_
                  first | refine w_isub rfl (by omega) (fun x28 tx28 => ?_) | refine w_iiU rfl (fun x28 tx28 => ?_)
                  refine m_iald rfl rfl (by omega) (fun x29 ex29 => ?_)
                  exact wp_iret (z := false) rfl (fun h9 => by cases h9) ⟨a19, rfl, ha19, ⟨FR.tr (FR.up (FR.up (FR.tr (FR.up (FR.rf) (by decide) ea1) (FR.sub fa14.1 (by decide))) (by decide) ea15) (by decide) ea16) (FR.sub fa19.1 (by decide)), fun (m9 : Nat) (l9 : m9 < 22) (h7 : ACm m9 a) => fa19.2.1 m9 (by omega) ((fun (m9 : Nat) (l9 : m9 < 22) (h7 : ACm m9 a) => ACm.up ((fun (m9 : Nat) (l9 : m9 < 22) (h7 : ACm m9 a) => ACm.up ((fun (m9 : Nat) (l9 : m9 < 22) (h7 : ACm m9 a) => fa14.2.1 m9 (by omega) ((fun (m9 : Nat) (l9 : m9 < 22) (h7 : ACm m9 a) => ACm.up ((fun (m9 : Nat) (l9 : m9 < 22) (h7 : ACm m9 a) => h7) m9 l9 h7) ea1 (by decide)) m9 l9 h7)) m9 l9 h7) ea15 (by decide)) m9 l9 h7) ea16 (by decide)) m9 l9 h7), trivial⟩, ⟨_, rfl, trivial⟩⟩
            · skip
              refine w_const rfl ?_
              exact wp_iret (z := false) rfl (fun h9 => by cases h9) ⟨a19, rfl, ha19, ⟨FR.tr (FR.up (FR.up (FR.tr (FR.up (FR.rf) (by decide) ea1) (FR.sub fa14.1 (by decide))) (by decide) ea15) (by decide) ea16) (FR.sub fa19.1 (by decide)), fun (m9 : Nat) (l9 : m9 < 22) (h7 : ACm m9 a) => fa19.2.1 m9 (by omega) ((fun (m9 : Nat) (l9 : m9 < 22) (h7 : ACm m9 a) => ACm.up ((fun (m9 : Nat) (l9 : m9 < 22) (h7 : ACm m9 a) => ACm.up ((fun (m9 : Nat) (l9 : m9 < 22) (h7 : ACm m9 a) => fa14.2.1 m9 (by omega) ((fun (m9 : Nat) (l9 : m9 < 22) (h7 : ACm m9 a) => ACm.up ((fun (m9 : Nat) (l9 : m9 < 22) (h7 : ACm m9 a) => h7) m9 l9 h7) ea1 (by decide)) m9 l9 h7)) m9 l9 h7) ea15 (by decide)) m9 l9 h7) ea16 (by decide)) m9 l9 h7), trivial⟩, ⟨_, rfl, trivial⟩⟩
        · skip
          refine w_const rfl ?_
          exact wp_iret (z := false) rfl (fun h9 => by cases h9) ⟨a1, rfl, ha1, ⟨FR.up (FR.rf) (by decide) ea1, fun (m9 : Nat) (l9 : m9 < 22) (h7 : ACm m9 a) => ACm.up ((fun (m9 : Nat) (l9 : m9 < 22) (h7 : ACm m9 a) => h7) m9 l9 h7) ea1 (by decide), trivial⟩, ⟨_, rfl, trivial⟩⟩
