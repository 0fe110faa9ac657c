set_option maxRecDepth 4000 in
theorem s_seeks {K : Nat} (a : Nat → Nat → Int32) (b : Nat → Nat → Int64) (w : Int32) (hR : RM K a)  : f_call mtM 22 89 [.inr (.inr (some 0)), .inl w] (mH a b) (fun v9 h' => ∃ (a' : Nat → Nat → Int32), h' = mH a' b ∧ RM K a' ∧ (FR [0, 15, 17, 18, 19, 20] a a' ∧ (∀ m9, m9 < 22 → ACm m9 a → ACm m9 a') ∧ True) ∧ v9 = none) := by
  refine f_call_of (d0 := 21) rfl (Nat.le_of_ble_eq_true rfl) (fun d hd => ?_)
  show f_wp _ (0, [some (.inr (.inr (some 0))), some (.inl w)], [], mH a b) _
  have l0 : (0 : Int32).toInt = 0 := rfl
  have l1260 : (1260 : Int32).toInt = 1260 := rfl
  refine w_aload rfl rfl ?_
  refine w_iload rfl rfl ?_
  refine m_putI (z := false) rfl rfl rfl rfl (by first | (intro h9; cases h9; done) | (intro _; first | exact Or.inl rfl | exact Or.inr rfl | assumption)) (fun a1 ea1 => ?_)
  have ha1 : RM K a1 := RM.up hR ea1 ⟨ti_lo _, ti_hi _⟩
  have ua1_27 : a1 0 27 = w := by rw [ea1, mU_same]
  have wa1_27 := congrArg Int32.toInt ua1_27
  refine w_aload rfl rfl ?_
  refine w_const rfl ?_
  refine m_putI (z := false) rfl rfl rfl rfl (by first | (intro h9; cases h9; done) | (intro _; first | exact Or.inl rfl | exact Or.inr rfl | assumption)) (fun a2 ea2 => ?_)
  have ha2 : RM K a2 := RM.up ha1 ea2 ⟨ti_lo _, ti_hi _⟩
  have ua2_28 : a2 0 28 = (0 : Int32) := by rw [ea2, mU_same]
  have wa2_28 := congrArg Int32.toInt ua2_28
  refine w_aload rfl rfl ?_
  refine w_const rfl ?_
  refine w_invV (rest := []) rfl rfl rfl rfl rfl (Nat.le_of_ble_eq_true rfl) rfl (by omega) (s_starts (K := K) a2 b  1260 ha2 (by omega)) (fun v3 h9 hq4 => ?_)
  obtain ⟨a5, rfl, ha5, fa5, rfl⟩ := hq4
  show f_wp _ (17, [some (.inr (.inr (some 0))), some (.inl w)], [], mH a5 b) _
  refine w_aload rfl rfl ?_
  refine w_const rfl ?_
  refine w_invV (rest := []) rfl rfl rfl rfl rfl (Nat.le_of_ble_eq_true rfl) rfl (by omega) (s_goesThrough (K := K) a5 b  0 ha5 (AC.start (fun r9 h8 => fa5.2.2.2 r9 h8)) (by have z8 := RM.la0 ha5; omega)) (fun v6 h9 hq7 => ?_)
  obtain ⟨a8, rfl, ha8, fa8, rfl⟩ := hq7
  show f_wp _ (22, [some (.inr (.inr (some 0))), some (.inl w)], [], mH a8 b) _
  exact w_ret rfl ⟨a8, rfl, ha8, ⟨FR.tr (FR.tr (FR.up (FR.up (FR.rf) (by decide) ea1) (by decide) ea2) (FR.sub fa5.1 (by decide))) (FR.sub fa8.1 (by decide)), fun (m9 : Nat) (l9 : m9 < 22) (h7 : ACm m9 a) => fa8.2.1 m9 (by omega) ((fun (m9 : Nat) (l9 : m9 < 22) (h7 : ACm m9 a) => fa5.2.1 m9 (by omega) ((fun (m9 : Nat) (l9 : m9 < 22) (h7 : ACm m9 a) => ACm.up ((fun (m9 : Nat) (l9 : m9 < 22) (h7 : ACm m9 a) => ACm.up ((fun (m9 : Nat) (l9 : m9 < 22) (h7 : ACm m9 a) => h7) m9 l9 h7) ea1 (by decide)) m9 l9 h7) ea2 (by decide)) m9 l9 h7)) m9 l9 h7), trivial⟩, rfl⟩
set_option maxRecDepth 4000 in
theorem s_match {K : Nat} (a : Nat → Nat → Int32) (b : Nat → Nat → Int64) (w : Int32) (hR : RM K a)  : f_call mtM 23 90 [.inr (.inr (some 0)), .inl w] (mH a b) (fun v9 h' => ∃ (a' : Nat → Nat → Int32), h' = mH a' b ∧ RM K a' ∧ (FR [0, 15, 17, 18, 19, 20] a a' ∧ (∀ m9, m9 < 22 → ACm m9 a → ACm m9 a') ∧ True) ∧ ∃ x : Int32, v9 = some (.inl x) ∧ True) := by
  refine f_call_of (d0 := 22) rfl (Nat.le_of_ble_eq_true rfl) (fun d hd => ?_)
  show f_wp _ (0, [some (.inr (.inr (some 0))), some (.inl w)], [], mH a b) _
  have lm2 : (-2 : Int32).toInt = -2 := rfl
  have l0 : (0 : Int32).toInt = 0 := rfl
  have l1 : (1 : Int32).toInt = 1 := rfl
  have l2 : (2 : Int32).toInt = 2 := rfl
  have l3 : (3 : Int32).toInt = 3 := rfl
  refine w_aload rfl rfl ?_
  refine w_const rfl ?_
  refine m_putI (z := false) rfl rfl rfl rfl (by first | (intro h9; cases h9; done) | (intro _; first | exact Or.inl rfl | exact Or.inr rfl | assumption)) (fun a1 ea1 => ?_)
  have ha1 : RM K a1 := RM.up hR ea1 ⟨ti_lo _, ti_hi _⟩
  have ua1_0 : a1 0 0 = (0 : Int32) := by rw [ea1, mU_same]
  have wa1_0 := congrArg Int32.toInt ua1_0
  refine w_iload rfl rfl ?_
  refine w_const rfl ?_
  refine w_const rfl ?_
  refine w_aload rfl rfl ?_
  refine w_invV (rest := [.inl 2, .inl 0, .inl w]) rfl rfl rfl rfl rfl (Nat.le_of_ble_eq_true rfl) rfl (by omega) (s_rivers (K := K) a1 b   ha1 ) (fun v2 h9 hq3 => ?_)
  obtain ⟨rfl, x4, rfl, px4⟩ := hq3
  show f_wp _ (12, [some (.inr (.inr (some 0))), some (.inl w)], [.inl x4, .inl 2, .inl 0, .inl w], mH a1 b) _
  first | refine w_iadd rfl (by omega) (fun x5 tx5 => ?_) | refine w_iiU rfl (fun x5 tx5 => ?_)
  refine w_invS (rest := []) rfl (Nat.le_of_ble_eq_true rfl) rfl (Nat.le_of_ble_eq_true rfl) rfl (by omega) (s_within (K := K) a1 b  w 0 x5  ) (fun v6 h9 hq7 => ?_)
  obtain ⟨rfl, x8, rfl, px8⟩ := hq7
  show f_wp _ (16, [some (.inr (.inr (some 0))), some (.inl w)], [.inl x8], mH a1 b) _
  refine w_if_ne rfl (fun c9 => ?_) (fun c9 => ?_)
  · skip
    refine w_const rfl ?_
    exact wp_iret (z := false) rfl (fun h9 => by cases h9) ⟨a1, rfl, ha1, ⟨FR.up (FR.rf) (by decide) ea1, fun (m9 : Nat) (l9 : m9 < 22) (h7 : ACm m9 a) => ACm.up ((fun (m9 : Nat) (l9 : m9 < 22) (h7 : ACm m9 a) => h7) m9 l9 h7) ea1 (by decide), trivial⟩, ⟨_, rfl, trivial⟩⟩
  · skip
    refine w_aload rfl rfl ?_
    refine w_const rfl ?_
    refine w_invV (rest := []) rfl rfl rfl rfl rfl (Nat.le_of_ble_eq_true rfl) rfl (by omega) (s_seeks (K := K) a1 b  0 ha1 ) (fun v10 h9 hq11 => ?_)
    obtain ⟨a12, rfl, ha12, fa12, rfl⟩ := hq11
    show f_wp _ (27, [some (.inr (.inr (some 0))), some (.inl w)], [], mH a12 b) _
    refine w_aload rfl rfl ?_
    refine w_getI (v := .inl (a12 0 28)) rfl rfl rfl rfl rfl ?_
    refine w_if_ne rfl (fun c13 => ?_) (fun c13 => ?_)
    · skip
      refine w_const rfl ?_
      exact wp_iret (z := false) rfl (fun h9 => by cases h9) ⟨a12, rfl, ha12, ⟨FR.tr (FR.up (FR.rf) (by decide) ea1) (FR.sub fa12.1 (by decide)), fun (m9 : Nat) (l9 : m9 < 22) (h7 : ACm m9 a) => fa12.2.1 m9 (by omega) ((fun (m9 : Nat) (l9 : m9 < 22) (h7 : ACm m9 a) => ACm.up ((fun (m9 : Nat) (l9 : m9 < 22) (h7 : ACm m9 a) => h7) m9 l9 h7) ea1 (by decide)) m9 l9 h7), trivial⟩, ⟨_, rfl, trivial⟩⟩
    · skip
      refine w_iload rfl rfl ?_
      refine w_if_ne rfl (fun c14 => ?_) (fun c14 => ?_)
      · skip
        refine w_aload rfl rfl ?_
        refine w_getI (v := .inl (a12 0 29)) rfl rfl rfl rfl rfl ?_
        refine w_goto rfl ?_
        exact wp_iret (z := false) rfl (fun h9 => by cases h9) ⟨a12, rfl, ha12, ⟨FR.tr (FR.up (FR.rf) (by decide) ea1) (FR.sub fa12.1 (by decide)), fun (m9 : Nat) (l9 : m9 < 22) (h7 : ACm m9 a) => fa12.2.1 m9 (by omega) ((fun (m9 : Nat) (l9 : m9 < 22) (h7 : ACm m9 a) => ACm.up ((fun (m9 : Nat) (l9 : m9 < 22) (h7 : ACm m9 a) => h7) m9 l9 h7) ea1 (by decide)) m9 l9 h7), trivial⟩, ⟨_, rfl, trivial⟩⟩
      · skip
        refine w_iload rfl rfl ?_
        refine w_const rfl ?_
        refine w_ic_ne rfl (fun c15 => ?_) (fun c15 => ?_)
        · skip
          refine w_aload rfl rfl ?_
          refine w_getI (v := .inl (a12 0 30)) rfl rfl rfl rfl rfl ?_
          refine w_goto rfl ?_
          exact wp_iret (z := false) rfl (fun h9 => by cases h9) ⟨a12, rfl, ha12, ⟨FR.tr (FR.up (FR.rf) (by decide) ea1) (FR.sub fa12.1 (by decide)), fun (m9 : Nat) (l9 : m9 < 22) (h7 : ACm m9 a) => fa12.2.1 m9 (by omega) ((fun (m9 : Nat) (l9 : m9 < 22) (h7 : ACm m9 a) => ACm.up ((fun (m9 : Nat) (l9 : m9 < 22) (h7 : ACm m9 a) => h7) m9 l9 h7) ea1 (by decide)) m9 l9 h7), trivial⟩, ⟨_, rfl, trivial⟩⟩
        · skip
          refine w_iload rfl rfl ?_
          refine w_const rfl ?_
          refine w_ic_ne rfl (fun c16 => ?_) (fun c16 => ?_)
          · skip
            refine w_aload rfl rfl ?_
            refine w_getI (v := .inl (a12 0 28)) rfl rfl rfl rfl rfl ?_
            refine w_goto rfl ?_
            exact wp_iret (z := false) rfl (fun h9 => by cases h9) ⟨a12, rfl, ha12, ⟨FR.tr (FR.up (FR.rf) (by decide) ea1) (FR.sub fa12.1 (by decide)), fun (m9 : Nat) (l9 : m9 < 22) (h7 : ACm m9 a) => fa12.2.1 m9 (by omega) ((fun (m9 : Nat) (l9 : m9 < 22) (h7 : ACm m9 a) => ACm.up ((fun (m9 : Nat) (l9 : m9 < 22) (h7 : ACm m9 a) => h7) m9 l9 h7) ea1 (by decide)) m9 l9 h7), trivial⟩, ⟨_, rfl, trivial⟩⟩
          · skip
            refine w_aload rfl rfl ?_
            refine w_getR (v := .inr (.inr (some 18))) rfl rfl rfl rfl rfl ?_
            refine w_iload rfl rfl ?_
            refine w_const rfl ?_
            first | refine w_isub rfl (by omega) (fun x17 tx17 => ?_) | refine w_iiU rfl (fun x17 tx17 => ?_)
            refine m_iald rfl rfl (by omega) (fun x18 ex18 => ?_)
            exact wp_iret (z := false) rfl (fun h9 => by cases h9) ⟨a12, rfl, ha12, ⟨FR.tr (FR.up (FR.rf) (by decide) ea1) (FR.sub fa12.1 (by decide)), fun (m9 : Nat) (l9 : m9 < 22) (h7 : ACm m9 a) => fa12.2.1 m9 (by omega) ((fun (m9 : Nat) (l9 : m9 < 22) (h7 : ACm m9 a) => ACm.up ((fun (m9 : Nat) (l9 : m9 < 22) (h7 : ACm m9 a) => h7) m9 l9 h7) ea1 (by decide)) m9 l9 h7), trivial⟩, ⟨_, rfl, trivial⟩⟩
set_option maxRecDepth 4000 in
theorem s_found {K : Nat} (a : Nat → Nat → Int32) (b : Nat → Nat → Int64) (w : Int32) (hR : RM K a)  : f_call mtM 23 105 [.inr (.inr (some 0)), .inl w] (mH a b) (fun v9 h' => ∃ (a' : Nat → Nat → Int32), h' = mH a' b ∧ RM K a' ∧ (FR [0, 15, 17, 18, 19, 20] a a' ∧ (∀ m9, m9 < 22 → ACm m9 a → ACm m9 a') ∧ True) ∧ ∃ x : Int32, v9 = some (.inl x) ∧ True) := by
  refine f_call_of (d0 := 22) rfl (Nat.le_of_ble_eq_true rfl) (fun d hd => ?_)
  show f_wp _ (0, [some (.inr (.inr (some 0))), some (.inl w), none], [], mH a b) _
  have lm3 : (-3 : Int32).toInt = -3 := rfl
  have l0 : (0 : Int32).toInt = 0 := rfl
  have l1 : (1 : Int32).toInt = 1 := rfl
  have l2 : (2 : Int32).toInt = 2 := rfl
  have l14400 : (14400 : Int32).toInt = 14400 := rfl
  refine w_aload rfl rfl ?_
  refine w_const rfl ?_
  refine m_putI (z := false) rfl rfl rfl rfl (by first | (intro h9; cases h9; done) | (intro _; first | exact Or.inl rfl | exact Or.inr rfl | assumption)) (fun a1 ea1 => ?_)
  have ha1 : RM K a1 := RM.up hR ea1 ⟨ti_lo _, ti_hi _⟩
  have ua1_0 : a1 0 0 = (0 : Int32) := by rw [ea1, mU_same]
  have wa1_0 := congrArg Int32.toInt ua1_0
  refine w_iload rfl rfl ?_
  refine w_const rfl ?_
  refine w_const rfl ?_
  refine w_aload rfl rfl ?_
  refine w_invV (rest := [.inl 1, .inl 0, .inl w]) rfl rfl rfl rfl rfl (Nat.le_of_ble_eq_true rfl) rfl (by omega) (s_rivers (K := K) a1 b   ha1 ) (fun v2 h9 hq3 => ?_)
  obtain ⟨rfl, x4, rfl, px4⟩ := hq3
  show f_wp _ (12, [some (.inr (.inr (some 0))), some (.inl w), none], [.inl x4, .inl 1, .inl 0, .inl w], mH a1 b) _
  first | refine w_iadd rfl (by omega) (fun x5 tx5 => ?_) | refine w_iiU rfl (fun x5 tx5 => ?_)
  refine w_invS (rest := []) rfl (Nat.le_of_ble_eq_true rfl) rfl (Nat.le_of_ble_eq_true rfl) rfl (by omega) (s_within (K := K) a1 b  w 0 x5  ) (fun v6 h9 hq7 => ?_)
  obtain ⟨rfl, x8, rfl, px8⟩ := hq7
  show f_wp _ (16, [some (.inr (.inr (some 0))), some (.inl w), none], [.inl x8], mH a1 b) _
  refine w_if_ne rfl (fun c9 => ?_) (fun c9 => ?_)
  · skip
    refine w_const rfl ?_
    exact wp_iret (z := false) rfl (fun h9 => by cases h9) ⟨a1, rfl, ha1, ⟨FR.up (FR.rf) (by decide) ea1, fun (m9 : Nat) (l9 : m9 < 22) (h7 : ACm m9 a) => ACm.up ((fun (m9 : Nat) (l9 : m9 < 22) (h7 : ACm m9 a) => h7) m9 l9 h7) ea1 (by decide), trivial⟩, ⟨_, rfl, trivial⟩⟩
  · skip
    refine w_const rfl ?_
    refine w_istore (lo' := [some (.inr (.inr (some 0))), some (.inl w), some (.inl 0)]) rfl rfl ?_
    have loop24 : ∀ (ms9 : Nat) (k : Int32) (a24 : Nat → Nat → Int32) , (14400 - k.toInt).toNat = ms9 → RM K a24 → FR [0, 15, 17, 18, 19, 20] a a24 → (∀ m9, m9 < 22 → ACm m9 a → ACm m9 a24) → (0 ≤ k.toInt ∧ k.toInt ≤ 14400) → f_wp (f_code (t_X13_found (f_ev mtM d))) (24, [some (.inr (.inr (some 0))), some (.inl w), some (.inl k)], [], mH a24 b) (fun v9 h' => ∃ (a' : Nat → Nat → Int32), h' = mH a' b ∧ RM K a' ∧ (FR [0, 15, 17, 18, 19, 20] a a' ∧ (∀ m9, m9 < 22 → ACm m9 a → ACm m9 a') ∧ True) ∧ ∃ x : Int32, v9 = some (.inl x) ∧ True) := by
      intro ms9
      induction ms9 using Nat.strongRecOn with
      | _ ms24 ih24 =>
        intro k a24  hm24 hR24 hF24 hC24 hk
        refine w_iload rfl rfl ?_
        refine w_const rfl ?_
        refine w_ic_ge rfl (fun c10 => ?_) (fun c10 => ?_)
        · skip
          refine w_aload rfl rfl ?_
          refine w_const rfl ?_
          refine w_invV (rest := []) rfl rfl rfl rfl rfl (Nat.le_of_ble_eq_true rfl) rfl (by omega) (s_seeks (K := K) a24 b  1 hR24 ) (fun v11 h9 hq12 => ?_)
          obtain ⟨a13, rfl, ha13, fa13, rfl⟩ := hq12
          show f_wp _ (49, [some (.inr (.inr (some 0))), some (.inl w), some (.inl k)], [], mH a13 b) _
          refine w_iload rfl rfl ?_
          refine w_if_eq rfl (fun c14 => ?_) (fun c14 => ?_)
          · skip
            refine w_iload rfl rfl ?_
            refine w_if_ne rfl (fun c15 => ?_) (fun c15 => ?_)
            · skip
              refine w_aload rfl rfl ?_
              refine w_getI (v := .inl (a13 0 28)) rfl rfl rfl rfl rfl ?_
              refine w_goto rfl ?_
              exact wp_iret (z := false) rfl (fun h9 => by cases h9) ⟨a13, rfl, ha13, ⟨FR.tr (hF24) (FR.sub fa13.1 (by decide)), fun (m9 : Nat) (l9 : m9 < 22) (h7 : ACm m9 a) => fa13.2.1 m9 (by omega) ((hC24) m9 l9 h7), trivial⟩, ⟨_, rfl, trivial⟩⟩
            · skip
              refine w_const rfl ?_
              exact wp_iret (z := false) rfl (fun h9 => by cases h9) ⟨a13, rfl, ha13, ⟨FR.tr (hF24) (FR.sub fa13.1 (by decide)), fun (m9 : Nat) (l9 : m9 < 22) (h7 : ACm m9 a) => fa13.2.1 m9 (by omega) ((hC24) m9 l9 h7), trivial⟩, ⟨_, rfl, trivial⟩⟩
          · skip
            refine w_aload rfl rfl ?_
            refine w_getI (v := .inl (a13 0 28)) rfl rfl rfl rfl rfl ?_
            refine w_if_ne rfl (fun c16 => ?_) (fun c16 => ?_)
            · skip
              refine w_iload rfl rfl ?_
              refine w_if_ne rfl (fun c17 => ?_) (fun c17 => ?_)
              · skip
                refine w_aload rfl rfl ?_
                refine w_getI (v := .inl (a13 0 28)) rfl rfl rfl rfl rfl ?_
                refine w_goto rfl ?_
                exact wp_iret (z := false) rfl (fun h9 => by cases h9) ⟨a13, rfl, ha13, ⟨FR.tr (hF24) (FR.sub fa13.1 (by decide)), fun (m9 : Nat) (l9 : m9 < 22) (h7 : ACm m9 a) => fa13.2.1 m9 (by omega) ((hC24) m9 l9 h7), trivial⟩, ⟨_, rfl, trivial⟩⟩
              · skip
                refine w_const rfl ?_
                exact wp_iret (z := false) rfl (fun h9 => by cases h9) ⟨a13, rfl, ha13, ⟨FR.tr (hF24) (FR.sub fa13.1 (by decide)), fun (m9 : Nat) (l9 : m9 < 22) (h7 : ACm m9 a) => fa13.2.1 m9 (by omega) ((hC24) m9 l9 h7), trivial⟩, ⟨_, rfl, trivial⟩⟩
            · skip
              refine w_iload rfl rfl ?_
              refine w_const rfl ?_
              refine w_ic_ne rfl (fun c18 => ?_) (fun c18 => ?_)
              · skip
                refine w_aload rfl rfl ?_
                refine w_invV (rest := []) rfl rfl rfl rfl rfl (Nat.le_of_ble_eq_true rfl) rfl (by omega) (s_tellsMost (K := K) a13 b   ha13 ) (fun v19 h9 hq20 => ?_)
                obtain ⟨rfl, x21, rfl, px21⟩ := hq20
                show f_wp _ (83, [some (.inr (.inr (some 0))), some (.inl w), some (.inl k)], [.inl x21], mH a13 b) _
                refine w_goto rfl ?_
                exact wp_iret (z := false) rfl (fun h9 => by cases h9) ⟨a13, rfl, ha13, ⟨FR.tr (hF24) (FR.sub fa13.1 (by decide)), fun (m9 : Nat) (l9 : m9 < 22) (h7 : ACm m9 a) => fa13.2.1 m9 (by omega) ((hC24) m9 l9 h7), trivial⟩, ⟨_, rfl, trivial⟩⟩
              · skip
                refine w_aload rfl rfl ?_
                refine w_getR (v := .inr (.inr (some 19))) rfl rfl rfl rfl rfl ?_
                refine w_iload rfl rfl ?_
                refine w_const rfl ?_
                first | refine w_isub rfl (by omega) (fun x22 tx22 => ?_) | refine w_iiU rfl (fun x22 tx22 => ?_)
                refine m_iald rfl rfl (by omega) (fun x23 ex23 => ?_)
                exact wp_iret (z := false) rfl (fun h9 => by cases h9) ⟨a13, rfl, ha13, ⟨FR.tr (hF24) (FR.sub fa13.1 (by decide)), fun (m9 : Nat) (l9 : m9 < 22) (h7 : ACm m9 a) => fa13.2.1 m9 (by omega) ((hC24) m9 l9 h7), trivial⟩, ⟨_, rfl, trivial⟩⟩
        · skip
          refine w_aload rfl rfl ?_
          refine w_getR (v := .inr (.inr (some 20))) rfl rfl rfl rfl rfl ?_
          refine w_iload rfl rfl ?_
          refine w_const rfl ?_
          refine m_iast rfl rfl (by omega) (fun a24 ea24 => ?_)
          have ha24 : RM K a24 := RM.up hR24 ea24 ⟨ti_lo _, ti_hi _⟩
          refine w_iinc (lo' := fun z9 => [some (.inr (.inr (some 0))), some (.inl w), some (.inl z9)]) rfl rfl (fun _ => rfl) (by omega) (fun x25 tx25 => ?_)
          refine w_goto rfl ?_
          exact ih24 (14400 - x25.toInt).toNat (by omega) x25 a24 rfl ha24 (FR.up (hF24) (by decide) ea24) (fun (m9 : Nat) (l9 : m9 < 22) (h7 : ACm m9 a) => ACm.up ((hC24) m9 l9 h7) ea24 (by decide)) (by omega)
    exact loop24 _ 0 a1 rfl ha1 (FR.up (FR.rf) (by decide) ea1) (fun (m9 : Nat) (l9 : m9 < 22) (h7 : ACm m9 a) => ACm.up ((fun (m9 : Nat) (l9 : m9 < 22) (h7 : ACm m9 a) => h7) m9 l9 h7) ea1 (by decide)) (by omega)
