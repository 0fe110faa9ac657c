set_option maxRecDepth 4000 in
theorem s_river {K : Nat} (a : Nat → Nat → Int32) (b : Nat → Nat → Int64) (r : Int32) (w : Int32) (hR : RM K a)  : f_call mtM 3 59 [.inr (.inr (some 0)), .inl r, .inl w] (mH a b) (fun v9 h' => ∃ (a' : Nat → Nat → Int32), h' = mH a' b ∧ RM K a' ∧ (FR [0] a a' ∧ True) ∧ ∃ x : Int32, v9 = some (.inl x) ∧ True) := by
  refine f_call_of (d0 := 2) rfl (Nat.le_of_ble_eq_true rfl) (fun d hd => ?_)
  show f_wp _ (0, [some (.inr (.inr (some 0))), some (.inl r), some (.inl w)], [], mH a b) _
  have l0 : (0 : Int32).toInt = 0 := rfl
  have l1 : (1 : Int32).toInt = 1 := rfl
  have l7 : (7 : Int32).toInt = 7 := rfl
  have l8 : (8 : Int32).toInt = 8 := rfl
  have l12 : (12 : Int32).toInt = 12 := rfl
  have l13 : (13 : Int32).toInt = 13 := rfl
  refine w_aload rfl rfl ?_
  refine w_aload rfl rfl ?_
  refine w_iload rfl rfl ?_
  refine w_invV (rest := [.inr (.inr (some 0))]) rfl rfl rfl rfl rfl (Nat.le_of_ble_eq_true rfl) rfl (by omega) (s_isRiver (K := K) a b  r hR ) (fun v1 h9 hq2 => ?_)
  obtain ⟨rfl, x3, rfl, px3⟩ := hq2
  show f_wp _ (6, [some (.inr (.inr (some 0))), some (.inl r), some (.inl w)], [.inl x3, .inr (.inr (some 0))], mH a b) _
  refine w_if_eq rfl (fun c4 => ?_) (fun c4 => ?_)
  · skip
    refine w_const rfl ?_
    refine m_putI (z := false) rfl rfl rfl rfl (by first | (intro h9; cases h9; done) | (intro _; first | exact Or.inl rfl | exact Or.inr rfl | assumption)) (fun a5 ea5 => ?_)
    have ha5 : RM K a5 := RM.up hR ea5 ⟨ti_lo _, ti_hi _⟩
    have ua5_0 : a5 0 0 = (1 : Int32) := by rw [ea5, mU_same]
    have wa5_0 := congrArg Int32.toInt ua5_0
    refine w_aload rfl rfl ?_
    refine w_getI (v := .inl (a5 0 0)) rfl rfl rfl rfl rfl ?_
    refine w_if_le rfl (fun c6 => ?_) (fun c6 => ?_)
    · skip
      refine w_iload rfl rfl ?_
      refine w_tab rfl (fun c7 => ?_) (fun k9 t9 hk9 c7 => ?_)
      · skip
        have c7d := c7
        simp only [List.length_cons, List.length_nil] at c7d
        refine w_aload rfl rfl ?_
        refine w_iload rfl rfl ?_
        refine w_iload rfl rfl ?_
        refine w_invV (rest := []) rfl rfl rfl rfl rfl (Nat.le_of_ble_eq_true rfl) rfl (by omega) (s_riverOf (K := K) a5 b  r w  (by omega) (by omega)) (fun v8 h9 hq9 => ?_)
        obtain ⟨rfl, x10, rfl, px10⟩ := hq9
        show f_wp _ (120, [some (.inr (.inr (some 0))), some (.inl r), some (.inl w)], [.inl x10], mH a5 b) _
        exact wp_iret (z := false) rfl (fun h9 => by cases h9) ⟨a5, rfl, ha5, ⟨FR.up (FR.rf) (by decide) ea5, trivial⟩, ⟨_, rfl, trivial⟩⟩
      · skip
        match k9, hk9, c7 with
        | 0, hk9, c7 =>
          cases hk9
          refine w_aload rfl rfl ?_
          refine w_iload rfl rfl ?_
          refine w_const rfl ?_
          refine w_invV (rest := []) rfl rfl rfl rfl rfl (Nat.le_of_ble_eq_true rfl) rfl (by omega) (s_riverOf (K := K) a5 b  r 12  (by omega) (by omega)) (fun v11 h9 hq12 => ?_)
          obtain ⟨rfl, x13, rfl, px13⟩ := hq12
          show f_wp _ (79, [some (.inr (.inr (some 0))), some (.inl r), some (.inl w)], [.inl x13], mH a5 b) _
          exact wp_iret (z := false) rfl (fun h9 => by cases h9) ⟨a5, rfl, ha5, ⟨FR.up (FR.rf) (by decide) ea5, trivial⟩, ⟨_, rfl, trivial⟩⟩
        | 1, hk9, c7 =>
          cases hk9
          refine w_aload rfl rfl ?_
          refine w_const rfl ?_
          refine w_iload rfl rfl ?_
          refine w_invV (rest := []) rfl rfl rfl rfl rfl (Nat.le_of_ble_eq_true rfl) rfl (by omega) (s_husbandOf (K := K) a5 b  0 r ha5 (by omega) (by omega)) (fun v14 h9 hq15 => ?_)
          obtain ⟨rfl, x16, rfl, px16⟩ := hq15
          show f_wp _ (86, [some (.inr (.inr (some 0))), some (.inl r), some (.inl w)], [.inl x16], mH a5 b) _
          exact wp_iret (z := false) rfl (fun h9 => by cases h9) ⟨a5, rfl, ha5, ⟨FR.up (FR.rf) (by decide) ea5, trivial⟩, ⟨_, rfl, trivial⟩⟩
        | 2, hk9, c7 =>
          cases hk9
          refine w_aload rfl rfl ?_
          refine w_const rfl ?_
          refine w_iload rfl rfl ?_
          refine w_invV (rest := []) rfl rfl rfl rfl rfl (Nat.le_of_ble_eq_true rfl) rfl (by omega) (s_wivesOf (K := K) a5 b  0 r ha5 (by omega)) (fun v17 h9 hq18 => ?_)
          obtain ⟨rfl, x19, rfl, px19⟩ := hq18
          show f_wp _ (93, [some (.inr (.inr (some 0))), some (.inl r), some (.inl w)], [.inl x19], mH a5 b) _
          exact wp_iret (z := false) rfl (fun h9 => by cases h9) ⟨a5, rfl, ha5, ⟨FR.up (FR.rf) (by decide) ea5, trivial⟩, ⟨_, rfl, trivial⟩⟩
        | 3, hk9, c7 =>
          cases hk9
          refine w_aload rfl rfl ?_
          refine w_getR (v := .inr (.inr (some 15))) rfl rfl rfl rfl rfl ?_
          refine w_const rfl ?_
          refine w_iload rfl rfl ?_
          first | refine w_iadd rfl (by omega) (fun x20 tx20 => ?_) | refine w_iiU rfl (fun x20 tx20 => ?_)
          refine m_iald rfl rfl (by omega) (fun x21 ex21 => ?_)
          exact wp_iret (z := false) rfl (fun h9 => by cases h9) ⟨a5, rfl, ha5, ⟨FR.up (FR.rf) (by decide) ea5, trivial⟩, ⟨_, rfl, trivial⟩⟩
        | 4, hk9, c7 =>
          cases hk9
          refine w_aload rfl rfl ?_
          refine w_getR (v := .inr (.inr (some 15))) rfl rfl rfl rfl rfl ?_
          refine w_const rfl ?_
          refine w_iload rfl rfl ?_
          first | refine w_iadd rfl (by omega) (fun x22 tx22 => ?_) | refine w_iiU rfl (fun x22 tx22 => ?_)
          refine m_iald rfl rfl (by omega) (fun x23 ex23 => ?_)
          exact wp_iret (z := false) rfl (fun h9 => by cases h9) ⟨a5, rfl, ha5, ⟨FR.up (FR.rf) (by decide) ea5, trivial⟩, ⟨_, rfl, trivial⟩⟩
        | n9 + 5, hk9, c7 => simp at hk9
    · skip
      refine w_const rfl ?_
      exact wp_iret (z := false) rfl (fun h9 => by cases h9) ⟨a5, rfl, ha5, ⟨FR.up (FR.rf) (by decide) ea5, trivial⟩, ⟨_, rfl, trivial⟩⟩
  · skip
    refine w_iload rfl rfl ?_
    refine w_const rfl ?_
    refine w_const rfl ?_
    refine w_invS (rest := [.inr (.inr (some 0))]) rfl (Nat.le_of_ble_eq_true rfl) rfl (Nat.le_of_ble_eq_true rfl) rfl (by omega) (s_within (K := K) a b  w 0 8  ) (fun v24 h9 hq25 => ?_)
    obtain ⟨rfl, x26, rfl, px26⟩ := hq25
    show f_wp _ (16, [some (.inr (.inr (some 0))), some (.inl r), some (.inl w)], [.inl x26, .inr (.inr (some 0))], mH a b) _
    refine w_if_eq rfl (fun c27 => ?_) (fun c27 => ?_)
    · skip
      refine w_const rfl ?_
      refine m_putI (z := false) rfl rfl rfl rfl (by first | (intro h9; cases h9; done) | (intro _; first | exact Or.inl rfl | exact Or.inr rfl | assumption)) (fun a28 ea28 => ?_)
      have ha28 : RM K a28 := RM.up hR ea28 ⟨ti_lo _, ti_hi _⟩
      have ua28_0 : a28 0 0 = (1 : Int32) := by rw [ea28, mU_same]
      have wa28_0 := congrArg Int32.toInt ua28_0
      refine w_aload rfl rfl ?_
      refine w_getI (v := .inl (a28 0 0)) rfl rfl rfl rfl rfl ?_
      refine w_if_le rfl (fun c29 => ?_) (fun c29 => ?_)
      · skip
        refine w_iload rfl rfl ?_
        refine w_tab rfl (fun c30 => ?_) (fun k9 t9 hk9 c30 => ?_)
        · skip
          have c30d := c30
          simp only [List.length_cons, List.length_nil] at c30d
          refine w_aload rfl rfl ?_
          refine w_iload rfl rfl ?_
          refine w_iload rfl rfl ?_
          refine w_invV (rest := []) rfl rfl rfl rfl rfl (Nat.le_of_ble_eq_true rfl) rfl (by omega) (s_riverOf (K := K) a28 b  r w  (by omega) (by omega)) (fun v31 h9 hq32 => ?_)
          obtain ⟨rfl, x33, rfl, px33⟩ := hq32
          show f_wp _ (120, [some (.inr (.inr (some 0))), some (.inl r), some (.inl w)], [.inl x33], mH a28 b) _
          exact wp_iret (z := false) rfl (fun h9 => by cases h9) ⟨a28, rfl, ha28, ⟨FR.up (FR.rf) (by decide) ea28, trivial⟩, ⟨_, rfl, trivial⟩⟩
        · skip
          match k9, hk9, c30 with
          | 0, hk9, c30 =>
            cases hk9
            refine w_aload rfl rfl ?_
            refine w_iload rfl rfl ?_
            refine w_const rfl ?_
            refine w_invV (rest := []) rfl rfl rfl rfl rfl (Nat.le_of_ble_eq_true rfl) rfl (by omega) (s_riverOf (K := K) a28 b  r 12  (by omega) (by omega)) (fun v34 h9 hq35 => ?_)
            obtain ⟨rfl, x36, rfl, px36⟩ := hq35
            show f_wp _ (79, [some (.inr (.inr (some 0))), some (.inl r), some (.inl w)], [.inl x36], mH a28 b) _
            exact wp_iret (z := false) rfl (fun h9 => by cases h9) ⟨a28, rfl, ha28, ⟨FR.up (FR.rf) (by decide) ea28, trivial⟩, ⟨_, rfl, trivial⟩⟩
          | 1, hk9, c30 =>
            cases hk9
            refine w_aload rfl rfl ?_
            refine w_const rfl ?_
            refine w_iload rfl rfl ?_
            refine w_invV (rest := []) rfl rfl rfl rfl rfl (Nat.le_of_ble_eq_true rfl) rfl (by omega) (s_husbandOf (K := K) a28 b  0 r ha28 (by omega) (by omega)) (fun v37 h9 hq38 => ?_)
            obtain ⟨rfl, x39, rfl, px39⟩ := hq38
            show f_wp _ (86, [some (.inr (.inr (some 0))), some (.inl r), some (.inl w)], [.inl x39], mH a28 b) _
            exact wp_iret (z := false) rfl (fun h9 => by cases h9) ⟨a28, rfl, ha28, ⟨FR.up (FR.rf) (by decide) ea28, trivial⟩, ⟨_, rfl, trivial⟩⟩
          | 2, hk9, c30 =>
            cases hk9
            refine w_aload rfl rfl ?_
            refine w_const rfl ?_
            refine w_iload rfl rfl ?_
            refine w_invV (rest := []) rfl rfl rfl rfl rfl (Nat.le_of_ble_eq_true rfl) rfl (by omega) (s_wivesOf (K := K) a28 b  0 r ha28 (by omega)) (fun v40 h9 hq41 => ?_)
            obtain ⟨rfl, x42, rfl, px42⟩ := hq41
            show f_wp _ (93, [some (.inr (.inr (some 0))), some (.inl r), some (.inl w)], [.inl x42], mH a28 b) _
            exact wp_iret (z := false) rfl (fun h9 => by cases h9) ⟨a28, rfl, ha28, ⟨FR.up (FR.rf) (by decide) ea28, trivial⟩, ⟨_, rfl, trivial⟩⟩
          | 3, hk9, c30 =>
            cases hk9
            refine w_aload rfl rfl ?_
            refine w_getR (v := .inr (.inr (some 15))) rfl rfl rfl rfl rfl ?_
            refine w_const rfl ?_
            refine w_iload rfl rfl ?_
            first | refine w_iadd rfl (by omega) (fun x43 tx43 => ?_) | refine w_iiU rfl (fun x43 tx43 => ?_)
            refine m_iald rfl rfl (by omega) (fun x44 ex44 => ?_)
            exact wp_iret (z := false) rfl (fun h9 => by cases h9) ⟨a28, rfl, ha28, ⟨FR.up (FR.rf) (by decide) ea28, trivial⟩, ⟨_, rfl, trivial⟩⟩
          | 4, hk9, c30 =>
            cases hk9
            refine w_aload rfl rfl ?_
            refine w_getR (v := .inr (.inr (some 15))) rfl rfl rfl rfl rfl ?_
            refine w_const rfl ?_
            refine w_iload rfl rfl ?_
            first | refine w_iadd rfl (by omega) (fun x45 tx45 => ?_) | refine w_iiU rfl (fun x45 tx45 => ?_)
            refine m_iald rfl rfl (by omega) (fun x46 ex46 => ?_)
            exact wp_iret (z := false) rfl (fun h9 => by cases h9) ⟨a28, rfl, ha28, ⟨FR.up (FR.rf) (by decide) ea28, trivial⟩, ⟨_, rfl, trivial⟩⟩
          | n9 + 5, hk9, c30 => simp at hk9
      · skip
        refine w_const rfl ?_
        exact wp_iret (z := false) rfl (fun h9 => by cases h9) ⟨a28, rfl, ha28, ⟨FR.up (FR.rf) (by decide) ea28, trivial⟩, ⟨_, rfl, trivial⟩⟩
    · skip
      refine w_const rfl ?_
      refine w_goto rfl ?_
      refine m_putI (z := false) rfl rfl rfl rfl (by first | (intro h9; cases h9; done) | (intro _; first | exact Or.inl rfl | exact Or.inr rfl | assumption)) (fun a47 ea47 => ?_)
      have ha47 : RM K a47 := RM.up hR ea47 ⟨ti_lo _, ti_hi _⟩
      have ua47_0 : a47 0 0 = (0 : Int32) := by rw [ea47, mU_same]
      have wa47_0 := congrArg Int32.toInt ua47_0
      refine w_aload rfl rfl ?_
      refine w_getI (v := .inl (a47 0 0)) rfl rfl rfl rfl rfl ?_
      refine w_if_le rfl (fun c48 => ?_) (fun c48 => ?_)
      · skip
        refine w_iload rfl rfl ?_
        refine w_tab rfl (fun c49 => ?_) (fun k9 t9 hk9 c49 => ?_)
        · skip
          have c49d := c49
          simp only [List.length_cons, List.length_nil] at c49d
          refine w_aload rfl rfl ?_
          refine w_iload rfl rfl ?_
          refine w_iload rfl rfl ?_
          refine w_invV (rest := []) rfl rfl rfl rfl rfl (Nat.le_of_ble_eq_true rfl) rfl (by omega) (s_riverOf (K := K) a47 b  r w  (by omega) (by omega)) (fun v50 h9 hq51 => ?_)
          obtain ⟨rfl, x52, rfl, px52⟩ := hq51
          show f_wp _ (120, [some (.inr (.inr (some 0))), some (.inl r), some (.inl w)], [.inl x52], mH a47 b) _
          exact wp_iret (z := false) rfl (fun h9 => by cases h9) ⟨a47, rfl, ha47, ⟨FR.up (FR.rf) (by decide) ea47, trivial⟩, ⟨_, rfl, trivial⟩⟩
        · skip
          match k9, hk9, c49 with
          | 0, hk9, c49 =>
            cases hk9
            refine w_aload rfl rfl ?_
            refine w_iload rfl rfl ?_
            refine w_const rfl ?_
            refine w_invV (rest := []) rfl rfl rfl rfl rfl (Nat.le_of_ble_eq_true rfl) rfl (by omega) (s_riverOf (K := K) a47 b  r 12  (by omega) (by omega)) (fun v53 h9 hq54 => ?_)
            obtain ⟨rfl, x55, rfl, px55⟩ := hq54
            show f_wp _ (79, [some (.inr (.inr (some 0))), some (.inl r), some (.inl w)], [.inl x55], mH a47 b) _
            exact wp_iret (z := false) rfl (fun h9 => by cases h9) ⟨a47, rfl, ha47, ⟨FR.up (FR.rf) (by decide) ea47, trivial⟩, ⟨_, rfl, trivial⟩⟩
          | 1, hk9, c49 =>
            cases hk9
            refine w_aload rfl rfl ?_
            refine w_const rfl ?_
            refine w_iload rfl rfl ?_
            refine w_invV (rest := []) rfl rfl rfl rfl rfl (Nat.le_of_ble_eq_true rfl) rfl (by omega) (s_husbandOf (K := K) a47 b  0 r ha47 (by omega) (by omega)) (fun v56 h9 hq57 => ?_)
            obtain ⟨rfl, x58, rfl, px58⟩ := hq57
            show f_wp _ (86, [some (.inr (.inr (some 0))), some (.inl r), some (.inl w)], [.inl x58], mH a47 b) _
            exact wp_iret (z := false) rfl (fun h9 => by cases h9) ⟨a47, rfl, ha47, ⟨FR.up (FR.rf) (by decide) ea47, trivial⟩, ⟨_, rfl, trivial⟩⟩
          | 2, hk9, c49 =>
            cases hk9
            refine w_aload rfl rfl ?_
            refine w_const rfl ?_
            refine w_iload rfl rfl ?_
            refine w_invV (rest := []) rfl rfl rfl rfl rfl (Nat.le_of_ble_eq_true rfl) rfl (by omega) (s_wivesOf (K := K) a47 b  0 r ha47 (by omega)) (fun v59 h9 hq60 => ?_)
            obtain ⟨rfl, x61, rfl, px61⟩ := hq60
            show f_wp _ (93, [some (.inr (.inr (some 0))), some (.inl r), some (.inl w)], [.inl x61], mH a47 b) _
            exact wp_iret (z := false) rfl (fun h9 => by cases h9) ⟨a47, rfl, ha47, ⟨FR.up (FR.rf) (by decide) ea47, trivial⟩, ⟨_, rfl, trivial⟩⟩
          | 3, hk9, c49 =>
            cases hk9
            refine w_aload rfl rfl ?_
            refine w_getR (v := .inr (.inr (some 15))) rfl rfl rfl rfl rfl ?_
            refine w_const rfl ?_
            refine w_iload rfl rfl ?_
            first | refine w_iadd rfl (by omega) (fun x62 tx62 => ?_) | refine w_iiU rfl (fun x62 tx62 => ?_)
            refine m_iald rfl rfl (by omega) (fun x63 ex63 => ?_)
            exact wp_iret (z := false) rfl (fun h9 => by cases h9) ⟨a47, rfl, ha47, ⟨FR.up (FR.rf) (by decide) ea47, trivial⟩, ⟨_, rfl, trivial⟩⟩
          | 4, hk9, c49 =>
            cases hk9
            refine w_aload rfl rfl ?_
            refine w_getR (v := .inr (.inr (some 15))) rfl rfl rfl rfl rfl ?_
            refine w_const rfl ?_
            refine w_iload rfl rfl ?_
            first | refine w_iadd rfl (by omega) (fun x64 tx64 => ?_) | refine w_iiU rfl (fun x64 tx64 => ?_)
            refine m_iald rfl rfl (by omega) (fun x65 ex65 => ?_)
            exact wp_iret (z := false) rfl (fun h9 => by cases h9) ⟨a47, rfl, ha47, ⟨FR.up (FR.rf) (by decide) ea47, trivial⟩, ⟨_, rfl, trivial⟩⟩
          | n9 + 5, hk9, c49 => simp at hk9
      · skip
        refine w_const rfl ?_
        exact wp_iret (z := false) rfl (fun h9 => by cases h9) ⟨a47, rfl, ha47, ⟨FR.up (FR.rf) (by decide) ea47, trivial⟩, ⟨_, rfl, trivial⟩⟩
set_option maxRecDepth 4000 in
theorem s_needs {K : Nat} (a : Nat → Nat → Int32) (b : Nat → Nat → Int64) (w : Int32) (hR : RM K a) (hA : AC a 0) : f_call mtM 13 61 [.inr (.inr (some 0)), .inl w] (mH a b) (fun v9 h' => ∃ (a' : Nat → Nat → Int32), h' = mH a' b ∧ RM K a' ∧ (FR [0] a a' ∧ True) ∧ ∃ x : Int32, v9 = some (.inl x) ∧ True) := by
  refine f_call_of (d0 := 12) rfl (Nat.le_of_ble_eq_true rfl) (fun d hd => ?_)
  show f_wp _ (0, [some (.inr (.inr (some 0))), some (.inl w), none, none, none], [], mH a b) _
  have lm1 : (-1 : Int32).toInt = -1 := rfl
  have l0 : (0 : Int32).toInt = 0 := rfl
  have l1 : (1 : Int32).toInt = 1 := rfl
  refine w_aload rfl rfl ?_
  refine w_const rfl ?_
  refine m_putI (z := false) rfl rfl rfl rfl (by first | (intro h9; cases h9; done) | (intro _; first | exact Or.inl rfl | exact Or.inr rfl | assumption)) (fun a1 ea1 => ?_)
  have ha1 : RM K a1 := RM.up hR ea1 ⟨ti_lo _, ti_hi _⟩
  have ua1_0 : a1 0 0 = (0 : Int32) := by rw [ea1, mU_same]
  have wa1_0 := congrArg Int32.toInt ua1_0
  refine w_const rfl ?_
  refine w_istore (lo' := [some (.inr (.inr (some 0))), some (.inl w), some (.inl 0), none, none]) rfl rfl ?_
  refine w_const rfl ?_
  refine w_istore (lo' := [some (.inr (.inr (some 0))), some (.inl w), some (.inl 0), some (.inl 0), none]) rfl rfl ?_
  have loop9 : ∀ (ms9 : Nat) (set : Int32) (r : Int32) (o4_9 : Option f_V), (6 - r.toInt).toNat = ms9 → (0 ≤ r.toInt ∧ r.toInt ≤ 6) → f_wp (f_code (t_X13_needs (f_ev mtM d))) (9, [some (.inr (.inr (some 0))), some (.inl w), some (.inl set), some (.inl r), o4_9], [], mH a1 b) (fun v9 h' => ∃ (a' : Nat → Nat → Int32), h' = mH a' b ∧ RM K a' ∧ (FR [0] a a' ∧ True) ∧ ∃ x : Int32, v9 = some (.inl x) ∧ True) := by
    intro ms9
    induction ms9 using Nat.strongRecOn with
    | _ ms9 ih9 =>
      intro set r o4_9 hm9 hr
      refine w_iload rfl rfl ?_
      refine w_aload rfl rfl ?_
      refine w_invV (rest := [.inl r]) rfl rfl rfl rfl rfl (Nat.le_of_ble_eq_true rfl) rfl (by omega) (s_rivers (K := K) a1 b   ha1 ) (fun v2 h9 hq3 => ?_)
      obtain ⟨rfl, x4, rfl, px4⟩ := hq3
      show f_wp _ (14, [some (.inr (.inr (some 0))), some (.inl w), some (.inl set), some (.inl r), o4_9], [.inl x4, .inl r], mH a1 b) _
      refine w_ic_ge rfl (fun c5 => ?_) (fun c5 => ?_)
      · skip
        refine w_iload rfl rfl ?_
        refine w_const rfl ?_
        refine w_const rfl ?_
        refine w_invS (rest := []) rfl (Nat.le_of_ble_eq_true rfl) rfl (Nat.le_of_ble_eq_true rfl) rfl (by omega) (s_within (K := K) a1 b  w 0 1  ) (fun v6 h9 hq7 => ?_)
        obtain ⟨rfl, x8, rfl, px8⟩ := hq7
        show f_wp _ (75, [some (.inr (.inr (some 0))), some (.inl w), some (.inl set), some (.inl r), o4_9], [.inl x8], mH a1 b) _
        refine w_if_eq rfl (fun c9 => ?_) (fun c9 => ?_)
        · skip
          refine w_const rfl ?_
          exact wp_iret (z := false) rfl (fun h9 => by cases h9) ⟨a1, rfl, ha1, ⟨FR.up (FR.rf) (by decide) ea1, trivial⟩, ⟨_, rfl, trivial⟩⟩
        · skip
          refine w_iload rfl rfl ?_
          refine w_goto rfl ?_
          exact wp_iret (z := false) rfl (fun h9 => by cases h9) ⟨a1, rfl, ha1, ⟨FR.up (FR.rf) (by decide) ea1, trivial⟩, ⟨_, rfl, trivial⟩⟩
      · skip
        refine w_iload rfl rfl ?_
        refine w_if_ne rfl (fun c10 => ?_) (fun c10 => ?_)
        · skip
          refine w_aload rfl rfl ?_
          refine w_const rfl ?_
          refine w_iload rfl rfl ?_
          refine w_aload rfl rfl ?_
          refine w_const rfl ?_
          refine w_invV (rest := [.inl r, .inl 0, .inr (.inr (some 0))]) rfl rfl rfl rfl rfl (Nat.le_of_ble_eq_true rfl) rfl (by omega) (s_winter (K := K) a1 b  0 ha1 (by omega)) (fun v11 h9 hq12 => ?_)
          obtain ⟨rfl, x13, rfl, px13⟩ := hq12
          show f_wp _ (29, [some (.inr (.inr (some 0))), some (.inl w), some (.inl set), some (.inl r), o4_9], [.inl x13, .inl r, .inl 0, .inr (.inr (some 0))], mH a1 b) _
          refine w_invV (rest := []) rfl rfl rfl rfl rfl (Nat.le_of_ble_eq_true rfl) rfl (by omega) (s_isDry (K := K) a1 b  0 r x13 ha1 (by omega) (by omega) (by omega) (((fun (m9 : Nat) (l9 : m9 < 22) (h7 : ACm m9 a) => ACm.up ((fun (m9 : Nat) (l9 : m9 < 22) (h7 : ACm m9 a) => h7) m9 l9 h7) ea1 (by decide)) 0 (by decide) hA))) (fun v14 h9 hq15 => ?_)
          obtain ⟨rfl, x16, rfl, px16⟩ := hq15
          show f_wp _ (32, [some (.inr (.inr (some 0))), some (.inl w), some (.inl set), some (.inl r), o4_9], [.inl x16], mH a1 b) _
          refine w_goto rfl ?_
          refine w_istore (lo' := [some (.inr (.inr (some 0))), some (.inl w), some (.inl set), some (.inl r), some (.inl x16)]) rfl rfl ?_
          refine w_iload rfl rfl ?_
          refine w_iload rfl rfl ?_
          refine w_if_eq rfl (fun c17 => ?_) (fun c17 => ?_)
          · skip
            refine w_const rfl ?_
            refine w_iiE rfl (fun x18 tx18 => ?_)
            refine w_istore (lo' := [some (.inr (.inr (some 0))), some (.inl w), some (.inl x18), some (.inl r), some (.inl x16)]) rfl rfl ?_
            refine w_iinc (lo' := fun z9 => [some (.inr (.inr (some 0))), some (.inl w), some (.inl x18), some (.inl z9), some (.inl x16)]) rfl rfl (fun _ => rfl) (by omega) (fun x19 tx19 => ?_)
            refine w_goto rfl ?_
            exact ih9 (6 - x19.toInt).toNat (by omega) x18 x19 (some (.inl x16)) rfl  (by omega)
          · skip
            refine w_const rfl ?_
            refine w_iload rfl rfl ?_
            refine w_iiE rfl (fun x20 tx20 => ?_)
            refine w_goto rfl ?_
            refine w_iiE rfl (fun x21 tx21 => ?_)
            refine w_istore (lo' := [some (.inr (.inr (some 0))), some (.inl w), some (.inl x21), some (.inl r), some (.inl x16)]) rfl rfl ?_
            refine w_iinc (lo' := fun z9 => [some (.inr (.inr (some 0))), some (.inl w), some (.inl x21), some (.inl z9), some (.inl x16)]) rfl rfl (fun _ => rfl) (by omega) (fun x22 tx22 => ?_)
            refine w_goto rfl ?_
            exact ih9 (6 - x22.toInt).toNat (by omega) x21 x22 (some (.inl x16)) rfl  (by omega)
        · skip
          refine w_aload rfl rfl ?_
          refine w_const rfl ?_
          refine w_iload rfl rfl ?_
          refine w_aload rfl rfl ?_
          refine w_const rfl ?_
          refine w_invV (rest := [.inl r, .inl 0, .inr (.inr (some 0))]) rfl rfl rfl rfl rfl (Nat.le_of_ble_eq_true rfl) rfl (by omega) (s_winter (K := K) a1 b  0 ha1 (by omega)) (fun v23 h9 hq24 => ?_)
          obtain ⟨rfl, x25, rfl, px25⟩ := hq24
          show f_wp _ (43, [some (.inr (.inr (some 0))), some (.inl w), some (.inl set), some (.inl r), o4_9], [.inl x25, .inl r, .inl 0, .inr (.inr (some 0))], mH a1 b) _
          refine w_invV (rest := []) rfl rfl rfl rfl rfl (Nat.le_of_ble_eq_true rfl) rfl (by omega) (s_isFlooded (K := K) a1 b  0 r x25 ha1 (by omega) (by omega) (by omega) (((fun (m9 : Nat) (l9 : m9 < 22) (h7 : ACm m9 a) => ACm.up ((fun (m9 : Nat) (l9 : m9 < 22) (h7 : ACm m9 a) => h7) m9 l9 h7) ea1 (by decide)) 0 (by decide) hA))) (fun v26 h9 hq27 => ?_)
          obtain ⟨rfl, x28, rfl, px28⟩ := hq27
          show f_wp _ (46, [some (.inr (.inr (some 0))), some (.inl w), some (.inl set), some (.inl r), o4_9], [.inl x28], mH a1 b) _
          refine w_istore (lo' := [some (.inr (.inr (some 0))), some (.inl w), some (.inl set), some (.inl r), some (.inl x28)]) rfl rfl ?_
          refine w_iload rfl rfl ?_
          refine w_iload rfl rfl ?_
          refine w_if_eq rfl (fun c29 => ?_) (fun c29 => ?_)
          · skip
            refine w_const rfl ?_
            refine w_iiE rfl (fun x30 tx30 => ?_)
            refine w_istore (lo' := [some (.inr (.inr (some 0))), some (.inl w), some (.inl x30), some (.inl r), some (.inl x28)]) rfl rfl ?_
            refine w_iinc (lo' := fun z9 => [some (.inr (.inr (some 0))), some (.inl w), some (.inl x30), some (.inl z9), some (.inl x28)]) rfl rfl (fun _ => rfl) (by omega) (fun x31 tx31 => ?_)
            refine w_goto rfl ?_
            exact ih9 (6 - x31.toInt).toNat (by omega) x30 x31 (some (.inl x28)) rfl  (by omega)
          · skip
            refine w_const rfl ?_
            refine w_iload rfl rfl ?_
            refine w_iiE rfl (fun x32 tx32 => ?_)
            refine w_goto rfl ?_
            refine w_iiE rfl (fun x33 tx33 => ?_)
            refine w_istore (lo' := [some (.inr (.inr (some 0))), some (.inl w), some (.inl x33), some (.inl r), some (.inl x28)]) rfl rfl ?_
            refine w_iinc (lo' := fun z9 => [some (.inr (.inr (some 0))), some (.inl w), some (.inl x33), some (.inl z9), some (.inl x28)]) rfl rfl (fun _ => rfl) (by omega) (fun x34 tx34 => ?_)
            refine w_goto rfl ?_
            exact ih9 (6 - x34.toInt).toNat (by omega) x33 x34 (some (.inl x28)) rfl  (by omega)
  exact loop9 _ 0 0 none rfl  (by omega)
set_option maxRecDepth 4000 in
theorem s_hasTown {K : Nat} (a : Nat → Nat → Int32) (b : Nat → Nat → Int64) (r : Int32) (s : Int32) (hR : RM K a)  : f_call mtM 3 99 [.inr (.inr (some 0)), .inl r, .inl s] (mH a b) (fun v9 h' => h' = mH a b ∧ ∃ x : Int32, v9 = some (.inl x) ∧ ((x.toInt = 1 ∧ 0 ≤ r.toInt ∧ r.toInt < 6 ∧ 0 ≤ s.toInt ∧ s.toInt ≤ 3) ∨ x.toInt = 0)) := by
  refine f_call_of (d0 := 2) rfl (Nat.le_of_ble_eq_true rfl) (fun d hd => ?_)
  show f_wp _ (0, [some (.inr (.inr (some 0))), some (.inl r), some (.inl s)], [], mH a b) _
  have l0 : (0 : Int32).toInt = 0 := rfl
  have l1 : (1 : Int32).toInt = 1 := rfl
  have l3 : (3 : Int32).toInt = 3 := rfl
  have l10 : (10 : Int32).toInt = 10 := rfl
  refine w_aload rfl rfl ?_
  refine w_iload rfl rfl ?_
  refine w_invV (rest := []) rfl rfl rfl rfl rfl (Nat.le_of_ble_eq_true rfl) rfl (by omega) (s_isRiver (K := K) a b  r hR ) (fun v1 h9 hq2 => ?_)
  obtain ⟨rfl, x3, rfl, px3⟩ := hq2
  show f_wp _ (5, [some (.inr (.inr (some 0))), some (.inl r), some (.inl s)], [.inl x3], mH a b) _
  refine w_if_eq rfl (fun c4 => ?_) (fun c4 => ?_)
  · skip
    refine w_const rfl ?_
    exact wp_iret (z := true) rfl (fun _ => by first | exact Or.inl rfl | exact Or.inr rfl | (rcases (by omega : (0 : Int32).toInt = 0 ∨ (0 : Int32).toInt = 1) with h8 | h8; exact Or.inl (ti_eq h8); exact Or.inr (ti_eq h8))) ⟨rfl, ⟨_, rfl, by omega⟩⟩
  · skip
    refine w_iload rfl rfl ?_
    refine w_const rfl ?_
    refine w_const rfl ?_
    refine w_invS (rest := []) rfl (Nat.le_of_ble_eq_true rfl) rfl (Nat.le_of_ble_eq_true rfl) rfl (by omega) (s_within (K := K) a b  s 0 3  ) (fun v5 h9 hq6 => ?_)
    obtain ⟨rfl, x7, rfl, px7⟩ := hq6
    show f_wp _ (14, [some (.inr (.inr (some 0))), some (.inl r), some (.inl s)], [.inl x7], mH a b) _
    refine w_if_eq rfl (fun c8 => ?_) (fun c8 => ?_)
    · skip
      refine w_const rfl ?_
      exact wp_iret (z := true) rfl (fun _ => by first | exact Or.inl rfl | exact Or.inr rfl | (rcases (by omega : (0 : Int32).toInt = 0 ∨ (0 : Int32).toInt = 1) with h8 | h8; exact Or.inl (ti_eq h8); exact Or.inr (ti_eq h8))) ⟨rfl, ⟨_, rfl, by omega⟩⟩
    · skip
      refine w_aload rfl rfl ?_
      refine w_iload rfl rfl ?_
      refine w_const rfl ?_
      refine w_invV (rest := []) rfl rfl rfl rfl rfl (Nat.le_of_ble_eq_true rfl) rfl (by omega) (s_riverOf (K := K) a b  r 10  (by omega) (by omega)) (fun v9 h9 hq10 => ?_)
      obtain ⟨rfl, x11, rfl, px11⟩ := hq10
      show f_wp _ (24, [some (.inr (.inr (some 0))), some (.inl r), some (.inl s)], [.inl x11], mH a b) _
      refine w_if_lt rfl (fun c12 => ?_) (fun c12 => ?_)
      · skip
        refine w_const rfl ?_
        exact wp_iret (z := true) rfl (fun _ => by first | exact Or.inl rfl | exact Or.inr rfl | (rcases (by omega : (0 : Int32).toInt = 0 ∨ (0 : Int32).toInt = 1) with h8 | h8; exact Or.inl (ti_eq h8); exact Or.inr (ti_eq h8))) ⟨rfl, ⟨_, rfl, by omega⟩⟩
      · skip
        refine w_const rfl ?_
        refine w_goto rfl ?_
        exact wp_iret (z := true) rfl (fun _ => by first | exact Or.inl rfl | exact Or.inr rfl | (rcases (by omega : (1 : Int32).toInt = 0 ∨ (1 : Int32).toInt = 1) with h8 | h8; exact Or.inl (ti_eq h8); exact Or.inr (ti_eq h8))) ⟨rfl, ⟨_, rfl, by omega⟩⟩
set_option maxRecDepth 4000 in
theorem s_part {K : Nat} (a : Nat → Nat → Int32) (b : Nat → Nat → Int64) (w : Int32) (hR : RM K a) (hA : AC a 0) (hU : (a 0 23).toInt = 16 → ∀ m, m < 16 → AC a (60 * (5 + m))) : f_call mtM 3 74 [.inr (.inr (some 0)), .inl w] (mH a b) (fun v9 h' => ∃ (a' : Nat → Nat → Int32), h' = mH a' b ∧ RM K a' ∧ (FR [0, 15] a a' ∧ (∀ m9, m9 < 22 → ACm m9 a → ACm m9 a') ∧ UX a a') ∧ ∃ x : Int32, v9 = some (.inl x) ∧ (x.toInt = 0 ∨ x.toInt = 1)) := by
  refine f_call_of (d0 := 2) rfl (Nat.le_of_ble_eq_true rfl) (fun d hd => ?_)
  show f_wp _ (0, [some (.inr (.inr (some 0))), some (.inl w)], [], mH a b) _
  have lm1 : (-1 : Int32).toInt = -1 := rfl
  have l0 : (0 : Int32).toInt = 0 := rfl
  have l1 : (1 : Int32).toInt = 1 := rfl
  refine w_aload rfl rfl ?_
  refine w_const rfl ?_
  refine m_putI (z := false) rfl rfl rfl rfl (by first | (intro h9; cases h9; done) | (intro _; first | exact Or.inl rfl | exact Or.inr rfl | assumption)) (fun a1 ea1 => ?_)
  have ha1 : RM K a1 := RM.up hR ea1 ⟨ti_lo _, ti_hi _⟩
  have ua1_0 : a1 0 0 = (0 : Int32) := by rw [ea1, mU_same]
  have wa1_0 := congrArg Int32.toInt ua1_0
  refine w_aload rfl rfl ?_
  refine w_iload rfl rfl ?_
  refine w_invV (rest := []) rfl rfl rfl rfl rfl (Nat.le_of_ble_eq_true rfl) rfl (by omega) (s_isRiver (K := K) a1 b  w ha1 ) (fun v2 h9 hq3 => ?_)
  obtain ⟨rfl, x4, rfl, px4⟩ := hq3
  show f_wp _ (10, [some (.inr (.inr (some 0))), some (.inl w)], [.inl x4], mH a1 b) _
  refine w_if_eq rfl (fun c5 => ?_) (fun c5 => ?_)
  · skip
    refine w_const rfl ?_
    exact wp_iret (z := true) rfl (fun _ => by first | exact Or.inl rfl | exact Or.inr rfl | (rcases (by omega : (0 : Int32).toInt = 0 ∨ (0 : Int32).toInt = 1) with h8 | h8; exact Or.inl (ti_eq h8); exact Or.inr (ti_eq h8))) ⟨a1, rfl, ha1, ⟨FR.up (FR.rf) (by decide) ea1, fun (m9 : Nat) (l9 : m9 < 22) (h7 : ACm m9 a) => ACm.up ((fun (m9 : Nat) (l9 : m9 < 22) (h7 : ACm m9 a) => h7) m9 l9 h7) ea1 (by decide), Or.inl (by rw [ea1, mU_slot (by decide)]; exact Int.le_refl _)⟩, ⟨_, rfl, by omega⟩⟩
  · skip
    refine w_aload rfl rfl ?_
    refine w_const rfl ?_
    refine w_iload rfl rfl ?_
    refine w_invV (rest := []) rfl rfl rfl rfl rfl (Nat.le_of_ble_eq_true rfl) rfl (by omega) (s_husbandOf (K := K) a1 b  0 w ha1 (by omega) (by omega)) (fun v6 h9 hq7 => ?_)
    obtain ⟨rfl, x8, rfl, px8⟩ := hq7
    show f_wp _ (19, [some (.inr (.inr (some 0))), some (.inl w)], [.inl x8], mH a1 b) _
    refine w_if_ge rfl (fun c9 => ?_) (fun c9 => ?_)
    · skip
      refine w_aload rfl rfl ?_
      refine w_invV (rest := []) rfl rfl rfl rfl rfl (Nat.le_of_ble_eq_true rfl) rfl (by omega) (s_keeps (K := K) a1 b   ha1 (((fun (m9 : Nat) (l9 : m9 < 22) (h7 : ACm m9 a) => ACm.up ((fun (m9 : Nat) (l9 : m9 < 22) (h7 : ACm m9 a) => h7) m9 l9 h7) ea1 (by decide)) 0 (by decide) hA)) (fun u8 m8 l8 => AC.at ((fun (m9 : Nat) (l9 : m9 < 22) (h7 : ACm m9 a) => ACm.up ((fun (m9 : Nat) (l9 : m9 < 22) (h7 : ACm m9 a) => h7) m9 l9 h7) ea1 (by decide)) (5 + m8) (by omega) (hU (by rw [ea1, mU_slot (by decide)] at u8; exact u8) m8 l8)) rfl)) (fun v10 h9 hq11 => ?_)
      obtain ⟨a12, rfl, ha12, fa12, rfl⟩ := hq11
      show f_wp _ (28, [some (.inr (.inr (some 0))), some (.inl w)], [], mH a12 b) _
      refine w_aload rfl rfl ?_
      refine w_getR (v := .inr (.inr (some 15))) rfl rfl rfl rfl rfl ?_
      refine w_const rfl ?_
      refine w_iload rfl rfl ?_
      first | refine w_iadd rfl (by omega) (fun x13 tx13 => ?_) | refine w_iiU rfl (fun x13 tx13 => ?_)
      refine w_const rfl ?_
      refine m_iast rfl rfl (by omega) (fun a14 ea14 => ?_)
      have ha14 : RM K a14 := RM.up ha12 ea14 (st_wed (by omega) (by omega))
      refine w_const rfl ?_
      exact wp_iret (z := true) rfl (fun _ => by first | exact Or.inl rfl | exact Or.inr rfl | (rcases (by omega : (1 : Int32).toInt = 0 ∨ (1 : Int32).toInt = 1) with h8 | h8; exact Or.inl (ti_eq h8); exact Or.inr (ti_eq h8))) ⟨a14, rfl, ha14, ⟨FR.up (FR.tr (FR.up (FR.rf) (by decide) ea1) (FR.sub fa12.1 (by decide))) (by decide) ea14, fun (m9 : Nat) (l9 : m9 < 22) (h7 : ACm m9 a) => ACm.put ((fun (m9 : Nat) (l9 : m9 < 22) (h7 : ACm m9 a) => fa12.2.1 m9 (by omega) ((fun (m9 : Nat) (l9 : m9 < 22) (h7 : ACm m9 a) => ACm.up ((fun (m9 : Nat) (l9 : m9 < 22) (h7 : ACm m9 a) => h7) m9 l9 h7) ea1 (by decide)) m9 l9 h7)) m9 l9 h7) ea14 (by omega), Or.inr ⟨by rw [ea14, mU_cell (by decide)]; exact fa12.2.2.2.2.2.1, by rw [ea14, mU_cell (by decide)]; have z8 := fa12.2.2.2.2.2.2.1; rw [ea1, mU_slot (by decide)] at z8; exact z8, by rw [show a14 0 23 = a12 0 23 from by rw [ea14, mU_cell (by decide)]]; exact ACm.put fa12.2.2.2.2.2.2.2 ea14 (by omega)⟩⟩, ⟨_, rfl, by omega⟩⟩
    · skip
      refine w_const rfl ?_
      exact wp_iret (z := true) rfl (fun _ => by first | exact Or.inl rfl | exact Or.inr rfl | (rcases (by omega : (0 : Int32).toInt = 0 ∨ (0 : Int32).toInt = 1) with h8 | h8; exact Or.inl (ti_eq h8); exact Or.inr (ti_eq h8))) ⟨a1, rfl, ha1, ⟨FR.up (FR.rf) (by decide) ea1, fun (m9 : Nat) (l9 : m9 < 22) (h7 : ACm m9 a) => ACm.up ((fun (m9 : Nat) (l9 : m9 < 22) (h7 : ACm m9 a) => h7) m9 l9 h7) ea1 (by decide), Or.inl (by rw [ea1, mU_slot (by decide)]; exact Int.le_refl _)⟩, ⟨_, rfl, by omega⟩⟩
set_option maxRecDepth 4000 in
theorem s_ends {K : Nat} (a : Nat → Nat → Int32) (b : Nat → Nat → Int64)  (hR : RM K a) (hA : AC a 0) : f_call mtM 5 70 [.inr (.inr (some 0))] (mH a b) (fun v9 h' => ∃ (a' : Nat → Nat → Int32), h' = mH a' b ∧ RM K a' ∧ (FR [0, 15, 17] a a' ∧ (∀ m9, m9 < 21 → ACm m9 a → ACm m9 a') ∧ True) ∧ ∃ x : Int32, v9 = some (.inl x) ∧ True) := by
  refine f_call_of (d0 := 4) rfl (Nat.le_of_ble_eq_true rfl) (fun d hd => ?_)
  show f_wp _ (0, [some (.inr (.inr (some 0))), none, none, none], [], mH a b) _
  have lm1 : (-1 : Int32).toInt = -1 := rfl
  have l0 : (0 : Int32).toInt = 0 := rfl
  have l1 : (1 : Int32).toInt = 1 := rfl
  have l1260 : (1260 : Int32).toInt = 1260 := rfl
  refine w_aload rfl rfl ?_
  refine w_const rfl ?_
  refine m_putI (z := false) rfl rfl rfl rfl (by first | (intro h9; cases h9; done) | (intro _; first | exact Or.inl rfl | exact Or.inr rfl | assumption)) (fun a1 ea1 => ?_)
  have ha1 : RM K a1 := RM.up hR ea1 ⟨ti_lo _, ti_hi _⟩
  have ua1_0 : a1 0 0 = (0 : Int32) := by rw [ea1, mU_same]
  have wa1_0 := congrArg Int32.toInt ua1_0
  refine w_aload rfl rfl ?_
  refine w_const rfl ?_
  refine w_invV (rest := []) rfl rfl rfl rfl rfl (Nat.le_of_ble_eq_true rfl) rfl (by omega) (s_starts (K := K) a1 b  1260 ha1 (by omega)) (fun v2 h9 hq3 => ?_)
  obtain ⟨a4, rfl, ha4, fa4, rfl⟩ := hq3
  show f_wp _ (12, [some (.inr (.inr (some 0))), none, none, none], [], mH a4 b) _
  refine w_const rfl ?_
  refine w_istore (lo' := [some (.inr (.inr (some 0))), some (.inl 0), none, none]) rfl rfl ?_
  refine w_const rfl ?_
  refine w_istore (lo' := [some (.inr (.inr (some 0))), some (.inl 0), some (.inl 0), none]) rfl rfl ?_
  have loop16 : ∀ (ms9 : Nat) (sm : Int32) (r : Int32) (a16 : Nat → Nat → Int32) (o3_16 : Option f_V), (6 - r.toInt).toNat = ms9 → RM K a16 → FR [0, 15, 17] a a16 → (∀ m9, m9 < 21 → ACm m9 a → ACm m9 a16) → (0 ≤ r.toInt ∧ r.toInt ≤ 6) → (AC a16 1260) → f_wp (f_code (t_X13_ends (f_ev mtM d))) (16, [some (.inr (.inr (some 0))), some (.inl sm), some (.inl r), o3_16], [], mH a16 b) (fun v9 h' => ∃ (a' : Nat → Nat → Int32), h' = mH a' b ∧ RM K a' ∧ (FR [0, 15, 17] a a' ∧ (∀ m9, m9 < 21 → ACm m9 a → ACm m9 a') ∧ True) ∧ ∃ x : Int32, v9 = some (.inl x) ∧ True) := by
    intro ms9
    induction ms9 using Nat.strongRecOn with
    | _ ms16 ih16 =>
      intro sm r a16 o3_16 hm16 hR16 hF16 hC16 hr hD16
      refine w_iload rfl rfl ?_
      refine w_aload rfl rfl ?_
      refine w_invV (rest := [.inl r]) rfl rfl rfl rfl rfl (Nat.le_of_ble_eq_true rfl) rfl (by omega) (s_rivers (K := K) a16 b   hR16 ) (fun v5 h9 hq6 => ?_)
      obtain ⟨rfl, x7, rfl, px7⟩ := hq6
      show f_wp _ (21, [some (.inr (.inr (some 0))), some (.inl sm), some (.inl r), o3_16], [.inl x7, .inl r], mH a16 b) _
      refine w_ic_ge rfl (fun c8 => ?_) (fun c8 => ?_)
      · skip
        refine w_const rfl ?_
        refine w_aload rfl rfl ?_
        refine w_invV (rest := [.inl 1]) rfl rfl rfl rfl rfl (Nat.le_of_ble_eq_true rfl) rfl (by omega) (s_rivers (K := K) a16 b   hR16 ) (fun v9 h9 hq10 => ?_)
        obtain ⟨rfl, x11, rfl, px11⟩ := hq10
        show f_wp _ (60, [some (.inr (.inr (some 0))), some (.inl sm), some (.inl r), o3_16], [.inl x11, .inl 1], mH a16 b) _
        refine w_iiE rfl (fun x12 tx12 => ?_)
        refine w_const rfl ?_
        first | refine w_isub rfl (by omega) (fun x13 tx13 => ?_) | refine w_iiU rfl (fun x13 tx13 => ?_)
        refine w_iload rfl rfl ?_
        refine w_const rfl ?_
        refine w_iiE rfl (fun x14 tx14 => ?_)
        refine w_iiE rfl (fun x15 tx15 => ?_)
        exact wp_iret (z := false) rfl (fun h9 => by cases h9) ⟨a16, rfl, hR16, ⟨hF16, hC16, trivial⟩, ⟨_, rfl, trivial⟩⟩
      · skip
        refine w_aload rfl rfl ?_
        refine w_const rfl ?_
        refine w_iload rfl rfl ?_
        refine w_invV (rest := []) rfl rfl rfl rfl rfl (Nat.le_of_ble_eq_true rfl) rfl (by omega) (s_mayOf (K := K) a16 b  1260 r hR16 (by omega) (by omega) ((hD16))) (fun v16 h9 hq17 => ?_)
        obtain ⟨a18, rfl, ha18, fa18, x19, rfl, px19⟩ := hq17
        show f_wp _ (32, [some (.inr (.inr (some 0))), some (.inl sm), some (.inl r), o3_16], [.inl x19], mH a18 b) _
        refine w_istore (lo' := [some (.inr (.inr (some 0))), some (.inl sm), some (.inl r), some (.inl x19)]) rfl rfl ?_
        refine w_iload rfl rfl ?_
        refine w_iload rfl rfl ?_
        refine w_if_ne rfl (fun c20 => ?_) (fun c20 => ?_)
        · skip
          refine w_const rfl ?_
          refine w_goto rfl ?_
          refine w_iiE rfl (fun x21 tx21 => ?_)
          refine w_istore (lo' := [some (.inr (.inr (some 0))), some (.inl x21), some (.inl r), some (.inl x19)]) rfl rfl ?_
          refine w_iinc (lo' := fun z9 => [some (.inr (.inr (some 0))), some (.inl x21), some (.inl z9), some (.inl x19)]) rfl rfl (fun _ => rfl) (by omega) (fun x22 tx22 => ?_)
          refine w_goto rfl ?_
          exact ih16 (6 - x22.toInt).toNat (by omega) x21 x22 a18 (some (.inl x19)) rfl ha18 (FR.tr (hF16) (FR.sub fa18.1 (by decide))) (fun (m9 : Nat) (l9 : m9 < 21) (h7 : ACm m9 a) => ACm.fr ((hC16) m9 l9 h7) fa18.1 (by decide)) (by omega) ((ACm.fr (m := 21) (hD16) fa18.1 (by decide)))
        · skip
          refine w_iload rfl rfl ?_
          refine w_const rfl ?_
          refine w_iload rfl rfl ?_
          refine w_iiE rfl (fun x23 tx23 => ?_)
          refine w_iiE rfl (fun x24 tx24 => ?_)
          refine w_iiE rfl (fun x25 tx25 => ?_)
          refine w_istore (lo' := [some (.inr (.inr (some 0))), some (.inl x25), some (.inl r), some (.inl x19)]) rfl rfl ?_
          refine w_iinc (lo' := fun z9 => [some (.inr (.inr (some 0))), some (.inl x25), some (.inl z9), some (.inl x19)]) rfl rfl (fun _ => rfl) (by omega) (fun x26 tx26 => ?_)
          refine w_goto rfl ?_
          exact ih16 (6 - x26.toInt).toNat (by omega) x25 x26 a18 (some (.inl x19)) rfl ha18 (FR.tr (hF16) (FR.sub fa18.1 (by decide))) (fun (m9 : Nat) (l9 : m9 < 21) (h7 : ACm m9 a) => ACm.fr ((hC16) m9 l9 h7) fa18.1 (by decide)) (by omega) ((ACm.fr (m := 21) (hD16) fa18.1 (by decide)))
  exact loop16 _ 0 0 a4 none rfl ha4 (FR.tr (FR.up (FR.rf) (by decide) ea1) (FR.sub fa4.1 (by decide))) (fun (m9 : Nat) (l9 : m9 < 21) (h7 : ACm m9 a) => fa4.2.1 m9 (by omega) ((fun (m9 : Nat) (l9 : m9 < 21) (h7 : ACm m9 a) => ACm.up ((fun (m9 : Nat) (l9 : m9 < 21) (h7 : ACm m9 a) => h7) m9 l9 h7) ea1 (by decide)) m9 l9 h7)) (by omega) ((AC.start (fun r9 h8 => fa4.2.2.2 r9 h8)))
set_option maxRecDepth 4000 in
theorem s_wornBy {K : Nat} (a : Nat → Nat → Int32) (b : Nat → Nat → Int64) (r : Int32) (s : Int32) (hR : RM K a) (hr : 0 ≤ r.toInt ∧ r.toInt < 6) (hs : 0 ≤ s.toInt ∧ s.toInt < 6) : f_call mtM 3 80 [.inr (.inr (some 0)), .inl r, .inl s] (mH a b) (fun v9 h' => h' = mH a b ∧ ∃ x : Int32, v9 = some (.inl x) ∧ True) := by
  refine f_call_of (d0 := 2) rfl (Nat.le_of_ble_eq_true rfl) (fun d hd => ?_)
  show f_wp _ (0, [some (.inr (.inr (some 0))), some (.inl r), some (.inl s), none, none, none], [], mH a b) _
  have lm1 : (-1 : Int32).toInt = -1 := rfl
  have l0 : (0 : Int32).toInt = 0 := rfl
  have l1 : (1 : Int32).toInt = 1 := rfl
  have l4 : (4 : Int32).toInt = 4 := rfl
  have l10 : (10 : Int32).toInt = 10 := rfl
  have l400 : (400 : Int32).toInt = 400 := rfl
  refine w_aload rfl rfl ?_
  refine w_iload rfl rfl ?_
  refine w_iload rfl rfl ?_
  refine w_invV (rest := []) rfl rfl rfl rfl rfl (Nat.le_of_ble_eq_true rfl) rfl (by omega) (s_between (K := K) a b  r s hR (by omega) (by omega)) (fun v1 h9 hq2 => ?_)
  obtain ⟨rfl, x3, rfl, px3⟩ := hq2
  show f_wp _ (6, [some (.inr (.inr (some 0))), some (.inl r), some (.inl s), none, none, none], [.inl x3], mH a b) _
  refine w_istore (lo' := [some (.inr (.inr (some 0))), some (.inl r), some (.inl s), some (.inl x3), none, none]) rfl rfl ?_
  refine w_const rfl ?_
  refine w_istore (lo' := [some (.inr (.inr (some 0))), some (.inl r), some (.inl s), some (.inl x3), some (.inl 0), none]) rfl rfl ?_
  have loop10 : ∀ (ms9 : Nat) (th : Int32) (n : Int32) (o5_10 : Option f_V), (400 - n.toInt).toNat = ms9 → (0 ≤ n.toInt ∧ n.toInt ≤ 400) → f_wp (f_code (t_X13_wornBy (f_ev mtM d))) (10, [some (.inr (.inr (some 0))), some (.inl r), some (.inl s), some (.inl th), some (.inl n), o5_10], [], mH a b) (fun v9 h' => h' = mH a b ∧ ∃ x : Int32, v9 = some (.inl x) ∧ True) := by
    intro ms9
    induction ms9 using Nat.strongRecOn with
    | _ ms10 ih10 =>
      intro th n o5_10 hm10 hn
      refine w_iload rfl rfl ?_
      refine w_if_le rfl (fun c4 => ?_) (fun c4 => ?_)
      · skip
        refine w_iload rfl rfl ?_
        refine w_if_le rfl (fun c5 => ?_) (fun c5 => ?_)
        · skip
          refine w_iload rfl rfl ?_
          exact wp_iret (z := false) rfl (fun h9 => by cases h9) ⟨rfl, ⟨_, rfl, trivial⟩⟩
        · skip
          refine w_const rfl ?_
          refine w_goto rfl ?_
          exact wp_iret (z := false) rfl (fun h9 => by cases h9) ⟨rfl, ⟨_, rfl, trivial⟩⟩
      · skip
        refine w_iload rfl rfl ?_
        refine w_const rfl ?_
        refine w_ic_ge rfl (fun c6 => ?_) (fun c6 => ?_)
        · skip
          refine w_iload rfl rfl ?_
          refine w_if_le rfl (fun c7 => ?_) (fun c7 => ?_)
          · skip
            refine w_iload rfl rfl ?_
            exact wp_iret (z := false) rfl (fun h9 => by cases h9) ⟨rfl, ⟨_, rfl, trivial⟩⟩
          · skip
            refine w_const rfl ?_
            refine w_goto rfl ?_
            exact wp_iret (z := false) rfl (fun h9 => by cases h9) ⟨rfl, ⟨_, rfl, trivial⟩⟩
        · skip
          refine w_aload rfl rfl ?_
          refine w_getR (v := .inr (.inr (some 15))) rfl rfl rfl rfl rfl ?_
          refine w_const rfl ?_
          refine m_iald rfl rfl (by omega) (fun x8 ex8 => ?_)
          have u9 : 0 ≤ x8.toInt ∧ x8.toInt ≤ 100 * K ∧ x8.toInt ≤ 1000000 := by rw [ex8]; exact RM.now hR (by decide)
          refine w_iload rfl rfl ?_
          first | refine w_iadd rfl (by omega) (fun x9 tx9 => ?_) | refine w_iiU rfl (fun x9 tx9 => ?_)
          refine w_const rfl ?_
          refine w_irem (c := 4) rfl rfl (by decide) (by omega) (fun x10 tx10 => ?_)
          refine w_istore (lo' := [some (.inr (.inr (some 0))), some (.inl r), some (.inl s), some (.inl th), some (.inl n), some (.inl x10)]) rfl rfl ?_
          refine w_iload rfl rfl ?_
          refine w_aload rfl rfl ?_
          refine w_iload rfl rfl ?_
          refine w_const rfl ?_
          refine w_iload rfl rfl ?_
          first | refine w_iadd rfl (by omega) (fun x11 tx11 => ?_) | refine w_iiU rfl (fun x11 tx11 => ?_)
          refine w_invV (rest := [.inl th]) rfl rfl rfl rfl rfl (Nat.le_of_ble_eq_true rfl) rfl (by omega) (s_riverOf (K := K) a b  r x11  (by omega) (by omega)) (fun v12 h9 hq13 => ?_)
          obtain ⟨rfl, x14, rfl, px14⟩ := hq13
          show f_wp _ (45, [some (.inr (.inr (some 0))), some (.inl r), some (.inl s), some (.inl th), some (.inl n), some (.inl x10)], [.inl x14, .inl th], mH a b) _
          have u9 : 0 ≤ x14.toInt ∧ x14.toInt ≤ 99 := by rw [px14]; exact RM.water hR (by omega) (by omega)
          refine w_aload rfl rfl ?_
          refine w_iload rfl rfl ?_
          refine w_const rfl ?_
          refine w_iload rfl rfl ?_
          first | refine w_iadd rfl (by omega) (fun x15 tx15 => ?_) | refine w_iiU rfl (fun x15 tx15 => ?_)
          refine w_invV (rest := [.inl x14, .inl th]) rfl rfl rfl rfl rfl (Nat.le_of_ble_eq_true rfl) rfl (by omega) (s_riverOf (K := K) a b  s x15  (by omega) (by omega)) (fun v16 h9 hq17 => ?_)
          obtain ⟨rfl, x18, rfl, px18⟩ := hq17
          show f_wp _ (54, [some (.inr (.inr (some 0))), some (.inl r), some (.inl s), some (.inl th), some (.inl n), some (.inl x10)], [.inl x18, .inl x14, .inl th], mH a b) _
          have u9 : 0 ≤ x18.toInt ∧ x18.toInt ≤ 99 := by rw [px18]; exact RM.water hR (by omega) (by omega)
          first | refine w_iadd rfl (by omega) (fun x19 tx19 => ?_) | refine w_iiU rfl (fun x19 tx19 => ?_)
          refine w_const rfl ?_
          refine w_idiv (c := 10) rfl rfl (by decide) (by omega) (fun x20 tx20 => ?_)
          first | refine w_isub rfl (by omega) (fun x21 tx21 => ?_) | refine w_iiU rfl (fun x21 tx21 => ?_)
          refine w_istore (lo' := [some (.inr (.inr (some 0))), some (.inl r), some (.inl s), some (.inl x21), some (.inl n), some (.inl x10)]) rfl rfl ?_
          refine w_iinc (lo' := fun z9 => [some (.inr (.inr (some 0))), some (.inl r), some (.inl s), some (.inl x21), some (.inl z9), some (.inl x10)]) rfl rfl (fun _ => rfl) (by omega) (fun x22 tx22 => ?_)
          refine w_goto rfl ?_
          exact ih10 (400 - x22.toInt).toNat (by omega) x21 x22 (some (.inl x10)) rfl  (by omega)
  exact loop10 _ x3 0 none rfl  (by omega)
set_option maxRecDepth 4000 in
theorem s_worn {K : Nat} (a : Nat → Nat → Int32) (b : Nat → Nat → Int64) (r : Int32) (s : Int32) (hR : RM K a)  : f_call mtM 4 81 [.inr (.inr (some 0)), .inl r, .inl s] (mH a b) (fun v9 h' => ∃ (a' : Nat → Nat → Int32), h' = mH a' b ∧ RM K a' ∧ (FR [0] a a' ∧ True) ∧ ∃ x : Int32, v9 = some (.inl x) ∧ True) := by
  refine f_call_of (d0 := 3) rfl (Nat.le_of_ble_eq_true rfl) (fun d hd => ?_)
  show f_wp _ (0, [some (.inr (.inr (some 0))), some (.inl r), some (.inl s)], [], mH a b) _
  have lm1 : (-1 : Int32).toInt = -1 := rfl
  have l0 : (0 : Int32).toInt = 0 := rfl
  refine w_aload rfl rfl ?_
  refine w_const rfl ?_
  refine m_putI (z := false) rfl rfl rfl rfl (by first | (intro h9; cases h9; done) | (intro _; first | exact Or.inl rfl | exact Or.inr rfl | assumption)) (fun a1 ea1 => ?_)
  have ha1 : RM K a1 := RM.up hR ea1 ⟨ti_lo _, ti_hi _⟩
  have ua1_0 : a1 0 0 = (0 : Int32) := by rw [ea1, mU_same]
  have wa1_0 := congrArg Int32.toInt ua1_0
  refine w_aload rfl rfl ?_
  refine w_iload rfl rfl ?_
  refine w_invV (rest := []) rfl rfl rfl rfl rfl (Nat.le_of_ble_eq_true rfl) rfl (by omega) (s_isRiver (K := K) a1 b  r ha1 ) (fun v2 h9 hq3 => ?_)
  obtain ⟨rfl, x4, rfl, px4⟩ := hq3
  show f_wp _ (10, [some (.inr (.inr (some 0))), some (.inl r), some (.inl s)], [.inl x4], mH a1 b) _
  refine w_if_eq rfl (fun c5 => ?_) (fun c5 => ?_)
  · skip
    refine w_const rfl ?_
    exact wp_iret (z := false) rfl (fun h9 => by cases h9) ⟨a1, rfl, ha1, ⟨FR.up (FR.rf) (by decide) ea1, trivial⟩, ⟨_, rfl, trivial⟩⟩
  · skip
    refine w_aload rfl rfl ?_
    refine w_iload rfl rfl ?_
    refine w_invV (rest := []) rfl rfl rfl rfl rfl (Nat.le_of_ble_eq_true rfl) rfl (by omega) (s_isRiver (K := K) a1 b  s ha1 ) (fun v6 h9 hq7 => ?_)
    obtain ⟨rfl, x8, rfl, px8⟩ := hq7
    show f_wp _ (18, [some (.inr (.inr (some 0))), some (.inl r), some (.inl s)], [.inl x8], mH a1 b) _
    refine w_if_eq rfl (fun c9 => ?_) (fun c9 => ?_)
    · skip
      refine w_const rfl ?_
      exact wp_iret (z := false) rfl (fun h9 => by cases h9) ⟨a1, rfl, ha1, ⟨FR.up (FR.rf) (by decide) ea1, trivial⟩, ⟨_, rfl, trivial⟩⟩
    · skip
      refine w_iload rfl rfl ?_
      refine w_iload rfl rfl ?_
      refine w_ic_eq rfl (fun c10 => ?_) (fun c10 => ?_)
      · skip
        refine w_const rfl ?_
        exact wp_iret (z := false) rfl (fun h9 => by cases h9) ⟨a1, rfl, ha1, ⟨FR.up (FR.rf) (by decide) ea1, trivial⟩, ⟨_, rfl, trivial⟩⟩
      · skip
        refine w_aload rfl rfl ?_
        refine w_iload rfl rfl ?_
        refine w_iload rfl rfl ?_
        refine w_invV (rest := []) rfl rfl rfl rfl rfl (Nat.le_of_ble_eq_true rfl) rfl (by omega) (s_wornBy (K := K) a1 b  r s ha1 (by omega) (by omega)) (fun v11 h9 hq12 => ?_)
        obtain ⟨rfl, x13, rfl, px13⟩ := hq12
        show f_wp _ (32, [some (.inr (.inr (some 0))), some (.inl r), some (.inl s)], [.inl x13], mH a1 b) _
        refine w_goto rfl ?_
        exact wp_iret (z := false) rfl (fun h9 => by cases h9) ⟨a1, rfl, ha1, ⟨FR.up (FR.rf) (by decide) ea1, trivial⟩, ⟨_, rfl, trivial⟩⟩
set_option maxRecDepth 4000 in
theorem s_love {K : Nat} (a : Nat → Nat → Int32) (b : Nat → Nat → Int64) (r : Int32) (hR : RM K a)  : f_call mtM 4 82 [.inr (.inr (some 0)), .inl r] (mH a b) (fun v9 h' => ∃ (a' : Nat → Nat → Int32), h' = mH a' b ∧ RM K a' ∧ (FR [0] a a' ∧ True) ∧ ∃ x : Int32, v9 = some (.inl x) ∧ True) := by
  refine f_call_of (d0 := 3) rfl (Nat.le_of_ble_eq_true rfl) (fun d hd => ?_)
  show f_wp _ (0, [some (.inr (.inr (some 0))), some (.inl r), none, none, none, none], [], mH a b) _
  have lm1 : (-1 : Int32).toInt = -1 := rfl
  have l0 : (0 : Int32).toInt = 0 := rfl
  have l1 : (1 : Int32).toInt = 1 := rfl
  refine w_aload rfl rfl ?_
  refine w_const rfl ?_
  refine m_putI (z := false) rfl rfl rfl rfl (by first | (intro h9; cases h9; done) | (intro _; first | exact Or.inl rfl | exact Or.inr rfl | assumption)) (fun a1 ea1 => ?_)
  have ha1 : RM K a1 := RM.up hR ea1 ⟨ti_lo _, ti_hi _⟩
  have ua1_0 : a1 0 0 = (0 : Int32) := by rw [ea1, mU_same]
  have wa1_0 := congrArg Int32.toInt ua1_0
  refine w_const rfl ?_
  refine w_istore (lo' := [some (.inr (.inr (some 0))), some (.inl r), some (.inl (-1)), none, none, none]) rfl rfl ?_
  refine w_const rfl ?_
  refine w_istore (lo' := [some (.inr (.inr (some 0))), some (.inl r), some (.inl (-1)), some (.inl 0), none, none]) rfl rfl ?_
  refine w_const rfl ?_
  refine w_istore (lo' := [some (.inr (.inr (some 0))), some (.inl r), some (.inl (-1)), some (.inl 0), some (.inl 0), none]) rfl rfl ?_
  have loop12 : ∀ (ms9 : Nat) (best : Int32) (soon : Int32) (e : Int32) (o5_12 : Option f_V), (6 - e.toInt).toNat = ms9 → (0 ≤ e.toInt ∧ e.toInt ≤ 6) → f_wp (f_code (t_X13_love (f_ev mtM d))) (12, [some (.inr (.inr (some 0))), some (.inl r), some (.inl best), some (.inl soon), some (.inl e), o5_12], [], mH a1 b) (fun v9 h' => ∃ (a' : Nat → Nat → Int32), h' = mH a' b ∧ RM K a' ∧ (FR [0] a a' ∧ True) ∧ ∃ x : Int32, v9 = some (.inl x) ∧ True) := by
    intro ms9
    induction ms9 using Nat.strongRecOn with
    | _ ms12 ih12 =>
      intro best soon e o5_12 hm12 he
      refine w_iload rfl rfl ?_
      refine w_aload rfl rfl ?_
      refine w_invV (rest := [.inl e]) rfl rfl rfl rfl rfl (Nat.le_of_ble_eq_true rfl) rfl (by omega) (s_rivers (K := K) a1 b   ha1 ) (fun v2 h9 hq3 => ?_)
      obtain ⟨rfl, x4, rfl, px4⟩ := hq3
      show f_wp _ (18, [some (.inr (.inr (some 0))), some (.inl r), some (.inl best), some (.inl soon), some (.inl e), o5_12], [.inl x4, .inl e], mH a1 b) _
      refine w_ic_ge rfl (fun c5 => ?_) (fun c5 => ?_)
      · skip
        refine w_iload rfl rfl ?_
        exact wp_iret (z := false) rfl (fun h9 => by cases h9) ⟨a1, rfl, ha1, ⟨FR.up (FR.rf) (by decide) ea1, trivial⟩, ⟨_, rfl, trivial⟩⟩
      · skip
        refine w_aload rfl rfl ?_
        refine w_iload rfl rfl ?_
        refine w_invV (rest := []) rfl rfl rfl rfl rfl (Nat.le_of_ble_eq_true rfl) rfl (by omega) (s_isRiver (K := K) a1 b  r ha1 ) (fun v6 h9 hq7 => ?_)
        obtain ⟨rfl, x8, rfl, px8⟩ := hq7
        show f_wp _ (26, [some (.inr (.inr (some 0))), some (.inl r), some (.inl best), some (.inl soon), some (.inl e), o5_12], [.inl x8], mH a1 b) _
        refine w_if_eq rfl (fun c9 => ?_) (fun c9 => ?_)
        · skip
          refine w_iload rfl rfl ?_
          exact wp_iret (z := false) rfl (fun h9 => by cases h9) ⟨a1, rfl, ha1, ⟨FR.up (FR.rf) (by decide) ea1, trivial⟩, ⟨_, rfl, trivial⟩⟩
        · skip
          refine w_iload rfl rfl ?_
          refine w_iload rfl rfl ?_
          refine w_ic_eq rfl (fun c10 => ?_) (fun c10 => ?_)
          · skip
            refine w_const rfl ?_
            refine w_goto rfl ?_
            refine w_istore (lo' := [some (.inr (.inr (some 0))), some (.inl r), some (.inl best), some (.inl soon), some (.inl e), some (.inl (-1))]) rfl rfl ?_
            refine w_iload rfl rfl ?_
            refine w_if_lt rfl (fun c11 => ?_) (fun c11 => ?_)
            · skip
              refine w_iinc (lo' := fun z9 => [some (.inr (.inr (some 0))), some (.inl r), some (.inl best), some (.inl soon), some (.inl z9), some (.inl (-1))]) rfl rfl (fun _ => rfl) (by omega) (fun x12 tx12 => ?_)
              refine w_goto rfl ?_
              exact ih12 (6 - x12.toInt).toNat (by omega) best soon x12 (some (.inl (-1))) rfl  (by omega)
            · skip
              refine w_iload rfl rfl ?_
              refine w_if_lt rfl (fun c13 => ?_) (fun c13 => ?_)
              · skip
                refine w_iload rfl rfl ?_
                refine w_istore (lo' := [some (.inr (.inr (some 0))), some (.inl r), some (.inl e), some (.inl soon), some (.inl e), some (.inl (-1))]) rfl rfl ?_
                refine w_iload rfl rfl ?_
                refine w_istore (lo' := [some (.inr (.inr (some 0))), some (.inl r), some (.inl e), some (.inl (-1)), some (.inl e), some (.inl (-1))]) rfl rfl ?_
                refine w_iinc (lo' := fun z9 => [some (.inr (.inr (some 0))), some (.inl r), some (.inl e), some (.inl (-1)), some (.inl z9), some (.inl (-1))]) rfl rfl (fun _ => rfl) (by omega) (fun x14 tx14 => ?_)
                refine w_goto rfl ?_
                exact ih12 (6 - x14.toInt).toNat (by omega) e (-1) x14 (some (.inl (-1))) rfl  (by omega)
              · skip
                refine w_iload rfl rfl ?_
                refine w_iload rfl rfl ?_
                refine w_ic_ge rfl (fun c15 => ?_) (fun c15 => ?_)
                · skip
                  refine w_iinc (lo' := fun z9 => [some (.inr (.inr (some 0))), some (.inl r), some (.inl best), some (.inl soon), some (.inl z9), some (.inl (-1))]) rfl rfl (fun _ => rfl) (by omega) (fun x16 tx16 => ?_)
                  refine w_goto rfl ?_
                  exact ih12 (6 - x16.toInt).toNat (by omega) best soon x16 (some (.inl (-1))) rfl  (by omega)
                · skip
                  refine w_iload rfl rfl ?_
                  refine w_istore (lo' := [some (.inr (.inr (some 0))), some (.inl r), some (.inl e), some (.inl soon), some (.inl e), some (.inl (-1))]) rfl rfl ?_
                  refine w_iload rfl rfl ?_
                  refine w_istore (lo' := [some (.inr (.inr (some 0))), some (.inl r), some (.inl e), some (.inl (-1)), some (.inl e), some (.inl (-1))]) rfl rfl ?_
                  refine w_iinc (lo' := fun z9 => [some (.inr (.inr (some 0))), some (.inl r), some (.inl e), some (.inl (-1)), some (.inl z9), some (.inl (-1))]) rfl rfl (fun _ => rfl) (by omega) (fun x17 tx17 => ?_)
                  refine w_goto rfl ?_
                  exact ih12 (6 - x17.toInt).toNat (by omega) e (-1) x17 (some (.inl (-1))) rfl  (by omega)
          · skip
            refine w_aload rfl rfl ?_
            refine w_iload rfl rfl ?_
            refine w_iload rfl rfl ?_
            refine w_invV (rest := []) rfl rfl rfl rfl rfl (Nat.le_of_ble_eq_true rfl) rfl (by omega) (s_between (K := K) a1 b  r e ha1 (by omega) (by omega)) (fun v18 h9 hq19 => ?_)
            obtain ⟨rfl, x20, rfl, px20⟩ := hq19
            show f_wp _ (42, [some (.inr (.inr (some 0))), some (.inl r), some (.inl best), some (.inl soon), some (.inl e), o5_12], [.inl x20], mH a1 b) _
            refine w_if_ne rfl (fun c21 => ?_) (fun c21 => ?_)
            · skip
              refine w_const rfl ?_
              refine w_goto rfl ?_
              refine w_istore (lo' := [some (.inr (.inr (some 0))), some (.inl r), some (.inl best), some (.inl soon), some (.inl e), some (.inl (-1))]) rfl rfl ?_
              refine w_iload rfl rfl ?_
              refine w_if_lt rfl (fun c22 => ?_) (fun c22 => ?_)
              · skip
                refine w_iinc (lo' := fun z9 => [some (.inr (.inr (some 0))), some (.inl r), some (.inl best), some (.inl soon), some (.inl z9), some (.inl (-1))]) rfl rfl (fun _ => rfl) (by omega) (fun x23 tx23 => ?_)
                refine w_goto rfl ?_
                exact ih12 (6 - x23.toInt).toNat (by omega) best soon x23 (some (.inl (-1))) rfl  (by omega)
              · skip
                refine w_iload rfl rfl ?_
                refine w_if_lt rfl (fun c24 => ?_) (fun c24 => ?_)
                · skip
                  refine w_iload rfl rfl ?_
                  refine w_istore (lo' := [some (.inr (.inr (some 0))), some (.inl r), some (.inl e), some (.inl soon), some (.inl e), some (.inl (-1))]) rfl rfl ?_
                  refine w_iload rfl rfl ?_
                  refine w_istore (lo' := [some (.inr (.inr (some 0))), some (.inl r), some (.inl e), some (.inl (-1)), some (.inl e), some (.inl (-1))]) rfl rfl ?_
                  refine w_iinc (lo' := fun z9 => [some (.inr (.inr (some 0))), some (.inl r), some (.inl e), some (.inl (-1)), some (.inl z9), some (.inl (-1))]) rfl rfl (fun _ => rfl) (by omega) (fun x25 tx25 => ?_)
                  refine w_goto rfl ?_
                  exact ih12 (6 - x25.toInt).toNat (by omega) e (-1) x25 (some (.inl (-1))) rfl  (by omega)
                · skip
                  refine w_iload rfl rfl ?_
                  refine w_iload rfl rfl ?_
                  refine w_ic_ge rfl (fun c26 => ?_) (fun c26 => ?_)
                  · skip
                    refine w_iinc (lo' := fun z9 => [some (.inr (.inr (some 0))), some (.inl r), some (.inl best), some (.inl soon), some (.inl z9), some (.inl (-1))]) rfl rfl (fun _ => rfl) (by omega) (fun x27 tx27 => ?_)
                    refine w_goto rfl ?_
                    exact ih12 (6 - x27.toInt).toNat (by omega) best soon x27 (some (.inl (-1))) rfl  (by omega)
                  · skip
                    refine w_iload rfl rfl ?_
                    refine w_istore (lo' := [some (.inr (.inr (some 0))), some (.inl r), some (.inl e), some (.inl soon), some (.inl e), some (.inl (-1))]) rfl rfl ?_
                    refine w_iload rfl rfl ?_
                    refine w_istore (lo' := [some (.inr (.inr (some 0))), some (.inl r), some (.inl e), some (.inl (-1)), some (.inl e), some (.inl (-1))]) rfl rfl ?_
                    refine w_iinc (lo' := fun z9 => [some (.inr (.inr (some 0))), some (.inl r), some (.inl e), some (.inl (-1)), some (.inl z9), some (.inl (-1))]) rfl rfl (fun _ => rfl) (by omega) (fun x28 tx28 => ?_)
                    refine w_goto rfl ?_
                    exact ih12 (6 - x28.toInt).toNat (by omega) e (-1) x28 (some (.inl (-1))) rfl  (by omega)
            · skip
              refine w_aload rfl rfl ?_
              refine w_iload rfl rfl ?_
              refine w_iload rfl rfl ?_
              refine w_invV (rest := []) rfl rfl rfl rfl rfl (Nat.le_of_ble_eq_true rfl) rfl (by omega) (s_wornBy (K := K) a1 b  r e ha1 (by omega) (by omega)) (fun v29 h9 hq30 => ?_)
              obtain ⟨rfl, x31, rfl, px31⟩ := hq30
              show f_wp _ (56, [some (.inr (.inr (some 0))), some (.inl r), some (.inl best), some (.inl soon), some (.inl e), o5_12], [.inl x31], mH a1 b) _
              refine w_istore (lo' := [some (.inr (.inr (some 0))), some (.inl r), some (.inl best), some (.inl soon), some (.inl e), some (.inl x31)]) rfl rfl ?_
              refine w_iload rfl rfl ?_
              refine w_if_lt rfl (fun c32 => ?_) (fun c32 => ?_)
              · skip
                refine w_iinc (lo' := fun z9 => [some (.inr (.inr (some 0))), some (.inl r), some (.inl best), some (.inl soon), some (.inl z9), some (.inl x31)]) rfl rfl (fun _ => rfl) (by omega) (fun x33 tx33 => ?_)
                refine w_goto rfl ?_
                exact ih12 (6 - x33.toInt).toNat (by omega) best soon x33 (some (.inl x31)) rfl  (by omega)
              · skip
                refine w_iload rfl rfl ?_
                refine w_if_lt rfl (fun c34 => ?_) (fun c34 => ?_)
                · skip
                  refine w_iload rfl rfl ?_
                  refine w_istore (lo' := [some (.inr (.inr (some 0))), some (.inl r), some (.inl e), some (.inl soon), some (.inl e), some (.inl x31)]) rfl rfl ?_
                  refine w_iload rfl rfl ?_
                  refine w_istore (lo' := [some (.inr (.inr (some 0))), some (.inl r), some (.inl e), some (.inl x31), some (.inl e), some (.inl x31)]) rfl rfl ?_
                  refine w_iinc (lo' := fun z9 => [some (.inr (.inr (some 0))), some (.inl r), some (.inl e), some (.inl x31), some (.inl z9), some (.inl x31)]) rfl rfl (fun _ => rfl) (by omega) (fun x35 tx35 => ?_)
                  refine w_goto rfl ?_
                  exact ih12 (6 - x35.toInt).toNat (by omega) e x31 x35 (some (.inl x31)) rfl  (by omega)
                · skip
                  refine w_iload rfl rfl ?_
                  refine w_iload rfl rfl ?_
                  refine w_ic_ge rfl (fun c36 => ?_) (fun c36 => ?_)
                  · skip
                    refine w_iinc (lo' := fun z9 => [some (.inr (.inr (some 0))), some (.inl r), some (.inl best), some (.inl soon), some (.inl z9), some (.inl x31)]) rfl rfl (fun _ => rfl) (by omega) (fun x37 tx37 => ?_)
                    refine w_goto rfl ?_
                    exact ih12 (6 - x37.toInt).toNat (by omega) best soon x37 (some (.inl x31)) rfl  (by omega)
                  · skip
                    refine w_iload rfl rfl ?_
                    refine w_istore (lo' := [some (.inr (.inr (some 0))), some (.inl r), some (.inl e), some (.inl soon), some (.inl e), some (.inl x31)]) rfl rfl ?_
                    refine w_iload rfl rfl ?_
                    refine w_istore (lo' := [some (.inr (.inr (some 0))), some (.inl r), some (.inl e), some (.inl x31), some (.inl e), some (.inl x31)]) rfl rfl ?_
                    refine w_iinc (lo' := fun z9 => [some (.inr (.inr (some 0))), some (.inl r), some (.inl e), some (.inl x31), some (.inl z9), some (.inl x31)]) rfl rfl (fun _ => rfl) (by omega) (fun x38 tx38 => ?_)
                    refine w_goto rfl ?_
                    exact ih12 (6 - x38.toInt).toNat (by omega) e x31 x38 (some (.inl x31)) rfl  (by omega)
  exact loop12 _ (-1) 0 0 none rfl  (by omega)
set_option maxRecDepth 4000 in
theorem s_hyphen {K : Nat} (a : Nat → Nat → Int32) (b : Nat → Nat → Int64) (r : Int32) (hR : RM K a) (hA : AC a 0) : f_call mtM 10 83 [.inr (.inr (some 0)), .inl r] (mH a b) (fun v9 h' => ∃ (a' : Nat → Nat → Int32), h' = mH a' b ∧ RM K a' ∧ (FR [0] a a' ∧ True) ∧ ∃ x : Int32, v9 = some (.inl x) ∧ True) := by
  refine f_call_of (d0 := 9) rfl (Nat.le_of_ble_eq_true rfl) (fun d hd => ?_)
  show f_wp _ (0, [some (.inr (.inr (some 0))), some (.inl r), none, none, none], [], mH a b) _
  have lm1 : (-1 : Int32).toInt = -1 := rfl
  have l0 : (0 : Int32).toInt = 0 := rfl
  have l1 : (1 : Int32).toInt = 1 := rfl
  have l13 : (13 : Int32).toInt = 13 := rfl
  refine w_aload rfl rfl ?_
  refine w_const rfl ?_
  refine m_putI (z := false) rfl rfl rfl rfl (by first | (intro h9; cases h9; done) | (intro _; first | exact Or.inl rfl | exact Or.inr rfl | assumption)) (fun a1 ea1 => ?_)
  have ha1 : RM K a1 := RM.up hR ea1 ⟨ti_lo _, ti_hi _⟩
  have ua1_0 : a1 0 0 = (0 : Int32) := by rw [ea1, mU_same]
  have wa1_0 := congrArg Int32.toInt ua1_0
  refine w_aload rfl rfl ?_
  refine w_iload rfl rfl ?_
  refine w_invV (rest := []) rfl rfl rfl rfl rfl (Nat.le_of_ble_eq_true rfl) rfl (by omega) (s_isRiver (K := K) a1 b  r ha1 ) (fun v2 h9 hq3 => ?_)
  obtain ⟨rfl, x4, rfl, px4⟩ := hq3
  show f_wp _ (10, [some (.inr (.inr (some 0))), some (.inl r), none, none, none], [.inl x4], mH a1 b) _
  refine w_if_ne rfl (fun c5 => ?_) (fun c5 => ?_)
  · skip
    refine w_const rfl ?_
    exact wp_iret (z := false) rfl (fun h9 => by cases h9) ⟨a1, rfl, ha1, ⟨FR.up (FR.rf) (by decide) ea1, trivial⟩, ⟨_, rfl, trivial⟩⟩
  · skip
    refine w_aload rfl rfl ?_
    refine w_const rfl ?_
    refine w_iload rfl rfl ?_
    refine w_aload rfl rfl ?_
    refine w_iload rfl rfl ?_
    refine w_invV (rest := [.inl r, .inl 0, .inr (.inr (some 0))]) rfl rfl rfl rfl rfl (Nat.le_of_ble_eq_true rfl) rfl (by omega) (s_mouthOf (K := K) a1 b  r ha1 (by omega)) (fun v6 h9 hq7 => ?_)
    obtain ⟨rfl, x8, rfl, px8⟩ := hq7
    show f_wp _ (23, [some (.inr (.inr (some 0))), some (.inl r), none, none, none], [.inl x8, .inl r, .inl 0, .inr (.inr (some 0))], mH a1 b) _
    refine w_invV (rest := []) rfl rfl rfl rfl rfl (Nat.le_of_ble_eq_true rfl) rfl (by omega) (s_watersAt (K := K) a1 b  0 r x8 ha1 (by omega) (by omega) (((fun (m9 : Nat) (l9 : m9 < 22) (h7 : ACm m9 a) => ACm.up ((fun (m9 : Nat) (l9 : m9 < 22) (h7 : ACm m9 a) => h7) m9 l9 h7) ea1 (by decide)) 0 (by decide) hA))) (fun v9 h9 hq10 => ?_)
    obtain ⟨rfl, x11, rfl, px11⟩ := hq10
    show f_wp _ (26, [some (.inr (.inr (some 0))), some (.inl r), none, none, none], [.inl x11], mH a1 b) _
    refine w_istore (lo' := [some (.inr (.inr (some 0))), some (.inl r), some (.inl x11), none, none]) rfl rfl ?_
    refine w_iload rfl rfl ?_
    refine w_invS (rest := []) rfl (Nat.le_of_ble_eq_true rfl) rfl (Nat.le_of_ble_eq_true rfl) rfl (by omega) (s_bits (K := K) a1 b  x11  ) (fun v12 h9 hq13 => ?_)
    obtain ⟨rfl, x14, rfl, px14⟩ := hq13
    show f_wp _ (31, [some (.inr (.inr (some 0))), some (.inl r), some (.inl x11), none, none], [.inl x14], mH a1 b) _
    refine w_const rfl ?_
    first | refine w_isub rfl (by omega) (fun x15 tx15 => ?_) | refine w_iiU rfl (fun x15 tx15 => ?_)
    refine w_istore (lo' := [some (.inr (.inr (some 0))), some (.inl r), some (.inl x11), some (.inl x15), none]) rfl rfl ?_
    refine w_const rfl ?_
    refine w_istore (lo' := [some (.inr (.inr (some 0))), some (.inl r), some (.inl x11), some (.inl x15), some (.inl 0)]) rfl rfl ?_
    have loop37 : ∀ (ms9 : Nat) (sum : Int32) (w : Int32) , (6 - w.toInt).toNat = ms9 → (0 ≤ w.toInt ∧ w.toInt ≤ 6) → f_wp (f_code (t_X13_hyphen (f_ev mtM d))) (37, [some (.inr (.inr (some 0))), some (.inl r), some (.inl x11), some (.inl sum), some (.inl w)], [], mH a1 b) (fun v9 h' => ∃ (a' : Nat → Nat → Int32), h' = mH a' b ∧ RM K a' ∧ (FR [0] a a' ∧ True) ∧ ∃ x : Int32, v9 = some (.inl x) ∧ True) := by
      intro ms9
      induction ms9 using Nat.strongRecOn with
      | _ ms37 ih37 =>
        intro sum w  hm37 hw
        refine w_iload rfl rfl ?_
        refine w_aload rfl rfl ?_
        refine w_invV (rest := [.inl w]) rfl rfl rfl rfl rfl (Nat.le_of_ble_eq_true rfl) rfl (by omega) (s_rivers (K := K) a1 b   ha1 ) (fun v16 h9 hq17 => ?_)
        obtain ⟨rfl, x18, rfl, px18⟩ := hq17
        show f_wp _ (43, [some (.inr (.inr (some 0))), some (.inl r), some (.inl x11), some (.inl sum), some (.inl w)], [.inl x18, .inl w], mH a1 b) _
        refine w_ic_ge rfl (fun c19 => ?_) (fun c19 => ?_)
        · skip
          refine w_iload rfl rfl ?_
          exact wp_iret (z := false) rfl (fun h9 => by cases h9) ⟨a1, rfl, ha1, ⟨FR.up (FR.rf) (by decide) ea1, trivial⟩, ⟨_, rfl, trivial⟩⟩
        · skip
          refine w_iload rfl rfl ?_
          refine w_iload rfl rfl ?_
          refine w_iload rfl rfl ?_
          refine w_iiE rfl (fun x20 tx20 => ?_)
          refine w_const rfl ?_
          refine w_iiE rfl (fun x21 tx21 => ?_)
          refine w_const rfl ?_
          refine w_ic_ne rfl (fun c22 => ?_) (fun c22 => ?_)
          · skip
            refine w_aload rfl rfl ?_
            refine w_iload rfl rfl ?_
            refine w_const rfl ?_
            refine w_invV (rest := [.inl sum]) rfl rfl rfl rfl rfl (Nat.le_of_ble_eq_true rfl) rfl (by omega) (s_riverOf (K := K) a1 b  w 13  (by omega) (by omega)) (fun v23 h9 hq24 => ?_)
            obtain ⟨rfl, x25, rfl, px25⟩ := hq24
            show f_wp _ (65, [some (.inr (.inr (some 0))), some (.inl r), some (.inl x11), some (.inl sum), some (.inl w)], [.inl x25, .inl sum], mH a1 b) _
            refine w_goto rfl ?_
            first | refine w_iadd rfl (by omega) (fun x26 tx26 => ?_) | refine w_iiU rfl (fun x26 tx26 => ?_)
            refine w_istore (lo' := [some (.inr (.inr (some 0))), some (.inl r), some (.inl x11), some (.inl x26), some (.inl w)]) rfl rfl ?_
            refine w_iinc (lo' := fun z9 => [some (.inr (.inr (some 0))), some (.inl r), some (.inl x11), some (.inl x26), some (.inl z9)]) rfl rfl (fun _ => rfl) (by omega) (fun x27 tx27 => ?_)
            refine w_goto rfl ?_
            exact ih37 (6 - x27.toInt).toNat (by omega) x26 x27 rfl  (by omega)
          · skip
            refine w_const rfl ?_
            first | refine w_iadd rfl (by omega) (fun x28 tx28 => ?_) | refine w_iiU rfl (fun x28 tx28 => ?_)
            refine w_istore (lo' := [some (.inr (.inr (some 0))), some (.inl r), some (.inl x11), some (.inl x28), some (.inl w)]) rfl rfl ?_
            refine w_iinc (lo' := fun z9 => [some (.inr (.inr (some 0))), some (.inl r), some (.inl x11), some (.inl x28), some (.inl z9)]) rfl rfl (fun _ => rfl) (by omega) (fun x29 tx29 => ?_)
            refine w_goto rfl ?_
            exact ih37 (6 - x29.toInt).toNat (by omega) x28 x29 rfl  (by omega)
    exact loop37 _ x15 0 rfl  (by omega)
set_option maxRecDepth 4000 in
theorem s_cathedral {K : Nat} (a : Nat → Nat → Int32) (b : Nat → Nat → Int64) (s : Int32) (hR : RM K a) (hA : AC a 0) : f_call mtM 11 94 [.inr (.inr (some 0)), .inl s] (mH a b) (fun v9 h' => ∃ (a' : Nat → Nat → Int32), h' = mH a' b ∧ RM K a' ∧ (FR [0] a a' ∧ True) ∧ ∃ x : Int32, v9 = some (.inl x) ∧ True) := by
  refine f_call_of (d0 := 10) rfl (Nat.le_of_ble_eq_true rfl) (fun d hd => ?_)
  show f_wp _ (0, [some (.inr (.inr (some 0))), some (.inl s), none, none, none, none, none], [], mH a b) _
  have lm1 : (-1 : Int32).toInt = -1 := rfl
  have l0 : (0 : Int32).toInt = 0 := rfl
  have l1 : (1 : Int32).toInt = 1 := rfl
  have l3 : (3 : Int32).toInt = 3 := rfl
  refine w_aload rfl rfl ?_
  refine w_const rfl ?_
  refine m_putI (z := false) rfl rfl rfl rfl (by first | (intro h9; cases h9; done) | (intro _; first | exact Or.inl rfl | exact Or.inr rfl | assumption)) (fun a1 ea1 => ?_)
  have ha1 : RM K a1 := RM.up hR ea1 ⟨ti_lo _, ti_hi _⟩
  have ua1_0 : a1 0 0 = (0 : Int32) := by rw [ea1, mU_same]
  have wa1_0 := congrArg Int32.toInt ua1_0
  refine w_const rfl ?_
  refine w_istore (lo' := [some (.inr (.inr (some 0))), some (.inl s), some (.inl (-1)), none, none, none, none]) rfl rfl ?_
  refine w_const rfl ?_
  refine w_istore (lo' := [some (.inr (.inr (some 0))), some (.inl s), some (.inl (-1)), some (.inl 0), none, none, none]) rfl rfl ?_
  refine w_const rfl ?_
  refine w_istore (lo' := [some (.inr (.inr (some 0))), some (.inl s), some (.inl (-1)), some (.inl 0), some (.inl 0), none, none]) rfl rfl ?_
  have loop12 : ∀ (ms9 : Nat) (best : Int32) (most : Int32) (w : Int32) (o5_12 : Option f_V) (o6_12 : Option f_V), (6 - w.toInt).toNat = ms9 → (0 ≤ w.toInt ∧ w.toInt ≤ 6) → f_wp (f_code (t_X13_cathedral (f_ev mtM d))) (12, [some (.inr (.inr (some 0))), some (.inl s), some (.inl best), some (.inl most), some (.inl w), o5_12, o6_12], [], mH a1 b) (fun v9 h' => ∃ (a' : Nat → Nat → Int32), h' = mH a' b ∧ RM K a' ∧ (FR [0] a a' ∧ True) ∧ ∃ x : Int32, v9 = some (.inl x) ∧ True) := by
    intro ms9
    induction ms9 using Nat.strongRecOn with
    | _ ms12 ih12 =>
      intro best most w o5_12 o6_12 hm12 hw
      refine w_iload rfl rfl ?_
      refine w_aload rfl rfl ?_
      refine w_invV (rest := [.inl w]) rfl rfl rfl rfl rfl (Nat.le_of_ble_eq_true rfl) rfl (by omega) (s_rivers (K := K) a1 b   ha1 ) (fun v2 h9 hq3 => ?_)
      obtain ⟨rfl, x4, rfl, px4⟩ := hq3
      show f_wp _ (18, [some (.inr (.inr (some 0))), some (.inl s), some (.inl best), some (.inl most), some (.inl w), o5_12, o6_12], [.inl x4, .inl w], mH a1 b) _
      refine w_ic_ge rfl (fun c5 => ?_) (fun c5 => ?_)
      · skip
        refine w_iload rfl rfl ?_
        exact wp_iret (z := false) rfl (fun h9 => by cases h9) ⟨a1, rfl, ha1, ⟨FR.up (FR.rf) (by decide) ea1, trivial⟩, ⟨_, rfl, trivial⟩⟩
      · skip
        refine w_iload rfl rfl ?_
        refine w_const rfl ?_
        refine w_const rfl ?_
        refine w_invS (rest := []) rfl (Nat.le_of_ble_eq_true rfl) rfl (Nat.le_of_ble_eq_true rfl) rfl (by omega) (s_within (K := K) a1 b  s 0 3  ) (fun v6 h9 hq7 => ?_)
        obtain ⟨rfl, x8, rfl, px8⟩ := hq7
        show f_wp _ (27, [some (.inr (.inr (some 0))), some (.inl s), some (.inl best), some (.inl most), some (.inl w), o5_12, o6_12], [.inl x8], mH a1 b) _
        refine w_if_eq rfl (fun c9 => ?_) (fun c9 => ?_)
        · skip
          refine w_iload rfl rfl ?_
          exact wp_iret (z := false) rfl (fun h9 => by cases h9) ⟨a1, rfl, ha1, ⟨FR.up (FR.rf) (by decide) ea1, trivial⟩, ⟨_, rfl, trivial⟩⟩
        · skip
          refine w_aload rfl rfl ?_
          refine w_const rfl ?_
          refine w_iload rfl rfl ?_
          refine w_invV (rest := []) rfl rfl rfl rfl rfl (Nat.le_of_ble_eq_true rfl) rfl (by omega) (s_husbandOf (K := K) a1 b  0 w ha1 (by omega) (by omega)) (fun v10 h9 hq11 => ?_)
          obtain ⟨rfl, x12, rfl, px12⟩ := hq11
          show f_wp _ (37, [some (.inr (.inr (some 0))), some (.inl s), some (.inl best), some (.inl most), some (.inl w), o5_12, o6_12], [.inl x12], mH a1 b) _
          refine w_istore (lo' := [some (.inr (.inr (some 0))), some (.inl s), some (.inl best), some (.inl most), some (.inl w), some (.inl x12), o6_12]) rfl rfl ?_
          refine w_iload rfl rfl ?_
          refine w_if_ge rfl (fun c13 => ?_) (fun c13 => ?_)
          · skip
            refine w_aload rfl rfl ?_
            refine w_const rfl ?_
            refine w_iload rfl rfl ?_
            refine w_aload rfl rfl ?_
            refine w_iload rfl rfl ?_
            refine w_invV (rest := [.inl x12, .inl 0, .inr (.inr (some 0))]) rfl rfl rfl rfl rfl (Nat.le_of_ble_eq_true rfl) rfl (by omega) (s_mouthOf (K := K) a1 b  w ha1 (by omega)) (fun v14 h9 hq15 => ?_)
            obtain ⟨rfl, x16, rfl, px16⟩ := hq15
            show f_wp _ (58, [some (.inr (.inr (some 0))), some (.inl s), some (.inl best), some (.inl most), some (.inl w), some (.inl x12), o6_12], [.inl x16, .inl x12, .inl 0, .inr (.inr (some 0))], mH a1 b) _
            refine w_iload rfl rfl ?_
            refine w_invV (rest := []) rfl rfl rfl rfl rfl (Nat.le_of_ble_eq_true rfl) rfl (by omega) (s_flowAt (K := K) a1 b  0 x12 x16 s ha1 (by omega) (by omega) (by omega) (((fun (m9 : Nat) (l9 : m9 < 22) (h7 : ACm m9 a) => ACm.up ((fun (m9 : Nat) (l9 : m9 < 22) (h7 : ACm m9 a) => h7) m9 l9 h7) ea1 (by decide)) 0 (by decide) hA))) (fun v17 h9 hq18 => ?_)
            obtain ⟨rfl, x19, rfl, px19⟩ := hq18
            show f_wp _ (62, [some (.inr (.inr (some 0))), some (.inl s), some (.inl best), some (.inl most), some (.inl w), some (.inl x12), o6_12], [.inl x19], mH a1 b) _
            refine w_istore (lo' := [some (.inr (.inr (some 0))), some (.inl s), some (.inl best), some (.inl most), some (.inl w), some (.inl x12), some (.inl x19)]) rfl rfl ?_
            refine w_iload rfl rfl ?_
            refine w_if_lt rfl (fun c20 => ?_) (fun c20 => ?_)
            · skip
              refine w_iinc (lo' := fun z9 => [some (.inr (.inr (some 0))), some (.inl s), some (.inl best), some (.inl most), some (.inl z9), some (.inl x12), some (.inl x19)]) rfl rfl (fun _ => rfl) (by omega) (fun x21 tx21 => ?_)
              refine w_goto rfl ?_
              exact ih12 (6 - x21.toInt).toNat (by omega) best most x21 (some (.inl x12)) (some (.inl x19)) rfl  (by omega)
            · skip
              refine w_iload rfl rfl ?_
              refine w_if_lt rfl (fun c22 => ?_) (fun c22 => ?_)
              · skip
                refine w_iload rfl rfl ?_
                refine w_istore (lo' := [some (.inr (.inr (some 0))), some (.inl s), some (.inl w), some (.inl most), some (.inl w), some (.inl x12), some (.inl x19)]) rfl rfl ?_
                refine w_iload rfl rfl ?_
                refine w_istore (lo' := [some (.inr (.inr (some 0))), some (.inl s), some (.inl w), some (.inl x19), some (.inl w), some (.inl x12), some (.inl x19)]) rfl rfl ?_
                refine w_iinc (lo' := fun z9 => [some (.inr (.inr (some 0))), some (.inl s), some (.inl w), some (.inl x19), some (.inl z9), some (.inl x12), some (.inl x19)]) rfl rfl (fun _ => rfl) (by omega) (fun x23 tx23 => ?_)
                refine w_goto rfl ?_
                exact ih12 (6 - x23.toInt).toNat (by omega) w x19 x23 (some (.inl x12)) (some (.inl x19)) rfl  (by omega)
              · skip
                refine w_iload rfl rfl ?_
                refine w_iload rfl rfl ?_
                refine w_ic_le rfl (fun c24 => ?_) (fun c24 => ?_)
                · skip
                  refine w_iinc (lo' := fun z9 => [some (.inr (.inr (some 0))), some (.inl s), some (.inl best), some (.inl most), some (.inl z9), some (.inl x12), some (.inl x19)]) rfl rfl (fun _ => rfl) (by omega) (fun x25 tx25 => ?_)
                  refine w_goto rfl ?_
                  exact ih12 (6 - x25.toInt).toNat (by omega) best most x25 (some (.inl x12)) (some (.inl x19)) rfl  (by omega)
                · skip
                  refine w_iload rfl rfl ?_
                  refine w_istore (lo' := [some (.inr (.inr (some 0))), some (.inl s), some (.inl w), some (.inl most), some (.inl w), some (.inl x12), some (.inl x19)]) rfl rfl ?_
                  refine w_iload rfl rfl ?_
                  refine w_istore (lo' := [some (.inr (.inr (some 0))), some (.inl s), some (.inl w), some (.inl x19), some (.inl w), some (.inl x12), some (.inl x19)]) rfl rfl ?_
                  refine w_iinc (lo' := fun z9 => [some (.inr (.inr (some 0))), some (.inl s), some (.inl w), some (.inl x19), some (.inl z9), some (.inl x12), some (.inl x19)]) rfl rfl (fun _ => rfl) (by omega) (fun x26 tx26 => ?_)
                  refine w_goto rfl ?_
                  exact ih12 (6 - x26.toInt).toNat (by omega) w x19 x26 (some (.inl x12)) (some (.inl x19)) rfl  (by omega)
          · skip
            refine w_const rfl ?_
            refine w_goto rfl ?_
            refine w_istore (lo' := [some (.inr (.inr (some 0))), some (.inl s), some (.inl best), some (.inl most), some (.inl w), some (.inl x12), some (.inl 0)]) rfl rfl ?_
            refine w_iload rfl rfl ?_
            refine w_if_lt rfl (fun c27 => ?_) (fun c27 => ?_)
            · skip
              refine w_iinc (lo' := fun z9 => [some (.inr (.inr (some 0))), some (.inl s), some (.inl best), some (.inl most), some (.inl z9), some (.inl x12), some (.inl 0)]) rfl rfl (fun _ => rfl) (by omega) (fun x28 tx28 => ?_)
              refine w_goto rfl ?_
              exact ih12 (6 - x28.toInt).toNat (by omega) best most x28 (some (.inl x12)) (some (.inl 0)) rfl  (by omega)
            · skip
              refine w_iload rfl rfl ?_
              refine w_if_lt rfl (fun c29 => ?_) (fun c29 => ?_)
              · skip
                refine w_iload rfl rfl ?_
                refine w_istore (lo' := [some (.inr (.inr (some 0))), some (.inl s), some (.inl w), some (.inl most), some (.inl w), some (.inl x12), some (.inl 0)]) rfl rfl ?_
                refine w_iload rfl rfl ?_
                refine w_istore (lo' := [some (.inr (.inr (some 0))), some (.inl s), some (.inl w), some (.inl 0), some (.inl w), some (.inl x12), some (.inl 0)]) rfl rfl ?_
                refine w_iinc (lo' := fun z9 => [some (.inr (.inr (some 0))), some (.inl s), some (.inl w), some (.inl 0), some (.inl z9), some (.inl x12), some (.inl 0)]) rfl rfl (fun _ => rfl) (by omega) (fun x30 tx30 => ?_)
                refine w_goto rfl ?_
                exact ih12 (6 - x30.toInt).toNat (by omega) w 0 x30 (some (.inl x12)) (some (.inl 0)) rfl  (by omega)
              · skip
                refine w_iload rfl rfl ?_
                refine w_iload rfl rfl ?_
                refine w_ic_le rfl (fun c31 => ?_) (fun c31 => ?_)
                · skip
                  refine w_iinc (lo' := fun z9 => [some (.inr (.inr (some 0))), some (.inl s), some (.inl best), some (.inl most), some (.inl z9), some (.inl x12), some (.inl 0)]) rfl rfl (fun _ => rfl) (by omega) (fun x32 tx32 => ?_)
                  refine w_goto rfl ?_
                  exact ih12 (6 - x32.toInt).toNat (by omega) best most x32 (some (.inl x12)) (some (.inl 0)) rfl  (by omega)
                · skip
                  refine w_iload rfl rfl ?_
                  refine w_istore (lo' := [some (.inr (.inr (some 0))), some (.inl s), some (.inl w), some (.inl most), some (.inl w), some (.inl x12), some (.inl 0)]) rfl rfl ?_
                  refine w_iload rfl rfl ?_
                  refine w_istore (lo' := [some (.inr (.inr (some 0))), some (.inl s), some (.inl w), some (.inl 0), some (.inl w), some (.inl x12), some (.inl 0)]) rfl rfl ?_
                  refine w_iinc (lo' := fun z9 => [some (.inr (.inr (some 0))), some (.inl s), some (.inl w), some (.inl 0), some (.inl z9), some (.inl x12), some (.inl 0)]) rfl rfl (fun _ => rfl) (by omega) (fun x33 tx33 => ?_)
                  refine w_goto rfl ?_
                  exact ih12 (6 - x33.toInt).toNat (by omega) w 0 x33 (some (.inl x12)) (some (.inl 0)) rfl  (by omega)
  exact loop12 _ (-1) 0 0 none none rfl  (by omega)
set_option maxRecDepth 4000 in
theorem s_tell {K : Nat} (a : Nat → Nat → Int32) (b : Nat → Nat → Int64) (r : Int32) (s : Int32) (fl : Int32) (hR : RM K a)  : f_call mtM 3 103 [.inr (.inr (some 0)), .inl r, .inl s, .inl fl] (mH a b) (fun v9 h' => ∃ (a' : Nat → Nat → Int32), h' = mH a' b ∧ RM K a' ∧ (FR [0, 15] a a' ∧ (∀ m9, m9 < 22 → ACm m9 a → ACm m9 a') ∧ True) ∧ ∃ x : Int32, v9 = some (.inl x) ∧ (x.toInt = 0 ∨ x.toInt = 1)) := by
  refine f_call_of (d0 := 2) rfl (Nat.le_of_ble_eq_true rfl) (fun d hd => ?_)
  show f_wp _ (0, [some (.inr (.inr (some 0))), some (.inl r), some (.inl s), some (.inl fl), none], [], mH a b) _
  have l0 : (0 : Int32).toInt = 0 := rfl
  have l1 : (1 : Int32).toInt = 1 := rfl
  have l2 : (2 : Int32).toInt = 2 := rfl
  have l3 : (3 : Int32).toInt = 3 := rfl
  have l10 : (10 : Int32).toInt = 10 := rfl
  have l26 : (26 : Int32).toInt = 26 := rfl
  have l27 : (27 : Int32).toInt = 27 := rfl
  have l9999 : (9999 : Int32).toInt = 9999 := rfl
  refine w_aload rfl rfl ?_
  refine w_const rfl ?_
  refine m_putI (z := false) rfl rfl rfl rfl (by first | (intro h9; cases h9; done) | (intro _; first | exact Or.inl rfl | exact Or.inr rfl | assumption)) (fun a1 ea1 => ?_)
  have ha1 : RM K a1 := RM.up hR ea1 ⟨ti_lo _, ti_hi _⟩
  have ua1_0 : a1 0 0 = (0 : Int32) := by rw [ea1, mU_same]
  have wa1_0 := congrArg Int32.toInt ua1_0
  refine w_aload rfl rfl ?_
  refine w_iload rfl rfl ?_
  refine w_invV (rest := []) rfl rfl rfl rfl rfl (Nat.le_of_ble_eq_true rfl) rfl (by omega) (s_isRiver (K := K) a1 b  r ha1 ) (fun v2 h9 hq3 => ?_)
  obtain ⟨rfl, x4, rfl, px4⟩ := hq3
  show f_wp _ (10, [some (.inr (.inr (some 0))), some (.inl r), some (.inl s), some (.inl fl), none], [.inl x4], mH a1 b) _
  refine w_if_eq rfl (fun c5 => ?_) (fun c5 => ?_)
  · skip
    refine w_const rfl ?_
    exact wp_iret (z := true) rfl (fun _ => by first | exact Or.inl rfl | exact Or.inr rfl | (rcases (by omega : (0 : Int32).toInt = 0 ∨ (0 : Int32).toInt = 1) with h8 | h8; exact Or.inl (ti_eq h8); exact Or.inr (ti_eq h8))) ⟨a1, rfl, ha1, ⟨FR.up (FR.rf) (by decide) ea1, fun (m9 : Nat) (l9 : m9 < 22) (h7 : ACm m9 a) => ACm.up ((fun (m9 : Nat) (l9 : m9 < 22) (h7 : ACm m9 a) => h7) m9 l9 h7) ea1 (by decide), trivial⟩, ⟨_, rfl, by omega⟩⟩
  · skip
    refine w_iload rfl rfl ?_
    refine w_const rfl ?_
    refine w_const rfl ?_
    refine w_invS (rest := []) rfl (Nat.le_of_ble_eq_true rfl) rfl (Nat.le_of_ble_eq_true rfl) rfl (by omega) (s_within (K := K) a1 b  s 0 3  ) (fun v6 h9 hq7 => ?_)
    obtain ⟨rfl, x8, rfl, px8⟩ := hq7
    show f_wp _ (19, [some (.inr (.inr (some 0))), some (.inl r), some (.inl s), some (.inl fl), none], [.inl x8], mH a1 b) _
    refine w_if_eq rfl (fun c9 => ?_) (fun c9 => ?_)
    · skip
      refine w_const rfl ?_
      exact wp_iret (z := true) rfl (fun _ => by first | exact Or.inl rfl | exact Or.inr rfl | (rcases (by omega : (0 : Int32).toInt = 0 ∨ (0 : Int32).toInt = 1) with h8 | h8; exact Or.inl (ti_eq h8); exact Or.inr (ti_eq h8))) ⟨a1, rfl, ha1, ⟨FR.up (FR.rf) (by decide) ea1, fun (m9 : Nat) (l9 : m9 < 22) (h7 : ACm m9 a) => ACm.up ((fun (m9 : Nat) (l9 : m9 < 22) (h7 : ACm m9 a) => h7) m9 l9 h7) ea1 (by decide), trivial⟩, ⟨_, rfl, by omega⟩⟩
    · skip
      refine w_iload rfl rfl ?_
      refine w_const rfl ?_
      refine w_const rfl ?_
      refine w_invS (rest := []) rfl (Nat.le_of_ble_eq_true rfl) rfl (Nat.le_of_ble_eq_true rfl) rfl (by omega) (s_within (K := K) a1 b  fl 0 9999  ) (fun v10 h9 hq11 => ?_)
      obtain ⟨rfl, x12, rfl, px12⟩ := hq11
      show f_wp _ (30, [some (.inr (.inr (some 0))), some (.inl r), some (.inl s), some (.inl fl), none], [.inl x12], mH a1 b) _
      refine w_if_eq rfl (fun c13 => ?_) (fun c13 => ?_)
      · skip
        refine w_const rfl ?_
        exact wp_iret (z := true) rfl (fun _ => by first | exact Or.inl rfl | exact Or.inr rfl | (rcases (by omega : (0 : Int32).toInt = 0 ∨ (0 : Int32).toInt = 1) with h8 | h8; exact Or.inl (ti_eq h8); exact Or.inr (ti_eq h8))) ⟨a1, rfl, ha1, ⟨FR.up (FR.rf) (by decide) ea1, fun (m9 : Nat) (l9 : m9 < 22) (h7 : ACm m9 a) => ACm.up ((fun (m9 : Nat) (l9 : m9 < 22) (h7 : ACm m9 a) => h7) m9 l9 h7) ea1 (by decide), trivial⟩, ⟨_, rfl, by omega⟩⟩
      · skip
        refine w_aload rfl rfl ?_
        refine w_getR (v := .inr (.inr (some 15))) rfl rfl rfl rfl rfl ?_
        refine w_const rfl ?_
        refine m_iald rfl rfl (by omega) (fun x14 ex14 => ?_)
        have u9 : 0 ≤ x14.toInt ∧ x14.toInt ≤ 10 := by rw [ex14]; exact ha1 15 26
        have k9 := congrArg Int32.toInt ex14
        refine w_const rfl ?_
        refine w_ic_ne rfl (fun c15 => ?_) (fun c15 => ?_)
        · skip
          refine w_const rfl ?_
          exact wp_iret (z := true) rfl (fun _ => by first | exact Or.inl rfl | exact Or.inr rfl | (rcases (by omega : (0 : Int32).toInt = 0 ∨ (0 : Int32).toInt = 1) with h8 | h8; exact Or.inl (ti_eq h8); exact Or.inr (ti_eq h8))) ⟨a1, rfl, ha1, ⟨FR.up (FR.rf) (by decide) ea1, fun (m9 : Nat) (l9 : m9 < 22) (h7 : ACm m9 a) => ACm.up ((fun (m9 : Nat) (l9 : m9 < 22) (h7 : ACm m9 a) => h7) m9 l9 h7) ea1 (by decide), trivial⟩, ⟨_, rfl, by omega⟩⟩
        · skip
          refine w_const rfl ?_
          refine w_const rfl ?_
          refine w_aload rfl rfl ?_
          refine w_getR (v := .inr (.inr (some 15))) rfl rfl rfl rfl rfl ?_
          refine w_const rfl ?_
          refine m_iald rfl rfl (by omega) (fun x16 ex16 => ?_)
          have u9 : 0 ≤ x16.toInt ∧ x16.toInt ≤ 10 := by rw [ex16]; exact ha1 15 26
          first | refine w_imul rfl (c := 3) rfl (by omega) (fun x17 tx17 => ?_) | refine w_iiU rfl (fun x17 tx17 => ?_)
          first | refine w_iadd rfl (by omega) (fun x18 tx18 => ?_) | refine w_iiU rfl (fun x18 tx18 => ?_)
          refine w_istore (lo' := [some (.inr (.inr (some 0))), some (.inl r), some (.inl s), some (.inl fl), some (.inl x18)]) rfl rfl ?_
          refine w_aload rfl rfl ?_
          refine w_getR (v := .inr (.inr (some 15))) rfl rfl rfl rfl rfl ?_
          refine w_iload rfl rfl ?_
          refine w_iload rfl rfl ?_
          refine m_iast rfl rfl (by omega) (fun a19 ea19 => ?_)
          have ha19 : RM K a19 := RM.up ha1 ea19 (st_told (by omega) (by omega))
          refine w_aload rfl rfl ?_
          refine w_getR (v := .inr (.inr (some 15))) rfl rfl rfl rfl rfl ?_
          refine w_iload rfl rfl ?_
          refine w_const rfl ?_
          first | refine w_iadd rfl (by omega) (fun x20 tx20 => ?_) | refine w_iiU rfl (fun x20 tx20 => ?_)
          refine w_iload rfl rfl ?_
          refine m_iast rfl rfl (by omega) (fun a21 ea21 => ?_)
          have ha21 : RM K a21 := RM.up ha19 ea21 (st_told (by omega) (by omega))
          refine w_aload rfl rfl ?_
          refine w_getR (v := .inr (.inr (some 15))) rfl rfl rfl rfl rfl ?_
          refine w_iload rfl rfl ?_
          refine w_const rfl ?_
          first | refine w_iadd rfl (by omega) (fun x22 tx22 => ?_) | refine w_iiU rfl (fun x22 tx22 => ?_)
          refine w_iload rfl rfl ?_
          refine m_iast rfl rfl (by omega) (fun a23 ea23 => ?_)
          have ha23 : RM K a23 := RM.up ha21 ea23 (st_told (by omega) (by omega))
          refine w_aload rfl rfl ?_
          refine w_getR (v := .inr (.inr (some 15))) rfl rfl rfl rfl rfl ?_
          refine w_const rfl ?_
          refine w_dup2 rfl ⟨rfl, rfl⟩ ?_
          refine m_iald rfl rfl (by omega) (fun x24 ex24 => ?_)
          have u8 : 0 ≤ x24.toInt ∧ x24.toInt ≤ 9 := by rw [ex24, ea23, mU_slot (by omega), ea21, mU_slot (by omega), ea19, mU_slot (by omega)]; omega
          refine w_const rfl ?_
          first | refine w_iadd rfl (by omega) (fun x25 tx25 => ?_) | refine w_iiU rfl (fun x25 tx25 => ?_)
          refine m_iast rfl rfl (by omega) (fun a26 ea26 => ?_)
          have ha26 : RM K a26 := RM.up ha23 ea26 (show (0 : Int) ≤ _ ∧ _ ≤ (10 : Int) from by omega)
          refine w_const rfl ?_
          exact wp_iret (z := true) rfl (fun _ => by first | exact Or.inl rfl | exact Or.inr rfl | (rcases (by omega : (1 : Int32).toInt = 0 ∨ (1 : Int32).toInt = 1) with h8 | h8; exact Or.inl (ti_eq h8); exact Or.inr (ti_eq h8))) ⟨a26, rfl, ha26, ⟨FR.up (FR.up (FR.up (FR.up (FR.up (FR.rf) (by decide) ea1) (by decide) ea19) (by decide) ea21) (by decide) ea23) (by decide) ea26, fun (m9 : Nat) (l9 : m9 < 22) (h7 : ACm m9 a) => ACm.put ((fun (m9 : Nat) (l9 : m9 < 22) (h7 : ACm m9 a) => ACm.put ((fun (m9 : Nat) (l9 : m9 < 22) (h7 : ACm m9 a) => ACm.put ((fun (m9 : Nat) (l9 : m9 < 22) (h7 : ACm m9 a) => ACm.put ((fun (m9 : Nat) (l9 : m9 < 22) (h7 : ACm m9 a) => ACm.up ((fun (m9 : Nat) (l9 : m9 < 22) (h7 : ACm m9 a) => h7) m9 l9 h7) ea1 (by decide)) m9 l9 h7) ea19 (by omega)) m9 l9 h7) ea21 (by omega)) m9 l9 h7) ea23 (by omega)) m9 l9 h7) ea26 (by omega), trivial⟩, ⟨_, rfl, by omega⟩⟩
