set_option maxRecDepth 4000 in
theorem y_within {d : Nat} (a : Nat → Nat → Int32) (b : Nat → Nat → Int64) (v : Int32) (low : Int32) (high : Int32)  : f_pc mtM d 14 [.inl v, .inl low, .inl high] (mH a b) (fun v9 h' => h' = mH a b ∧ ∃ x : Int32, v9 = some (.inl x) ∧ ((x.toInt = 1 ∧ (low.toInt ≤ v.toInt ∧ v.toInt ≤ high.toInt)) ∨ (x.toInt = 0 ∧ ¬ (low.toInt ≤ v.toInt ∧ v.toInt ≤ high.toInt)))) := by
  refine f_pc_of rfl (fun d0 fu hd => ?_)
  show f_pq _ _ (0, [some (.inl v), some (.inl low), some (.inl high)], [], mH a b) _
  have l0 : (0 : Int32).toInt = 0 := rfl
  have l1 : (1 : Int32).toInt = 1 := rfl
  refine qw_iload rfl rfl ?_
  refine qw_iload rfl rfl ?_
  refine qw_ic_lt rfl (fun c1 => ?_) (fun c1 => ?_)
  · skip
    refine qw_const rfl ?_
    exact qwp_iret (z := true) rfl (fun _ => by first | exact Or.inl rfl | exact Or.inr rfl | (rcases (by omega : (0 : Int32).toInt = 0 ∨ (0 : Int32).toInt = 1) with h8 | h8; exact Or.inl (ti_eq h8); exact Or.inr (ti_eq h8))) ⟨rfl, ⟨_, rfl, by omega⟩⟩
  · skip
    refine qw_iload rfl rfl ?_
    refine qw_iload rfl rfl ?_
    refine qw_ic_gt rfl (fun c2 => ?_) (fun c2 => ?_)
    · skip
      refine qw_const rfl ?_
      exact qwp_iret (z := true) rfl (fun _ => by first | exact Or.inl rfl | exact Or.inr rfl | (rcases (by omega : (0 : Int32).toInt = 0 ∨ (0 : Int32).toInt = 1) with h8 | h8; exact Or.inl (ti_eq h8); exact Or.inr (ti_eq h8))) ⟨rfl, ⟨_, rfl, by omega⟩⟩
    · skip
      refine qw_const rfl ?_
      refine qw_goto rfl ?_
      exact qwp_iret (z := true) rfl (fun _ => by first | exact Or.inl rfl | exact Or.inr rfl | (rcases (by omega : (1 : Int32).toInt = 0 ∨ (1 : Int32).toInt = 1) with h8 | h8; exact Or.inl (ti_eq h8); exact Or.inr (ti_eq h8))) ⟨rfl, ⟨_, rfl, by omega⟩⟩
set_option maxRecDepth 4000 in
theorem y_copies {d : Nat} (a : Nat → Nat → Int32) (b : Nat → Nat → Int64) (q : Int32) (t : Int32) (m : Int32)  : f_pc mtM d 37 [.inr (.inr (some 0)), .inl q, .inl t, .inl m] (mH a b) (fun v9 h' => ∃ (a' : Nat → Nat → Int32), h' = mH a' b ∧ (FR [15] a a' ∧ True) ∧ v9 = none) := by
  refine f_pc_of rfl (fun d0 fu hd => ?_)
  show f_pq _ _ (0, [some (.inr (.inr (some 0))), some (.inl q), some (.inl t), some (.inl m), none], [], mH a b) _
  have l0 : (0 : Int32).toInt = 0 := rfl
  have l1 : (1 : Int32).toInt = 1 := rfl
  refine qw_const rfl ?_
  refine qw_istore (lo' := [some (.inr (.inr (some 0))), some (.inl q), some (.inl t), some (.inl m), some (.inl 0)]) rfl rfl ?_
  have loop3 : ∀ (fu3 : Nat) (k : Int32) (a3 : Nat → Nat → Int32) ,  FR [15] a a3 → f_pq (f_code (t_X13_copies (f_ev mtM d0))) fu3 (3, [some (.inr (.inr (some 0))), some (.inl q), some (.inl t), some (.inl m), some (.inl k)], [], mH a3 b) (fun v9 h' => ∃ (a' : Nat → Nat → Int32), h' = mH a' b ∧ (FR [15] a a' ∧ True) ∧ v9 = none) := by
    intro fu3
    induction fu3 with
    | zero => intros; exact pq_0
    | succ fu3 ih3 =>
      intro k a3  hF3 
      refine qw_iload rfl rfl ?_
      refine qw_iload rfl rfl ?_
      refine qw_ic_ge rfl (fun c1 => ?_) (fun c1 => ?_)
      · skip
        exact qw_ret rfl ⟨a3, rfl, ⟨hF3, trivial⟩, rfl⟩
      · skip
        refine qw_aload rfl rfl ?_
        refine qw_getR (v := .inr (.inr (some 15))) rfl rfl rfl rfl rfl ?_
        refine qw_iload rfl rfl ?_
        refine qw_iload rfl rfl ?_
        first | refine qw_iadd rfl (by omega) (fun x2 tx2 => ?_) | refine qw_iiU rfl (fun x2 tx2 => ?_)
        refine qw_aload rfl rfl ?_
        refine qw_getR (v := .inr (.inr (some 15))) rfl rfl rfl rfl rfl ?_
        refine qw_iload rfl rfl ?_
        refine qw_iload rfl rfl ?_
        first | refine qw_iadd rfl (by omega) (fun x3 tx3 => ?_) | refine qw_iiU rfl (fun x3 tx3 => ?_)
        refine qm_iald rfl rfl (fun jx4 x4 ex4 => ?_)
        refine qm_iast rfl rfl (fun ja5 a5 ea5 => ?_)
        refine qw_iincU (lo' := fun z9 => [some (.inr (.inr (some 0))), some (.inl q), some (.inl t), some (.inl m), some (.inl z9)]) rfl rfl (fun _ => rfl) (fun x6 tx6 => ?_)
        exact qw_gotoD rfl (ih3 x6 a5 (FR.up (hF3) (by decide) ea5) )
  exact loop3 _ 0 a (FR.rf) 
set_option maxHeartbeats 2000000 in
set_option maxRecDepth 4000 in
theorem y_mark {d : Nat} (a : Nat → Nat → Int32) (b : Nat → Nat → Int64) (m : Int32) (bk : Int32)  : f_pc mtM d 112 [.inr (.inr (some 0)), .inl m, .inl bk] (mH a b) (fun v9 h' => ∃ (a' : Nat → Nat → Int32), h' = mH a' b ∧ (FR [0, 15, 16] a a' ∧ True) ∧ ∃ x : Int32, v9 = some (.inl x) ∧ (MRK m bk x (a 16) (a' 16))) := by
  refine f_pc_of rfl (fun d0 fu hd => ?_)
  show f_pq _ _ (0, [some (.inr (.inr (some 0))), some (.inl m), some (.inl bk)], [], mH a b) _
  have l0 : (0 : Int32).toInt = 0 := rfl
  have l1 : (1 : Int32).toInt = 1 := rfl
  have l3 : (3 : Int32).toInt = 3 := rfl
  have l60 : (60 : Int32).toInt = 60 := rfl
  refine qw_aload rfl rfl ?_
  refine qw_const rfl ?_
  refine qm_putI (z := false) rfl rfl rfl rfl (by first | (intro h9; cases h9; done) | (intro _; first | exact Or.inl rfl | exact Or.inr rfl | assumption)) (fun a1 ea1 => ?_)
  have ua1_0 : a1 0 0 = (0 : Int32) := by rw [ea1, mU_same]
  have wa1_0 := congrArg Int32.toInt ua1_0
  refine qw_iload rfl rfl ?_
  refine qw_const rfl ?_
  refine qw_const rfl ?_
  refine qw_invS (rest := []) rfl (Nat.le_of_ble_eq_true rfl) rfl (Nat.le_of_ble_eq_true rfl) rfl (y_within (d := d0) a1 b  m 0 3 ) (fun v2 h9 hq3 => ?_)
  obtain ⟨rfl, x4, rfl, px4⟩ := hq3
  show f_pq _ _ (11, [some (.inr (.inr (some 0))), some (.inl m), some (.inl bk)], [.inl x4], mH a1 b) _
  have w9 := px4
  refine qw_if_eq rfl (fun c5 => ?_) (fun c5 => ?_)
  · skip
    refine qw_const rfl ?_
    exact qwp_iret (z := true) rfl (fun _ => by first | exact Or.inl rfl | exact Or.inr rfl | (rcases (by omega : (0 : Int32).toInt = 0 ∨ (0 : Int32).toInt = 1) with h8 | h8; exact Or.inl (ti_eq h8); exact Or.inr (ti_eq h8))) ⟨a1, rfl, ⟨FR.up (FR.rf) (by decide) ea1, trivial⟩, ⟨_, rfl, Or.inr ⟨rfl, fun h => by (obtain ⟨h1, h2⟩ := h; have h2 : bk.toInt = 0 ∨ ¬ (a 16 m.toInt.toNat).toInt = 0 := h2; omega), fun j _ => (show a1 16 j = a 16 j from by rw [ea1, mU_cell (by decide)])⟩⟩⟩
  · skip
    refine qw_iload rfl rfl ?_
    refine qw_if_eq rfl (fun c6 => ?_) (fun c6 => ?_)
    · skip
      refine qw_aload rfl rfl ?_
      refine qw_getR (v := .inr (.inr (some 16))) rfl rfl rfl rfl rfl ?_
      refine qw_iload rfl rfl ?_
      refine qw_const rfl ?_
      refine qm_bast rfl rfl (fun ja7 a7 ea7 => ?_)
      have W1 : a7 16 m.toInt.toNat = 1 := by rw [ea7, mU_same]; rfl
      have W2 : ∀ j, ¬ j = m.toInt.toNat → a7 16 j = a 16 j := fun j hj => by rw [ea7, mU_slot hj, ea1, mU_cell (by decide)]
      refine qw_aload rfl rfl ?_
      refine qw_iload rfl rfl ?_
      refine qw_if_eq rfl (fun c8 => ?_) (fun c8 => ?_)
      · skip
        refine qw_const rfl ?_
        refine qw_iload rfl rfl ?_
        refine qw_if_eq rfl (fun c9 => ?_) (fun c9 => ?_)
        · skip
          refine qw_const rfl ?_
          refine qw_const rfl ?_
          refine qw_iload rfl rfl ?_
          first | refine qw_iadd rfl (by omega) (fun x10 tx10 => ?_) | refine qw_iiU rfl (fun x10 tx10 => ?_)
          first | refine qw_imul rfl (c := 60) rfl (by omega) (fun x11 tx11 => ?_) | refine qw_iiU rfl (fun x11 tx11 => ?_)
          refine qw_const rfl ?_
          refine qw_invV (rest := []) rfl rfl rfl rfl rfl (Nat.le_of_ble_eq_true rfl) rfl (y_copies (d := d0) a7 b  0 x11 60 ) (fun v12 h9 hq13 => ?_)
          obtain ⟨a14, rfl, fa14, rfl⟩ := hq13
          show f_pq _ _ (70, [some (.inr (.inr (some 0))), some (.inl m), some (.inl bk)], [], mH a14 b) _
          refine qw_aload rfl rfl ?_
          refine qw_iload rfl rfl ?_
          refine qw_if_eq rfl (fun c15 => ?_) (fun c15 => ?_)
          · skip
            refine qw_aload rfl rfl ?_
            refine qw_getI (v := .inl (a14 0 23)) rfl rfl rfl rfl rfl ?_
            refine qm_putI (z := false) rfl rfl rfl rfl (by first | (intro h9; cases h9; done) | (intro _; first | exact Or.inl rfl | exact Or.inr rfl | assumption)) (fun a16 ea16 => ?_)
            have ua16_23 : a16 0 23 = (a14 0 23) := by rw [ea16, mU_same]
            have wa16_23 := congrArg Int32.toInt ua16_23
            refine qw_const rfl ?_
            exact qwp_iret (z := true) rfl (fun _ => by first | exact Or.inl rfl | exact Or.inr rfl | (rcases (by omega : (1 : Int32).toInt = 0 ∨ (1 : Int32).toInt = 1) with h8 | h8; exact Or.inl (ti_eq h8); exact Or.inr (ti_eq h8))) ⟨a16, rfl, ⟨FR.up (FR.tr (FR.up (FR.up (FR.rf) (by decide) ea1) (by decide) ea7) (FR.sub fa14.1 (by decide))) (by decide) ea16, trivial⟩, ⟨_, rfl, Or.inl ⟨rfl, ⟨by omega, by omega⟩, (show ¬ (a16 16 m.toInt.toNat).toInt = 0 from by rw [ea16, mU_cell (by decide), fa14.1 16 (by decide), W1]; decide), fun j _ hj => (show a16 16 j = a 16 j from by rw [ea16, mU_cell (by decide), fa14.1 16 (by decide)]; exact W2 j hj)⟩⟩⟩
          · skip
            refine qw_const rfl ?_
            refine qw_goto rfl ?_
            refine qm_putI (z := false) rfl rfl rfl rfl (by first | (intro h9; cases h9; done) | (intro _; first | exact Or.inl rfl | exact Or.inr rfl | assumption)) (fun a17 ea17 => ?_)
            have ua17_23 : a17 0 23 = (0 : Int32) := by rw [ea17, mU_same]
            have wa17_23 := congrArg Int32.toInt ua17_23
            refine qw_const rfl ?_
            exact qwp_iret (z := true) rfl (fun _ => by first | exact Or.inl rfl | exact Or.inr rfl | (rcases (by omega : (1 : Int32).toInt = 0 ∨ (1 : Int32).toInt = 1) with h8 | h8; exact Or.inl (ti_eq h8); exact Or.inr (ti_eq h8))) ⟨a17, rfl, ⟨FR.up (FR.tr (FR.up (FR.up (FR.rf) (by decide) ea1) (by decide) ea7) (FR.sub fa14.1 (by decide))) (by decide) ea17, trivial⟩, ⟨_, rfl, Or.inl ⟨rfl, ⟨by omega, by omega⟩, (show ¬ (a17 16 m.toInt.toNat).toInt = 0 from by rw [ea17, mU_cell (by decide), fa14.1 16 (by decide), W1]; decide), fun j _ hj => (show a17 16 j = a 16 j from by rw [ea17, mU_cell (by decide), fa14.1 16 (by decide)]; exact W2 j hj)⟩⟩⟩
        · skip
          refine qw_const rfl ?_
          refine qw_goto rfl ?_
          refine qw_const rfl ?_
          refine qw_invV (rest := []) rfl rfl rfl rfl rfl (Nat.le_of_ble_eq_true rfl) rfl (y_copies (d := d0) a7 b  0 0 60 ) (fun v18 h9 hq19 => ?_)
          obtain ⟨a20, rfl, fa20, rfl⟩ := hq19
          show f_pq _ _ (70, [some (.inr (.inr (some 0))), some (.inl m), some (.inl bk)], [], mH a20 b) _
          refine qw_aload rfl rfl ?_
          refine qw_iload rfl rfl ?_
          refine qw_if_eq rfl (fun c21 => ?_) (fun c21 => ?_)
          · skip
            refine qw_aload rfl rfl ?_
            refine qw_getI (v := .inl (a20 0 23)) rfl rfl rfl rfl rfl ?_
            refine qm_putI (z := false) rfl rfl rfl rfl (by first | (intro h9; cases h9; done) | (intro _; first | exact Or.inl rfl | exact Or.inr rfl | assumption)) (fun a22 ea22 => ?_)
            have ua22_23 : a22 0 23 = (a20 0 23) := by rw [ea22, mU_same]
            have wa22_23 := congrArg Int32.toInt ua22_23
            refine qw_const rfl ?_
            exact qwp_iret (z := true) rfl (fun _ => by first | exact Or.inl rfl | exact Or.inr rfl | (rcases (by omega : (1 : Int32).toInt = 0 ∨ (1 : Int32).toInt = 1) with h8 | h8; exact Or.inl (ti_eq h8); exact Or.inr (ti_eq h8))) ⟨a22, rfl, ⟨FR.up (FR.tr (FR.up (FR.up (FR.rf) (by decide) ea1) (by decide) ea7) (FR.sub fa20.1 (by decide))) (by decide) ea22, trivial⟩, ⟨_, rfl, Or.inl ⟨rfl, ⟨by omega, by omega⟩, (show ¬ (a22 16 m.toInt.toNat).toInt = 0 from by rw [ea22, mU_cell (by decide), fa20.1 16 (by decide), W1]; decide), fun j _ hj => (show a22 16 j = a 16 j from by rw [ea22, mU_cell (by decide), fa20.1 16 (by decide)]; exact W2 j hj)⟩⟩⟩
          · skip
            refine qw_const rfl ?_
            refine qw_goto rfl ?_
            refine qm_putI (z := false) rfl rfl rfl rfl (by first | (intro h9; cases h9; done) | (intro _; first | exact Or.inl rfl | exact Or.inr rfl | assumption)) (fun a23 ea23 => ?_)
            have ua23_23 : a23 0 23 = (0 : Int32) := by rw [ea23, mU_same]
            have wa23_23 := congrArg Int32.toInt ua23_23
            refine qw_const rfl ?_
            exact qwp_iret (z := true) rfl (fun _ => by first | exact Or.inl rfl | exact Or.inr rfl | (rcases (by omega : (1 : Int32).toInt = 0 ∨ (1 : Int32).toInt = 1) with h8 | h8; exact Or.inl (ti_eq h8); exact Or.inr (ti_eq h8))) ⟨a23, rfl, ⟨FR.up (FR.tr (FR.up (FR.up (FR.rf) (by decide) ea1) (by decide) ea7) (FR.sub fa20.1 (by decide))) (by decide) ea23, trivial⟩, ⟨_, rfl, Or.inl ⟨rfl, ⟨by omega, by omega⟩, (show ¬ (a23 16 m.toInt.toNat).toInt = 0 from by rw [ea23, mU_cell (by decide), fa20.1 16 (by decide), W1]; decide), fun j _ hj => (show a23 16 j = a 16 j from by rw [ea23, mU_cell (by decide), fa20.1 16 (by decide)]; exact W2 j hj)⟩⟩⟩
      · skip
        refine qw_const rfl ?_
        refine qw_const rfl ?_
        refine qw_iload rfl rfl ?_
        first | refine qw_iadd rfl (by omega) (fun x24 tx24 => ?_) | refine qw_iiU rfl (fun x24 tx24 => ?_)
        first | refine qw_imul rfl (c := 60) rfl (by omega) (fun x25 tx25 => ?_) | refine qw_iiU rfl (fun x25 tx25 => ?_)
        refine qw_goto rfl ?_
        refine qw_iload rfl rfl ?_
        refine qw_if_eq rfl (fun c26 => ?_) (fun c26 => ?_)
        · skip
          refine qw_const rfl ?_
          refine qw_const rfl ?_
          refine qw_iload rfl rfl ?_
          first | refine qw_iadd rfl (by omega) (fun x27 tx27 => ?_) | refine qw_iiU rfl (fun x27 tx27 => ?_)
          first | refine qw_imul rfl (c := 60) rfl (by omega) (fun x28 tx28 => ?_) | refine qw_iiU rfl (fun x28 tx28 => ?_)
          refine qw_const rfl ?_
          refine qw_invV (rest := []) rfl rfl rfl rfl rfl (Nat.le_of_ble_eq_true rfl) rfl (y_copies (d := d0) a7 b  x25 x28 60 ) (fun v29 h9 hq30 => ?_)
          obtain ⟨a31, rfl, fa31, rfl⟩ := hq30
          show f_pq _ _ (70, [some (.inr (.inr (some 0))), some (.inl m), some (.inl bk)], [], mH a31 b) _
          refine qw_aload rfl rfl ?_
          refine qw_iload rfl rfl ?_
          refine qw_if_eq rfl (fun c32 => ?_) (fun c32 => ?_)
          · skip
            refine qw_aload rfl rfl ?_
            refine qw_getI (v := .inl (a31 0 23)) rfl rfl rfl rfl rfl ?_
            refine qm_putI (z := false) rfl rfl rfl rfl (by first | (intro h9; cases h9; done) | (intro _; first | exact Or.inl rfl | exact Or.inr rfl | assumption)) (fun a33 ea33 => ?_)
            have ua33_23 : a33 0 23 = (a31 0 23) := by rw [ea33, mU_same]
            have wa33_23 := congrArg Int32.toInt ua33_23
            refine qw_const rfl ?_
            exact qwp_iret (z := true) rfl (fun _ => by first | exact Or.inl rfl | exact Or.inr rfl | (rcases (by omega : (1 : Int32).toInt = 0 ∨ (1 : Int32).toInt = 1) with h8 | h8; exact Or.inl (ti_eq h8); exact Or.inr (ti_eq h8))) ⟨a33, rfl, ⟨FR.up (FR.tr (FR.up (FR.up (FR.rf) (by decide) ea1) (by decide) ea7) (FR.sub fa31.1 (by decide))) (by decide) ea33, trivial⟩, ⟨_, rfl, Or.inl ⟨rfl, ⟨by omega, by omega⟩, (show ¬ (a33 16 m.toInt.toNat).toInt = 0 from by rw [ea33, mU_cell (by decide), fa31.1 16 (by decide), W1]; decide), fun j _ hj => (show a33 16 j = a 16 j from by rw [ea33, mU_cell (by decide), fa31.1 16 (by decide)]; exact W2 j hj)⟩⟩⟩
          · skip
            refine qw_const rfl ?_
            refine qw_goto rfl ?_
            refine qm_putI (z := false) rfl rfl rfl rfl (by first | (intro h9; cases h9; done) | (intro _; first | exact Or.inl rfl | exact Or.inr rfl | assumption)) (fun a34 ea34 => ?_)
            have ua34_23 : a34 0 23 = (0 : Int32) := by rw [ea34, mU_same]
            have wa34_23 := congrArg Int32.toInt ua34_23
            refine qw_const rfl ?_
            exact qwp_iret (z := true) rfl (fun _ => by first | exact Or.inl rfl | exact Or.inr rfl | (rcases (by omega : (1 : Int32).toInt = 0 ∨ (1 : Int32).toInt = 1) with h8 | h8; exact Or.inl (ti_eq h8); exact Or.inr (ti_eq h8))) ⟨a34, rfl, ⟨FR.up (FR.tr (FR.up (FR.up (FR.rf) (by decide) ea1) (by decide) ea7) (FR.sub fa31.1 (by decide))) (by decide) ea34, trivial⟩, ⟨_, rfl, Or.inl ⟨rfl, ⟨by omega, by omega⟩, (show ¬ (a34 16 m.toInt.toNat).toInt = 0 from by rw [ea34, mU_cell (by decide), fa31.1 16 (by decide), W1]; decide), fun j _ hj => (show a34 16 j = a 16 j from by rw [ea34, mU_cell (by decide), fa31.1 16 (by decide)]; exact W2 j hj)⟩⟩⟩
        · skip
          refine qw_const rfl ?_
          refine qw_goto rfl ?_
          refine qw_const rfl ?_
          refine qw_invV (rest := []) rfl rfl rfl rfl rfl (Nat.le_of_ble_eq_true rfl) rfl (y_copies (d := d0) a7 b  x25 0 60 ) (fun v35 h9 hq36 => ?_)
          obtain ⟨a37, rfl, fa37, rfl⟩ := hq36
          show f_pq _ _ (70, [some (.inr (.inr (some 0))), some (.inl m), some (.inl bk)], [], mH a37 b) _
          refine qw_aload rfl rfl ?_
          refine qw_iload rfl rfl ?_
          refine qw_if_eq rfl (fun c38 => ?_) (fun c38 => ?_)
          · skip
            refine qw_aload rfl rfl ?_
            refine qw_getI (v := .inl (a37 0 23)) rfl rfl rfl rfl rfl ?_
            refine qm_putI (z := false) rfl rfl rfl rfl (by first | (intro h9; cases h9; done) | (intro _; first | exact Or.inl rfl | exact Or.inr rfl | assumption)) (fun a39 ea39 => ?_)
            have ua39_23 : a39 0 23 = (a37 0 23) := by rw [ea39, mU_same]
            have wa39_23 := congrArg Int32.toInt ua39_23
            refine qw_const rfl ?_
            exact qwp_iret (z := true) rfl (fun _ => by first | exact Or.inl rfl | exact Or.inr rfl | (rcases (by omega : (1 : Int32).toInt = 0 ∨ (1 : Int32).toInt = 1) with h8 | h8; exact Or.inl (ti_eq h8); exact Or.inr (ti_eq h8))) ⟨a39, rfl, ⟨FR.up (FR.tr (FR.up (FR.up (FR.rf) (by decide) ea1) (by decide) ea7) (FR.sub fa37.1 (by decide))) (by decide) ea39, trivial⟩, ⟨_, rfl, Or.inl ⟨rfl, ⟨by omega, by omega⟩, (show ¬ (a39 16 m.toInt.toNat).toInt = 0 from by rw [ea39, mU_cell (by decide), fa37.1 16 (by decide), W1]; decide), fun j _ hj => (show a39 16 j = a 16 j from by rw [ea39, mU_cell (by decide), fa37.1 16 (by decide)]; exact W2 j hj)⟩⟩⟩
          · skip
            refine qw_const rfl ?_
            refine qw_goto rfl ?_
            refine qm_putI (z := false) rfl rfl rfl rfl (by first | (intro h9; cases h9; done) | (intro _; first | exact Or.inl rfl | exact Or.inr rfl | assumption)) (fun a40 ea40 => ?_)
            have ua40_23 : a40 0 23 = (0 : Int32) := by rw [ea40, mU_same]
            have wa40_23 := congrArg Int32.toInt ua40_23
            refine qw_const rfl ?_
            exact qwp_iret (z := true) rfl (fun _ => by first | exact Or.inl rfl | exact Or.inr rfl | (rcases (by omega : (1 : Int32).toInt = 0 ∨ (1 : Int32).toInt = 1) with h8 | h8; exact Or.inl (ti_eq h8); exact Or.inr (ti_eq h8))) ⟨a40, rfl, ⟨FR.up (FR.tr (FR.up (FR.up (FR.rf) (by decide) ea1) (by decide) ea7) (FR.sub fa37.1 (by decide))) (by decide) ea40, trivial⟩, ⟨_, rfl, Or.inl ⟨rfl, ⟨by omega, by omega⟩, (show ¬ (a40 16 m.toInt.toNat).toInt = 0 from by rw [ea40, mU_cell (by decide), fa37.1 16 (by decide), W1]; decide), fun j _ hj => (show a40 16 j = a 16 j from by rw [ea40, mU_cell (by decide), fa37.1 16 (by decide)]; exact W2 j hj)⟩⟩⟩
    · skip
      refine qw_aload rfl rfl ?_
      refine qw_getR (v := .inr (.inr (some 16))) rfl rfl rfl rfl rfl ?_
      refine qw_iload rfl rfl ?_
      refine qm_bald rfl rfl (fun jx41 x41 ex41 => ?_)
      have b9 : x41.toInt = (a 16 m.toInt.toNat).toInt := by rw [ex41, ea1, mU_cell (by decide)]
      refine qw_if_ne rfl (fun c42 => ?_) (fun c42 => ?_)
      · skip
        refine qw_const rfl ?_
        exact qwp_iret (z := true) rfl (fun _ => by first | exact Or.inl rfl | exact Or.inr rfl | (rcases (by omega : (0 : Int32).toInt = 0 ∨ (0 : Int32).toInt = 1) with h8 | h8; exact Or.inl (ti_eq h8); exact Or.inr (ti_eq h8))) ⟨a1, rfl, ⟨FR.up (FR.rf) (by decide) ea1, trivial⟩, ⟨_, rfl, Or.inr ⟨rfl, fun h => by (obtain ⟨h1, h2⟩ := h; have h2 : bk.toInt = 0 ∨ ¬ (a 16 m.toInt.toNat).toInt = 0 := h2; omega), fun j _ => (show a1 16 j = a 16 j from by rw [ea1, mU_cell (by decide)])⟩⟩⟩
      · skip
        refine qw_aload rfl rfl ?_
        refine qw_getR (v := .inr (.inr (some 16))) rfl rfl rfl rfl rfl ?_
        refine qw_iload rfl rfl ?_
        refine qw_const rfl ?_
        refine qm_bast rfl rfl (fun ja43 a43 ea43 => ?_)
        have W1 : a43 16 m.toInt.toNat = 1 := by rw [ea43, mU_same]; rfl
        have W2 : ∀ j, ¬ j = m.toInt.toNat → a43 16 j = a 16 j := fun j hj => by rw [ea43, mU_slot hj, ea1, mU_cell (by decide)]
        refine qw_aload rfl rfl ?_
        refine qw_iload rfl rfl ?_
        refine qw_if_eq rfl (fun c44 => ?_) (fun c44 => ?_)
        · skip
          refine qw_const rfl ?_
          refine qw_iload rfl rfl ?_
          refine qw_if_eq rfl (fun c45 => ?_) (fun c45 => ?_)
          · skip
            refine qw_const rfl ?_
            refine qw_const rfl ?_
            refine qw_iload rfl rfl ?_
            first | refine qw_iadd rfl (by omega) (fun x46 tx46 => ?_) | refine qw_iiU rfl (fun x46 tx46 => ?_)
            first | refine qw_imul rfl (c := 60) rfl (by omega) (fun x47 tx47 => ?_) | refine qw_iiU rfl (fun x47 tx47 => ?_)
            refine qw_const rfl ?_
            refine qw_invV (rest := []) rfl rfl rfl rfl rfl (Nat.le_of_ble_eq_true rfl) rfl (y_copies (d := d0) a43 b  0 x47 60 ) (fun v48 h9 hq49 => ?_)
            obtain ⟨a50, rfl, fa50, rfl⟩ := hq49
            show f_pq _ _ (70, [some (.inr (.inr (some 0))), some (.inl m), some (.inl bk)], [], mH a50 b) _
            refine qw_aload rfl rfl ?_
            refine qw_iload rfl rfl ?_
            refine qw_if_eq rfl (fun c51 => ?_) (fun c51 => ?_)
            · skip
              refine qw_aload rfl rfl ?_
              refine qw_getI (v := .inl (a50 0 23)) rfl rfl rfl rfl rfl ?_
              refine qm_putI (z := false) rfl rfl rfl rfl (by first | (intro h9; cases h9; done) | (intro _; first | exact Or.inl rfl | exact Or.inr rfl | assumption)) (fun a52 ea52 => ?_)
              have ua52_23 : a52 0 23 = (a50 0 23) := by rw [ea52, mU_same]
              have wa52_23 := congrArg Int32.toInt ua52_23
              refine qw_const rfl ?_
              exact qwp_iret (z := true) rfl (fun _ => by first | exact Or.inl rfl | exact Or.inr rfl | (rcases (by omega : (1 : Int32).toInt = 0 ∨ (1 : Int32).toInt = 1) with h8 | h8; exact Or.inl (ti_eq h8); exact Or.inr (ti_eq h8))) ⟨a52, rfl, ⟨FR.up (FR.tr (FR.up (FR.up (FR.rf) (by decide) ea1) (by decide) ea43) (FR.sub fa50.1 (by decide))) (by decide) ea52, trivial⟩, ⟨_, rfl, Or.inl ⟨rfl, ⟨by omega, by omega⟩, (show ¬ (a52 16 m.toInt.toNat).toInt = 0 from by rw [ea52, mU_cell (by decide), fa50.1 16 (by decide), W1]; decide), fun j _ hj => (show a52 16 j = a 16 j from by rw [ea52, mU_cell (by decide), fa50.1 16 (by decide)]; exact W2 j hj)⟩⟩⟩
            · skip
              refine qw_const rfl ?_
              refine qw_goto rfl ?_
              refine qm_putI (z := false) rfl rfl rfl rfl (by first | (intro h9; cases h9; done) | (intro _; first | exact Or.inl rfl | exact Or.inr rfl | assumption)) (fun a53 ea53 => ?_)
              have ua53_23 : a53 0 23 = (0 : Int32) := by rw [ea53, mU_same]
              have wa53_23 := congrArg Int32.toInt ua53_23
              refine qw_const rfl ?_
              exact qwp_iret (z := true) rfl (fun _ => by first | exact Or.inl rfl | exact Or.inr rfl | (rcases (by omega : (1 : Int32).toInt = 0 ∨ (1 : Int32).toInt = 1) with h8 | h8; exact Or.inl (ti_eq h8); exact Or.inr (ti_eq h8))) ⟨a53, rfl, ⟨FR.up (FR.tr (FR.up (FR.up (FR.rf) (by decide) ea1) (by decide) ea43) (FR.sub fa50.1 (by decide))) (by decide) ea53, trivial⟩, ⟨_, rfl, Or.inl ⟨rfl, ⟨by omega, by omega⟩, (show ¬ (a53 16 m.toInt.toNat).toInt = 0 from by rw [ea53, mU_cell (by decide), fa50.1 16 (by decide), W1]; decide), fun j _ hj => (show a53 16 j = a 16 j from by rw [ea53, mU_cell (by decide), fa50.1 16 (by decide)]; exact W2 j hj)⟩⟩⟩
          · skip
            refine qw_const rfl ?_
            refine qw_goto rfl ?_
            refine qw_const rfl ?_
            refine qw_invV (rest := []) rfl rfl rfl rfl rfl (Nat.le_of_ble_eq_true rfl) rfl (y_copies (d := d0) a43 b  0 0 60 ) (fun v54 h9 hq55 => ?_)
            obtain ⟨a56, rfl, fa56, rfl⟩ := hq55
            show f_pq _ _ (70, [some (.inr (.inr (some 0))), some (.inl m), some (.inl bk)], [], mH a56 b) _
            refine qw_aload rfl rfl ?_
            refine qw_iload rfl rfl ?_
            refine qw_if_eq rfl (fun c57 => ?_) (fun c57 => ?_)
            · skip
              refine qw_aload rfl rfl ?_
              refine qw_getI (v := .inl (a56 0 23)) rfl rfl rfl rfl rfl ?_
              refine qm_putI (z := false) rfl rfl rfl rfl (by first | (intro h9; cases h9; done) | (intro _; first | exact Or.inl rfl | exact Or.inr rfl | assumption)) (fun a58 ea58 => ?_)
              have ua58_23 : a58 0 23 = (a56 0 23) := by rw [ea58, mU_same]
              have wa58_23 := congrArg Int32.toInt ua58_23
              refine qw_const rfl ?_
              exact qwp_iret (z := true) rfl (fun _ => by first | exact Or.inl rfl | exact Or.inr rfl | (rcases (by omega : (1 : Int32).toInt = 0 ∨ (1 : Int32).toInt = 1) with h8 | h8; exact Or.inl (ti_eq h8); exact Or.inr (ti_eq h8))) ⟨a58, rfl, ⟨FR.up (FR.tr (FR.up (FR.up (FR.rf) (by decide) ea1) (by decide) ea43) (FR.sub fa56.1 (by decide))) (by decide) ea58, trivial⟩, ⟨_, rfl, Or.inl ⟨rfl, ⟨by omega, by omega⟩, (show ¬ (a58 16 m.toInt.toNat).toInt = 0 from by rw [ea58, mU_cell (by decide), fa56.1 16 (by decide), W1]; decide), fun j _ hj => (show a58 16 j = a 16 j from by rw [ea58, mU_cell (by decide), fa56.1 16 (by decide)]; exact W2 j hj)⟩⟩⟩
            · skip
              refine qw_const rfl ?_
              refine qw_goto rfl ?_
              refine qm_putI (z := false) rfl rfl rfl rfl (by first | (intro h9; cases h9; done) | (intro _; first | exact Or.inl rfl | exact Or.inr rfl | assumption)) (fun a59 ea59 => ?_)
              have ua59_23 : a59 0 23 = (0 : Int32) := by rw [ea59, mU_same]
              have wa59_23 := congrArg Int32.toInt ua59_23
              refine qw_const rfl ?_
              exact qwp_iret (z := true) rfl (fun _ => by first | exact Or.inl rfl | exact Or.inr rfl | (rcases (by omega : (1 : Int32).toInt = 0 ∨ (1 : Int32).toInt = 1) with h8 | h8; exact Or.inl (ti_eq h8); exact Or.inr (ti_eq h8))) ⟨a59, rfl, ⟨FR.up (FR.tr (FR.up (FR.up (FR.rf) (by decide) ea1) (by decide) ea43) (FR.sub fa56.1 (by decide))) (by decide) ea59, trivial⟩, ⟨_, rfl, Or.inl ⟨rfl, ⟨by omega, by omega⟩, (show ¬ (a59 16 m.toInt.toNat).toInt = 0 from by rw [ea59, mU_cell (by decide), fa56.1 16 (by decide), W1]; decide), fun j _ hj => (show a59 16 j = a 16 j from by rw [ea59, mU_cell (by decide), fa56.1 16 (by decide)]; exact W2 j hj)⟩⟩⟩
        · skip
          refine qw_const rfl ?_
          refine qw_const rfl ?_
          refine qw_iload rfl rfl ?_
          first | refine qw_iadd rfl (by omega) (fun x60 tx60 => ?_) | refine qw_iiU rfl (fun x60 tx60 => ?_)
          first | refine qw_imul rfl (c := 60) rfl (by omega) (fun x61 tx61 => ?_) | refine qw_iiU rfl (fun x61 tx61 => ?_)
          refine qw_goto rfl ?_
          refine qw_iload rfl rfl ?_
          refine qw_if_eq rfl (fun c62 => ?_) (fun c62 => ?_)
          · skip
            refine qw_const rfl ?_
            refine qw_const rfl ?_
            refine qw_iload rfl rfl ?_
            first | refine qw_iadd rfl (by omega) (fun x63 tx63 => ?_) | refine qw_iiU rfl (fun x63 tx63 => ?_)
            first | refine qw_imul rfl (c := 60) rfl (by omega) (fun x64 tx64 => ?_) | refine qw_iiU rfl (fun x64 tx64 => ?_)
            refine qw_const rfl ?_
            refine qw_invV (rest := []) rfl rfl rfl rfl rfl (Nat.le_of_ble_eq_true rfl) rfl (y_copies (d := d0) a43 b  x61 x64 60 ) (fun v65 h9 hq66 => ?_)
            obtain ⟨a67, rfl, fa67, rfl⟩ := hq66
            show f_pq _ _ (70, [some (.inr (.inr (some 0))), some (.inl m), some (.inl bk)], [], mH a67 b) _
            refine qw_aload rfl rfl ?_
            refine qw_iload rfl rfl ?_
            refine qw_if_eq rfl (fun c68 => ?_) (fun c68 => ?_)
            · skip
              refine qw_aload rfl rfl ?_
              refine qw_getI (v := .inl (a67 0 23)) rfl rfl rfl rfl rfl ?_
              refine qm_putI (z := false) rfl rfl rfl rfl (by first | (intro h9; cases h9; done) | (intro _; first | exact Or.inl rfl | exact Or.inr rfl | assumption)) (fun a69 ea69 => ?_)
              have ua69_23 : a69 0 23 = (a67 0 23) := by rw [ea69, mU_same]
              have wa69_23 := congrArg Int32.toInt ua69_23
              refine qw_const rfl ?_
              exact qwp_iret (z := true) rfl (fun _ => by first | exact Or.inl rfl | exact Or.inr rfl | (rcases (by omega : (1 : Int32).toInt = 0 ∨ (1 : Int32).toInt = 1) with h8 | h8; exact Or.inl (ti_eq h8); exact Or.inr (ti_eq h8))) ⟨a69, rfl, ⟨FR.up (FR.tr (FR.up (FR.up (FR.rf) (by decide) ea1) (by decide) ea43) (FR.sub fa67.1 (by decide))) (by decide) ea69, trivial⟩, ⟨_, rfl, Or.inl ⟨rfl, ⟨by omega, by omega⟩, (show ¬ (a69 16 m.toInt.toNat).toInt = 0 from by rw [ea69, mU_cell (by decide), fa67.1 16 (by decide), W1]; decide), fun j _ hj => (show a69 16 j = a 16 j from by rw [ea69, mU_cell (by decide), fa67.1 16 (by decide)]; exact W2 j hj)⟩⟩⟩
            · skip
              refine qw_const rfl ?_
              refine qw_goto rfl ?_
              refine qm_putI (z := false) rfl rfl rfl rfl (by first | (intro h9; cases h9; done) | (intro _; first | exact Or.inl rfl | exact Or.inr rfl | assumption)) (fun a70 ea70 => ?_)
              have ua70_23 : a70 0 23 = (0 : Int32) := by rw [ea70, mU_same]
              have wa70_23 := congrArg Int32.toInt ua70_23
              refine qw_const rfl ?_
              exact qwp_iret (z := true) rfl (fun _ => by first | exact Or.inl rfl | exact Or.inr rfl | (rcases (by omega : (1 : Int32).toInt = 0 ∨ (1 : Int32).toInt = 1) with h8 | h8; exact Or.inl (ti_eq h8); exact Or.inr (ti_eq h8))) ⟨a70, rfl, ⟨FR.up (FR.tr (FR.up (FR.up (FR.rf) (by decide) ea1) (by decide) ea43) (FR.sub fa67.1 (by decide))) (by decide) ea70, trivial⟩, ⟨_, rfl, Or.inl ⟨rfl, ⟨by omega, by omega⟩, (show ¬ (a70 16 m.toInt.toNat).toInt = 0 from by rw [ea70, mU_cell (by decide), fa67.1 16 (by decide), W1]; decide), fun j _ hj => (show a70 16 j = a 16 j from by rw [ea70, mU_cell (by decide), fa67.1 16 (by decide)]; exact W2 j hj)⟩⟩⟩
          · skip
            refine qw_const rfl ?_
            refine qw_goto rfl ?_
            refine qw_const rfl ?_
            refine qw_invV (rest := []) rfl rfl rfl rfl rfl (Nat.le_of_ble_eq_true rfl) rfl (y_copies (d := d0) a43 b  x61 0 60 ) (fun v71 h9 hq72 => ?_)
            obtain ⟨a73, rfl, fa73, rfl⟩ := hq72
            show f_pq _ _ (70, [some (.inr (.inr (some 0))), some (.inl m), some (.inl bk)], [], mH a73 b) _
            refine qw_aload rfl rfl ?_
            refine qw_iload rfl rfl ?_
            refine qw_if_eq rfl (fun c74 => ?_) (fun c74 => ?_)
            · skip
              refine qw_aload rfl rfl ?_
              refine qw_getI (v := .inl (a73 0 23)) rfl rfl rfl rfl rfl ?_
              refine qm_putI (z := false) rfl rfl rfl rfl (by first | (intro h9; cases h9; done) | (intro _; first | exact Or.inl rfl | exact Or.inr rfl | assumption)) (fun a75 ea75 => ?_)
              have ua75_23 : a75 0 23 = (a73 0 23) := by rw [ea75, mU_same]
              have wa75_23 := congrArg Int32.toInt ua75_23
              refine qw_const rfl ?_
              exact qwp_iret (z := true) rfl (fun _ => by first | exact Or.inl rfl | exact Or.inr rfl | (rcases (by omega : (1 : Int32).toInt = 0 ∨ (1 : Int32).toInt = 1) with h8 | h8; exact Or.inl (ti_eq h8); exact Or.inr (ti_eq h8))) ⟨a75, rfl, ⟨FR.up (FR.tr (FR.up (FR.up (FR.rf) (by decide) ea1) (by decide) ea43) (FR.sub fa73.1 (by decide))) (by decide) ea75, trivial⟩, ⟨_, rfl, Or.inl ⟨rfl, ⟨by omega, by omega⟩, (show ¬ (a75 16 m.toInt.toNat).toInt = 0 from by rw [ea75, mU_cell (by decide), fa73.1 16 (by decide), W1]; decide), fun j _ hj => (show a75 16 j = a 16 j from by rw [ea75, mU_cell (by decide), fa73.1 16 (by decide)]; exact W2 j hj)⟩⟩⟩
            · skip
              refine qw_const rfl ?_
              refine qw_goto rfl ?_
              refine qm_putI (z := false) rfl rfl rfl rfl (by first | (intro h9; cases h9; done) | (intro _; first | exact Or.inl rfl | exact Or.inr rfl | assumption)) (fun a76 ea76 => ?_)
              have ua76_23 : a76 0 23 = (0 : Int32) := by rw [ea76, mU_same]
              have wa76_23 := congrArg Int32.toInt ua76_23
              refine qw_const rfl ?_
              exact qwp_iret (z := true) rfl (fun _ => by first | exact Or.inl rfl | exact Or.inr rfl | (rcases (by omega : (1 : Int32).toInt = 0 ∨ (1 : Int32).toInt = 1) with h8 | h8; exact Or.inl (ti_eq h8); exact Or.inr (ti_eq h8))) ⟨a76, rfl, ⟨FR.up (FR.tr (FR.up (FR.up (FR.rf) (by decide) ea1) (by decide) ea43) (FR.sub fa73.1 (by decide))) (by decide) ea76, trivial⟩, ⟨_, rfl, Or.inl ⟨rfl, ⟨by omega, by omega⟩, (show ¬ (a76 16 m.toInt.toNat).toInt = 0 from by rw [ea76, mU_cell (by decide), fa73.1 16 (by decide), W1]; decide), fun j _ hj => (show a76 16 j = a 16 j from by rw [ea76, mU_cell (by decide), fa73.1 16 (by decide)]; exact W2 j hj)⟩⟩⟩
