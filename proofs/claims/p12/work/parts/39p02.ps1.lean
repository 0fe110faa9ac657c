set_option maxRecDepth 4000 in
theorem y_wrong {d : Nat} (a : Nat → Nat → Int32) (b : Nat → Nat → Int64) (z : Nat) (N : Nat) (c : Nat) (e : Int) (t : Nat → Int32)(w : Int32) (hw : 1 ≤ w.toInt ∧ w.toInt ≤ 5) (hM : MS t z N c e a b) : f_pc mtM d 7 [.inr (.inr (some 0)), .inl w] (mH a b) (fun v9 h' => ∃ (a' : Nat → Nat → Int32), h' = mH a' b ∧ (FR [0] a a' ∧ ((∀ j, j ≠ 8 → a' 0 j = a 0 j) ∧ MS t z N c (eE e (flt t z c w.toInt)) a' b)) ∧ v9 = none) := by
  refine f_pc_of rfl (fun d0 fu hd => ?_)
  show f_pq _ _ (0, [some (.inr (.inr (some 0))), some (.inl w)], [], mH a b) _
  have l16 : (16 : Int32).toInt = 16 := rfl
  have m8 := hM.e8
  have ma := hM.at
  have m7 := hM.tok
  refine qw_aload rfl rfl ?_
  refine qw_getI (v := .inl (a 0 8)) rfl rfl rfl rfl rfl ?_
  refine qw_if_ne rfl (fun c1 => ?_) (fun c1 => ?_)
  · skip
    refine qw_aload rfl rfl ?_
    refine qw_iload rfl rfl ?_
    refine qw_const rfl ?_
    refine qw_aload rfl rfl ?_
    refine qw_getR (v := .inr (.inr (some 3))) rfl rfl rfl rfl rfl ?_
    refine qw_aload rfl rfl ?_
    refine qw_getI (v := .inl (a 0 7)) rfl rfl rfl rfl rfl ?_
    refine qm_iald rfl rfl (fun jx2 x2 ex2 => ?_)
    have m9 := m7 (by omega)
    have e9 := congrArg Int32.toInt ex2
    rw [m9.2.1] at e9
    first | refine qw_imul rfl (c := 16) rfl (by omega) (fun x3 tx3 => ?_) | refine qw_iiU rfl (fun x3 tx3 => ?_)
    first | refine qw_iadd rfl (by omega) (fun x4 tx4 => ?_) | refine qw_iiU rfl (fun x4 tx4 => ?_)
    refine qm_putI (z := false) rfl rfl rfl rfl (by first | (intro h9; cases h9; done) | (intro _; first | exact Or.inl rfl | exact Or.inr rfl | assumption)) (fun a5 ea5 => ?_)
    have ua5_7 : (a5 0 7).toInt = (a 0 7).toInt := by rw [ea5, mU_slot (by decide)]
    have ua5_8 : a5 0 8 = x4 := by rw [ea5, mU_same]
    have wa5_8 := congrArg Int32.toInt ua5_8
    exact qw_ret rfl ⟨a5, rfl, ⟨FR.up (FR.rf) (by decide) ea5, ⟨fun j hj => by rw [ea5, mU_slot hj], by rw [eE_0 (by omega)]; exact hM.step (by rw [ea5, mU_cell (by decide)]) (by rw [ea5, mU_cell (by decide)]) (by have := flt_pos (t := t) (z := z) (c := c) hw.1; omega) (by rw [ea5, mU_same]; unfold flt; omega) (fun h => absurd h (by have := flt_pos (t := t) (z := z) (c := c) hw.1; omega)) (by rw [ea5, mU_slot (by decide)]; exact ma)⟩⟩, rfl⟩
  · skip
    exact qw_ret rfl ⟨a, rfl, ⟨FR.rf, ⟨fun j _ => rfl, by rw [eE_x (by omega)]; exact hM⟩⟩, rfl⟩
set_option maxRecDepth 4000 in
theorem y_isSign {d : Nat} (a : Nat → Nat → Int32) (b : Nat → Nat → Int64) (z : Nat) (N : Nat) (c : Nat) (e : Int) (t : Nat → Int32)(p : Int32) (hM : MS t z N c e a b) : f_pc mtM d 8 [.inr (.inr (some 0)), .inl p] (mH a b) (fun v9 h' => h' = mH a b ∧ ∃ x : Int32, v9 = some (.inl x) ∧ ((x.toInt = 1 ∧ (e = 0 ∧ tkS t z c p.toInt)) ∨ (x.toInt = 0 ∧ ¬ (e = 0 ∧ tkS t z c p.toInt)))) := by
  refine f_pc_of rfl (fun d0 fu hd => ?_)
  show f_pq _ _ (0, [some (.inr (.inr (some 0))), some (.inl p)], [], mH a b) _
  have l0 : (0 : Int32).toInt = 0 := rfl
  have l1 : (1 : Int32).toInt = 1 := rfl
  have l3 : (3 : Int32).toInt = 3 := rfl
  have m8 := hM.e8
  have ma := hM.at
  have m7 := hM.tok
  have g9 := fun he : e = 0 => hM.sgn he p.toInt
  refine qw_aload rfl rfl ?_
  refine qw_getI (v := .inl (a 0 8)) rfl rfl rfl rfl rfl ?_
  refine qw_if_ne rfl (fun c1 => ?_) (fun c1 => ?_)
  · skip
    refine qw_aload rfl rfl ?_
    refine qw_getR (v := .inr (.inr (some 2))) rfl rfl rfl rfl rfl ?_
    refine qw_aload rfl rfl ?_
    refine qw_getI (v := .inl (a 0 7)) rfl rfl rfl rfl rfl ?_
    refine qm_iald rfl rfl (fun jx2 x2 ex2 => ?_)
    have m9 := m7 (by omega)
    have e9 := congrArg Int32.toInt ex2
    rw [m9.2.1] at e9
    refine qw_const rfl ?_
    refine qw_ic_ne rfl (fun c3 => ?_) (fun c3 => ?_)
    · skip
      refine qw_aload rfl rfl ?_
      refine qw_getR (v := .inr (.inr (some 4))) rfl rfl rfl rfl rfl ?_
      refine qw_aload rfl rfl ?_
      refine qw_getI (v := .inl (a 0 7)) rfl rfl rfl rfl rfl ?_
      refine qm_lald rfl rfl (fun jy4 y4 ey4 => ?_)
      have e7 := congrArg Int64.toInt ey4
      rw [m9.2.1] at e7
      refine qw_iload rfl rfl ?_
      refine qw_i2lE rfl (fun y5 ty5 => ?_)
      have c8 := i2l_ti (x := p) ty5
      refine qw_lcmpE rfl (fun x6 tx6 => ?_)
      have c9 := cmp_ti tx6
      refine qw_if_ne rfl (fun c7 => ?_) (fun c7 => ?_)
      · skip
        refine qw_const rfl ?_
        refine qw_goto rfl ?_
        exact qwp_iret (z := true) rfl (fun _ => by first | exact Or.inl rfl | exact Or.inr rfl | (rcases (by omega : (1 : Int32).toInt = 0 ∨ (1 : Int32).toInt = 1) with h8 | h8; exact Or.inl (ti_eq h8); exact Or.inr (ti_eq h8))) ⟨rfl, ⟨_, rfl, by first | exact Or.inl ⟨rfl, by omega, (g9 (by omega)).mpr ⟨by omega, by omega⟩⟩ | exact Or.inr ⟨rfl, fun h9 => by have h8 := (g9 h9.1).mp h9.2; omega⟩ | exact Or.inr ⟨rfl, fun h9 => by have h8 := h9.1; omega⟩⟩⟩
      · skip
        refine qw_const rfl ?_
        exact qwp_iret (z := true) rfl (fun _ => by first | exact Or.inl rfl | exact Or.inr rfl | (rcases (by omega : (0 : Int32).toInt = 0 ∨ (0 : Int32).toInt = 1) with h8 | h8; exact Or.inl (ti_eq h8); exact Or.inr (ti_eq h8))) ⟨rfl, ⟨_, rfl, by first | exact Or.inl ⟨rfl, by omega, (g9 (by omega)).mpr ⟨by omega, by omega⟩⟩ | exact Or.inr ⟨rfl, fun h9 => by have h8 := (g9 h9.1).mp h9.2; omega⟩ | exact Or.inr ⟨rfl, fun h9 => by have h8 := h9.1; omega⟩⟩⟩
    · skip
      refine qw_const rfl ?_
      exact qwp_iret (z := true) rfl (fun _ => by first | exact Or.inl rfl | exact Or.inr rfl | (rcases (by omega : (0 : Int32).toInt = 0 ∨ (0 : Int32).toInt = 1) with h8 | h8; exact Or.inl (ti_eq h8); exact Or.inr (ti_eq h8))) ⟨rfl, ⟨_, rfl, by first | exact Or.inl ⟨rfl, by omega, (g9 (by omega)).mpr ⟨by omega, by omega⟩⟩ | exact Or.inr ⟨rfl, fun h9 => by have h8 := (g9 h9.1).mp h9.2; omega⟩ | exact Or.inr ⟨rfl, fun h9 => by have h8 := h9.1; omega⟩⟩⟩
  · skip
    refine qw_const rfl ?_
    exact qwp_iret (z := true) rfl (fun _ => by first | exact Or.inl rfl | exact Or.inr rfl | (rcases (by omega : (0 : Int32).toInt = 0 ∨ (0 : Int32).toInt = 1) with h8 | h8; exact Or.inl (ti_eq h8); exact Or.inr (ti_eq h8))) ⟨rfl, ⟨_, rfl, by first | exact Or.inl ⟨rfl, by omega, (g9 (by omega)).mpr ⟨by omega, by omega⟩⟩ | exact Or.inr ⟨rfl, fun h9 => by have h8 := (g9 h9.1).mp h9.2; omega⟩ | exact Or.inr ⟨rfl, fun h9 => by have h8 := h9.1; omega⟩⟩⟩
set_option maxRecDepth 4000 in
theorem y_isWord {d : Nat} (a : Nat → Nat → Int32) (b : Nat → Nat → Int64) (z : Nat) (N : Nat) (c : Nat) (e : Int) (t : Nat → Int32) (w : Nat)(p : Int32) (hw : w < 31 ∧ p.toInt.toNat = wMi.getD w 0) (hM : MS t z N c e a b) : f_pc mtM d 9 [.inr (.inr (some 0)), .inl p] (mH a b) (fun v9 h' => h' = mH a b ∧ ∃ x : Int32, v9 = some (.inl x) ∧ ((x.toInt = 1 ∧ (e = 0 ∧ tkW t z c w)) ∨ (x.toInt = 0 ∧ ¬ (e = 0 ∧ tkW t z c w)))) := by
  refine f_pc_of rfl (fun d0 fu hd => ?_)
  show f_pq _ _ (0, [some (.inr (.inr (some 0))), some (.inl p)], [], mH a b) _
  have l0 : (0 : Int32).toInt = 0 := rfl
  have l1 : (1 : Int32).toInt = 1 := rfl
  have m8 := hM.e8
  have ma := hM.at
  have m7 := hM.tok
  have g9 := fun he : e = 0 => hM.wrd he hw.1
  rw [← hw.2] at g9
  refine qw_aload rfl rfl ?_
  refine qw_getI (v := .inl (a 0 8)) rfl rfl rfl rfl rfl ?_
  refine qw_if_ne rfl (fun c1 => ?_) (fun c1 => ?_)
  · skip
    refine qw_aload rfl rfl ?_
    refine qw_getR (v := .inr (.inr (some 2))) rfl rfl rfl rfl rfl ?_
    refine qw_aload rfl rfl ?_
    refine qw_getI (v := .inl (a 0 7)) rfl rfl rfl rfl rfl ?_
    refine qm_iald rfl rfl (fun jx2 x2 ex2 => ?_)
    have m9 := m7 (by omega)
    have e9 := congrArg Int32.toInt ex2
    rw [m9.2.1] at e9
    refine qw_const rfl ?_
    refine qw_ic_ne rfl (fun c3 => ?_) (fun c3 => ?_)
    · skip
      refine qw_aload rfl rfl ?_
      refine qw_getR (v := .inr (.inr (some 4))) rfl rfl rfl rfl rfl ?_
      refine qw_aload rfl rfl ?_
      refine qw_getI (v := .inl (a 0 7)) rfl rfl rfl rfl rfl ?_
      refine qm_lald rfl rfl (fun jy4 y4 ey4 => ?_)
      have e7 := congrArg Int64.toInt ey4
      rw [m9.2.1] at e7
      refine qw_aload rfl rfl ?_
      refine qw_getR (v := .inr (.inr (some 5))) rfl rfl rfl rfl rfl ?_
      refine qw_iload rfl rfl ?_
      refine qm_lald rfl rfl (fun jy5 y5 ey5 => ?_)
      have e6 := congrArg Int64.toInt ey5
      refine qw_lcmpE rfl (fun x6 tx6 => ?_)
      have c9 := cmp_ti tx6
      refine qw_if_ne rfl (fun c7 => ?_) (fun c7 => ?_)
      · skip
        refine qw_const rfl ?_
        refine qw_goto rfl ?_
        exact qwp_iret (z := true) rfl (fun _ => by first | exact Or.inl rfl | exact Or.inr rfl | (rcases (by omega : (1 : Int32).toInt = 0 ∨ (1 : Int32).toInt = 1) with h8 | h8; exact Or.inl (ti_eq h8); exact Or.inr (ti_eq h8))) ⟨rfl, ⟨_, rfl, by first | exact Or.inl ⟨rfl, by omega, (g9 (by omega)).mpr ⟨by omega, by omega⟩⟩ | exact Or.inr ⟨rfl, fun h9 => by have h8 := (g9 h9.1).mp h9.2; omega⟩ | exact Or.inr ⟨rfl, fun h9 => by have h8 := h9.1; omega⟩⟩⟩
      · skip
        refine qw_const rfl ?_
        exact qwp_iret (z := true) rfl (fun _ => by first | exact Or.inl rfl | exact Or.inr rfl | (rcases (by omega : (0 : Int32).toInt = 0 ∨ (0 : Int32).toInt = 1) with h8 | h8; exact Or.inl (ti_eq h8); exact Or.inr (ti_eq h8))) ⟨rfl, ⟨_, rfl, by first | exact Or.inl ⟨rfl, by omega, (g9 (by omega)).mpr ⟨by omega, by omega⟩⟩ | exact Or.inr ⟨rfl, fun h9 => by have h8 := (g9 h9.1).mp h9.2; omega⟩ | exact Or.inr ⟨rfl, fun h9 => by have h8 := h9.1; omega⟩⟩⟩
    · skip
      refine qw_const rfl ?_
      exact qwp_iret (z := true) rfl (fun _ => by first | exact Or.inl rfl | exact Or.inr rfl | (rcases (by omega : (0 : Int32).toInt = 0 ∨ (0 : Int32).toInt = 1) with h8 | h8; exact Or.inl (ti_eq h8); exact Or.inr (ti_eq h8))) ⟨rfl, ⟨_, rfl, by first | exact Or.inl ⟨rfl, by omega, (g9 (by omega)).mpr ⟨by omega, by omega⟩⟩ | exact Or.inr ⟨rfl, fun h9 => by have h8 := (g9 h9.1).mp h9.2; omega⟩ | exact Or.inr ⟨rfl, fun h9 => by have h8 := h9.1; omega⟩⟩⟩
  · skip
    refine qw_const rfl ?_
    exact qwp_iret (z := true) rfl (fun _ => by first | exact Or.inl rfl | exact Or.inr rfl | (rcases (by omega : (0 : Int32).toInt = 0 ∨ (0 : Int32).toInt = 1) with h8 | h8; exact Or.inl (ti_eq h8); exact Or.inr (ti_eq h8))) ⟨rfl, ⟨_, rfl, by first | exact Or.inl ⟨rfl, by omega, (g9 (by omega)).mpr ⟨by omega, by omega⟩⟩ | exact Or.inr ⟨rfl, fun h9 => by have h8 := (g9 h9.1).mp h9.2; omega⟩ | exact Or.inr ⟨rfl, fun h9 => by have h8 := h9.1; omega⟩⟩⟩
set_option maxRecDepth 4000 in
theorem y_takeSign {d : Nat} (a : Nat → Nat → Int32) (b : Nat → Nat → Int64) (z : Nat) (N : Nat) (c : Nat) (e : Int) (t : Nat → Int32)(p : Int32) (hM : MS t z N c e a b) : f_pc mtM d 10 [.inr (.inr (some 0)), .inl p] (mH a b) (fun v9 h' => ∃ (a' : Nat → Nat → Int32), h' = mH a' b ∧ (FR [0] a a' ∧ ((∀ j, j ≠ 7 → j ≠ 8 → a' 0 j = a 0 j) ∧ MS t z N (c + 1) (eE e (tkG t z c p.toInt)) a' b)) ∧ v9 = none) := by
  refine f_pc_of rfl (fun d0 fu hd => ?_)
  show f_pq _ _ (0, [some (.inr (.inr (some 0))), some (.inl p)], [], mH a b) _
  have l1 : (1 : Int32).toInt = 1 := rfl
  have m8 := hM.e8
  have ma := hM.at
  have m7 := hM.tok
  refine qw_aload rfl rfl ?_
  refine qw_iload rfl rfl ?_
  refine qw_invV (rest := []) rfl rfl rfl rfl rfl (Nat.le_of_ble_eq_true rfl) rfl (y_isSign (d := d0) a b z N c e t p (by omega)) (fun v1 h9 hq2 => ?_)
  obtain ⟨rfl, x3, rfl, px3⟩ := hq2
  show f_pq _ _ (5, [some (.inr (.inr (some 0))), some (.inl p)], [.inl x3], mH a b) _
  have p9 := px3
  refine qw_if_eq rfl (fun c4 => ?_) (fun c4 => ?_)
  · skip
    have q9 : ¬ (e = 0 ∧ tkS t z c p.toInt) := by rcases p9 with h | h; omega; exact h.2
    refine qw_aload rfl rfl ?_
    refine qw_const rfl ?_
    refine qw_invV (rest := []) rfl rfl rfl rfl rfl (Nat.le_of_ble_eq_true rfl) rfl (y_wrong (d := d0) a b z N c e t 1 (by omega) (by omega)) (fun v5 h9 hq6 => ?_)
    obtain ⟨a7, rfl, fa7, rfl⟩ := hq6
    show f_pq _ _ (26, [some (.inr (.inr (some 0))), some (.inl p)], [], mH a7 b) _
    exact qw_ret rfl ⟨a7, rfl, ⟨FR.tr (FR.rf) (FR.sub fa7.1 (by decide)), ⟨fun j _ h8 => fa7.2.1 j h8, by have h9 := fa7.2.2; by_cases he : e = 0; (rw [eE_0 he, show tkG t z c p.toInt = flt t z c 1 from by unfold tkG; rw [if_neg (fun h => q9 ⟨he, h⟩)]; rfl]; rw [eE_0 he] at h9; exact h9.step rfl rfl h9.e8.2 h9.e8.1 (fun h => absurd h (by have := flt_pos (t := t) (z := z) (c := c) (k := 1) (by decide); omega)) h9.at); (rw [eE_x he]; rw [eE_x he] at h9; exact h9.step rfl rfl h9.e8.2 h9.e8.1 (fun h => absurd h he) h9.at)⟩⟩, rfl⟩
  · skip
    have q9 : e = 0 ∧ tkS t z c p.toInt := by rcases p9 with h | h; exact h.2; omega
    have G9 : tkG t z c p.toInt = 0 := by unfold tkG; rw [if_pos q9.2]
    have m9 := m7 q9.1
    refine qw_aload rfl rfl ?_
    refine qw_dup rfl rfl ?_
    refine qw_getI (v := .inl (a 0 7)) rfl rfl rfl rfl rfl ?_
    refine qw_const rfl ?_
    first | refine qw_iadd rfl (by omega) (fun x8 tx8 => ?_) | refine qw_iiU rfl (fun x8 tx8 => ?_)
    refine qm_putI (z := false) rfl rfl rfl rfl (by first | (intro h9; cases h9; done) | (intro _; first | exact Or.inl rfl | exact Or.inr rfl | assumption)) (fun a9 ea9 => ?_)
    have ua9_7 : a9 0 7 = x8 := by rw [ea9, mU_same]
    have wa9_7 := congrArg Int32.toInt ua9_7
    refine qw_goto rfl ?_
    exact qw_ret rfl ⟨a9, rfl, ⟨FR.up (FR.rf) (by decide) ea9, ⟨fun j h7 _ => by rw [ea9, mU_slot h7], hM.step (by rw [ea9, mU_cell (by decide)]) (by rw [ea9, mU_cell (by decide)]) (eE_nn m8.2 tkG_nn) (by rw [ea9, mU_slot (by decide), eE_0 q9.1, G9]; omega) (fun _ => by rw [ea9, mU_same]; have m9 := m7 q9.1; have k9 := m9.2.2.2.2.2.2.1 (by have := q9.2.1; omega); omega) (by rw [ea9, mU_same]; have k9 := m9.2.2.2.2.2.2.1 (by have := q9.2.1; omega); omega)⟩⟩, rfl⟩
set_option maxRecDepth 4000 in
theorem y_hasSign {d : Nat} (a : Nat → Nat → Int32) (b : Nat → Nat → Int64) (z : Nat) (N : Nat) (c : Nat) (e : Int) (t : Nat → Int32)(p : Int32) (hM : MS t z N c e a b) : f_pc mtM d 11 [.inr (.inr (some 0)), .inl p] (mH a b) (fun v9 h' => ∃ (a' : Nat → Nat → Int32), h' = mH a' b ∧ (FR [0] a a' ∧ ((∀ j, j ≠ 7 → a' 0 j = a 0 j) ∧ MS t z N (if tkS t z c p.toInt then c + 1 else c) e a' b)) ∧ ∃ x : Int32, v9 = some (.inl x) ∧ ((x.toInt = 1 ∧ (e = 0 ∧ tkS t z c p.toInt)) ∨ (x.toInt = 0 ∧ ¬ (e = 0 ∧ tkS t z c p.toInt)))) := by
  refine f_pc_of rfl (fun d0 fu hd => ?_)
  show f_pq _ _ (0, [some (.inr (.inr (some 0))), some (.inl p), none], [], mH a b) _
  have l0 : (0 : Int32).toInt = 0 := rfl
  have l1 : (1 : Int32).toInt = 1 := rfl
  have m8 := hM.e8
  have ma := hM.at
  have m7 := hM.tok
  refine qw_aload rfl rfl ?_
  refine qw_iload rfl rfl ?_
  refine qw_invV (rest := []) rfl rfl rfl rfl rfl (Nat.le_of_ble_eq_true rfl) rfl (y_isSign (d := d0) a b z N c e t p (by omega)) (fun v1 h9 hq2 => ?_)
  obtain ⟨rfl, x3, rfl, px3⟩ := hq2
  show f_pq _ _ (5, [some (.inr (.inr (some 0))), some (.inl p), none], [.inl x3], mH a b) _
  have p9 := px3
  refine qw_istore (lo' := [some (.inr (.inr (some 0))), some (.inl p), some (.inl x3)]) rfl rfl ?_
  refine qw_aload rfl rfl ?_
  refine qw_dup rfl rfl ?_
  refine qw_getI (v := .inl (a 0 7)) rfl rfl rfl rfl rfl ?_
  refine qw_iload rfl rfl ?_
  refine qw_if_eq rfl (fun c4 => ?_) (fun c4 => ?_)
  · skip
    refine qw_const rfl ?_
    first | refine qw_iadd rfl (by omega) (fun x5 tx5 => ?_) | refine qw_iiU rfl (fun x5 tx5 => ?_)
    refine qm_putI (z := false) rfl rfl rfl rfl (by first | (intro h9; cases h9; done) | (intro _; first | exact Or.inl rfl | exact Or.inr rfl | assumption)) (fun a6 ea6 => ?_)
    have ua6_7 : a6 0 7 = x5 := by rw [ea6, mU_same]
    have wa6_7 := congrArg Int32.toInt ua6_7
    refine qw_iload rfl rfl ?_
    exact qwp_iret (z := true) rfl (fun _ => by first | exact Or.inl rfl | exact Or.inr rfl | (rcases (by omega : x3.toInt = 0 ∨ x3.toInt = 1) with h8 | h8; exact Or.inl (ti_eq h8); exact Or.inr (ti_eq h8))) ⟨a6, rfl, ⟨FR.up (FR.rf) (by decide) ea6, ⟨fun j h7 => by rw [ea6, mU_slot h7], hM.step (by rw [ea6, mU_cell (by decide)]) (by rw [ea6, mU_cell (by decide)]) m8.2 (by rw [ea6, mU_slot (by decide)]; omega) (fun he => by have m9 := m7 he; rw [ea6, mU_same]; rcases p9 with h | h; (have k9 := m9.2.2.2.2.2.2.1 (by have := h.2.2.1; omega); rw [if_pos h.2.2]; omega); (rw [if_neg (fun q => h.2 ⟨he, q⟩)]; omega)) (by rw [ea6, mU_same]; rcases p9 with h | h; (have m9 := m7 h.2.1; have k9 := m9.2.2.2.2.2.2.1 (by have := h.2.2.1; omega); omega); omega)⟩⟩, ⟨_, rfl, p9⟩⟩
  · skip
    refine qw_const rfl ?_
    refine qw_goto rfl ?_
    first | refine qw_iadd rfl (by omega) (fun x7 tx7 => ?_) | refine qw_iiU rfl (fun x7 tx7 => ?_)
    refine qm_putI (z := false) rfl rfl rfl rfl (by first | (intro h9; cases h9; done) | (intro _; first | exact Or.inl rfl | exact Or.inr rfl | assumption)) (fun a8 ea8 => ?_)
    have ua8_7 : a8 0 7 = x7 := by rw [ea8, mU_same]
    have wa8_7 := congrArg Int32.toInt ua8_7
    refine qw_iload rfl rfl ?_
    exact qwp_iret (z := true) rfl (fun _ => by first | exact Or.inl rfl | exact Or.inr rfl | (rcases (by omega : x3.toInt = 0 ∨ x3.toInt = 1) with h8 | h8; exact Or.inl (ti_eq h8); exact Or.inr (ti_eq h8))) ⟨a8, rfl, ⟨FR.up (FR.rf) (by decide) ea8, ⟨fun j h7 => by rw [ea8, mU_slot h7], hM.step (by rw [ea8, mU_cell (by decide)]) (by rw [ea8, mU_cell (by decide)]) m8.2 (by rw [ea8, mU_slot (by decide)]; omega) (fun he => by have m9 := m7 he; rw [ea8, mU_same]; rcases p9 with h | h; (have k9 := m9.2.2.2.2.2.2.1 (by have := h.2.2.1; omega); rw [if_pos h.2.2]; omega); (rw [if_neg (fun q => h.2 ⟨he, q⟩)]; omega)) (by rw [ea8, mU_same]; rcases p9 with h | h; (have m9 := m7 h.2.1; have k9 := m9.2.2.2.2.2.2.1 (by have := h.2.2.1; omega); omega); omega)⟩⟩, ⟨_, rfl, p9⟩⟩
set_option maxRecDepth 4000 in
theorem y_hasWord {d : Nat} (a : Nat → Nat → Int32) (b : Nat → Nat → Int64) (z : Nat) (N : Nat) (c : Nat) (e : Int) (t : Nat → Int32) (w : Nat)(p : Int32) (hw : w < 31 ∧ p.toInt.toNat = wMi.getD w 0) (hM : MS t z N c e a b) : f_pc mtM d 12 [.inr (.inr (some 0)), .inl p] (mH a b) (fun v9 h' => ∃ (a' : Nat → Nat → Int32), h' = mH a' b ∧ (FR [0] a a' ∧ ((∀ j, j ≠ 7 → a' 0 j = a 0 j) ∧ MS t z N (if tkW t z c w then c + 1 else c) e a' b)) ∧ ∃ x : Int32, v9 = some (.inl x) ∧ ((x.toInt = 1 ∧ (e = 0 ∧ tkW t z c w)) ∨ (x.toInt = 0 ∧ ¬ (e = 0 ∧ tkW t z c w)))) := by
  refine f_pc_of rfl (fun d0 fu hd => ?_)
  show f_pq _ _ (0, [some (.inr (.inr (some 0))), some (.inl p), none], [], mH a b) _
  have l0 : (0 : Int32).toInt = 0 := rfl
  have l1 : (1 : Int32).toInt = 1 := rfl
  have m8 := hM.e8
  have ma := hM.at
  have m7 := hM.tok
  refine qw_aload rfl rfl ?_
  refine qw_iload rfl rfl ?_
  refine qw_invV (rest := []) rfl rfl rfl rfl rfl (Nat.le_of_ble_eq_true rfl) rfl (y_isWord (d := d0) a b z N c e t w p (hw) (by omega)) (fun v1 h9 hq2 => ?_)
  obtain ⟨rfl, x3, rfl, px3⟩ := hq2
  show f_pq _ _ (5, [some (.inr (.inr (some 0))), some (.inl p), none], [.inl x3], mH a b) _
  have p9 := px3
  refine qw_istore (lo' := [some (.inr (.inr (some 0))), some (.inl p), some (.inl x3)]) rfl rfl ?_
  refine qw_aload rfl rfl ?_
  refine qw_dup rfl rfl ?_
  refine qw_getI (v := .inl (a 0 7)) rfl rfl rfl rfl rfl ?_
  refine qw_iload rfl rfl ?_
  refine qw_if_eq rfl (fun c4 => ?_) (fun c4 => ?_)
  · skip
    refine qw_const rfl ?_
    first | refine qw_iadd rfl (by omega) (fun x5 tx5 => ?_) | refine qw_iiU rfl (fun x5 tx5 => ?_)
    refine qm_putI (z := false) rfl rfl rfl rfl (by first | (intro h9; cases h9; done) | (intro _; first | exact Or.inl rfl | exact Or.inr rfl | assumption)) (fun a6 ea6 => ?_)
    have ua6_7 : a6 0 7 = x5 := by rw [ea6, mU_same]
    have wa6_7 := congrArg Int32.toInt ua6_7
    refine qw_iload rfl rfl ?_
    exact qwp_iret (z := true) rfl (fun _ => by first | exact Or.inl rfl | exact Or.inr rfl | (rcases (by omega : x3.toInt = 0 ∨ x3.toInt = 1) with h8 | h8; exact Or.inl (ti_eq h8); exact Or.inr (ti_eq h8))) ⟨a6, rfl, ⟨FR.up (FR.rf) (by decide) ea6, ⟨fun j h7 => by rw [ea6, mU_slot h7], hM.step (by rw [ea6, mU_cell (by decide)]) (by rw [ea6, mU_cell (by decide)]) m8.2 (by rw [ea6, mU_slot (by decide)]; omega) (fun he => by have m9 := m7 he; rw [ea6, mU_same]; rcases p9 with h | h; (have k9 := m9.2.2.2.2.2.2.1 (by have := h.2.2.1; omega); rw [if_pos h.2.2]; omega); (rw [if_neg (fun q => h.2 ⟨he, q⟩)]; omega)) (by rw [ea6, mU_same]; rcases p9 with h | h; (have m9 := m7 h.2.1; have k9 := m9.2.2.2.2.2.2.1 (by have := h.2.2.1; omega); omega); omega)⟩⟩, ⟨_, rfl, p9⟩⟩
  · skip
    refine qw_const rfl ?_
    refine qw_goto rfl ?_
    first | refine qw_iadd rfl (by omega) (fun x7 tx7 => ?_) | refine qw_iiU rfl (fun x7 tx7 => ?_)
    refine qm_putI (z := false) rfl rfl rfl rfl (by first | (intro h9; cases h9; done) | (intro _; first | exact Or.inl rfl | exact Or.inr rfl | assumption)) (fun a8 ea8 => ?_)
    have ua8_7 : a8 0 7 = x7 := by rw [ea8, mU_same]
    have wa8_7 := congrArg Int32.toInt ua8_7
    refine qw_iload rfl rfl ?_
    exact qwp_iret (z := true) rfl (fun _ => by first | exact Or.inl rfl | exact Or.inr rfl | (rcases (by omega : x3.toInt = 0 ∨ x3.toInt = 1) with h8 | h8; exact Or.inl (ti_eq h8); exact Or.inr (ti_eq h8))) ⟨a8, rfl, ⟨FR.up (FR.rf) (by decide) ea8, ⟨fun j h7 => by rw [ea8, mU_slot h7], hM.step (by rw [ea8, mU_cell (by decide)]) (by rw [ea8, mU_cell (by decide)]) m8.2 (by rw [ea8, mU_slot (by decide)]; omega) (fun he => by have m9 := m7 he; rw [ea8, mU_same]; rcases p9 with h | h; (have k9 := m9.2.2.2.2.2.2.1 (by have := h.2.2.1; omega); rw [if_pos h.2.2]; omega); (rw [if_neg (fun q => h.2 ⟨he, q⟩)]; omega)) (by rw [ea8, mU_same]; rcases p9 with h | h; (have m9 := m7 h.2.1; have k9 := m9.2.2.2.2.2.2.1 (by have := h.2.2.1; omega); omega); omega)⟩⟩, ⟨_, rfl, p9⟩⟩
