set_option maxRecDepth 4000 in
theorem y_takeWord {d : Nat} (a : Nat → Nat → Int32) (b : Nat → Nat → Int64) (z : Nat) (N : Nat) (c : Nat) (e : Int) (t : Nat → Int32) (w : Nat)(p : Int32) (hw : w < 31 ∧ p.toInt.toNat = wMi.getD w 0) (hM : MS t z N c e a b) : f_pc mtM d 13 [.inr (.inr (some 0)), .inl p] (mH a b) (fun v9 h' => ∃ (a' : Nat → Nat → Int32), h' = mH a' b ∧ (FR [0] a a' ∧ ((∀ j, j ≠ 7 → j ≠ 8 → a' 0 j = a 0 j) ∧ MS t z N (c + 1) (eE e (xW t z c w)) a' b)) ∧ v9 = none) := by
  refine f_pc_of rfl (fun d0 fu hd => ?_)
  show f_pq _ _ (0, [some (.inr (.inr (some 0))), some (.inl p)], [], mH a b) _
  have l1 : (1 : Int32).toInt = 1 := rfl
  have m8 := hM.e8
  have ma := hM.at
  have m7 := hM.tok
  refine qw_aload rfl rfl ?_
  refine qw_iload rfl rfl ?_
  refine qw_invV (rest := []) rfl rfl rfl rfl rfl (Nat.le_of_ble_eq_true rfl) rfl (y_hasWord (d := d0) a b z N c e t w p (hw) (by omega)) (fun v1 h9 hq2 => ?_)
  obtain ⟨a3, rfl, fa3, x4, rfl, px4⟩ := hq2
  show f_pq _ _ (5, [some (.inr (.inr (some 0))), some (.inl p)], [.inl x4], mH a3 b) _
  have p9 := px4
  refine qw_if_ne rfl (fun c5 => ?_) (fun c5 => ?_)
  · skip
    have q9 : ¬ (e = 0 ∧ tkW t z c w) := by rcases p9 with h | h; omega; exact h.2
    have M9 : MS t z N c e a3 b := by have h9 := fa3.2.2; by_cases he : e = 0; (rw [if_neg (fun h => q9 ⟨he, h⟩)] at h9; exact h9); exact h9.step rfl rfl h9.e8.2 h9.e8.1 (fun h => absurd h he) h9.at
    refine qw_aload rfl rfl ?_
    refine qw_const rfl ?_
    refine qw_invV (rest := []) rfl rfl rfl rfl rfl (Nat.le_of_ble_eq_true rfl) rfl (y_wrong (d := d0) a3 b z N c e t 1 (by omega) (M9)) (fun v6 h9 hq7 => ?_)
    obtain ⟨a8, rfl, fa8, rfl⟩ := hq7
    show f_pq _ _ (13, [some (.inr (.inr (some 0))), some (.inl p)], [], mH a8 b) _
    exact qw_ret rfl ⟨a8, rfl, ⟨FR.tr (FR.tr (FR.rf) (FR.sub fa3.1 (by decide))) (FR.sub fa8.1 (by decide)), ⟨fun j h7 h8 => by rw [fa8.2.1 j h8]; exact fa3.2.1 j h7, by have h9 := fa8.2.2; by_cases he : e = 0; (rw [eE_0 he, show xW t z c w = flt t z c 1 from by unfold xW; rw [if_neg (fun h => q9 ⟨he, h⟩)]]; rw [eE_0 he] at h9; exact h9.step rfl rfl h9.e8.2 h9.e8.1 (fun h => absurd h (by have := flt_pos (t := t) (z := z) (c := c) (k := 1) (by decide); omega)) h9.at); (rw [eE_x he]; rw [eE_x he] at h9; exact h9.step rfl rfl h9.e8.2 h9.e8.1 (fun h => absurd h he) h9.at)⟩⟩, rfl⟩
  · skip
    have q9 : e = 0 ∧ tkW t z c w := by rcases p9 with h | h; exact h.2; omega
    exact qw_ret rfl ⟨a3, rfl, ⟨FR.tr (FR.rf) (FR.sub fa3.1 (by decide)), ⟨fun j h7 _ => fa3.2.1 j h7, by have h9 := fa3.2.2; rw [if_pos q9.2] at h9; rw [show eE e (xW t z c w) = e from by unfold xW; rw [if_pos q9.2, eE_0 q9.1, q9.1]]; exact h9⟩⟩, rfl⟩
set_option maxRecDepth 4000 in
theorem y_takeNumber {d : Nat} (a : Nat → Nat → Int32) (b : Nat → Nat → Int64) (z : Nat) (N : Nat) (c : Nat) (e : Int) (t : Nat → Int32)(p : Int32) (r : Int32) (hM : MS t z N c e a b) : f_pc mtM d 16 [.inr (.inr (some 0)), .inl p, .inl r] (mH a b) (fun v9 h' => ∃ (a' : Nat → Nat → Int32), h' = mH a' b ∧ (FR [0] a a' ∧ ((∀ j, j ≠ 7 → j ≠ 8 → a' 0 j = a 0 j) ∧ MS t z N (c + 1) (eE e (tkN t z c p.toInt r.toInt)) a' b)) ∧ ∃ x : Int32, v9 = some (.inl x) ∧ ((eE e (tkN t z c p.toInt r.toInt) = 0 → x.toInt = nvT t z c) ∧ (¬ eE e (tkN t z c p.toInt r.toInt) = 0 → x.toInt = 0))) := by
  refine f_pc_of rfl (fun d0 fu hd => ?_)
  show f_pq _ _ (0, [some (.inr (.inr (some 0))), some (.inl p), some (.inl r)], [], mH a b) _
  have l0 : (0 : Int32).toInt = 0 := rfl
  have l1 : (1 : Int32).toInt = 1 := rfl
  have l2 : (2 : Int32).toInt = 2 := rfl
  have l4 : (4 : Int32).toInt = 4 := rfl
  have m8 := hM.e8
  have ma := hM.at
  have m7 := hM.tok
  have p7 := ti_lo p
  have r7 := ti_hi r
  have g9 := fun he : e = 0 => hM.num he p.toInt r.toInt
  refine qw_aload rfl rfl ?_
  refine qw_getI (v := .inl (a 0 8)) rfl rfl rfl rfl rfl ?_
  have loop70 : ∀ (fuJ70 : Nat)  (a70 : Nat → Nat → Int32) ,  FR [0] a a70 →((∀ j, j ≠ 8 → a70 0 j = a 0 j) ∧ MS t z N c (eE e (tkN t z c p.toInt r.toInt)) a70 b) → f_pq (f_code (t_X13_takeNumber (f_ev mtM d0))) fuJ70 (70, [some (.inr (.inr (some 0))), some (.inl p), some (.inl r)], [], mH a70 b) (fun v9 h' => ∃ (a' : Nat → Nat → Int32), h' = mH a' b ∧ (FR [0] a a' ∧ ((∀ j, j ≠ 7 → j ≠ 8 → a' 0 j = a 0 j) ∧ MS t z N (c + 1) (eE e (tkN t z c p.toInt r.toInt)) a' b)) ∧ ∃ x : Int32, v9 = some (.inl x) ∧ ((eE e (tkN t z c p.toInt r.toInt) = 0 → x.toInt = nvT t z c) ∧ (¬ eE e (tkN t z c p.toInt r.toInt) = 0 → x.toInt = 0))) := by
    intro fuJ70  a70  hF70 hW
    · skip
      refine qw_aload rfl rfl ?_
      refine qw_getI (v := .inl (a70 0 8)) rfl rfl rfl rfl rfl ?_
      have m8 := hW.2.e8
      have mb := hW.2.at
      have m6 := hW.2.tok
      refine qw_if_le rfl (fun c1 => ?_) (fun c1 => ?_)
      · skip
        have z9 : eE e (tkN t z c p.toInt r.toInt) = 0 := by omega
        have v9 := tkN_v (eE_z z9).2
        have k9 := m6 z9
        have k8 := k9.2.2.2.2.2.2.1 (by omega)
        have u9 := hW.2.val z9 (by omega) (by omega)
        refine qw_aload rfl rfl ?_
        refine qw_dup rfl rfl ?_
        refine qw_getI (v := .inl (a70 0 7)) rfl rfl rfl rfl rfl ?_
        refine qw_const rfl ?_
        first | refine qw_iadd rfl (by omega) (fun x2 tx2 => ?_) | refine qw_iiU rfl (fun x2 tx2 => ?_)
        refine qm_putI (z := false) rfl rfl rfl rfl (by first | (intro h9; cases h9; done) | (intro _; first | exact Or.inl rfl | exact Or.inr rfl | assumption)) (fun a3 ea3 => ?_)
        have ua3_7 : a3 0 7 = x2 := by rw [ea3, mU_same]
        have wa3_7 := congrArg Int32.toInt ua3_7
        have ua3_8 : (a3 0 8).toInt = (a70 0 8).toInt := by rw [ea3, mU_slot (by decide)]
        refine qw_aload rfl rfl ?_
        refine qw_getR (v := .inr (.inr (some 4))) rfl rfl rfl rfl rfl ?_
        refine qw_aload rfl rfl ?_
        refine qw_getI (v := .inl (a3 0 7)) rfl rfl rfl rfl rfl ?_
        refine qw_const rfl ?_
        first | refine qw_isub rfl (by omega) (fun x4 tx4 => ?_) | refine qw_iiU rfl (fun x4 tx4 => ?_)
        refine qm_lald rfl rfl (fun jy5 y5 ey5 => ?_)
        have i9 : y5 = lxV fM t z c := by rw [ey5, ← u9]; congr 1; omega
        have i8 := congrArg Int64.toInt i9
        refine qw_l2iE rfl (fun x6 tx6 => ?_)
        have x9 := l2i_ti tx6 (by have h9 := v9.2; unfold nvT at h9; omega)
        exact qwp_iret (z := false) rfl (fun h9 => by cases h9) ⟨a3, rfl, ⟨FR.up (hF70) (by decide) ea3, ⟨fun j h7 h8 => by rw [ea3, mU_slot h7]; exact hW.1 j h8, hW.2.step (by rw [ea3, mU_cell (by decide)]) (by rw [ea3, mU_cell (by decide)]) m8.2 (by rw [ea3, mU_slot (by decide)]; omega) (fun _ => by rw [ea3, mU_same]; omega) (by rw [ea3, mU_same]; omega)⟩⟩, ⟨_, rfl, ⟨by first | (intro h9; unfold nvT; omega) | exact fun h9 => absurd h9 (by omega), by first | exact fun _ => rfl | exact fun h9 => absurd z9 h9⟩⟩⟩
      · skip
        refine qw_const rfl ?_
        exact qwp_iret (z := false) rfl (fun h9 => by cases h9) ⟨a70, rfl, ⟨hF70, ⟨fun j _ h8 => hW.1 j h8, hW.2.step rfl rfl m8.2 m8.1 (fun h => absurd h (by omega)) hW.2.at⟩⟩, ⟨_, rfl, ⟨by first | (intro h9; unfold nvT; omega) | exact fun h9 => absurd h9 (by omega), by first | exact fun _ => rfl | exact fun h9 => absurd z9 h9⟩⟩⟩
  refine qw_if_ne rfl (fun c7 => ?_) (fun c7 => ?_)
  · skip
    refine qw_aload rfl rfl ?_
    refine qw_getR (v := .inr (.inr (some 2))) rfl rfl rfl rfl rfl ?_
    refine qw_aload rfl rfl ?_
    refine qw_getI (v := .inl (a 0 7)) rfl rfl rfl rfl rfl ?_
    refine qm_iald rfl rfl (fun jx8 x8 ex8 => ?_)
    have m9 := m7 (by omega)
    have e9 := congrArg Int32.toInt ex8
    rw [m9.2.1] at e9
    refine qw_const rfl ?_
    refine qw_ic_eq rfl (fun c9 => ?_) (fun c9 => ?_)
    · skip
      refine qw_aload rfl rfl ?_
      refine qw_getI (v := .inl (a 0 8)) rfl rfl rfl rfl rfl ?_
      refine qw_if_ne rfl (fun c10 => ?_) (fun c10 => ?_)
      · skip
        refine qw_aload rfl rfl ?_
        refine qw_getR (v := .inr (.inr (some 4))) rfl rfl rfl rfl rfl ?_
        refine qw_aload rfl rfl ?_
        refine qw_getI (v := .inl (a 0 7)) rfl rfl rfl rfl rfl ?_
        refine qm_lald rfl rfl (fun jy11 y11 ey11 => ?_)
        have m9 := m7 (by omega)
        refine qw_iload rfl rfl ?_
        refine qw_i2lE rfl (fun y12 ty12 => ?_)
        refine qw_lcmpE rfl (fun x13 tx13 => ?_)
        have c8 := i2l_ti (x := p) ty12
        have c9 := cmp_ti tx13
        have e8 := congrArg Int64.toInt ey11
        rw [m9.2.1] at e8
        refine qw_if_lt rfl (fun c14 => ?_) (fun c14 => ?_)
        · skip
          refine qw_aload rfl rfl ?_
          refine qw_const rfl ?_
          refine qw_invV (rest := []) rfl rfl rfl rfl rfl (Nat.le_of_ble_eq_true rfl) rfl (y_wrong (d := d0) a b z N c e t 4 (by omega) (by omega)) (fun v15 h9 hq16 => ?_)
          obtain ⟨a17, rfl, fa17, rfl⟩ := hq16
          show f_pq _ _ (70, [some (.inr (.inr (some 0))), some (.inl p), some (.inl r)], [], mH a17 b) _
          have W9 : MS t z N c (eE e (tkN t z c p.toInt r.toInt)) a17 b := by have h9 := fa17.2.2; rw [eE_0 (by omega)] at h9 ⊢; rw [show tkN t z c p.toInt r.toInt = flt t z c 4 from by rw [g9 (by omega)]; first | (rw [if_neg (by omega)]; unfold flt; omega) | (rw [if_pos (by omega), if_pos (by omega)]; unfold flt; omega)]; exact h9
          exact loop70 _ a17 (FR.tr (FR.rf) (FR.sub fa17.1 (by decide))) (⟨fa17.2.1, W9⟩)
        · skip
          refine qw_aload rfl rfl ?_
          refine qw_getR (v := .inr (.inr (some 4))) rfl rfl rfl rfl rfl ?_
          refine qw_aload rfl rfl ?_
          refine qw_getI (v := .inl (a 0 7)) rfl rfl rfl rfl rfl ?_
          refine qm_lald rfl rfl (fun jy18 y18 ey18 => ?_)
          refine qw_iload rfl rfl ?_
          refine qw_i2lE rfl (fun y19 ty19 => ?_)
          refine qw_lcmpE rfl (fun x20 tx20 => ?_)
          have d8 := i2l_ti (x := r) ty19
          have d9 := cmp_ti tx20
          have f8 := congrArg Int64.toInt ey18
          rw [m9.2.1] at f8
          refine qw_if_le rfl (fun c21 => ?_) (fun c21 => ?_)
          · skip
            exact loop70 _ a (FR.rf) (⟨fun _ _ => rfl, by have h8 : eE e (tkN t z c p.toInt r.toInt) = e := (by first | exact eE_x (by omega) | (rw [eE_0 (by omega), g9 (by omega), if_pos (by omega), if_neg (by omega)]; omega)); rw [h8]; exact hM⟩)
          · skip
            refine qw_aload rfl rfl ?_
            refine qw_const rfl ?_
            refine qw_invV (rest := []) rfl rfl rfl rfl rfl (Nat.le_of_ble_eq_true rfl) rfl (y_wrong (d := d0) a b z N c e t 4 (by omega) (by omega)) (fun v22 h9 hq23 => ?_)
            obtain ⟨a24, rfl, fa24, rfl⟩ := hq23
            show f_pq _ _ (70, [some (.inr (.inr (some 0))), some (.inl p), some (.inl r)], [], mH a24 b) _
            have W9 : MS t z N c (eE e (tkN t z c p.toInt r.toInt)) a24 b := by have h9 := fa24.2.2; rw [eE_0 (by omega)] at h9 ⊢; rw [show tkN t z c p.toInt r.toInt = flt t z c 4 from by rw [g9 (by omega)]; first | (rw [if_neg (by omega)]; unfold flt; omega) | (rw [if_pos (by omega), if_pos (by omega)]; unfold flt; omega)]; exact h9
            exact loop70 _ a24 (FR.tr (FR.rf) (FR.sub fa24.1 (by decide))) (⟨fa24.2.1, W9⟩)
      · skip
        exact loop70 _ a (FR.rf) (⟨fun _ _ => rfl, by have h8 : eE e (tkN t z c p.toInt r.toInt) = e := (by first | exact eE_x (by omega) | (rw [eE_0 (by omega), g9 (by omega), if_pos (by omega), if_neg (by omega)]; omega)); rw [h8]; exact hM⟩)
    · skip
      refine qw_aload rfl rfl ?_
      refine qw_const rfl ?_
      refine qw_invV (rest := []) rfl rfl rfl rfl rfl (Nat.le_of_ble_eq_true rfl) rfl (y_wrong (d := d0) a b z N c e t 1 (by omega) (by omega)) (fun v25 h9 hq26 => ?_)
      obtain ⟨a27, rfl, fa27, rfl⟩ := hq26
      show f_pq _ _ (25, [some (.inr (.inr (some 0))), some (.inl p), some (.inl r)], [], mH a27 b) _
      have W9 : MS t z N c (eE e (tkN t z c p.toInt r.toInt)) a27 b := by have h9 := fa27.2.2; rw [eE_0 (by omega)] at h9 ⊢; rw [show tkN t z c p.toInt r.toInt = flt t z c 1 from by rw [g9 (by omega)]; first | (rw [if_neg (by omega)]; unfold flt; omega) | (rw [if_pos (by omega), if_pos (by omega)]; unfold flt; omega)]; exact h9
      refine qw_goto rfl ?_
      exact loop70 _ a27 (FR.tr (FR.rf) (FR.sub fa27.1 (by decide))) (⟨fa27.2.1, W9⟩)
  · skip
    refine qw_aload rfl rfl ?_
    refine qw_getI (v := .inl (a 0 8)) rfl rfl rfl rfl rfl ?_
    refine qw_if_ne rfl (fun c28 => ?_) (fun c28 => ?_)
    · skip
      refine qw_aload rfl rfl ?_
      refine qw_getR (v := .inr (.inr (some 4))) rfl rfl rfl rfl rfl ?_
      refine qw_aload rfl rfl ?_
      refine qw_getI (v := .inl (a 0 7)) rfl rfl rfl rfl rfl ?_
      refine qm_lald rfl rfl (fun jy29 y29 ey29 => ?_)
      have m9 := m7 (by omega)
      refine qw_iload rfl rfl ?_
      refine qw_i2lE rfl (fun y30 ty30 => ?_)
      refine qw_lcmpE rfl (fun x31 tx31 => ?_)
      have c8 := i2l_ti (x := p) ty30
      have c9 := cmp_ti tx31
      have e8 := congrArg Int64.toInt ey29
      rw [m9.2.1] at e8
      refine qw_if_lt rfl (fun c32 => ?_) (fun c32 => ?_)
      · skip
        refine qw_aload rfl rfl ?_
        refine qw_const rfl ?_
        refine qw_invV (rest := []) rfl rfl rfl rfl rfl (Nat.le_of_ble_eq_true rfl) rfl (y_wrong (d := d0) a b z N c e t 4 (by omega) (by omega)) (fun v33 h9 hq34 => ?_)
        obtain ⟨a35, rfl, fa35, rfl⟩ := hq34
        show f_pq _ _ (70, [some (.inr (.inr (some 0))), some (.inl p), some (.inl r)], [], mH a35 b) _
        have W9 : MS t z N c (eE e (tkN t z c p.toInt r.toInt)) a35 b := by have h9 := fa35.2.2; rw [eE_0 (by omega)] at h9 ⊢; rw [show tkN t z c p.toInt r.toInt = flt t z c 4 from by rw [g9 (by omega)]; first | (rw [if_neg (by omega)]; unfold flt; omega) | (rw [if_pos (by omega), if_pos (by omega)]; unfold flt; omega)]; exact h9
        exact loop70 _ a35 (FR.tr (FR.rf) (FR.sub fa35.1 (by decide))) (⟨fa35.2.1, W9⟩)
      · skip
        refine qw_aload rfl rfl ?_
        refine qw_getR (v := .inr (.inr (some 4))) rfl rfl rfl rfl rfl ?_
        refine qw_aload rfl rfl ?_
        refine qw_getI (v := .inl (a 0 7)) rfl rfl rfl rfl rfl ?_
        refine qm_lald rfl rfl (fun jy36 y36 ey36 => ?_)
        refine qw_iload rfl rfl ?_
        refine qw_i2lE rfl (fun y37 ty37 => ?_)
        refine qw_lcmpE rfl (fun x38 tx38 => ?_)
        have d8 := i2l_ti (x := r) ty37
        have d9 := cmp_ti tx38
        have f8 := congrArg Int64.toInt ey36
        rw [m9.2.1] at f8
        refine qw_if_le rfl (fun c39 => ?_) (fun c39 => ?_)
        · skip
          exact loop70 _ a (FR.rf) (⟨fun _ _ => rfl, by have h8 : eE e (tkN t z c p.toInt r.toInt) = e := (by first | exact eE_x (by omega) | (rw [eE_0 (by omega), g9 (by omega), if_pos (by omega), if_neg (by omega)]; omega)); rw [h8]; exact hM⟩)
        · skip
          refine qw_aload rfl rfl ?_
          refine qw_const rfl ?_
          refine qw_invV (rest := []) rfl rfl rfl rfl rfl (Nat.le_of_ble_eq_true rfl) rfl (y_wrong (d := d0) a b z N c e t 4 (by omega) (by omega)) (fun v40 h9 hq41 => ?_)
          obtain ⟨a42, rfl, fa42, rfl⟩ := hq41
          show f_pq _ _ (70, [some (.inr (.inr (some 0))), some (.inl p), some (.inl r)], [], mH a42 b) _
          have W9 : MS t z N c (eE e (tkN t z c p.toInt r.toInt)) a42 b := by have h9 := fa42.2.2; rw [eE_0 (by omega)] at h9 ⊢; rw [show tkN t z c p.toInt r.toInt = flt t z c 4 from by rw [g9 (by omega)]; first | (rw [if_neg (by omega)]; unfold flt; omega) | (rw [if_pos (by omega), if_pos (by omega)]; unfold flt; omega)]; exact h9
          exact loop70 _ a42 (FR.tr (FR.rf) (FR.sub fa42.1 (by decide))) (⟨fa42.2.1, W9⟩)
    · skip
      exact loop70 _ a (FR.rf) (⟨fun _ _ => rfl, by have h8 : eE e (tkN t z c p.toInt r.toInt) = e := (by first | exact eE_x (by omega) | (rw [eE_0 (by omega), g9 (by omega), if_pos (by omega), if_neg (by omega)]; omega)); rw [h8]; exact hM⟩)
set_option maxRecDepth 4000 in
theorem y_takeAfter {d : Nat} (a : Nat → Nat → Int32) (b : Nat → Nat → Int64) (z : Nat) (N : Nat) (c : Nat) (e : Int) (t : Nat → Int32) (w : Nat)(q : Int32) (p : Int32) (r : Int32) (hw : w < 31 ∧ q.toInt.toNat = wMi.getD w 0) (hM : MS t z N c e a b) : f_pc mtM d 17 [.inr (.inr (some 0)), .inl q, .inl p, .inl r] (mH a b) (fun v9 h' => ∃ (a' : Nat → Nat → Int32), h' = mH a' b ∧ (FR [0] a a' ∧ ((∀ j, j ≠ 7 → j ≠ 8 → a' 0 j = a 0 j) ∧ MS t z N (c + 2) (eE (eE e (xW t z c w)) (tkN t z (c + 1) p.toInt r.toInt)) a' b)) ∧ ∃ x : Int32, v9 = some (.inl x) ∧ ((eE (eE e (xW t z c w)) (tkN t z (c + 1) p.toInt r.toInt) = 0 → x.toInt = nvT t z (c + 1)) ∧ (¬ eE (eE e (xW t z c w)) (tkN t z (c + 1) p.toInt r.toInt) = 0 → x.toInt = 0))) := by
  refine f_pc_of rfl (fun d0 fu hd => ?_)
  show f_pq _ _ (0, [some (.inr (.inr (some 0))), some (.inl q), some (.inl p), some (.inl r)], [], mH a b) _
  refine qw_aload rfl rfl ?_
  refine qw_iload rfl rfl ?_
  refine qw_invV (rest := []) rfl rfl rfl rfl rfl (Nat.le_of_ble_eq_true rfl) rfl (y_takeWord (d := d0) a b z N c e t w q (hw) (by omega)) (fun v1 h9 hq2 => ?_)
  obtain ⟨a3, rfl, fa3, rfl⟩ := hq2
  show f_pq _ _ (5, [some (.inr (.inr (some 0))), some (.inl q), some (.inl p), some (.inl r)], [], mH a3 b) _
  refine qw_aload rfl rfl ?_
  refine qw_iload rfl rfl ?_
  refine qw_iload rfl rfl ?_
  refine qw_invV (rest := []) rfl rfl rfl rfl rfl (Nat.le_of_ble_eq_true rfl) rfl (y_takeNumber (d := d0) a3 b z N (c + 1) (eE e (xW t z c w)) t p r (fa3.2.2)) (fun v4 h9 hq5 => ?_)
  obtain ⟨a6, rfl, fa6, x7, rfl, px7⟩ := hq5
  show f_pq _ _ (11, [some (.inr (.inr (some 0))), some (.inl q), some (.inl p), some (.inl r)], [.inl x7], mH a6 b) _
  exact qwp_iret (z := false) rfl (fun h9 => by cases h9) ⟨a6, rfl, ⟨FR.tr (FR.tr (FR.rf) (FR.sub fa3.1 (by decide))) (FR.sub fa6.1 (by decide)), ⟨fun j h7 h8 => by rw [fa6.2.1 j h7 h8]; exact fa3.2.1 j h7 h8, fa6.2.2⟩⟩, ⟨_, rfl, by assumption⟩⟩
set_option maxRecDepth 4000 in
theorem y_wordHere {d : Nat} (a : Nat → Nat → Int32) (b : Nat → Nat → Int64) (z : Nat) (N : Nat) (c : Nat) (e : Int) (t : Nat → Int32)(f : Int32) (m : Int32) (hf : 0 ≤ f.toInt ∧ 0 ≤ m.toInt ∧ f.toInt + m.toInt ≤ 31) (hM : MS t z N c e a b) : f_pc mtM d 18 [.inr (.inr (some 0)), .inl f, .inl m] (mH a b) (fun v9 h' => h' = mH a b ∧ ∃ x : Int32, v9 = some (.inl x) ∧ x.toInt = (if e = 0 then whF t z c f.toInt.toNat m.toInt.toNat else -1)) := by
  refine f_pc_of rfl (fun d0 fu hd => ?_)
  show f_pq _ _ (0, [some (.inr (.inr (some 0))), some (.inl f), some (.inl m), none, none], [], mH a b) _
  have lm1 : (-1 : Int32).toInt = -1 := rfl
  have l0 : (0 : Int32).toInt = 0 := rfl
  have l1 : (1 : Int32).toInt = 1 := rfl
  refine qw_const rfl ?_
  refine qw_istore (lo' := [some (.inr (.inr (some 0))), some (.inl f), some (.inl m), some (.inl (-1)), none]) rfl rfl ?_
  refine qw_const rfl ?_
  refine qw_istore (lo' := [some (.inr (.inr (some 0))), some (.inl f), some (.inl m), some (.inl (-1)), some (.inl 0)]) rfl rfl ?_
  have loop5 : ∀ (fu5 : Nat) (w : Int32) (k : Int32) , (0 ≤ k.toInt ∧ k.toInt ≤ m.toInt) → (w.toInt = (if e = 0 then whF t z c f.toInt.toNat k.toInt.toNat else -1)) → f_pq (f_code (t_X13_wordHere (f_ev mtM d0))) fu5 (5, [some (.inr (.inr (some 0))), some (.inl f), some (.inl m), some (.inl w), some (.inl k)], [], mH a b) (fun v9 h' => h' = mH a b ∧ ∃ x : Int32, v9 = some (.inl x) ∧ x.toInt = (if e = 0 then whF t z c f.toInt.toNat m.toInt.toNat else -1)) := by
    intro fu5
    induction fu5 with
    | zero => intros; exact pq_0
    | succ fu5 ih5 =>
      intro w k  hk hw
      refine qw_iload rfl rfl ?_
      refine qw_iload rfl rfl ?_
      refine qw_ic_ge rfl (fun c1 => ?_) (fun c1 => ?_)
      · skip
        refine qw_iload rfl rfl ?_
        exact qwp_iret (z := false) rfl (fun h9 => by cases h9) ⟨rfl, ⟨_, rfl, by rw [hw, show k.toInt.toNat = m.toInt.toNat from by omega]⟩⟩
      · skip
        refine qw_aload rfl rfl ?_
        refine qw_iload rfl rfl ?_
        refine qw_iload rfl rfl ?_
        first | refine qw_iadd rfl (by omega) (fun x2 tx2 => ?_) | refine qw_iiU rfl (fun x2 tx2 => ?_)
        refine qw_invV (rest := []) rfl rfl rfl rfl rfl (Nat.le_of_ble_eq_true rfl) rfl (y_isWord (d := d0) a b z N c e t (wCi.getD (f.toInt.toNat + k.toInt.toNat) 0) x2 (by have h9 := wCi_ok (f.toInt.toNat + k.toInt.toNat) (by omega); exact ⟨h9.1, by rw [h9.2]; omega⟩) (by omega)) (fun v3 h9 hq4 => ?_)
        obtain ⟨rfl, x5, rfl, px5⟩ := hq4
        show f_pq _ _ (19, [some (.inr (.inr (some 0))), some (.inl f), some (.inl m), some (.inl w), some (.inl k)], [.inl x5], mH a b) _
        have P9 : (x5.toInt = 1 ∧ e = 0 ∧ tkW t z c (wCi.getD (f.toInt.toNat + k.toInt.toNat) 0)) ∨ (x5.toInt = 0 ∧ ¬ (e = 0 ∧ tkW t z c (wCi.getD (f.toInt.toNat + k.toInt.toNat) 0))) := px5
        refine qw_if_eq rfl (fun c6 => ?_) (fun c6 => ?_)
        · skip
          refine qw_iload rfl rfl ?_
          refine qw_istore (lo' := [some (.inr (.inr (some 0))), some (.inl f), some (.inl m), some (.inl w), some (.inl k)]) rfl rfl ?_
          refine qw_iinc (lo' := fun z9 => [some (.inr (.inr (some 0))), some (.inl f), some (.inl m), some (.inl w), some (.inl z9)]) rfl rfl (fun _ => rfl) (by omega) (fun x7 tx7 => ?_)
          exact qw_gotoD rfl (ih5 w x7  (by omega) (by rw [show x7.toInt.toNat = k.toInt.toNat + 1 from by omega, whF_s]; by_cases he : e = 0; (rw [if_pos he]; rw [if_pos he] at hw; first | (rw [if_pos (by rcases P9 with h | h; exact h.2.2; omega)]; omega) | (rw [if_neg (fun q => by rcases P9 with h | h; omega; exact h.2 ⟨he, q⟩)]; omega)); (rw [if_neg he]; rw [if_neg he] at hw; rcases P9 with h | h; exact absurd h.2.1 he; omega)))
        · skip
          refine qw_iload rfl rfl ?_
          refine qw_goto rfl ?_
          refine qw_istore (lo' := [some (.inr (.inr (some 0))), some (.inl f), some (.inl m), some (.inl k), some (.inl k)]) rfl rfl ?_
          refine qw_iinc (lo' := fun z9 => [some (.inr (.inr (some 0))), some (.inl f), some (.inl m), some (.inl k), some (.inl z9)]) rfl rfl (fun _ => rfl) (by omega) (fun x8 tx8 => ?_)
          exact qw_gotoD rfl (ih5 k x8  (by omega) (by rw [show x8.toInt.toNat = k.toInt.toNat + 1 from by omega, whF_s]; by_cases he : e = 0; (rw [if_pos he]; rw [if_pos he] at hw; first | (rw [if_pos (by rcases P9 with h | h; exact h.2.2; omega)]; omega) | (rw [if_neg (fun q => by rcases P9 with h | h; omega; exact h.2 ⟨he, q⟩)]; omega)); (rw [if_neg he]; rw [if_neg he] at hw; rcases P9 with h | h; exact absurd h.2.1 he; omega)))
  exact loop5 _ (-1) 0  (by omega) (by split <;> rfl)
set_option maxRecDepth 4000 in
theorem y_isName {d : Nat} (a : Nat → Nat → Int32) (b : Nat → Nat → Int64) (z : Nat) (N : Nat) (c : Nat) (e : Int) (t : Nat → Int32) (hM : MS t z N c e a b) : f_pc mtM d 19 [.inr (.inr (some 0))] (mH a b) (fun v9 h' => h' = mH a b ∧ ∃ x : Int32, v9 = some (.inl x) ∧ ((x.toInt = 1 ∧ (e = 0 ∧ isNm t z c = true)) ∨ (x.toInt = 0 ∧ ¬ (e = 0 ∧ isNm t z c = true)))) := by
  refine f_pc_of rfl (fun d0 fu hd => ?_)
  show f_pq _ _ (0, [some (.inr (.inr (some 0)))], [], mH a b) _
  have l0 : (0 : Int32).toInt = 0 := rfl
  have l1 : (1 : Int32).toInt = 1 := rfl
  have l27 : (27 : Int32).toInt = 27 := rfl
  have m8 := hM.e8
  have ma := hM.at
  have m7 := hM.tok
  refine qw_aload rfl rfl ?_
  refine qw_getI (v := .inl (a 0 8)) rfl rfl rfl rfl rfl ?_
  refine qw_if_ne rfl (fun c1 => ?_) (fun c1 => ?_)
  · skip
    refine qw_aload rfl rfl ?_
    refine qw_getR (v := .inr (.inr (some 2))) rfl rfl rfl rfl rfl ?_
    refine qw_aload rfl rfl ?_
    refine qw_getI (v := .inl (a 0 7)) rfl rfl rfl rfl rfl ?_
    refine qm_iald rfl rfl (fun jx2 x2 ex2 => ?_)
    have m9 := m7 (by omega)
    have e9 := congrArg Int32.toInt ex2
    rw [m9.2.1] at e9
    refine qw_const rfl ?_
    refine qw_ic_ne rfl (fun c3 => ?_) (fun c3 => ?_)
    · skip
      refine qw_aload rfl rfl ?_
      refine qw_const rfl ?_
      refine qw_const rfl ?_
      refine qw_invV (rest := []) rfl rfl rfl rfl rfl (Nat.le_of_ble_eq_true rfl) rfl (y_wordHere (d := d0) a b z N c e t 0 27 (by omega) (by omega)) (fun v4 h9 hq5 => ?_)
      obtain ⟨rfl, x6, rfl, px6⟩ := hq5
      show f_pq _ _ (27, [some (.inr (.inr (some 0)))], [.inl x6], mH a b) _
      have P9 : x6.toInt = whF t z c 0 27 := by have h9 := px6; rw [if_pos (by omega)] at h9; exact h9
      have Q9 := wh_name (t := t) (z := z) (c := c) (by omega)
      refine qw_if_ge rfl (fun c7 => ?_) (fun c7 => ?_)
      · skip
        refine qw_const rfl ?_
        exact qwp_iret (z := true) rfl (fun _ => by first | exact Or.inl rfl | exact Or.inr rfl | (rcases (by omega : (0 : Int32).toInt = 0 ∨ (0 : Int32).toInt = 1) with h8 | h8; exact Or.inl (ti_eq h8); exact Or.inr (ti_eq h8))) ⟨rfl, ⟨_, rfl, by first | exact Or.inl ⟨rfl, by omega, Q9.mp (by omega)⟩ | exact Or.inr ⟨rfl, fun h9 => by have h8 := Q9.mpr h9.2; omega⟩ | exact Or.inr ⟨rfl, fun h9 => by have h8 := (isNm_iff.mp h9.2).1; have h7 := m7 h9.1; omega⟩ | exact Or.inr ⟨rfl, fun h9 => by have h7 := h9.1; omega⟩⟩⟩
      · skip
        refine qw_const rfl ?_
        refine qw_goto rfl ?_
        exact qwp_iret (z := true) rfl (fun _ => by first | exact Or.inl rfl | exact Or.inr rfl | (rcases (by omega : (1 : Int32).toInt = 0 ∨ (1 : Int32).toInt = 1) with h8 | h8; exact Or.inl (ti_eq h8); exact Or.inr (ti_eq h8))) ⟨rfl, ⟨_, rfl, by first | exact Or.inl ⟨rfl, by omega, Q9.mp (by omega)⟩ | exact Or.inr ⟨rfl, fun h9 => by have h8 := Q9.mpr h9.2; omega⟩ | exact Or.inr ⟨rfl, fun h9 => by have h8 := (isNm_iff.mp h9.2).1; have h7 := m7 h9.1; omega⟩ | exact Or.inr ⟨rfl, fun h9 => by have h7 := h9.1; omega⟩⟩⟩
    · skip
      refine qw_const rfl ?_
      exact qwp_iret (z := true) rfl (fun _ => by first | exact Or.inl rfl | exact Or.inr rfl | (rcases (by omega : (0 : Int32).toInt = 0 ∨ (0 : Int32).toInt = 1) with h8 | h8; exact Or.inl (ti_eq h8); exact Or.inr (ti_eq h8))) ⟨rfl, ⟨_, rfl, by first | exact Or.inl ⟨rfl, by omega, Q9.mp (by omega)⟩ | exact Or.inr ⟨rfl, fun h9 => by have h8 := Q9.mpr h9.2; omega⟩ | exact Or.inr ⟨rfl, fun h9 => by have h8 := (isNm_iff.mp h9.2).1; have h7 := m7 h9.1; omega⟩ | exact Or.inr ⟨rfl, fun h9 => by have h7 := h9.1; omega⟩⟩⟩
  · skip
    refine qw_const rfl ?_
    exact qwp_iret (z := true) rfl (fun _ => by first | exact Or.inl rfl | exact Or.inr rfl | (rcases (by omega : (0 : Int32).toInt = 0 ∨ (0 : Int32).toInt = 1) with h8 | h8; exact Or.inl (ti_eq h8); exact Or.inr (ti_eq h8))) ⟨rfl, ⟨_, rfl, by first | exact Or.inl ⟨rfl, by omega, Q9.mp (by omega)⟩ | exact Or.inr ⟨rfl, fun h9 => by have h8 := Q9.mpr h9.2; omega⟩ | exact Or.inr ⟨rfl, fun h9 => by have h8 := (isNm_iff.mp h9.2).1; have h7 := m7 h9.1; omega⟩ | exact Or.inr ⟨rfl, fun h9 => by have h7 := h9.1; omega⟩⟩⟩
set_option maxRecDepth 4000 in
theorem y_find {d : Nat} (a : Nat → Nat → Int32) (b : Nat → Nat → Int64) (rd : Int32) (hrd : rd.toInt = 0 ∨ rd.toInt = 1) : f_pc mtM d 20 [.inr (.inr (some 0)), .inl rd] (mH a b) (fun v9 h' => h' = mH a b ∧ ∃ x : Int32, v9 = some (.inl x) ∧ x.toInt = fnd (b (if rd.toInt = 1 then 10 else 9)) (b 4 (a 0 7).toInt.toNat) (a 6 (if rd.toInt = 1 then 110 else 0)).toInt.toNat) := by
  refine f_pc_of rfl (fun d0 fu hd => ?_)
  show f_pq _ _ (0, [some (.inr (.inr (some 0))), some (.inl rd), none], [], mH a b) _
  have lm1 : (-1 : Int32).toInt = -1 := rfl
  have l0 : (0 : Int32).toInt = 0 := rfl
  have l1 : (1 : Int32).toInt = 1 := rfl
  have l110 : (110 : Int32).toInt = 110 := rfl
  refine qw_const rfl ?_
  refine qw_istore (lo' := [some (.inr (.inr (some 0))), some (.inl rd), some (.inl 0)]) rfl rfl ?_
  have loop2 : ∀ (fu2 : Nat) (k : Int32) , (0 ≤ k.toInt ∧ k.toInt ≤ 6) → (∀ j, j < k.toInt.toNat → b (if rd.toInt = 1 then 10 else 9) j ≠ b 4 (a 0 7).toInt.toNat) → f_pq (f_code (t_X13_find (f_ev mtM d0))) fu2 (2, [some (.inr (.inr (some 0))), some (.inl rd), some (.inl k)], [], mH a b) (fun v9 h' => h' = mH a b ∧ ∃ x : Int32, v9 = some (.inl x) ∧ x.toInt = fnd (b (if rd.toInt = 1 then 10 else 9)) (b 4 (a 0 7).toInt.toNat) (a 6 (if rd.toInt = 1 then 110 else 0)).toInt.toNat) := by
    intro fu2
    induction fu2 with
    | zero => intros; exact pq_0
    | succ fu2 ih2 =>
      intro k  hk hn
      refine qw_iload rfl rfl ?_
      refine qw_aload rfl rfl ?_
      refine qw_getR (v := .inr (.inr (some 6))) rfl rfl rfl rfl rfl ?_
      refine qw_iload rfl rfl ?_
      refine qw_if_eq rfl (fun c1 => ?_) (fun c1 => ?_)
      · skip
        refine qw_const rfl ?_
        refine qw_const rfl ?_
        first | refine qw_iadd rfl (by omega) (fun x2 tx2 => ?_) | refine qw_iiU rfl (fun x2 tx2 => ?_)
        refine qm_iald rfl rfl (fun jx3 x3 ex3 => ?_)
        have u9 : x3.toInt = (a 6 (if rd.toInt = 1 then 110 else 0)).toInt := by rw [ex3, show (x2).toInt.toNat = (if rd.toInt = 1 then 110 else 0) from by split <;> omega]
        refine qw_ic_ge rfl (fun c4 => ?_) (fun c4 => ?_)
        · skip
          refine qw_const rfl ?_
          exact qwp_iret (z := false) rfl (fun h9 => by cases h9) ⟨rfl, ⟨_, rfl, by rw [fnd_no _ (fun j hj => hn j (by omega))]; rfl⟩⟩
        · skip
          refine qw_iload rfl rfl ?_
          refine qw_if_eq rfl (fun c5 => ?_) (fun c5 => ?_)
          · skip
            refine qw_aload rfl rfl ?_
            refine qw_getR (v := .inr (.inr (some 9))) rfl rfl rfl rfl rfl ?_
            refine qw_iload rfl rfl ?_
            refine qm_lald rfl rfl (fun jy6 y6 ey6 => ?_)
            have b9 : b (if rd.toInt = 1 then 10 else 9) k.toInt.toNat = y6 := by rw [if_neg (by omega), ey6]
            refine qw_aload rfl rfl ?_
            refine qw_getR (v := .inr (.inr (some 4))) rfl rfl rfl rfl rfl ?_
            refine qw_aload rfl rfl ?_
            refine qw_getI (v := .inl (a 0 7)) rfl rfl rfl rfl rfl ?_
            refine qm_lald rfl rfl (fun jy7 y7 ey7 => ?_)
            refine qw_lcmpE rfl (fun x8 tx8 => ?_)
            have c9 := cmp_ti tx8
            have v9 := ey7
            refine qw_if_ne rfl (fun c9 => ?_) (fun c9 => ?_)
            · skip
              have N9 : b (if rd.toInt = 1 then 10 else 9) k.toInt.toNat = b 4 (a 0 7).toInt.toNat := by rw [b9, ← v9]; exact Int64.toInt_inj.mp (by omega)
              refine qw_iload rfl rfl ?_
              exact qwp_iret (z := false) rfl (fun h9 => by cases h9) ⟨rfl, ⟨_, rfl, by rw [fnd_at N9 _ (by omega) hn]; omega⟩⟩
            · skip
              have N9 : b (if rd.toInt = 1 then 10 else 9) k.toInt.toNat ≠ b 4 (a 0 7).toInt.toNat := fun h => by rw [b9, ← v9] at h; have h8 := congrArg Int64.toInt h; omega
              refine qw_iinc (lo' := fun z9 => [some (.inr (.inr (some 0))), some (.inl rd), some (.inl z9)]) rfl rfl (fun _ => rfl) (by omega) (fun x10 tx10 => ?_)
              exact qw_gotoD rfl (ih2 x10  (by omega) (fun j hj => by rcases (by omega : j < k.toInt.toNat ∨ j = k.toInt.toNat) with h | h; exact hn j h; (rw [h]; exact N9)))
          · skip
            refine qw_aload rfl rfl ?_
            refine qw_getR (v := .inr (.inr (some 10))) rfl rfl rfl rfl rfl ?_
            refine qw_iload rfl rfl ?_
            refine qm_lald rfl rfl (fun jy11 y11 ey11 => ?_)
            have b9 : b (if rd.toInt = 1 then 10 else 9) k.toInt.toNat = y11 := by rw [if_pos (by omega), ey11]
            refine qw_goto rfl ?_
            refine qw_aload rfl rfl ?_
            refine qw_getR (v := .inr (.inr (some 4))) rfl rfl rfl rfl rfl ?_
            refine qw_aload rfl rfl ?_
            refine qw_getI (v := .inl (a 0 7)) rfl rfl rfl rfl rfl ?_
            refine qm_lald rfl rfl (fun jy12 y12 ey12 => ?_)
            refine qw_lcmpE rfl (fun x13 tx13 => ?_)
            have c9 := cmp_ti tx13
            have v9 := ey12
            refine qw_if_ne rfl (fun c14 => ?_) (fun c14 => ?_)
            · skip
              have N9 : b (if rd.toInt = 1 then 10 else 9) k.toInt.toNat = b 4 (a 0 7).toInt.toNat := by rw [b9, ← v9]; exact Int64.toInt_inj.mp (by omega)
              refine qw_iload rfl rfl ?_
              exact qwp_iret (z := false) rfl (fun h9 => by cases h9) ⟨rfl, ⟨_, rfl, by rw [fnd_at N9 _ (by omega) hn]; omega⟩⟩
            · skip
              have N9 : b (if rd.toInt = 1 then 10 else 9) k.toInt.toNat ≠ b 4 (a 0 7).toInt.toNat := fun h => by rw [b9, ← v9] at h; have h8 := congrArg Int64.toInt h; omega
              refine qw_iinc (lo' := fun z9 => [some (.inr (.inr (some 0))), some (.inl rd), some (.inl z9)]) rfl rfl (fun _ => rfl) (by omega) (fun x15 tx15 => ?_)
              exact qw_gotoD rfl (ih2 x15  (by omega) (fun j hj => by rcases (by omega : j < k.toInt.toNat ∨ j = k.toInt.toNat) with h | h; exact hn j h; (rw [h]; exact N9)))
      · skip
        refine qw_const rfl ?_
        refine qw_goto rfl ?_
        refine qw_const rfl ?_
        first | refine qw_iadd rfl (by omega) (fun x16 tx16 => ?_) | refine qw_iiU rfl (fun x16 tx16 => ?_)
        refine qm_iald rfl rfl (fun jx17 x17 ex17 => ?_)
        have u9 : x17.toInt = (a 6 (if rd.toInt = 1 then 110 else 0)).toInt := by rw [ex17, show (x16).toInt.toNat = (if rd.toInt = 1 then 110 else 0) from by split <;> omega]
        refine qw_ic_ge rfl (fun c18 => ?_) (fun c18 => ?_)
        · skip
          refine qw_const rfl ?_
          exact qwp_iret (z := false) rfl (fun h9 => by cases h9) ⟨rfl, ⟨_, rfl, by rw [fnd_no _ (fun j hj => hn j (by omega))]; rfl⟩⟩
        · skip
          refine qw_iload rfl rfl ?_
          refine qw_if_eq rfl (fun c19 => ?_) (fun c19 => ?_)
          · skip
            refine qw_aload rfl rfl ?_
            refine qw_getR (v := .inr (.inr (some 9))) rfl rfl rfl rfl rfl ?_
            refine qw_iload rfl rfl ?_
            refine qm_lald rfl rfl (fun jy20 y20 ey20 => ?_)
            have b9 : b (if rd.toInt = 1 then 10 else 9) k.toInt.toNat = y20 := by rw [if_neg (by omega), ey20]
            refine qw_aload rfl rfl ?_
            refine qw_getR (v := .inr (.inr (some 4))) rfl rfl rfl rfl rfl ?_
            refine qw_aload rfl rfl ?_
            refine qw_getI (v := .inl (a 0 7)) rfl rfl rfl rfl rfl ?_
            refine qm_lald rfl rfl (fun jy21 y21 ey21 => ?_)
            refine qw_lcmpE rfl (fun x22 tx22 => ?_)
            have c9 := cmp_ti tx22
            have v9 := ey21
            refine qw_if_ne rfl (fun c23 => ?_) (fun c23 => ?_)
            · skip
              have N9 : b (if rd.toInt = 1 then 10 else 9) k.toInt.toNat = b 4 (a 0 7).toInt.toNat := by rw [b9, ← v9]; exact Int64.toInt_inj.mp (by omega)
              refine qw_iload rfl rfl ?_
              exact qwp_iret (z := false) rfl (fun h9 => by cases h9) ⟨rfl, ⟨_, rfl, by rw [fnd_at N9 _ (by omega) hn]; omega⟩⟩
            · skip
              have N9 : b (if rd.toInt = 1 then 10 else 9) k.toInt.toNat ≠ b 4 (a 0 7).toInt.toNat := fun h => by rw [b9, ← v9] at h; have h8 := congrArg Int64.toInt h; omega
              refine qw_iinc (lo' := fun z9 => [some (.inr (.inr (some 0))), some (.inl rd), some (.inl z9)]) rfl rfl (fun _ => rfl) (by omega) (fun x24 tx24 => ?_)
              exact qw_gotoD rfl (ih2 x24  (by omega) (fun j hj => by rcases (by omega : j < k.toInt.toNat ∨ j = k.toInt.toNat) with h | h; exact hn j h; (rw [h]; exact N9)))
          · skip
            refine qw_aload rfl rfl ?_
            refine qw_getR (v := .inr (.inr (some 10))) rfl rfl rfl rfl rfl ?_
            refine qw_iload rfl rfl ?_
            refine qm_lald rfl rfl (fun jy25 y25 ey25 => ?_)
            have b9 : b (if rd.toInt = 1 then 10 else 9) k.toInt.toNat = y25 := by rw [if_pos (by omega), ey25]
            refine qw_goto rfl ?_
            refine qw_aload rfl rfl ?_
            refine qw_getR (v := .inr (.inr (some 4))) rfl rfl rfl rfl rfl ?_
            refine qw_aload rfl rfl ?_
            refine qw_getI (v := .inl (a 0 7)) rfl rfl rfl rfl rfl ?_
            refine qm_lald rfl rfl (fun jy26 y26 ey26 => ?_)
            refine qw_lcmpE rfl (fun x27 tx27 => ?_)
            have c9 := cmp_ti tx27
            have v9 := ey26
            refine qw_if_ne rfl (fun c28 => ?_) (fun c28 => ?_)
            · skip
              have N9 : b (if rd.toInt = 1 then 10 else 9) k.toInt.toNat = b 4 (a 0 7).toInt.toNat := by rw [b9, ← v9]; exact Int64.toInt_inj.mp (by omega)
              refine qw_iload rfl rfl ?_
              exact qwp_iret (z := false) rfl (fun h9 => by cases h9) ⟨rfl, ⟨_, rfl, by rw [fnd_at N9 _ (by omega) hn]; omega⟩⟩
            · skip
              have N9 : b (if rd.toInt = 1 then 10 else 9) k.toInt.toNat ≠ b 4 (a 0 7).toInt.toNat := fun h => by rw [b9, ← v9] at h; have h8 := congrArg Int64.toInt h; omega
              refine qw_iinc (lo' := fun z9 => [some (.inr (.inr (some 0))), some (.inl rd), some (.inl z9)]) rfl rfl (fun _ => rfl) (by omega) (fun x29 tx29 => ?_)
              exact qw_gotoD rfl (ih2 x29  (by omega) (fun j hj => by rcases (by omega : j < k.toInt.toNat ∨ j = k.toInt.toNat) with h | h; exact hn j h; (rw [h]; exact N9)))
  exact loop2 _ 0  (by omega) (fun j hj => absurd hj (by omega))
