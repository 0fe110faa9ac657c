set_option maxRecDepth 4000 in
theorem y_riverHere {d : Nat} (a : Nat → Nat → Int32) (b : Nat → Nat → Int64) (z : Nat) (N : Nat) (c : Nat) (e : Int) (t : Nat → Int32)(rd : Int32) (hrd : rd.toInt = 0 ∨ rd.toInt = 1) (hM : MS t z N c e a b) : f_pc mtM d 21 [.inr (.inr (some 0)), .inl rd] (mH a b) (fun v9 h' => ∃ (a' : Nat → Nat → Int32), h' = mH a' b ∧ (FR [0] a a' ∧ ((∀ j, j ≠ 8 → a' 0 j = a 0 j) ∧ MS t z N c (eE e (if isNm t z c = true then (if 0 ≤ fnd (b (if rd.toInt = 1 then 10 else 9)) (lxV fM t z c) (a 6 (if rd.toInt = 1 then 110 else 0)).toInt.toNat then 0 else flt t z c 2) else flt t z c 1)) a' b)) ∧ ∃ x : Int32, v9 = some (.inl x) ∧ (eE e (if isNm t z c = true then (if 0 ≤ fnd (b (if rd.toInt = 1 then 10 else 9)) (lxV fM t z c) (a 6 (if rd.toInt = 1 then 110 else 0)).toInt.toNat then 0 else flt t z c 2) else flt t z c 1) = 0 → x.toInt = fnd (b (if rd.toInt = 1 then 10 else 9)) (lxV fM t z c) (a 6 (if rd.toInt = 1 then 110 else 0)).toInt.toNat)) := by
  refine f_pc_of rfl (fun d0 fu hd => ?_)
  show f_pq _ _ (0, [some (.inr (.inr (some 0))), some (.inl rd), none], [], mH a b) _
  have lm1 : (-1 : Int32).toInt = -1 := rfl
  have l1 : (1 : Int32).toInt = 1 := rfl
  have l2 : (2 : Int32).toInt = 2 := rfl
  have m8 := hM.e8
  have ma := hM.at
  have m7 := hM.tok
  refine qw_aload rfl rfl ?_
  refine qw_getI (v := .inl (a 0 8)) rfl rfl rfl rfl rfl ?_
  have loop19 : ∀ (fuJ19 : Nat)  (a19 : Nat → Nat → Int32) (o2_19 : Option f_V),  FR [0] a a19 →((∀ j, j ≠ 8 → a19 0 j = a 0 j) ∧ MS t z N c (eE e (if isNm t z c = true then 0 else flt t z c 1)) a19 b) → f_pq (f_code (t_X13_riverHere (f_ev mtM d0))) fuJ19 (19, [some (.inr (.inr (some 0))), some (.inl rd), o2_19], [], mH a19 b) (fun v9 h' => ∃ (a' : Nat → Nat → Int32), h' = mH a' b ∧ (FR [0] a a' ∧ ((∀ j, j ≠ 8 → a' 0 j = a 0 j) ∧ MS t z N c (eE e (if isNm t z c = true then (if 0 ≤ fnd (b (if rd.toInt = 1 then 10 else 9)) (lxV fM t z c) (a 6 (if rd.toInt = 1 then 110 else 0)).toInt.toNat then 0 else flt t z c 2) else flt t z c 1)) a' b)) ∧ ∃ x : Int32, v9 = some (.inl x) ∧ (eE e (if isNm t z c = true then (if 0 ≤ fnd (b (if rd.toInt = 1 then 10 else 9)) (lxV fM t z c) (a 6 (if rd.toInt = 1 then 110 else 0)).toInt.toNat then 0 else flt t z c 2) else flt t z c 1) = 0 → x.toInt = fnd (b (if rd.toInt = 1 then 10 else 9)) (lxV fM t z c) (a 6 (if rd.toInt = 1 then 110 else 0)).toInt.toNat)) := by
    intro fuJ19  a19 o2_19 hF19 hW
    · skip
      refine qw_aload rfl rfl ?_
      refine qw_getI (v := .inl (a19 0 8)) rfl rfl rfl rfl rfl ?_
      have m8 := hW.2.e8
      refine qw_if_le rfl (fun c1 => ?_) (fun c1 => ?_)
      · skip
        have z9 : eE e (if isNm t z c = true then 0 else flt t z c 1) = 0 := by omega
        have zz := eE_z z9
        have N8 : isNm t z c = true := by by_cases h : isNm t z c = true; exact h; (have h7 := zz.2; rw [if_neg h] at h7; have h6 := flt_pos (t := t) (z := z) (c := c) (k := 1) (by decide); omega)
        have k7 := hW.2.tok z9
        have n7 := (isNm_iff.mp N8).1
        have v7 := hW.2.val z9 (by omega) (by omega)
        refine qw_aload rfl rfl ?_
        refine qw_iload rfl rfl ?_
        refine qw_invV (rest := []) rfl rfl rfl rfl rfl (Nat.le_of_ble_eq_true rfl) rfl (y_find (d := d0) a19 b  rd (by omega)) (fun v2 h9 hq3 => ?_)
        obtain ⟨rfl, x4, rfl, px4⟩ := hq3
        show f_pq _ _ (35, [some (.inr (.inr (some 0))), some (.inl rd), o2_19], [.inl x4], mH a19 b) _
        have F9 : x4.toInt = fnd (b (if rd.toInt = 1 then 10 else 9)) (lxV fM t z c) (a 6 (if rd.toInt = 1 then 110 else 0)).toInt.toNat := by have h9 := px4; rw [k7.2.1, v7, (show FR [0] a a19 from (hF19)) 6 (by decide)] at h9; exact h9
        refine qw_istore (lo' := [some (.inr (.inr (some 0))), some (.inl rd), some (.inl x4)]) rfl rfl ?_
        refine qw_aload rfl rfl ?_
        refine qw_getI (v := .inl (a19 0 8)) rfl rfl rfl rfl rfl ?_
        refine qw_if_ne rfl (fun c5 => ?_) (fun c5 => ?_)
        · skip
          refine qw_iload rfl rfl ?_
          refine qw_if_ge rfl (fun c6 => ?_) (fun c6 => ?_)
          · skip
            refine qw_iload rfl rfl ?_
            exact qwp_iret (z := false) rfl (fun h9 => by cases h9) ⟨a19, rfl, ⟨hF19, ⟨hW.1, by first | (rw [rh_x (by omega)]; exact hW.2) | (have h9 := hW.2; rw [z9] at h9; rw [eE_0 zz.1, if_pos N8, if_pos (by omega)]; exact h9)⟩⟩, ⟨_, rfl, by first | exact fun _ => F9 | exact fun h9 => absurd h9 (by rw [rh_x (by omega)]; omega)⟩⟩
          · skip
            refine qw_aload rfl rfl ?_
            refine qw_const rfl ?_
            refine qw_invV (rest := []) rfl rfl rfl rfl rfl (Nat.le_of_ble_eq_true rfl) rfl (y_wrong (d := d0) a19 b z N c (eE e (if isNm t z c = true then 0 else flt t z c 1)) t 2 (by omega) (hW.2)) (fun v7 h9 hq8 => ?_)
            obtain ⟨a9, rfl, fa9, rfl⟩ := hq8
            show f_pq _ _ (52, [some (.inr (.inr (some 0))), some (.inl rd), some (.inl x4)], [], mH a9 b) _
            refine qw_iload rfl rfl ?_
            exact qwp_iret (z := false) rfl (fun h9 => by cases h9) ⟨a9, rfl, ⟨FR.tr (hF19) (FR.sub fa9.1 (by decide)), ⟨fun j h => by rw [fa9.2.1 j h]; exact hW.1 j h, by have h9 := fa9.2.2; rw [eE_0 z9] at h9; rw [eE_0 zz.1, if_pos N8, if_neg (by omega)]; exact h9⟩⟩, ⟨_, rfl, by first | exact fun _ => F9 | exact fun h9 => absurd h9 (by rw [rh_x (by omega)]; omega)⟩⟩
        · skip
          refine qw_iload rfl rfl ?_
          exact qwp_iret (z := false) rfl (fun h9 => by cases h9) ⟨a19, rfl, ⟨hF19, ⟨hW.1, by first | (rw [rh_x (by omega)]; exact hW.2) | (have h9 := hW.2; rw [z9] at h9; rw [eE_0 zz.1, if_pos N8, if_pos (by omega)]; exact h9)⟩⟩, ⟨_, rfl, by first | exact fun _ => F9 | exact fun h9 => absurd h9 (by rw [rh_x (by omega)]; omega)⟩⟩
      · skip
        refine qw_const rfl ?_
        refine qw_goto rfl ?_
        refine qw_istore (lo' := [some (.inr (.inr (some 0))), some (.inl rd), some (.inl (-1))]) rfl rfl ?_
        refine qw_aload rfl rfl ?_
        refine qw_getI (v := .inl (a19 0 8)) rfl rfl rfl rfl rfl ?_
        refine qw_if_ne rfl (fun c10 => ?_) (fun c10 => ?_)
        · exfalso; omega
        · skip
          refine qw_iload rfl rfl ?_
          exact qwp_iret (z := false) rfl (fun h9 => by cases h9) ⟨a19, rfl, ⟨hF19, ⟨hW.1, by first | (rw [rh_x (by omega)]; exact hW.2) | (have h9 := hW.2; rw [z9] at h9; rw [eE_0 zz.1, if_pos N8, if_pos (by omega)]; exact h9)⟩⟩, ⟨_, rfl, by first | exact fun _ => F9 | exact fun h9 => absurd h9 (by rw [rh_x (by omega)]; omega)⟩⟩
  refine qw_if_ne rfl (fun c11 => ?_) (fun c11 => ?_)
  · skip
    refine qw_aload rfl rfl ?_
    refine qw_invV (rest := []) rfl rfl rfl rfl rfl (Nat.le_of_ble_eq_true rfl) rfl (y_isName (d := d0) a b z N c e t  (by omega)) (fun v12 h9 hq13 => ?_)
    obtain ⟨rfl, x14, rfl, px14⟩ := hq13
    show f_pq _ _ (11, [some (.inr (.inr (some 0))), some (.inl rd), none], [.inl x14], mH a b) _
    have P9 := px14
    refine qw_if_ne rfl (fun c15 => ?_) (fun c15 => ?_)
    · skip
      have N9 : ¬ isNm t z c = true := by rcases P9 with h | h; omega; exact fun q => h.2 ⟨by omega, q⟩
      refine qw_aload rfl rfl ?_
      refine qw_const rfl ?_
      refine qw_invV (rest := []) rfl rfl rfl rfl rfl (Nat.le_of_ble_eq_true rfl) rfl (y_wrong (d := d0) a b z N c e t 1 (by omega) (by omega)) (fun v16 h9 hq17 => ?_)
      obtain ⟨a18, rfl, fa18, rfl⟩ := hq17
      show f_pq _ _ (19, [some (.inr (.inr (some 0))), some (.inl rd), none], [], mH a18 b) _
      exact loop19 _ a18 none (FR.tr (FR.rf) (FR.sub fa18.1 (by decide))) (⟨fa18.2.1, by have h9 := fa18.2.2; rw [eE_0 (by omega)] at h9 ⊢; rw [if_neg N9]; exact h9⟩)
    · skip
      have N9 : isNm t z c = true := by rcases P9 with h | h; exact h.2.2; omega
      exact loop19 _ a none (FR.rf) (⟨fun _ _ => rfl, by have h8 : eE e (if isNm t z c = true then 0 else flt t z c 1) = e := (by first | exact eE_x (by omega) | (rw [eE_0 (by omega), if_pos N9]; omega)); rw [h8]; exact hM⟩)
  · skip
    exact loop19 _ a none (FR.rf) (⟨fun _ _ => rfl, by have h8 : eE e (if isNm t z c = true then 0 else flt t z c 1) = e := (by first | exact eE_x (by omega) | (rw [eE_0 (by omega), if_pos N9]; omega)); rw [h8]; exact hM⟩)
set_option maxRecDepth 4000 in
theorem y_readRange {d : Nat} (a : Nat → Nat → Int32) (b : Nat → Nat → Int64) (z : Nat) (N : Nat) (c : Nat) (e : Int) (t : Nat → Int32) (L : Nat → Int) (hM : MS t z N c e a b) (hL : LR L a) (hl1 : 0 ≤ L 1 ∧ L 1 ≤ 4) (he : e = 0) (hk : ¬ lxK t z c = 0) : f_pc mtM d 25 [.inr (.inr (some 0))] (mH a b) (fun v9 h' => ∃ (a' : Nat → Nat → Int32), h' = mH a' b ∧ (FR [0, 6] a a' ∧ ((∀ j, j ≠ 7 → j ≠ 8 → a' 0 j = a 0 j) ∧ MS t z N (c + 4) (rgE t z L c) a' b ∧ (rgE t z L c = 0 → LR (rgL t z L c) a') ∧ (∀ j, j < 110 → a' 6 j = a 6 j))) ∧ v9 = none) := by
  refine f_pc_of rfl (fun d0 fu hd => ?_)
  show f_pq _ _ (0, [some (.inr (.inr (some 0))), none, none, none], [], mH a b) _
  have l0 : (0 : Int32).toInt = 0 := rfl
  have l1 : (1 : Int32).toInt = 1 := rfl
  have l2 : (2 : Int32).toInt = 2 := rfl
  have l3 : (3 : Int32).toInt = 3 := rfl
  have l4 : (4 : Int32).toInt = 4 := rfl
  have l5 : (5 : Int32).toInt = 5 := rfl
  have l10 : (10 : Int32).toInt = 10 := rfl
  have l99 : (99 : Int32).toInt = 99 := rfl
  have l111 : (111 : Int32).toInt = 111 := rfl
  have l201 : (201 : Int32).toInt = 201 := rfl
  have m8 := hM.e8
  have ma := hM.at
  have m7 := hM.tok
  have l1 : (a 6 111).toInt = L 1 := hL 1 (by decide) (by omega)
  refine qw_aload rfl rfl ?_
  refine qw_getR (v := .inr (.inr (some 6))) rfl rfl rfl rfl rfl ?_
  refine qw_const rfl ?_
  refine qm_iald rfl rfl (fun jx1 x1 ex1 => ?_)
  have n9 : x1.toInt = L 1 := by rw [ex1]; exact l1
  refine qw_istore (lo' := [some (.inr (.inr (some 0))), some (.inl x1), none, none]) rfl rfl ?_
  refine qw_iload rfl rfl ?_
  refine qw_const rfl ?_
  refine qw_ic_ne rfl (fun c2 => ?_) (fun c2 => ?_)
  · skip
    refine qw_aload rfl rfl ?_
    refine qw_const rfl ?_
    refine qw_invV (rest := []) rfl rfl rfl rfl rfl (Nat.le_of_ble_eq_true rfl) rfl (y_wrong (d := d0) a b z N c e t 5 (by omega) (by omega)) (fun v3 h9 hq4 => ?_)
    obtain ⟨a5, rfl, fa5, rfl⟩ := hq4
    show f_pq _ _ (18, [some (.inr (.inr (some 0))), some (.inl x1), none, none], [], mH a5 b) _
    have W5 : MS t z N c (eE e (flt t z c 5)) a5 b := fa5.2.2
    exact qw_ret rfl ⟨a5, rfl, ⟨FR.tr (FR.rf) (FR.sub fa5.1 (by decide)), ⟨fun j _ h8 => fa5.2.1 j h8, by unfold rgE; rw [if_pos (by omega)]; rw [eE_0 he] at W5; exact W5.any (by have := flt_pos (t := t) (z := z) (c := c) (k := 5) (by decide); omega), fun h => absurd h (by unfold rgE; rw [if_pos (by omega)]; have := flt_pos (t := t) (z := z) (c := c) (k := 5) (by decide); omega), fun j _ => by rw [fa5.1 6 (by decide)]⟩⟩, rfl⟩
  · skip
    refine qw_aload rfl rfl ?_
    refine qw_dup rfl rfl ?_
    refine qw_getI (v := .inl (a 0 7)) rfl rfl rfl rfl rfl ?_
    refine qw_const rfl ?_
    first | refine qw_iadd rfl (by omega) (fun x6 tx6 => ?_) | refine qw_iiU rfl (fun x6 tx6 => ?_)
    refine qm_putI (z := false) rfl rfl rfl rfl (by first | (intro h9; cases h9; done) | (intro _; first | exact Or.inl rfl | exact Or.inr rfl | assumption)) (fun a7 ea7 => ?_)
    have ua7_7 : a7 0 7 = x6 := by rw [ea7, mU_same]
    have wa7_7 := congrArg Int32.toInt ua7_7
    have M1 := hM.adv he hk ea7 (by omega)
    refine qw_aload rfl rfl ?_
    refine qw_const rfl ?_
    refine qw_const rfl ?_
    refine qw_invV (rest := []) rfl rfl rfl rfl rfl (Nat.le_of_ble_eq_true rfl) rfl (y_takeNumber (d := d0) a7 b z N (c + 1) 0 t 0 99 (M1)) (fun v8 h9 hq9 => ?_)
    obtain ⟨a10, rfl, fa10, x11, rfl, px11⟩ := hq9
    show f_pq _ _ (36, [some (.inr (.inr (some 0))), some (.inl x1), none, none], [.inl x11], mH a10 b) _
    have P2 : eE 0 (tkN t z (c + 1) 0 99) = 0 → x11.toInt = nvT t z (c + 1) := px11.1
    refine qw_istore (lo' := [some (.inr (.inr (some 0))), some (.inl x1), some (.inl x11), none]) rfl rfl ?_
    have loop88 : ∀ (fuJ88 : Nat)  (a88 : Nat → Nat → Int32) (o3_88 : Option f_V),  FR [0, 6] a a88 →((∀ j, j ≠ 7 → j ≠ 8 → a88 0 j = a 0 j)) → (a88 6 = a 6) → (MS t z N (c + 2) (eE (tkN t z (c + 1) 0 99) (if rgH L (nvT t z (c + 1)) (L 1).toNat = true then flt t z (c + 1) 3 else 0)) a88 b) → f_pq (f_code (t_X13_readRange (f_ev mtM d0))) fuJ88 (88, [some (.inr (.inr (some 0))), some (.inl x1), some (.inl x11), o3_88], [], mH a88 b) (fun v9 h' => ∃ (a' : Nat → Nat → Int32), h' = mH a' b ∧ (FR [0, 6] a a' ∧ ((∀ j, j ≠ 7 → j ≠ 8 → a' 0 j = a 0 j) ∧ MS t z N (c + 4) (rgE t z L c) a' b ∧ (rgE t z L c = 0 → LR (rgL t z L c) a') ∧ (∀ j, j < 110 → a' 6 j = a 6 j))) ∧ v9 = none) := by
      intro fuJ88  a88 o3_88 hF88 hK hA hW
      · skip
        refine qw_aload rfl rfl ?_
        refine qw_getR (v := .inr (.inr (some 6))) rfl rfl rfl rfl rfl ?_
        refine qw_const rfl ?_
        refine qw_const rfl ?_
        refine qw_iload rfl rfl ?_
        first | refine qw_imul rfl (c := 2) rfl (by omega) (fun x12 tx12 => ?_) | refine qw_iiU rfl (fun x12 tx12 => ?_)
        first | refine qw_iadd rfl (by omega) (fun x13 tx13 => ?_) | refine qw_iiU rfl (fun x13 tx13 => ?_)
        refine qw_iload rfl rfl ?_
        refine qm_iast rfl rfl (fun ja14 a14 ea14 => ?_)
        have ua14_7 : (a14 0 7).toInt = (a88 0 7).toInt := by rw [ea14, mU_cell (by decide)]
        have W2 := hW.keep (a' := a14) (by rw [ea14, mU_cell (by decide)]) (by rw [ea14, mU_cell (by decide)]) (by rw [ea14, mU_cell (by decide)]) (by rw [ea14, mU_cell (by decide)])
        have L2 := (hL.same hA).put ea14 (k := 91 + 2 * (L 1).toNat) (by omega)
        refine qw_aload rfl rfl ?_
        refine qw_getR (v := .inr (.inr (some 6))) rfl rfl rfl rfl rfl ?_
        refine qw_const rfl ?_
        refine qw_const rfl ?_
        refine qw_iload rfl rfl ?_
        first | refine qw_imul rfl (c := 2) rfl (by omega) (fun x15 tx15 => ?_) | refine qw_iiU rfl (fun x15 tx15 => ?_)
        first | refine qw_iadd rfl (by omega) (fun x16 tx16 => ?_) | refine qw_iiU rfl (fun x16 tx16 => ?_)
        refine qw_const rfl ?_
        first | refine qw_iadd rfl (by omega) (fun x17 tx17 => ?_) | refine qw_iiU rfl (fun x17 tx17 => ?_)
        refine qw_aload rfl rfl ?_
        refine qw_const rfl ?_
        refine qw_const rfl ?_
        refine qw_const rfl ?_
        refine qw_invV (rest := [.inl x17, .inr (.inr (some 6))]) rfl rfl rfl rfl rfl (Nat.le_of_ble_eq_true rfl) rfl (y_takeAfter (d := d0) a14 b z N (c + 2) (eE (tkN t z (c + 1) 0 99) (if rgH L (nvT t z (c + 1)) (L 1).toNat = true then flt t z (c + 1) 3 else 0)) t 10 10 1 99 (⟨by decide, by decide⟩) (W2)) (fun v18 h9 hq19 => ?_)
        obtain ⟨a20, rfl, fa20, x21, rfl, px21⟩ := hq19
        show f_pq _ _ (123, [some (.inr (.inr (some 0))), some (.inl x1), some (.inl x11), o3_88], [.inl x21, .inl x17, .inr (.inr (some 6))], mH a20 b) _
        have P4 : eE (eE (eE (tkN t z (c + 1) 0 99) (if rgH L (nvT t z (c + 1)) (L 1).toNat = true then flt t z (c + 1) 3 else 0)) (xW t z (c + 2) 10)) (tkN t z (c + 3) 1 99) = 0 → x21.toInt = nvT t z (c + 3) := px21.1
        have W3 := fa20.2.2
        have L3 := L2.same (fa20.1 6 (by decide))
        refine qm_iast rfl rfl (fun ja22 a22 ea22 => ?_)
        have ua22_7 : (a22 0 7).toInt = (a20 0 7).toInt := by rw [ea22, mU_cell (by decide)]
        have W4 := W3.keep (a' := a22) (by rw [ea22, mU_cell (by decide)]) (by rw [ea22, mU_cell (by decide)]) (by rw [ea22, mU_cell (by decide)]) (by rw [ea22, mU_cell (by decide)])
        have L4 := L3.put ea22 (k := 92 + 2 * (L 1).toNat) (by omega)
        refine qw_aload rfl rfl ?_
        refine qw_getR (v := .inr (.inr (some 6))) rfl rfl rfl rfl rfl ?_
        refine qw_const rfl ?_
        refine qw_dup2 rfl ⟨rfl, rfl⟩ ?_
        refine qm_iald rfl rfl (fun jx23 x23 ex23 => ?_)
        have q9 : x23.toInt = L 1 := by have h9 := L4 1 (by decide) (by omega); unfold upI at h9; rw [if_neg (by omega), if_neg (by omega)] at h9; rw [ex23]; exact h9
        refine qw_const rfl ?_
        first | refine qw_iadd rfl (by omega) (fun x24 tx24 => ?_) | refine qw_iiU rfl (fun x24 tx24 => ?_)
        have w9 : x24.toInt = L 1 + 1 := by omega
        refine qm_iast rfl rfl (fun ja25 a25 ea25 => ?_)
        have ua25_7 : (a25 0 7).toInt = (a22 0 7).toInt := by rw [ea25, mU_cell (by decide)]
        have W6 := W4.keep (a' := a25) (by rw [ea25, mU_cell (by decide)]) (by rw [ea25, mU_cell (by decide)]) (by rw [ea25, mU_cell (by decide)]) (by rw [ea25, mU_cell (by decide)])
        have L6 := L4.put ea25 (k := 1) (by omega)
        exact qw_ret rfl ⟨a25, rfl, ⟨FR.up (FR.up (FR.tr (FR.up (hF88) (by decide) ea14) (FR.sub fa20.1 (by decide))) (by decide) ea22) (by decide) ea25, ⟨fun j h7 h8 => by rw [ea25, mU_cell (by decide), ea22, mU_cell (by decide), fa20.2.1 j h7 h8, ea14, mU_cell (by decide)]; exact hK j h7 h8, by rw [show rgE t z L c = eE (eE (eE (tkN t z (c + 1) 0 99) (if rgH L (nvT t z (c + 1)) (L 1).toNat = true then flt t z (c + 1) 3 else 0)) (xW t z (c + 2) 10)) (tkN t z (c + 3) 1 99) from by unfold rgE; rw [if_neg (by omega), fz4]]; exact W6, fun h => by have h9 := h; unfold rgE at h9; rw [if_neg (by omega), fz4] at h9; have q3 := eE_z (eE_z (eE_z h9).1).1; have V1 := P2 (by rw [eE_0 rfl]; exact q3.1); have V4 := P4 h9; unfold rgL; rw [← V1, ← V4, ← w9]; exact L6, fun j hj => by rw [ea25, mU_slot (by omega), ea22, mU_slot (by omega), fa20.1 6 (by decide), ea14, mU_slot (by omega), hA]⟩⟩, rfl⟩
    refine qw_const rfl ?_
    refine qw_istore (lo' := [some (.inr (.inr (some 0))), some (.inl x1), some (.inl x11), some (.inl 0)]) rfl rfl ?_
    have loop39 : ∀ (fu39 : Nat) (k : Int32) (a39 : Nat → Nat → Int32) ,  FR [0, 6] a a39 →(0 ≤ k.toInt ∧ k.toInt ≤ L 1) → ((∀ j, j ≠ 7 → j ≠ 8 → a39 0 j = a 0 j)) → (a39 6 = a 6) → (MS t z N (c + 2) (eE (tkN t z (c + 1) 0 99) (if rgH L (nvT t z (c + 1)) k.toInt.toNat = true then flt t z (c + 1) 3 else 0)) a39 b) → f_pq (f_code (t_X13_readRange (f_ev mtM d0))) fu39 (39, [some (.inr (.inr (some 0))), some (.inl x1), some (.inl x11), some (.inl k)], [], mH a39 b) (fun v9 h' => ∃ (a' : Nat → Nat → Int32), h' = mH a' b ∧ (FR [0, 6] a a' ∧ ((∀ j, j ≠ 7 → j ≠ 8 → a' 0 j = a 0 j) ∧ MS t z N (c + 4) (rgE t z L c) a' b ∧ (rgE t z L c = 0 → LR (rgL t z L c) a') ∧ (∀ j, j < 110 → a' 6 j = a 6 j))) ∧ v9 = none) := by
      intro fu39
      induction fu39 with
      | zero => intros; exact pq_0
      | succ fu39 ih39 =>
        intro k a39  hF39 hk9 hK hA hW
        refine qw_iload rfl rfl ?_
        refine qw_iload rfl rfl ?_
        refine qw_ic_ge rfl (fun c26 => ?_) (fun c26 => ?_)
        · skip
          exact loop88 _ a39 (some (.inl k)) (hF39) (hK) (hA) (by first | (rw [show (L 1).toNat = k.toInt.toNat from by omega]; exact hW) | (rw [← X9]; exact hW))
        · skip
          refine qw_aload rfl rfl ?_
          refine qw_getI (v := .inl (a39 0 8)) rfl rfl rfl rfl rfl ?_
          have m4 := hW.e8
          refine qw_if_ne rfl (fun c27 => ?_) (fun c27 => ?_)
          · skip
            have z4 : eE (tkN t z (c + 1) 0 99) (if rgH L (nvT t z (c + 1)) k.toInt.toNat = true then flt t z (c + 1) 3 else 0) = 0 := by omega
            have z1 := (eE_z z4).1
            have V2 := P2 (by rw [eE_0 rfl]; exact z1)
            have k4 := hW.tok z4
            have k5 := hW.at
            refine qw_aload rfl rfl ?_
            refine qw_getR (v := .inr (.inr (some 6))) rfl rfl rfl rfl rfl ?_
            refine qw_const rfl ?_
            refine qw_const rfl ?_
            refine qw_iload rfl rfl ?_
            first | refine qw_imul rfl (c := 2) rfl (by omega) (fun x28 tx28 => ?_) | refine qw_iiU rfl (fun x28 tx28 => ?_)
            first | refine qw_iadd rfl (by omega) (fun x29 tx29 => ?_) | refine qw_iiU rfl (fun x29 tx29 => ?_)
            refine qm_iald rfl rfl (fun jx30 x30 ex30 => ?_)
            have r9 : x30.toInt = L (91 + 2 * k.toInt.toNat) := by rw [ex30, hA]; have h9 := hL (91 + 2 * k.toInt.toNat) (by omega) (by omega); rw [← h9]; congr 2; omega
            refine qw_iload rfl rfl ?_
            refine qw_ic_ne rfl (fun c31 => ?_) (fun c31 => ?_)
            · skip
              have D9 : L (91 + 2 * k.toInt.toNat) = nvT t z (c + 1) := by omega
              refine qw_aload rfl rfl ?_
              refine qw_dup rfl rfl ?_
              refine qw_getI (v := .inl (a39 0 7)) rfl rfl rfl rfl rfl ?_
              refine qw_const rfl ?_
              first | refine qw_isub rfl (by omega) (fun x32 tx32 => ?_) | refine qw_iiU rfl (fun x32 tx32 => ?_)
              refine qm_putI (z := false) rfl rfl rfl rfl (by first | (intro h9; cases h9; done) | (intro _; first | exact Or.inl rfl | exact Or.inr rfl | assumption)) (fun a33 ea33 => ?_)
              have ua33_7 : a33 0 7 = x32 := by rw [ea33, mU_same]
              have wa33_7 := congrArg Int32.toInt ua33_7
              have ua33_8 : (a33 0 8).toInt = (a39 0 8).toInt := by rw [ea33, mU_slot (by decide)]
              have M3 : MS t z N (c + 1) 0 a33 b := hW.step (by rw [ea33, mU_cell (by decide)]) (by rw [ea33, mU_cell (by decide)]) (by decide) (by rw [ea33, mU_slot (by decide)]; have := hW.e8; omega) (fun _ => by rw [ea33, mU_same]; omega) (by rw [ea33, mU_same]; omega)
              refine qw_aload rfl rfl ?_
              refine qw_const rfl ?_
              refine qw_invV (rest := []) rfl rfl rfl rfl rfl (Nat.le_of_ble_eq_true rfl) rfl (y_wrong (d := d0) a33 b z N (c + 1) 0 t 3 (by omega) (M3)) (fun v34 h9 hq35 => ?_)
              obtain ⟨a36, rfl, fa36, rfl⟩ := hq35
              show f_pq _ _ (82, [some (.inr (.inr (some 0))), some (.inl x1), some (.inl x11), some (.inl k)], [], mH a36 b) _
              refine qw_iinc (lo' := fun z9 => [some (.inr (.inr (some 0))), some (.inl x1), some (.inl x11), some (.inl z9)]) rfl rfl (fun _ => rfl) (by omega) (fun x37 tx37 => ?_)
              exact qw_gotoD rfl (ih39 x37 a36 (FR.tr (FR.up (hF39) (by decide) ea33) (FR.sub fa36.1 (by decide))) (by omega) (fun j h7 h8 => by rw [fa36.2.1 j h8, ea33, mU_slot h7]; exact hK j h7 h8) (by rw [fa36.1 6 (by decide), ea33, mU_cell (by decide)]; exact hA) (by rw [show (x37).toInt.toNat = k.toInt.toNat + 1 from by omega, z1, eE_0 rfl, if_pos (rgH_s.mpr (Or.inr D9))]; have h9 : MS t z N (c + 1) (eE 0 (flt t z (c + 1) 3)) a36 b := fa36.2.2; rw [eE_0 rfl] at h9; exact h9.any (by have := flt_pos (t := t) (z := z) (c := c + 1) (k := 3) (by decide); omega)))
            · skip
              refine qw_iinc (lo' := fun z9 => [some (.inr (.inr (some 0))), some (.inl x1), some (.inl x11), some (.inl z9)]) rfl rfl (fun _ => rfl) (by omega) (fun x38 tx38 => ?_)
              exact qw_gotoD rfl (ih39 x38 a39 (hF39) (by omega) (hK) (hA) (by first | (rw [show (x38).toInt.toNat = k.toInt.toNat + 1 from by omega]; rw [show (if rgH L (nvT t z (c + 1)) (k.toInt.toNat + 1) = true then flt t z (c + 1) 3 else 0) = (if rgH L (nvT t z (c + 1)) k.toInt.toNat = true then flt t z (c + 1) 3 else 0) from by by_cases hx : rgH L (nvT t z (c + 1)) k.toInt.toNat = true; (rw [if_pos hx, if_pos (rgH_s.mpr (Or.inl hx))]); (rw [if_neg hx, if_neg (fun q => by rcases rgH_s.mp q with q | q; exact hx q; omega)])]; exact hW) | exact hW))
          · skip
            have X9 : eE (tkN t z (c + 1) 0 99) (if rgH L (nvT t z (c + 1)) k.toInt.toNat = true then flt t z (c + 1) 3 else 0) = eE (tkN t z (c + 1) 0 99) (if rgH L (nvT t z (c + 1)) (L 1).toNat = true then flt t z (c + 1) 3 else 0) := by by_cases hx : tkN t z (c + 1) 0 99 = 0; (by_cases hy : rgH L (nvT t z (c + 1)) k.toInt.toNat = true; (rw [if_pos hy, if_pos (rgH_mono (L 1).toNat (by omega) hy)]); (exfalso; rw [eE_0 hx, if_neg hy] at m4; omega)); (rw [eE_x hx, eE_x hx])
            exact loop88 _ a39 (some (.inl k)) (hF39) (hK) (hA) (by first | (rw [show (L 1).toNat = k.toInt.toNat from by omega]; exact hW) | (rw [← X9]; exact hW))
    exact loop39 _ 0 a10 (FR.tr (FR.up (FR.rf) (by decide) ea7) (FR.sub fa10.1 (by decide))) (by omega) (fun j h7 h8 => by rw [fa10.2.1 j h7 h8, ea7, mU_slot h7]) (by rw [fa10.1 6 (by decide), ea7, mU_cell (by decide)]) (by have h9 := fa10.2.2; rw [eE_0 rfl] at h9; rw [show eE (tkN t z (c + 1) 0 99) (if rgH L (nvT t z (c + 1)) (0 : Int32).toInt.toNat = true then flt t z (c + 1) 3 else 0) = tkN t z (c + 1) 0 99 from by rw [show (0 : Int32).toInt.toNat = 0 from rfl, if_neg (show ¬ rgH L (nvT t z (c + 1)) 0 = true from Bool.false_ne_true)]; unfold eE; split <;> omega]; exact h9)
