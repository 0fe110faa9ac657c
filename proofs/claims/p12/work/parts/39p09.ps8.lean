set_option maxRecDepth 4000 in
theorem y_lettersOf {d : Nat} (a : Nat → Nat → Int32) (b : Nat → Nat → Int64) (L_v : Int64)  : f_pc mtM d 23 [.inr (.inl L_v)] (mH a b) (fun v9 h' => h' = mH a b ∧ ∃ x : Int32, v9 = some (.inl x) ∧ True) := by
  refine f_pc_of rfl (fun d0 fu hd => ?_)
  show f_pq _ _ (0, [some (.inr (.inl L_v)), none, none, none, none], [], mH a b) _
  have l0 : (0 : Int32).toInt = 0 := rfl
  have l1 : (1 : Int32).toInt = 1 := rfl
  refine qw_const rfl ?_
  refine qw_istore (lo' := [some (.inr (.inl L_v)), none, some (.inl 0), none, none]) rfl rfl ?_
  refine qw_lload rfl rfl ?_
  refine qw_lstore (lo' := [some (.inr (.inl L_v)), none, some (.inl 0), some (.inr (.inl L_v)), none]) rfl rfl ?_
  have loop4 : ∀ (fu4 : Nat) (n : Int32) (w : Int64) ,  f_pq (f_code (t_X13_lettersOf (f_ev mtM d0))) fu4 (4, [some (.inr (.inl L_v)), none, some (.inl n), some (.inr (.inl w)), none], [], mH a b) (fun v9 h' => h' = mH a b ∧ ∃ x : Int32, v9 = some (.inl x) ∧ True) := by
    intro fu4
    induction fu4 with
    | zero => intros; exact pq_0
    | succ fu4 ih4 =>
      intro n w  
      refine qw_lload rfl rfl ?_
      refine qw_const rfl ?_
      refine qw_lcmpE rfl (fun x1 tx1 => ?_)
      refine qw_if_le rfl (fun c2 => ?_) (fun c2 => ?_)
      · skip
        refine qw_iload rfl rfl ?_
        exact qwp_iret (z := false) rfl (fun h9 => by cases h9) ⟨rfl, ⟨_, rfl, trivial⟩⟩
      · skip
        refine qw_iincU (lo' := fun z9 => [some (.inr (.inl L_v)), none, some (.inl z9), some (.inr (.inl w)), none]) rfl rfl (fun _ => rfl) (fun x3 tx3 => ?_)
        refine qw_lload rfl rfl ?_
        refine qw_const rfl ?_
        refine qw_lldE rfl (by decide) (fun y4 ty4 => ?_)
        refine qw_lstore (lo' := [some (.inr (.inl L_v)), none, some (.inl x3), some (.inr (.inl y4)), none]) rfl rfl ?_
        exact qw_gotoD rfl (ih4 x3 y4  )
  exact loop4 _ 0 L_v  
set_option maxHeartbeats 8000000 in
set_option maxRecDepth 4000 in
theorem y_readRiver {d : Nat} (a : Nat → Nat → Int32) (b : Nat → Nat → Int64) (z : Nat) (N : Nat) (c : Nat) (e : Int) (t : Nat → Int32) (L : Nat → Int) (M : Nat → Int64) (o : Nat → Bool) (hM : MS t z N c e a b) (he : e = 0) (hk : ¬ lxK t z c = 0) (hL : LR L a) (hl0 : 0 ≤ L 0 ∧ L 0 ≤ 6) (hN : ∀ k : Nat, (k : Int) < L 0 → b 10 k = M k) : f_pc mtM d 24 [.inr (.inr (some 0))] (mH a b) (fun v9 h' => ∃ (a' : Nat → Nat → Int32) (b' : Nat → Nat → Int64), h' = mH a' b' ∧ (FR [0, 6] a a' ∧ ((∀ j, j ≠ 7 → j ≠ 8 → a' 0 j = a 0 j) ∧ MS t z N (rvC t z c) (rvE t z M (L 0).toNat c) a' b' ∧ (rvE t z M (L 0).toNat c = 0 → LR (rvL t z (c, L, M, o)) a' ∧ ∀ k : Nat, (k : Int) < L 0 + 1 → b' 10 k = upN M (L 0).toNat (lxV fM t z (c + 1)) k) ∧ (∀ j, j < 110 → a' 6 j = a 6 j))) ∧ v9 = none) := by
  refine f_pc_of rfl (fun d0 fu hd => ?_)
  show f_pq _ _ (0, [some (.inr (.inr (some 0))), none, none, none, none, none, none], [], mH a b) _
  have lm1 : (-1 : Int32).toInt = -1 := rfl
  have l0 : (0 : Int32).toInt = 0 := rfl
  have l1 : (1 : Int32).toInt = 1 := rfl
  have l2 : (2 : Int32).toInt = 2 := rfl
  have l3 : (3 : Int32).toInt = 3 := rfl
  have l4 : (4 : Int32).toInt = 4 := rfl
  have l5 : (5 : Int32).toInt = 5 := rfl
  have l6 : (6 : Int32).toInt = 6 := rfl
  have l7 : (7 : Int32).toInt = 7 := rfl
  have l8 : (8 : Int32).toInt = 8 := rfl
  have l9 : (9 : Int32).toInt = 9 := rfl
  have l10 : (10 : Int32).toInt = 10 := rfl
  have l11 : (11 : Int32).toInt = 11 := rfl
  have l12 : (12 : Int32).toInt = 12 := rfl
  have l13 : (13 : Int32).toInt = 13 := rfl
  have l14 : (14 : Int32).toInt = 14 := rfl
  have l20 : (20 : Int32).toInt = 20 := rfl
  have l99 : (99 : Int32).toInt = 99 := rfl
  have l110 : (110 : Int32).toInt = 110 := rfl
  have l117 : (117 : Int32).toInt = 117 := rfl
  have l999 : (999 : Int32).toInt = 999 := rfl
  have m8 := hM.e8
  have ma := hM.at
  refine qw_aload rfl rfl ?_
  refine qw_getR (v := .inr (.inr (some 6))) rfl rfl rfl rfl rfl ?_
  refine qw_const rfl ?_
  refine qm_iald rfl rfl (fun jx1 x1 ex1 => ?_)
  have n9 : x1.toInt = L 0 := by rw [ex1]; exact hL 0 (by decide) (by omega)
  refine qw_istore (lo' := [some (.inr (.inr (some 0))), some (.inl x1), none, none, none, none, none]) rfl rfl ?_
  refine qw_iload rfl rfl ?_
  refine qw_const rfl ?_
  refine qw_ic_ne rfl (fun c2 => ?_) (fun c2 => ?_)
  · skip
    refine qw_aload rfl rfl ?_
    refine qw_const rfl ?_
    refine qw_invV (rest := []) rfl rfl rfl rfl rfl (Nat.le_of_ble_eq_true rfl) rfl (y_wrong (d := d0) a b z N c e t 5 (by omega) (by omega)) (fun v3 h9 hq4 => ?_)
    obtain ⟨a5, rfl, fa5, rfl⟩ := hq4
    show f_pq _ _ (19, [some (.inr (.inr (some 0))), some (.inl x1), none, none, none, none, none], [], mH a5 b) _
    have WB : MS t z N c (eE e (flt t z c 5)) a5 b := fa5.2.2
    rw [eE_0 he] at WB
    have PB : ¬ flt t z c 5 = 0 := (by have := flt_pos (t := t) (z := z) (c := c) (k := 5) (by decide); omega)
    have QB : rvE t z M (L 0).toNat c = flt t z c 5 := by unfold rvE; rw [if_pos (by omega)]
    exact qw_ret rfl ⟨a5, b, rfl, ⟨FR.tr (FR.rf) (FR.sub fa5.1 (by decide)), ⟨fun j _ h8 => fa5.2.1 j h8, by rw [QB]; exact WB.any PB, fun h => absurd h (by rw [QB]; exact PB), fun j _ => by rw [fa5.1 6 (by decide)]⟩⟩, rfl⟩
  · skip
    refine qw_aload rfl rfl ?_
    refine qw_dup rfl rfl ?_
    refine qw_getI (v := .inl (a 0 7)) rfl rfl rfl rfl rfl ?_
    refine qw_const rfl ?_
    first | refine qw_iadd rfl (by omega) (fun x6 tx6 => ?_) | refine qw_iiU rfl (fun x6 tx6 => ?_)
    refine qm_putI (z := false) rfl rfl rfl rfl (by first | (intro h9; cases h9; done) | (intro _; first | exact Or.inl rfl | exact Or.inr rfl | assumption)) (fun a7 ea7 => ?_)
    have ua7_7 : a7 0 7 = x6 := by rw [ea7, mU_same]
    have wa7_7 := congrArg Int32.toInt ua7_7
    have M1 := hM.adv he hk ea7 (by omega)
    have k1 := M1.tok rfl
    have a1 := M1.at
    have NN : ¬ (L 0).toNat = 6 := by omega
    have f8 := M1.e8
    refine qw_aload rfl rfl ?_
    refine qw_invV (rest := []) rfl rfl rfl rfl rfl (Nat.le_of_ble_eq_true rfl) rfl (y_isName (d := d0) a7 b z N (c + 1) 0 t  (M1)) (fun v8 h9 hq9 => ?_)
    obtain ⟨rfl, x10, rfl, px10⟩ := hq9
    show f_pq _ _ (34, [some (.inr (.inr (some 0))), some (.inl x1), none, none, none, none, none], [.inl x10], mH a7 b) _
    have P2 := px10
    refine qw_if_ne rfl (fun c11 => ?_) (fun c11 => ?_)
    · skip
      have N2 : ¬ isNm t z (c + 1) = true := by rcases P2 with h | h; omega; exact fun J => h.2 ⟨rfl, J⟩
      have K1v : nmE t z M (L 0).toNat (c + 1) = flt t z (c + 1) 1 := by unfold nmE; rw [if_neg N2]
      refine qw_aload rfl rfl ?_
      refine qw_const rfl ?_
      refine qw_invV (rest := []) rfl rfl rfl rfl rfl (Nat.le_of_ble_eq_true rfl) rfl (y_wrong (d := d0) a7 b z N (c + 1) 0 t 1 (by omega) (M1)) (fun v12 h9 hq13 => ?_)
      obtain ⟨a14, rfl, fa14, rfl⟩ := hq13
      show f_pq _ _ (42, [some (.inr (.inr (some 0))), some (.inl x1), none, none, none, none, none], [], mH a14 b) _
      have WB : MS t z N (c + 1) (eE 0 (flt t z (c + 1) 1)) a14 b := fa14.2.2
      rw [eE_0 rfl] at WB
      have PB : ¬ flt t z (c + 1) 1 = 0 := (by have := flt_pos (t := t) (z := z) (c := c + 1) (k := 1) (by decide); omega)
      have f8 := WB.e8
      have QB : rvE t z M (L 0).toNat c = flt t z (c + 1) 1 := by rw [rv_n NN (by rw [K1v]; exact PB), K1v]
      refine qw_goto rfl ?_
      refine qw_aload rfl rfl ?_
      refine qw_getI (v := .inl (a14 0 8)) rfl rfl rfl rfl rfl ?_
      refine qw_if_le rfl (fun c15 => ?_) (fun c15 => ?_)
      · exfalso; omega
      · skip
        exact qw_ret rfl ⟨a14, b, rfl, ⟨FR.tr (FR.up (FR.rf) (by decide) ea7) (FR.sub fa14.1 (by decide)), ⟨fun j h7 h8 => by rw [fa14.2.1 j h8, ea7, mU_slot h7], by rw [QB]; exact WB.any PB, fun h => absurd h (by rw [QB]; exact PB), fun j _ => by rw [fa14.1 6 (by decide), ea7, mU_cell (by decide)]⟩⟩, rfl⟩
    · skip
      have Y2 : isNm t z (c + 1) = true := by rcases P2 with h | h; exact h.2.2; omega
      have i2 := (isNm_iff.mp Y2).1
      have v1 := M1.val rfl (by omega) (by omega)
      refine qw_aload rfl rfl ?_
      refine qw_const rfl ?_
      refine qw_invV (rest := []) rfl rfl rfl rfl rfl (Nat.le_of_ble_eq_true rfl) rfl (y_find (d := d0) a7 b  1 (Or.inr rfl)) (fun v16 h9 hq17 => ?_)
      obtain ⟨rfl, x18, rfl, px18⟩ := hq17
      show f_pq _ _ (50, [some (.inr (.inr (some 0))), some (.inl x1), none, none, none, none, none], [.inl x18], mH a7 b) _
      have F3 : x18.toInt = fnd M (lxV fM t z (c + 1)) (L 0).toNat := by have h9 : x18.toInt = fnd (b 10) (b 4 (a7 0 7).toInt.toNat) (a7 6 110).toInt.toNat := px18; rw [k1.2.1, v1, ea7, mU_cell (by decide), show (a 6 110).toInt = L 0 from hL 0 (by decide) (by omega), fnd_same (M' := M) _ (fun k hk => hN k (by omega))] at h9; exact h9
      refine qw_if_lt rfl (fun c19 => ?_) (fun c19 => ?_)
      · skip
        have Z1 : nmE t z M (L 0).toNat (c + 1) = 0 := by unfold nmE; rw [if_pos Y2, if_neg (by omega)]
        refine qw_aload rfl rfl ?_
        refine qw_getI (v := .inl (a7 0 8)) rfl rfl rfl rfl rfl ?_
        refine qw_if_le rfl (fun c20 => ?_) (fun c20 => ?_)
        · skip
          refine qw_aload rfl rfl ?_
          refine qw_getR (v := .inr (.inr (some 10))) rfl rfl rfl rfl rfl ?_
          refine qw_iload rfl rfl ?_
          refine qw_aload rfl rfl ?_
          refine qw_getR (v := .inr (.inr (some 4))) rfl rfl rfl rfl rfl ?_
          refine qw_aload rfl rfl ?_
          refine qw_getI (v := .inl (a7 0 7)) rfl rfl rfl rfl rfl ?_
          refine qm_lald rfl rfl (fun jy21 y21 ey21 => ?_)
          have v2 : y21 = lxV fM t z (c + 1) := by rw [ey21, k1.2.1]; exact v1
          refine qm_last rfl rfl (fun jb22 b22 eb22 => ?_)
          have N1 : ∀ k, k ≤ (L 0).toNat → b22 10 k = (upN M (L 0).toNat (lxV fM t z (c + 1))) k := fun k hk => by rw [eb22, mV_get]; unfold upN; by_cases h : k = (L 0).toNat; (rw [if_pos (by omega), if_pos h]; exact v2); (rw [if_neg (by omega), if_neg h]; exact hN k (by omega))
          have M1b : MS t z N (c + 1) 0 a7 b22 := M1.bb (by rw [eb22, mV_cell (by decide)]) (by rw [eb22, mV_cell (by decide)])
          refine qw_aload rfl rfl ?_
          refine qw_dup rfl rfl ?_
          refine qw_getI (v := .inl (a7 0 7)) rfl rfl rfl rfl rfl ?_
          refine qw_const rfl ?_
          first | refine qw_iadd rfl (by omega) (fun x23 tx23 => ?_) | refine qw_iiU rfl (fun x23 tx23 => ?_)
          refine qm_putI (z := false) rfl rfl rfl rfl (by first | (intro h9; cases h9; done) | (intro _; first | exact Or.inl rfl | exact Or.inr rfl | assumption)) (fun a24 ea24 => ?_)
          have ua24_7 : a24 0 7 = x23 := by rw [ea24, mU_same]
          have wa24_7 := congrArg Int32.toInt ua24_7
          have ua24_8 : (a24 0 8).toInt = (a7 0 8).toInt := by rw [ea24, mU_slot (by decide)]
          have M2 := M1b.adv rfl (by omega) ea24 (by omega)
          have a2 := M2.at
          refine qw_aload rfl rfl ?_
          refine qw_const rfl ?_
          refine qw_const rfl ?_
          refine qw_invV (rest := []) rfl rfl rfl rfl rfl (Nat.le_of_ble_eq_true rfl) rfl (y_wordHere (d := d0) a24 b22 z N (c + 2) 0 t 20 4 (by omega) (M2)) (fun v25 h9 hq26 => ?_)
          obtain ⟨rfl, x27, rfl, px27⟩ := hq26
          show f_pq _ _ (98, [some (.inr (.inr (some 0))), some (.inl x1), none, none, none, none, none], [.inl x27], mH a24 b22) _
          have P4 : x27.toInt = kdF t z (c + 2) := by have h9 := px27; rw [if_pos rfl] at h9; exact h9
          refine qw_istore (lo' := [some (.inr (.inr (some 0))), some (.inl x1), some (.inl x27), none, none, none, none]) rfl rfl ?_
          refine qw_iload rfl rfl ?_
          refine qw_if_ge rfl (fun c28 => ?_) (fun c28 => ?_)
          · skip
            have Z2 : kdE t z (c + 2) = 0 := by unfold kdE; rw [if_neg (by omega)]
            refine qw_aload rfl rfl ?_
            refine qw_dup rfl rfl ?_
            refine qw_getI (v := .inl (a24 0 7)) rfl rfl rfl rfl rfl ?_
            refine qw_const rfl ?_
            first | refine qw_iadd rfl (by omega) (fun x29 tx29 => ?_) | refine qw_iiU rfl (fun x29 tx29 => ?_)
            refine qm_putI (z := false) rfl rfl rfl rfl (by first | (intro h9; cases h9; done) | (intro _; first | exact Or.inl rfl | exact Or.inr rfl | assumption)) (fun a30 ea30 => ?_)
            have ua30_7 : a30 0 7 = x29 := by rw [ea30, mU_same]
            have wa30_7 := congrArg Int32.toInt ua30_7
            have ua30_8 : (a30 0 8).toInt = (a24 0 8).toInt := by rw [ea30, mU_slot (by decide)]
            have M3 := M2.adv rfl (kd_k (c := c + 2) (by omega)) ea30 (by omega)
            have J0 : RJ t z N c (L 0).toNat (upN M (L 0).toNat (lxV fM t z (c + 1))) (0) (c + 3) (0) a a30 b22 := ⟨M3, fun j _ => by rw [ea30, mU_cell (by decide), ea24, mU_cell (by decide), ea7, mU_cell (by decide)], fun _ w hw => absurd hw (by omega), fun q => absurd q (by omega), fun q => absurd q (by omega), N1, fun j j7 _ => by rw [ea30, mU_slot j7, ea24, mU_slot j7, ea7, mU_slot j7]⟩
            refine qw_const rfl ?_
            refine qw_const rfl ?_
            refine qw_iload rfl rfl ?_
            first | refine qw_imul rfl (c := 14) rfl (by omega) (fun x31 tx31 => ?_) | refine qw_iiU rfl (fun x31 tx31 => ?_)
            first | refine qw_iadd rfl (by omega) (fun x32 tx32 => ?_) | refine qw_iiU rfl (fun x32 tx32 => ?_)
            refine qw_istore (lo' := [some (.inr (.inr (some 0))), some (.inl x1), some (.inl x27), some (.inl x32), none, none, none]) rfl rfl ?_
            refine qw_aload rfl rfl ?_
            refine qw_getR (v := .inr (.inr (some 6))) rfl rfl rfl rfl rfl ?_
            refine qw_iload rfl rfl ?_
            refine qw_iload rfl rfl ?_
            refine qm_iast rfl rfl (fun ja33 a33 ea33 => ?_)
            have ua33_7 : (a33 0 7).toInt = (a30 0 7).toInt := by rw [ea33, mU_cell (by decide)]
            have ua33_8 : (a33 0 8).toInt = (a30 0 8).toInt := by rw [ea33, mU_cell (by decide)]
            have J1 := J0.put ea33 (by omega) (by decide) (fun _ => P4) (fun q => absurd q (by omega))
            refine qw_aload rfl rfl ?_
            refine qw_getR (v := .inr (.inr (some 6))) rfl rfl rfl rfl rfl ?_
            refine qw_iload rfl rfl ?_
            refine qw_const rfl ?_
            first | refine qw_iadd rfl (by omega) (fun x34 tx34 => ?_) | refine qw_iiU rfl (fun x34 tx34 => ?_)
            refine qw_aload rfl rfl ?_
            refine qw_const rfl ?_
            refine qw_const rfl ?_
            refine qw_const rfl ?_
            refine qw_invV (rest := [.inl x34, .inr (.inr (some 6))]) rfl rfl rfl rfl rfl (Nat.le_of_ble_eq_true rfl) rfl (y_takeAfter (d := d0) a33 b22 z N (c + 3) 0 t 1 1 1 99 (⟨by decide, by decide⟩) (J1.1)) (fun v35 h9 hq36 => ?_)
            obtain ⟨a37, rfl, fa37, x38, rfl, px38⟩ := hq36
            show f_pq _ _ (149, [some (.inr (.inr (some 0))), some (.inl x1), some (.inl x27), some (.inl x32), none, none, none], [.inl x38, .inl x34, .inr (.inr (some 6))], mH a37 b22) _
            have P9 : (rE1 t z c = 0 → x38.toInt = nvT t z (c + 4)) ∧ (¬ rE1 t z c = 0 → x38.toInt = 0) := px38
            have J2 : RJ t z N c (L 0).toNat (upN M (L 0).toNat (lxV fM t z (c + 1))) (1) (c + 5) (rE1 t z c) a a37 b22 := RJ.call J1 fa37.1 fa37.2.1 fa37.2.2 (fun _ => rfl)
            have b9 : 0 ≤ x38.toInt ∧ x38.toInt ≤ 99 := by by_cases h : rE1 t z c = 0; (have v := tkN_v (eE_z h).2; have u := P9.1 h; omega); (have u := P9.2 h; omega)
            refine qm_iast rfl rfl (fun ja39 a39 ea39 => ?_)
            have ua39_7 : (a39 0 7).toInt = (a37 0 7).toInt := by rw [ea39, mU_cell (by decide)]
            have ua39_8 : (a39 0 8).toInt = (a37 0 8).toInt := by rw [ea39, mU_cell (by decide)]
            have J3 := J2.put ea39 (by omega) (by decide) P9.1 (fun _ => b9)
            refine qw_aload rfl rfl ?_
            refine qw_getR (v := .inr (.inr (some 6))) rfl rfl rfl rfl rfl ?_
            refine qw_iload rfl rfl ?_
            refine qw_const rfl ?_
            first | refine qw_iadd rfl (by omega) (fun x40 tx40 => ?_) | refine qw_iiU rfl (fun x40 tx40 => ?_)
            refine qw_aload rfl rfl ?_
            refine qw_const rfl ?_
            refine qw_const rfl ?_
            refine qw_aload rfl rfl ?_
            refine qw_getR (v := .inr (.inr (some 6))) rfl rfl rfl rfl rfl ?_
            refine qw_iload rfl rfl ?_
            refine qw_const rfl ?_
            first | refine qw_iadd rfl (by omega) (fun x41 tx41 => ?_) | refine qw_iiU rfl (fun x41 tx41 => ?_)
            refine qm_iald rfl rfl (fun jx42 x42 ex42 => ?_)
            have r1b : 0 ≤ x42.toInt ∧ x42.toInt ≤ 99 := by rw [ex42]; exact J3.r1 (by decide) (by omega)
            have r1v : rE1 t z c = 0 → x42.toInt = nvT t z (c + 4) := fun q => by rw [ex42]; exact J3.get (q) (w := 1) (by decide) (by omega)
            refine qw_const rfl ?_
            first | refine qw_isub rfl (by omega) (fun x43 tx43 => ?_) | refine qw_iiU rfl (fun x43 tx43 => ?_)
            skip
            have X3 : rE1 t z c = 0 → x43.toInt = nvT t z (c + 4) - 1 := fun q => by have u := r1v q; omega
            refine qw_invV (rest := [.inl x40, .inr (.inr (some 6))]) rfl rfl rfl rfl rfl (Nat.le_of_ble_eq_true rfl) rfl (y_takeAfter (d := d0) a39 b22 z N (c + 5) (rE1 t z c) t 2 2 0 x43 (⟨by decide, by decide⟩) (J3.1)) (fun v44 h9 hq45 => ?_)
            obtain ⟨a46, rfl, fa46, x47, rfl, px47⟩ := hq45
            show f_pq _ _ (173, [some (.inr (.inr (some 0))), some (.inl x1), some (.inl x27), some (.inl x32), none, none, none], [.inl x47, .inl x40, .inr (.inr (some 6))], mH a46 b22) _
            have E6 : eE (eE (rE1 t z c) (xW t z (c + 5) 2)) (tkN t z (c + 6) 0 x43.toInt) = rE2 t z c := eE_sub2 (fun q => by rw [X3 q])
            have P9 : (rE2 t z c = 0 → x47.toInt = nvT t z (c + 6)) ∧ (¬ rE2 t z c = 0 → x47.toInt = 0) := by rw [← E6]; exact px47
            have J4 : RJ t z N c (L 0).toNat (upN M (L 0).toNat (lxV fM t z (c + 1))) (2) (c + 7) (rE2 t z c) a a46 b22 := by rw [← E6]; exact RJ.call J3 fa46.1 fa46.2.1 fa46.2.2 (fun q => (eE_z (eE_z q).1).1)
            have b9 : 0 ≤ x47.toInt ∧ x47.toInt ≤ 99 := by by_cases h : rE2 t z c = 0; (have v := tkN_v (eE_z h).2; have v5 := tkN_v (eE_z (eE_z (eE_z h).1).1).2; have u := P9.1 h; omega); (have u := P9.2 h; omega)
            refine qm_iast rfl rfl (fun ja48 a48 ea48 => ?_)
            have ua48_7 : (a48 0 7).toInt = (a46 0 7).toInt := by rw [ea48, mU_cell (by decide)]
            have ua48_8 : (a48 0 8).toInt = (a46 0 8).toInt := by rw [ea48, mU_cell (by decide)]
            have J5 := J4.put ea48 (by omega) (by decide) P9.1 (fun _ => b9)
            refine qw_aload rfl rfl ?_
            refine qw_getR (v := .inr (.inr (some 6))) rfl rfl rfl rfl rfl ?_
            refine qw_iload rfl rfl ?_
            refine qw_const rfl ?_
            first | refine qw_iadd rfl (by omega) (fun x49 tx49 => ?_) | refine qw_iiU rfl (fun x49 tx49 => ?_)
            refine qw_aload rfl rfl ?_
            refine qw_const rfl ?_
            refine qw_const rfl ?_
            refine qw_const rfl ?_
            refine qw_invV (rest := [.inl x49, .inr (.inr (some 6))]) rfl rfl rfl rfl rfl (Nat.le_of_ble_eq_true rfl) rfl (y_takeAfter (d := d0) a48 b22 z N (c + 7) (rE2 t z c) t 3 3 0 99 (⟨by decide, by decide⟩) (J5.1)) (fun v50 h9 hq51 => ?_)
            obtain ⟨a52, rfl, fa52, x53, rfl, px53⟩ := hq51
            show f_pq _ _ (189, [some (.inr (.inr (some 0))), some (.inl x1), some (.inl x27), some (.inl x32), none, none, none], [.inl x53, .inl x49, .inr (.inr (some 6))], mH a52 b22) _
            have P9 : (rE3 t z c = 0 → x53.toInt = nvT t z (c + 8)) ∧ (¬ rE3 t z c = 0 → x53.toInt = 0) := px53
            have J6 : RJ t z N c (L 0).toNat (upN M (L 0).toNat (lxV fM t z (c + 1))) (3) (c + 9) (rE3 t z c) a a52 b22 := RJ.call J5 fa52.1 fa52.2.1 fa52.2.2 (fun q => (eE_z (eE_z q).1).1)
            refine qm_iast rfl rfl (fun ja54 a54 ea54 => ?_)
            have ua54_7 : (a54 0 7).toInt = (a52 0 7).toInt := by rw [ea54, mU_cell (by decide)]
            have ua54_8 : (a54 0 8).toInt = (a52 0 8).toInt := by rw [ea54, mU_cell (by decide)]
            have J7 := J6.put ea54 (by omega) (by decide) P9.1 (fun q => absurd q (by omega))
            refine qw_aload rfl rfl ?_
            refine qw_const rfl ?_
            refine qw_invV (rest := []) rfl rfl rfl rfl rfl (Nat.le_of_ble_eq_true rfl) rfl (y_takeWord (d := d0) a54 b22 z N (c + 9) (rE3 t z c) t 4 4 (⟨by decide, by decide⟩) (J7.1)) (fun v55 h9 hq56 => ?_)
            obtain ⟨a57, rfl, fa57, rfl⟩ := hq56
            show f_pq _ _ (195, [some (.inr (.inr (some 0))), some (.inl x1), some (.inl x27), some (.inl x32), none, none, none], [], mH a57 b22) _
            have J8 : RJ t z N c (L 0).toNat (upN M (L 0).toNat (lxV fM t z (c + 1))) (4) (c + 10) (wE t z c 0) a a57 b22 := RJ.call J7 fa57.1 fa57.2.1 fa57.2.2 (fun q => (eE_z q).1)
            have loop235 : ∀ (fuJ235 : Nat)  (a235 : Nat → Nat → Int32) (b235 : Nat → Nat → Int64) (o4_235 : Option f_V),  FR [0, 6] a a235 →(RJ t z N c (L 0).toNat (upN M (L 0).toNat (lxV fM t z (c + 1))) (8) (c + 14) ((wE t z c 4)) a a235 b235) → f_pq (f_code (t_X13_readRiver (f_ev mtM d0))) fuJ235 (235, [some (.inr (.inr (some 0))), some (.inl x1), some (.inl x27), some (.inl x32), o4_235, none, none], [], mH a235 b235) (fun v9 h' => ∃ (a' : Nat → Nat → Int32) (b' : Nat → Nat → Int64), h' = mH a' b' ∧ (FR [0, 6] a a' ∧ ((∀ j, j ≠ 7 → j ≠ 8 → a' 0 j = a 0 j) ∧ MS t z N (rvC t z c) (rvE t z M (L 0).toNat c) a' b' ∧ (rvE t z M (L 0).toNat c = 0 → LR (rvL t z (c, L, M, o)) a' ∧ ∀ k : Nat, (k : Int) < L 0 + 1 → b' 10 k = upN M (L 0).toNat (lxV fM t z (c + 1)) k) ∧ (∀ j, j < 110 → a' 6 j = a 6 j))) ∧ v9 = none) := by
              intro fuJ235  a235 b235 o4_235 hF235 hJ8
              · skip
                refine qw_aload rfl rfl ?_
                refine qw_const rfl ?_
                refine qw_invV (rest := []) rfl rfl rfl rfl rfl (Nat.le_of_ble_eq_true rfl) rfl (y_hasWord (d := d0) a235 b235 z N (c + 14) (wE t z c 4) t 5 5 (⟨by decide, by decide⟩) (hJ8.1)) (fun v58 h9 hq59 => ?_)
                obtain ⟨a60, rfl, fa60, x61, rfl, px61⟩ := hq59
                show f_pq _ _ (240, [some (.inr (.inr (some 0))), some (.inl x1), some (.inl x27), some (.inl x32), o4_235, none, none], [.inl x61], mH a60 b235) _
                have AA5 : (x61.toInt = 1 ∧ ((wE t z c 4) = 0 ∧ tkW t z (c + 14) 5)) ∨ (x61.toInt = 0 ∧ ¬ ((wE t z c 4) = 0 ∧ tkW t z (c + 14) 5)) := px61
                have H5a : RJ t z N c (L 0).toNat (upN M (L 0).toNat (lxV fM t z (c + 1))) (8) (if tkW t z (c + 14) 5 then (c + 14) + 1 else (c + 14)) ((wE t z c 4)) a a60 b235 := RJ.call hJ8 fa60.1 (fun j j7 _ => fa60.2.1 j j7) fa60.2.2 id
                refine qw_istore (lo' := [some (.inr (.inr (some 0))), some (.inl x1), some (.inl x27), some (.inl x32), some (.inl x61), none, none]) rfl rfl ?_
                have loop268 : ∀ (fuJ268 : Nat)  (a268 : Nat → Nat → Int32) (b268 : Nat → Nat → Int64) ,  FR [0, 6] a a268 →(RJ t z N c (L 0).toNat (upN M (L 0).toNat (lxV fM t z (c + 1))) (9) (opD t z 5 (c + 14)) ((opH t z 5 1 (wE t z c 4) (c + 14))) a a268 b268) → f_pq (f_code (t_X13_readRiver (f_ev mtM d0))) fuJ268 (268, [some (.inr (.inr (some 0))), some (.inl x1), some (.inl x27), some (.inl x32), some (.inl x61), none, none], [], mH a268 b268) (fun v9 h' => ∃ (a' : Nat → Nat → Int32) (b' : Nat → Nat → Int64), h' = mH a' b' ∧ (FR [0, 6] a a' ∧ ((∀ j, j ≠ 7 → j ≠ 8 → a' 0 j = a 0 j) ∧ MS t z N (rvC t z c) (rvE t z M (L 0).toNat c) a' b' ∧ (rvE t z M (L 0).toNat c = 0 → LR (rvL t z (c, L, M, o)) a' ∧ ∀ k : Nat, (k : Int) < L 0 + 1 → b' 10 k = upN M (L 0).toNat (lxV fM t z (c + 1)) k) ∧ (∀ j, j < 110 → a' 6 j = a 6 j))) ∧ v9 = none) := by
                  intro fuJ268  a268 b268  hF268 hJ9
                  · skip
                    have loop308 : ∀ (fuJ308 : Nat)  (a308 : Nat → Nat → Int32) (b308 : Nat → Nat → Int64) ,  FR [0, 6] a a308 →(RJ t z N c (L 0).toNat (upN M (L 0).toNat (lxV fM t z (c + 1))) (10) ((opC t z 5 (c + 14))) ((opF t z 5 (nvT t z (c + 6)) (nvT t z (c + 4)) (opH t z 5 1 (wE t z c 4) (c + 14)) (c + 14))) a a308 b308) → f_pq (f_code (t_X13_readRiver (f_ev mtM d0))) fuJ308 (308, [some (.inr (.inr (some 0))), some (.inl x1), some (.inl x27), some (.inl x32), some (.inl x61), none, none], [], mH a308 b308) (fun v9 h' => ∃ (a' : Nat → Nat → Int32) (b' : Nat → Nat → Int64), h' = mH a' b' ∧ (FR [0, 6] a a' ∧ ((∀ j, j ≠ 7 → j ≠ 8 → a' 0 j = a 0 j) ∧ MS t z N (rvC t z c) (rvE t z M (L 0).toNat c) a' b' ∧ (rvE t z M (L 0).toNat c = 0 → LR (rvL t z (c, L, M, o)) a' ∧ ∀ k : Nat, (k : Int) < L 0 + 1 → b' 10 k = upN M (L 0).toNat (lxV fM t z (c + 1)) k) ∧ (∀ j, j < 110 → a' 6 j = a 6 j))) ∧ v9 = none) := by
                      intro fuJ308  a308 b308  hF308 hJ10
                      · skip
                        refine qw_aload rfl rfl ?_
                        refine qw_const rfl ?_
                        refine qw_invV (rest := []) rfl rfl rfl rfl rfl (Nat.le_of_ble_eq_true rfl) rfl (y_hasWord (d := d0) a308 b308 z N (opC t z 5 (c + 14)) (opF t z 5 (nvT t z (c + 6)) (nvT t z (c + 4)) (opH t z 5 1 (wE t z c 4) (c + 14)) (c + 14)) t 6 6 (⟨by decide, by decide⟩) (hJ10.1)) (fun v62 h9 hq63 => ?_)
                        obtain ⟨a64, rfl, fa64, x65, rfl, px65⟩ := hq63
                        show f_pq _ _ (314, [some (.inr (.inr (some 0))), some (.inl x1), some (.inl x27), some (.inl x32), some (.inl x61), none, none], [.inl x65], mH a64 b308) _
                        have AA6 : (x65.toInt = 1 ∧ ((opF t z 5 (nvT t z (c + 6)) (nvT t z (c + 4)) (opH t z 5 1 (wE t z c 4) (c + 14)) (c + 14)) = 0 ∧ tkW t z (opC t z 5 (c + 14)) 6)) ∨ (x65.toInt = 0 ∧ ¬ ((opF t z 5 (nvT t z (c + 6)) (nvT t z (c + 4)) (opH t z 5 1 (wE t z c 4) (c + 14)) (c + 14)) = 0 ∧ tkW t z (opC t z 5 (c + 14)) 6)) := px65
                        have H6a : RJ t z N c (L 0).toNat (upN M (L 0).toNat (lxV fM t z (c + 1))) (10) (if tkW t z (opC t z 5 (c + 14)) 6 then (opC t z 5 (c + 14)) + 1 else (opC t z 5 (c + 14))) ((opF t z 5 (nvT t z (c + 6)) (nvT t z (c + 4)) (opH t z 5 1 (wE t z c 4) (c + 14)) (c + 14))) a a64 b308 := RJ.call hJ10 fa64.1 (fun j j7 _ => fa64.2.1 j j7) fa64.2.2 id
                        refine qw_istore (lo' := [some (.inr (.inr (some 0))), some (.inl x1), some (.inl x27), some (.inl x32), some (.inl x61), some (.inl x65), none]) rfl rfl ?_
                        have loop342 : ∀ (fuJ342 : Nat)  (a342 : Nat → Nat → Int32) (b342 : Nat → Nat → Int64) ,  FR [0, 6] a a342 →(RJ t z N c (L 0).toNat (upN M (L 0).toNat (lxV fM t z (c + 1))) (11) (opD t z 6 (opC t z 5 (c + 14))) ((opH t z 6 0 (opF t z 5 (nvT t z (c + 6)) (nvT t z (c + 4)) (opH t z 5 1 (wE t z c 4) (c + 14)) (c + 14)) (opC t z 5 (c + 14)))) a a342 b342) → f_pq (f_code (t_X13_readRiver (f_ev mtM d0))) fuJ342 (342, [some (.inr (.inr (some 0))), some (.inl x1), some (.inl x27), some (.inl x32), some (.inl x61), some (.inl x65), none], [], mH a342 b342) (fun v9 h' => ∃ (a' : Nat → Nat → Int32) (b' : Nat → Nat → Int64), h' = mH a' b' ∧ (FR [0, 6] a a' ∧ ((∀ j, j ≠ 7 → j ≠ 8 → a' 0 j = a 0 j) ∧ MS t z N (rvC t z c) (rvE t z M (L 0).toNat c) a' b' ∧ (rvE t z M (L 0).toNat c = 0 → LR (rvL t z (c, L, M, o)) a' ∧ ∀ k : Nat, (k : Int) < L 0 + 1 → b' 10 k = upN M (L 0).toNat (lxV fM t z (c + 1)) k) ∧ (∀ j, j < 110 → a' 6 j = a 6 j))) ∧ v9 = none) := by
                          intro fuJ342  a342 b342  hF342 hJ11
                          · skip
                            have loop382 : ∀ (fuJ382 : Nat)  (a382 : Nat → Nat → Int32) (b382 : Nat → Nat → Int64) ,  FR [0, 6] a a382 →(RJ t z N c (L 0).toNat (upN M (L 0).toNat (lxV fM t z (c + 1))) (12) ((opC t z 6 (opC t z 5 (c + 14)))) ((opF t z 6 (nvT t z (c + 6)) (nvT t z (c + 4)) (opH t z 6 0 (opF t z 5 (nvT t z (c + 6)) (nvT t z (c + 4)) (opH t z 5 1 (wE t z c 4) (c + 14)) (c + 14)) (opC t z 5 (c + 14))) (opC t z 5 (c + 14)))) a a382 b382) → f_pq (f_code (t_X13_readRiver (f_ev mtM d0))) fuJ382 (382, [some (.inr (.inr (some 0))), some (.inl x1), some (.inl x27), some (.inl x32), some (.inl x61), some (.inl x65), none], [], mH a382 b382) (fun v9 h' => ∃ (a' : Nat → Nat → Int32) (b' : Nat → Nat → Int64), h' = mH a' b' ∧ (FR [0, 6] a a' ∧ ((∀ j, j ≠ 7 → j ≠ 8 → a' 0 j = a 0 j) ∧ MS t z N (rvC t z c) (rvE t z M (L 0).toNat c) a' b' ∧ (rvE t z M (L 0).toNat c = 0 → LR (rvL t z (c, L, M, o)) a' ∧ ∀ k : Nat, (k : Int) < L 0 + 1 → b' 10 k = upN M (L 0).toNat (lxV fM t z (c + 1)) k) ∧ (∀ j, j < 110 → a' 6 j = a 6 j))) ∧ v9 = none) := by
                              intro fuJ382  a382 b382  hF382 hJ12
                              · skip
                                refine qw_aload rfl rfl ?_
                                refine qw_const rfl ?_
                                refine qw_invV (rest := []) rfl rfl rfl rfl rfl (Nat.le_of_ble_eq_true rfl) rfl (y_hasWord (d := d0) a382 b382 z N (opC t z 6 (opC t z 5 (c + 14))) (opF t z 6 (nvT t z (c + 6)) (nvT t z (c + 4)) (opH t z 6 0 (opF t z 5 (nvT t z (c + 6)) (nvT t z (c + 4)) (opH t z 5 1 (wE t z c 4) (c + 14)) (c + 14)) (opC t z 5 (c + 14))) (opC t z 5 (c + 14))) t 8 8 (⟨by decide, by decide⟩) (hJ12.1)) (fun v66 h9 hq67 => ?_)
                                obtain ⟨a68, rfl, fa68, x69, rfl, px69⟩ := hq67
                                show f_pq _ _ (388, [some (.inr (.inr (some 0))), some (.inl x1), some (.inl x27), some (.inl x32), some (.inl x61), some (.inl x65), none], [.inl x69], mH a68 b382) _
                                have AA8 : (x69.toInt = 1 ∧ ((opF t z 6 (nvT t z (c + 6)) (nvT t z (c + 4)) (opH t z 6 0 (opF t z 5 (nvT t z (c + 6)) (nvT t z (c + 4)) (opH t z 5 1 (wE t z c 4) (c + 14)) (c + 14)) (opC t z 5 (c + 14))) (opC t z 5 (c + 14))) = 0 ∧ tkW t z (opC t z 6 (opC t z 5 (c + 14))) 8)) ∨ (x69.toInt = 0 ∧ ¬ ((opF t z 6 (nvT t z (c + 6)) (nvT t z (c + 4)) (opH t z 6 0 (opF t z 5 (nvT t z (c + 6)) (nvT t z (c + 4)) (opH t z 5 1 (wE t z c 4) (c + 14)) (c + 14)) (opC t z 5 (c + 14))) (opC t z 5 (c + 14))) = 0 ∧ tkW t z (opC t z 6 (opC t z 5 (c + 14))) 8)) := px69
                                have H8a : RJ t z N c (L 0).toNat (upN M (L 0).toNat (lxV fM t z (c + 1))) (12) (if tkW t z (opC t z 6 (opC t z 5 (c + 14))) 8 then (opC t z 6 (opC t z 5 (c + 14))) + 1 else (opC t z 6 (opC t z 5 (c + 14)))) ((opF t z 6 (nvT t z (c + 6)) (nvT t z (c + 4)) (opH t z 6 0 (opF t z 5 (nvT t z (c + 6)) (nvT t z (c + 4)) (opH t z 5 1 (wE t z c 4) (c + 14)) (c + 14)) (opC t z 5 (c + 14))) (opC t z 5 (c + 14)))) a a68 b382 := RJ.call hJ12 fa68.1 (fun j j7 _ => fa68.2.1 j j7) fa68.2.2 id
                                refine qw_istore (lo' := [some (.inr (.inr (some 0))), some (.inl x1), some (.inl x27), some (.inl x32), some (.inl x61), some (.inl x65), some (.inl x69)]) rfl rfl ?_
                                have loop413 : ∀ (fuJ413 : Nat)  (a413 : Nat → Nat → Int32) (b413 : Nat → Nat → Int64) ,  FR [0, 6] a a413 →(RJ t z N c (L 0).toNat (upN M (L 0).toNat (lxV fM t z (c + 1))) (13) (if tkW t z (opC t z 6 (opC t z 5 (c + 14))) 8 then (opC t z 6 (opC t z 5 (c + 14))) + 1 else (opC t z 6 (opC t z 5 (c + 14)))) ((ofX t z M (L 0).toNat (opF t z 6 (nvT t z (c + 6)) (nvT t z (c + 4)) (opH t z 6 0 (opF t z 5 (nvT t z (c + 6)) (nvT t z (c + 4)) (opH t z 5 1 (wE t z c 4) (c + 14)) (c + 14)) (opC t z 5 (c + 14))) (opC t z 5 (c + 14))) (opC t z 6 (opC t z 5 (c + 14))))) a a413 b413) → f_pq (f_code (t_X13_readRiver (f_ev mtM d0))) fuJ413 (413, [some (.inr (.inr (some 0))), some (.inl x1), some (.inl x27), some (.inl x32), some (.inl x61), some (.inl x65), some (.inl x69)], [], mH a413 b413) (fun v9 h' => ∃ (a' : Nat → Nat → Int32) (b' : Nat → Nat → Int64), h' = mH a' b' ∧ (FR [0, 6] a a' ∧ ((∀ j, j ≠ 7 → j ≠ 8 → a' 0 j = a 0 j) ∧ MS t z N (rvC t z c) (rvE t z M (L 0).toNat c) a' b' ∧ (rvE t z M (L 0).toNat c = 0 → LR (rvL t z (c, L, M, o)) a' ∧ ∀ k : Nat, (k : Int) < L 0 + 1 → b' 10 k = upN M (L 0).toNat (lxV fM t z (c + 1)) k) ∧ (∀ j, j < 110 → a' 6 j = a 6 j))) ∧ v9 = none) := by
                                  intro fuJ413  a413 b413  hF413 hJ13
                                  · skip
                                    have loop439 : ∀ (fuJ439 : Nat)  (a439 : Nat → Nat → Int32) (b439 : Nat → Nat → Int64) ,  FR [0, 6] a a439 →(RJ t z N c (L 0).toNat (upN M (L 0).toNat (lxV fM t z (c + 1))) (13) (ofC t z (opC t z 6 (opC t z 5 (c + 14)))) ((ofX t z M (L 0).toNat (opF t z 6 (nvT t z (c + 6)) (nvT t z (c + 4)) (opH t z 6 0 (opF t z 5 (nvT t z (c + 6)) (nvT t z (c + 4)) (opH t z 5 1 (wE t z c 4) (c + 14)) (c + 14)) (opC t z 5 (c + 14))) (opC t z 5 (c + 14))) (opC t z 6 (opC t z 5 (c + 14))))) a a439 b439) → f_pq (f_code (t_X13_readRiver (f_ev mtM d0))) fuJ439 (439, [some (.inr (.inr (some 0))), some (.inl x1), some (.inl x27), some (.inl x32), some (.inl x61), some (.inl x65), some (.inl x69)], [], mH a439 b439) (fun v9 h' => ∃ (a' : Nat → Nat → Int32) (b' : Nat → Nat → Int64), h' = mH a' b' ∧ (FR [0, 6] a a' ∧ ((∀ j, j ≠ 7 → j ≠ 8 → a' 0 j = a 0 j) ∧ MS t z N (rvC t z c) (rvE t z M (L 0).toNat c) a' b' ∧ (rvE t z M (L 0).toNat c = 0 → LR (rvL t z (c, L, M, o)) a' ∧ ∀ k : Nat, (k : Int) < L 0 + 1 → b' 10 k = upN M (L 0).toNat (lxV fM t z (c + 1)) k) ∧ (∀ j, j < 110 → a' 6 j = a 6 j))) ∧ v9 = none) := by
                                      intro fuJ439  a439 b439  hF439 hJ14
                                      · skip
                                        refine qw_aload rfl rfl ?_
                                        refine qw_getR (v := .inr (.inr (some 6))) rfl rfl rfl rfl rfl ?_
                                        refine qw_iload rfl rfl ?_
                                        refine qw_const rfl ?_
                                        first | refine qw_iadd rfl (by omega) (fun x70 tx70 => ?_) | refine qw_iiU rfl (fun x70 tx70 => ?_)
                                        refine qw_aload rfl rfl ?_
                                        refine qw_getR (v := .inr (.inr (some 10))) rfl rfl rfl rfl rfl ?_
                                        refine qw_iload rfl rfl ?_
                                        refine qm_lald rfl rfl (fun jy71 y71 ey71 => ?_)
                                        refine qw_invS (rest := [.inl x70, .inr (.inr (some 6))]) rfl (Nat.le_of_ble_eq_true rfl) rfl (Nat.le_of_ble_eq_true rfl) rfl (y_lettersOf (d := d0) a439 b439  y71 ) (fun v72 h9 hq73 => ?_)
                                        obtain ⟨rfl, x74, rfl, px74⟩ := hq73
                                        show f_pq _ _ (456, [some (.inr (.inr (some 0))), some (.inl x1), some (.inl x27), some (.inl x32), some (.inl x61), some (.inl x65), some (.inl x69)], [.inl x74, .inl x70, .inr (.inr (some 6))], mH a439 b439) _
                                        refine qm_iast rfl rfl (fun ja75 a75 ea75 => ?_)
                                        have ua75_7 : (a75 0 7).toInt = (a439 0 7).toInt := by rw [ea75, mU_cell (by decide)]
                                        have ua75_8 : (a75 0 8).toInt = (a439 0 8).toInt := by rw [ea75, mU_cell (by decide)]
                                        have J14 := hJ14.let9 ea75 (by omega)
                                        refine qw_aload rfl rfl ?_
                                        refine qw_getR (v := .inr (.inr (some 6))) rfl rfl rfl rfl rfl ?_
                                        refine qw_const rfl ?_
                                        refine qw_dup2 rfl ⟨rfl, rfl⟩ ?_
                                        refine qm_iald rfl rfl (fun jx76 x76 ex76 => ?_)
                                        have t9 : x76.toInt = L 0 := by rw [ex76]; show (a75 6 110).toInt = L 0; rw [J14.2.1 110 (by omega)]; exact hL 0 (by decide) (by omega)
                                        refine qw_const rfl ?_
                                        first | refine qw_iadd rfl (by omega) (fun x77 tx77 => ?_) | refine qw_iiU rfl (fun x77 tx77 => ?_)
                                        refine qm_iast rfl rfl (fun ja78 a78 ea78 => ?_)
                                        have ua78_7 : (a78 0 7).toInt = (a75 0 7).toInt := by rw [ea78, mU_cell (by decide)]
                                        have ua78_8 : (a78 0 8).toInt = (a75 0 8).toInt := by rw [ea78, mU_cell (by decide)]
                                        exact qw_ret rfl ⟨a78, b439, rfl, ⟨FR.up (FR.up (hF439) (by decide) ea75) (by decide) ea78, ⟨fun j h7 h8 => by rw [ea78, mU_cell (by decide)]; exact J14.2.2.2.2.2.2 j h7 h8, by rw [rv_E NN Z1 Z2]; exact J14.1.keep (by rw [ea78, mU_cell (by decide)]) (by rw [ea78, mU_cell (by decide)]) (by rw [ea78, mU_cell (by decide)]) (by rw [ea78, mU_cell (by decide)]), fun h => ⟨by rw [rv_E NN Z1 Z2] at h; exact J14.fin h ea78 (by omega) hL (by omega), fun k hk => J14.2.2.2.2.2.1 k (by omega)⟩, fun j hj => by rw [ea78, mU_slot (by omega)]; exact J14.2.1 j (by omega)⟩⟩, rfl⟩
                                    refine qw_aload rfl rfl ?_
                                    refine qw_dup rfl rfl ?_
                                    refine qw_getI (v := .inl (a413 0 7)) rfl rfl rfl rfl rfl ?_
                                    have f8 := hJ13.1.e8
                                    have fa := hJ13.1.at
                                    refine qw_iload rfl rfl ?_
                                    refine qw_if_eq rfl (fun c79 => ?_) (fun c79 => ?_)
                                    · skip
                                      have N9 : ¬ ((opF t z 6 (nvT t z (c + 6)) (nvT t z (c + 4)) (opH t z 6 0 (opF t z 5 (nvT t z (c + 6)) (nvT t z (c + 4)) (opH t z 5 1 (wE t z c 4) (c + 14)) (c + 14)) (opC t z 5 (c + 14))) (opC t z 5 (c + 14))) = 0 ∧ tkW t z (opC t z 6 (opC t z 5 (c + 14))) 8) := by rcases AA8 with h | h; omega; exact h.2
                                      refine qw_const rfl ?_
                                      first | refine qw_iadd rfl (by omega) (fun x80 tx80 => ?_) | refine qw_iiU rfl (fun x80 tx80 => ?_)
                                      refine qm_putI (z := false) rfl rfl rfl rfl (by first | (intro h9; cases h9; done) | (intro _; first | exact Or.inl rfl | exact Or.inr rfl | assumption)) (fun a81 ea81 => ?_)
                                      have ua81_7 : a81 0 7 = x80 := by rw [ea81, mU_same]
                                      have wa81_7 := congrArg Int32.toInt ua81_7
                                      have ua81_8 : (a81 0 8).toInt = (a413 0 8).toInt := by rw [ea81, mU_slot (by decide)]
                                      exact loop439 _ a81 b413 (FR.up (hF413) (by decide) ea81) (RJ.call hJ13 (FR.up FR.rf (by decide) ea81) (fun j j7 _ => by rw [ea81, mU_slot j7]) (by by_cases hw : tkW t z (opC t z 6 (opC t z 5 (c + 14))) 8; (have ne : ¬ (ofX t z M (L 0).toNat (opF t z 6 (nvT t z (c + 6)) (nvT t z (c + 4)) (opH t z 6 0 (opF t z 5 (nvT t z (c + 6)) (nvT t z (c + 4)) (opH t z 5 1 (wE t z c 4) (c + 14)) (c + 14)) (opC t z 5 (c + 14))) (opC t z 5 (c + 14))) (opC t z 6 (opC t z 5 (c + 14)))) = 0 := fun q => N9 ⟨(by unfold ofX at q; rw [if_pos hw] at q; exact (eE_z q).1), hw⟩; exact (hJ13.1.any (c' := ofC t z (opC t z 6 (opC t z 5 (c + 14)))) ne).keep (by rw [ea81, mU_cell (by decide)]) (by rw [ea81, mU_cell (by decide)]) (by rw [ea81, mU_slot (by decide)]) (by rw [ea81, mU_same]; exact ti_eq (by omega))); (have h9 := hJ13.1; rw [if_neg hw] at h9; rw [show ofC t z (opC t z 6 (opC t z 5 (c + 14))) = (opC t z 6 (opC t z 5 (c + 14))) from if_neg hw]; exact h9.keep (by rw [ea81, mU_cell (by decide)]) (by rw [ea81, mU_cell (by decide)]) (by rw [ea81, mU_slot (by decide)]) (by rw [ea81, mU_same]; exact ti_eq (by omega)))) id)
                                    · skip
                                      have A9 : (opF t z 6 (nvT t z (c + 6)) (nvT t z (c + 4)) (opH t z 6 0 (opF t z 5 (nvT t z (c + 6)) (nvT t z (c + 4)) (opH t z 5 1 (wE t z c 4) (c + 14)) (c + 14)) (opC t z 5 (c + 14))) (opC t z 5 (c + 14))) = 0 ∧ tkW t z (opC t z 6 (opC t z 5 (c + 14))) 8 := by rcases AA8 with h | h; exact h.2; omega
                                      refine qw_aload rfl rfl ?_
                                      refine qw_getI (v := .inl (a413 0 8)) rfl rfl rfl rfl rfl ?_
                                      refine qw_if_ne rfl (fun c82 => ?_) (fun c82 => ?_)
                                      · skip
                                        have z5 : (ofX t z M (L 0).toNat (opF t z 6 (nvT t z (c + 6)) (nvT t z (c + 4)) (opH t z 6 0 (opF t z 5 (nvT t z (c + 6)) (nvT t z (c + 4)) (opH t z 5 1 (wE t z c 4) (c + 14)) (c + 14)) (opC t z 5 (c + 14))) (opC t z 5 (c + 14))) (opC t z 6 (opC t z 5 (c + 14)))) = 0 := by omega
                                        refine qw_const rfl ?_
                                        refine qw_goto rfl ?_
                                        first | refine qw_iadd rfl (by omega) (fun x83 tx83 => ?_) | refine qw_iiU rfl (fun x83 tx83 => ?_)
                                        refine qm_putI (z := false) rfl rfl rfl rfl (by first | (intro h9; cases h9; done) | (intro _; first | exact Or.inl rfl | exact Or.inr rfl | assumption)) (fun a84 ea84 => ?_)
                                        have ua84_7 : a84 0 7 = x83 := by rw [ea84, mU_same]
                                        have wa84_7 := congrArg Int32.toInt ua84_7
                                        have ua84_8 : (a84 0 8).toInt = (a413 0 8).toInt := by rw [ea84, mU_slot (by decide)]
                                        exact loop439 _ a84 b413 (FR.up (hF413) (by decide) ea84) (RJ.call hJ13 (FR.up FR.rf (by decide) ea84) (fun j j7 _ => by rw [ea84, mU_slot j7]) (by have q5 := z5; unfold ofX at q5; rw [if_pos A9.2] at q5; have q6 := (eE_z q5).2; unfold ofG at q6; have q7 : isNm t z ((opC t z 6 (opC t z 5 (c + 14))) + 1) = true := (by by_cases hq : isNm t z ((opC t z 6 (opC t z 5 (c + 14))) + 1) = true; exact hq; (rw [if_neg hq] at q6; exact absurd q6 (by have := flt_pos (t := t) (z := z) (c := ((opC t z 6 (opC t z 5 (c + 14))) + 1)) (k := 1) (by decide); omega))); have h9 := hJ13.1; rw [if_pos A9.2] at h9; have h8 := h9.adv z5 (by have := (isNm_iff.mp q7).1; omega) ea84 (by omega); rw [show ofC t z (opC t z 6 (opC t z 5 (c + 14))) = (opC t z 6 (opC t z 5 (c + 14))) + 2 from if_pos A9.2, z5]; exact h8) id)
                                      · skip
                                        have z5 : ¬ (ofX t z M (L 0).toNat (opF t z 6 (nvT t z (c + 6)) (nvT t z (c + 4)) (opH t z 6 0 (opF t z 5 (nvT t z (c + 6)) (nvT t z (c + 4)) (opH t z 5 1 (wE t z c 4) (c + 14)) (c + 14)) (opC t z 5 (c + 14))) (opC t z 5 (c + 14))) (opC t z 6 (opC t z 5 (c + 14)))) = 0 := by omega
                                        refine qw_const rfl ?_
                                        first | refine qw_iadd rfl (by omega) (fun x85 tx85 => ?_) | refine qw_iiU rfl (fun x85 tx85 => ?_)
                                        refine qm_putI (z := false) rfl rfl rfl rfl (by first | (intro h9; cases h9; done) | (intro _; first | exact Or.inl rfl | exact Or.inr rfl | assumption)) (fun a86 ea86 => ?_)
                                        have ua86_7 : a86 0 7 = x85 := by rw [ea86, mU_same]
                                        have wa86_7 := congrArg Int32.toInt ua86_7
                                        have ua86_8 : (a86 0 8).toInt = (a413 0 8).toInt := by rw [ea86, mU_slot (by decide)]
                                        exact loop439 _ a86 b413 (FR.up (hF413) (by decide) ea86) (RJ.call hJ13 (FR.up FR.rf (by decide) ea86) (fun j j7 _ => by rw [ea86, mU_slot j7]) ((hJ13.1.any (c' := ofC t z (opC t z 6 (opC t z 5 (c + 14)))) z5).keep (by rw [ea86, mU_cell (by decide)]) (by rw [ea86, mU_cell (by decide)]) (by rw [ea86, mU_slot (by decide)]) (by rw [ea86, mU_same]; exact ti_eq (by omega))) id)
                                refine qw_aload rfl rfl ?_
                                refine qw_getR (v := .inr (.inr (some 6))) rfl rfl rfl rfl rfl ?_
                                refine qw_iload rfl rfl ?_
                                refine qw_const rfl ?_
                                first | refine qw_iadd rfl (by omega) (fun x87 tx87 => ?_) | refine qw_iiU rfl (fun x87 tx87 => ?_)
                                refine qw_iload rfl rfl ?_
                                refine qw_if_eq rfl (fun c88 => ?_) (fun c88 => ?_)
                                · skip
                                  have N9 : ¬ ((opF t z 6 (nvT t z (c + 6)) (nvT t z (c + 4)) (opH t z 6 0 (opF t z 5 (nvT t z (c + 6)) (nvT t z (c + 4)) (opH t z 5 1 (wE t z c 4) (c + 14)) (c + 14)) (opC t z 5 (c + 14))) (opC t z 5 (c + 14))) = 0 ∧ tkW t z (opC t z 6 (opC t z 5 (c + 14))) 8) := by rcases AA8 with h | h; omega; exact h.2
                                  have H8b : RJ t z N c (L 0).toNat (upN M (L 0).toNat (lxV fM t z (c + 1))) (12) (if tkW t z (opC t z 6 (opC t z 5 (c + 14))) 8 then (opC t z 6 (opC t z 5 (c + 14))) + 1 else (opC t z 6 (opC t z 5 (c + 14)))) ((ofX t z M (L 0).toNat (opF t z 6 (nvT t z (c + 6)) (nvT t z (c + 4)) (opH t z 6 0 (opF t z 5 (nvT t z (c + 6)) (nvT t z (c + 4)) (opH t z 5 1 (wE t z c 4) (c + 14)) (c + 14)) (opC t z 5 (c + 14))) (opC t z 5 (c + 14))) (opC t z 6 (opC t z 5 (c + 14))))) a a68 b382 := H8a.noX N9 (by decide)
                                  have HX : (ofX t z M (L 0).toNat (opF t z 6 (nvT t z (c + 6)) (nvT t z (c + 4)) (opH t z 6 0 (opF t z 5 (nvT t z (c + 6)) (nvT t z (c + 4)) (opH t z 5 1 (wE t z c 4) (c + 14)) (c + 14)) (opC t z 5 (c + 14))) (opC t z 5 (c + 14))) (opC t z 6 (opC t z 5 (c + 14)))) = 0 → (-1 : Int32).toInt = (if tkW t z (opC t z 6 (opC t z 5 (c + 14))) 8 then fnd (upN M (L 0).toNat (lxV fM t z (c + 1))) (lxV fM t z ((opC t z 6 (opC t z 5 (c + 14))) + 1)) (L 0).toNat else -1) := fun q => by rw [if_neg (fun hw => N9 ⟨(by unfold ofX at q; rw [if_pos hw] at q; exact (eE_z q).1), hw⟩)]; rfl
                                  refine qw_const rfl ?_
                                  refine qm_iast rfl rfl (fun ja89 a89 ea89 => ?_)
                                  have ua89_7 : (a89 0 7).toInt = (a68 0 7).toInt := by rw [ea89, mU_cell (by decide)]
                                  have ua89_8 : (a89 0 8).toInt = (a68 0 8).toInt := by rw [ea89, mU_cell (by decide)]
                                  have H8c := H8b.put ea89 (by omega) (by decide) HX (fun q => absurd q (by omega))
                                  exact loop413 _ a89 b382 (FR.up (FR.tr (hF382) (FR.sub fa68.1 (by decide))) (by decide) ea89) (H8c)
                                · skip
                                  have A9 : (opF t z 6 (nvT t z (c + 6)) (nvT t z (c + 4)) (opH t z 6 0 (opF t z 5 (nvT t z (c + 6)) (nvT t z (c + 4)) (opH t z 5 1 (wE t z c 4) (c + 14)) (c + 14)) (opC t z 5 (c + 14))) (opC t z 5 (c + 14))) = 0 ∧ tkW t z (opC t z 6 (opC t z 5 (c + 14))) 8 := by rcases AA8 with h | h; exact h.2; omega
                                  have H8m : MS t z N ((opC t z 6 (opC t z 5 (c + 14))) + 1) ((opF t z 6 (nvT t z (c + 6)) (nvT t z (c + 4)) (opH t z 6 0 (opF t z 5 (nvT t z (c + 6)) (nvT t z (c + 4)) (opH t z 5 1 (wE t z c 4) (c + 14)) (c + 14)) (opC t z 5 (c + 14))) (opC t z 5 (c + 14)))) a68 b382 := by have h9 := H8a.1; rw [if_pos A9.2] at h9; exact h9
                                  have FQ : fnd (b382 10) (lxV fM t z ((opC t z 6 (opC t z 5 (c + 14))) + 1)) (a68 6 110).toInt.toNat = fnd M (lxV fM t z ((opC t z 6 (opC t z 5 (c + 14))) + 1)) (L 0).toNat := by rw [H8a.2.1 110 (by omega), show (a 6 110).toInt = L 0 from hL 0 (by decide) (by omega)]; exact fnd_same _ (fun k hk => by rw [H8a.2.2.2.2.2.1 k (by omega)]; unfold upN; rw [if_neg (by omega)])
                                  have FQ2 : fnd (upN M (L 0).toNat (lxV fM t z (c + 1))) (lxV fM t z ((opC t z 6 (opC t z 5 (c + 14))) + 1)) (L 0).toNat = fnd M (lxV fM t z ((opC t z 6 (opC t z 5 (c + 14))) + 1)) (L 0).toNat := fnd_same _ (fun k hk => by unfold upN; rw [if_neg (by omega)])
                                  refine qw_aload rfl rfl ?_
                                  refine qw_const rfl ?_
                                  refine qw_invV (rest := [.inl x87, .inr (.inr (some 6))]) rfl rfl rfl rfl rfl (Nat.le_of_ble_eq_true rfl) rfl (y_riverHere (d := d0) a68 b382 z N ((opC t z 6 (opC t z 5 (c + 14))) + 1) (opF t z 6 (nvT t z (c + 6)) (nvT t z (c + 4)) (opH t z 6 0 (opF t z 5 (nvT t z (c + 6)) (nvT t z (c + 4)) (opH t z 5 1 (wE t z c 4) (c + 14)) (c + 14)) (opC t z 5 (c + 14))) (opC t z 5 (c + 14))) t 1 (Or.inr rfl) (H8m)) (fun v90 h9 hq91 => ?_)
                                  obtain ⟨a92, rfl, fa92, x93, rfl, px93⟩ := hq91
                                  show f_pq _ _ (408, [some (.inr (.inr (some 0))), some (.inl x1), some (.inl x27), some (.inl x32), some (.inl x61), some (.inl x65), some (.inl x69)], [.inl x93, .inl x87, .inr (.inr (some 6))], mH a92 b382) _
                                  have EX8 : (ofX t z M (L 0).toNat (opF t z 6 (nvT t z (c + 6)) (nvT t z (c + 4)) (opH t z 6 0 (opF t z 5 (nvT t z (c + 6)) (nvT t z (c + 4)) (opH t z 5 1 (wE t z c 4) (c + 14)) (c + 14)) (opC t z 5 (c + 14))) (opC t z 5 (c + 14))) (opC t z 6 (opC t z 5 (c + 14)))) = eE ((opF t z 6 (nvT t z (c + 6)) (nvT t z (c + 4)) (opH t z 6 0 (opF t z 5 (nvT t z (c + 6)) (nvT t z (c + 4)) (opH t z 5 1 (wE t z c 4) (c + 14)) (c + 14)) (opC t z 5 (c + 14))) (opC t z 5 (c + 14)))) (ofG t z M (L 0).toNat ((opC t z 6 (opC t z 5 (c + 14))) + 1)) := if_pos A9.2
                                  have MX : MS t z N ((opC t z 6 (opC t z 5 (c + 14))) + 1) ((ofX t z M (L 0).toNat (opF t z 6 (nvT t z (c + 6)) (nvT t z (c + 4)) (opH t z 6 0 (opF t z 5 (nvT t z (c + 6)) (nvT t z (c + 4)) (opH t z 5 1 (wE t z c 4) (c + 14)) (c + 14)) (opC t z 5 (c + 14))) (opC t z 5 (c + 14))) (opC t z 6 (opC t z 5 (c + 14))))) a92 b382 := by rw [EX8]; unfold ofG; rw [← FQ]; exact fa92.2.2
                                  have H8b : RJ t z N c (L 0).toNat (upN M (L 0).toNat (lxV fM t z (c + 1))) (12) (if tkW t z (opC t z 6 (opC t z 5 (c + 14))) 8 then (opC t z 6 (opC t z 5 (c + 14))) + 1 else (opC t z 6 (opC t z 5 (c + 14)))) ((ofX t z M (L 0).toNat (opF t z 6 (nvT t z (c + 6)) (nvT t z (c + 4)) (opH t z 6 0 (opF t z 5 (nvT t z (c + 6)) (nvT t z (c + 4)) (opH t z 5 1 (wE t z c 4) (c + 14)) (c + 14)) (opC t z 5 (c + 14))) (opC t z 5 (c + 14))) (opC t z 6 (opC t z 5 (c + 14))))) a a92 b382 := RJ.call H8a fa92.1 (fun j _ j8 => fa92.2.1 j j8) (by rw [if_pos A9.2]; exact MX) (fun q => by rw [EX8] at q; exact (eE_z q).1)
                                  have HX : (ofX t z M (L 0).toNat (opF t z 6 (nvT t z (c + 6)) (nvT t z (c + 4)) (opH t z 6 0 (opF t z 5 (nvT t z (c + 6)) (nvT t z (c + 4)) (opH t z 5 1 (wE t z c 4) (c + 14)) (c + 14)) (opC t z 5 (c + 14))) (opC t z 5 (c + 14))) (opC t z 6 (opC t z 5 (c + 14)))) = 0 → x93.toInt = (if tkW t z (opC t z 6 (opC t z 5 (c + 14))) 8 then fnd (upN M (L 0).toNat (lxV fM t z (c + 1))) (lxV fM t z ((opC t z 6 (opC t z 5 (c + 14))) + 1)) (L 0).toNat else -1) := fun q => by rw [if_pos A9.2, FQ2, ← FQ]; rw [EX8] at q; unfold ofG at q; rw [← FQ] at q; exact px93 q
                                  refine qw_goto rfl ?_
                                  refine qm_iast rfl rfl (fun ja94 a94 ea94 => ?_)
                                  have ua94_7 : (a94 0 7).toInt = (a92 0 7).toInt := by rw [ea94, mU_cell (by decide)]
                                  have ua94_8 : (a94 0 8).toInt = (a92 0 8).toInt := by rw [ea94, mU_cell (by decide)]
                                  have H8c := H8b.put ea94 (by omega) (by decide) HX (fun q => absurd q (by omega))
                                  exact loop413 _ a94 b382 (FR.up (FR.tr (FR.tr (hF382) (FR.sub fa68.1 (by decide))) (FR.sub fa92.1 (by decide))) (by decide) ea94) (H8c)
                            refine qw_aload rfl rfl ?_
                            refine qw_getR (v := .inr (.inr (some 6))) rfl rfl rfl rfl rfl ?_
                            refine qw_iload rfl rfl ?_
                            refine qw_const rfl ?_
                            first | refine qw_iadd rfl (by omega) (fun x95 tx95 => ?_) | refine qw_iiU rfl (fun x95 tx95 => ?_)
                            refine qw_iload rfl rfl ?_
                            refine qw_if_eq rfl (fun c96 => ?_) (fun c96 => ?_)
                            · skip
                              have N9 : ¬ ((opF t z 5 (nvT t z (c + 6)) (nvT t z (c + 4)) (opH t z 5 1 (wE t z c 4) (c + 14)) (c + 14)) = 0 ∧ tkW t z (opC t z 5 (c + 14)) 6) := by rcases AA6 with h | h; omega; exact h.2
                              have F6b : RJ t z N c (L 0).toNat (upN M (L 0).toNat (lxV fM t z (c + 1))) (11) (opC t z 6 (opC t z 5 (c + 14))) ((opF t z 6 (nvT t z (c + 6)) (nvT t z (c + 4)) (opH t z 6 0 (opF t z 5 (nvT t z (c + 6)) (nvT t z (c + 4)) (opH t z 5 1 (wE t z c 4) (c + 14)) (c + 14)) (opC t z 5 (c + 14))) (opC t z 5 (c + 14)))) a a342 b342 := hJ11.noF N9 (by decide)
                              have HX : (opF t z 6 (nvT t z (c + 6)) (nvT t z (c + 4)) (opH t z 6 0 (opF t z 5 (nvT t z (c + 6)) (nvT t z (c + 4)) (opH t z 5 1 (wE t z c 4) (c + 14)) (c + 14)) (opC t z 5 (c + 14))) (opC t z 5 (c + 14))) = 0 → (0 : Int32).toInt = (if tkW t z (opC t z 5 (c + 14)) 6 then nvT t z ((opC t z 5 (c + 14)) + 3) else 0) := fun q => by rw [if_neg (fun hw => N9 ⟨opH_0 (opF_0 q), hw⟩)]; rfl
                              refine qw_const rfl ?_
                              refine qm_iast rfl rfl (fun ja97 a97 ea97 => ?_)
                              have ua97_7 : (a97 0 7).toInt = (a342 0 7).toInt := by rw [ea97, mU_cell (by decide)]
                              have ua97_8 : (a97 0 8).toInt = (a342 0 8).toInt := by rw [ea97, mU_cell (by decide)]
                              have F6c := F6b.put ea97 (by omega) (by decide) HX (fun q => absurd q (by omega))
                              exact loop382 _ a97 b342 (FR.up (hF342) (by decide) ea97) (F6c)
                            · skip
                              have A9 : (opF t z 5 (nvT t z (c + 6)) (nvT t z (c + 4)) (opH t z 5 1 (wE t z c 4) (c + 14)) (c + 14)) = 0 ∧ tkW t z (opC t z 5 (c + 14)) 6 := by rcases AA6 with h | h; exact h.2; omega
                              have F6m : MS t z N ((opC t z 5 (c + 14)) + 2) ((opH t z 6 0 (opF t z 5 (nvT t z (c + 6)) (nvT t z (c + 4)) (opH t z 5 1 (wE t z c 4) (c + 14)) (c + 14)) (opC t z 5 (c + 14)))) a342 b342 := by have h9 := hJ11.1; rw [show opD t z 6 (opC t z 5 (c + 14)) = (opC t z 5 (c + 14)) + 2 from if_pos A9.2] at h9; exact h9
                              refine qw_aload rfl rfl ?_
                              refine qw_const rfl ?_
                              refine qw_aload rfl rfl ?_
                              refine qw_getR (v := .inr (.inr (some 6))) rfl rfl rfl rfl rfl ?_
                              refine qw_iload rfl rfl ?_
                              refine qw_const rfl ?_
                              first | refine qw_iadd rfl (by omega) (fun x98 tx98 => ?_) | refine qw_iiU rfl (fun x98 tx98 => ?_)
                              refine qm_iald rfl rfl (fun jx99 x99 ex99 => ?_)
                              have r2b : 0 ≤ x99.toInt ∧ x99.toInt ≤ 99 := by rw [ex99]; exact hJ11.r2 (by decide) (by omega)
                              have r2v : (opH t z 6 0 (opF t z 5 (nvT t z (c + 6)) (nvT t z (c + 4)) (opH t z 5 1 (wE t z c 4) (c + 14)) (c + 14)) (opC t z 5 (c + 14))) = 0 → x99.toInt = (nvT t z (c + 6)) := fun q => by rw [ex99]; exact hJ11.get (q) (w := 2) (by decide) (by omega)
                              skip
                              refine qw_aload rfl rfl ?_
                              refine qw_getR (v := .inr (.inr (some 6))) rfl rfl rfl rfl rfl ?_
                              refine qw_iload rfl rfl ?_
                              refine qw_const rfl ?_
                              first | refine qw_iadd rfl (by omega) (fun x100 tx100 => ?_) | refine qw_iiU rfl (fun x100 tx100 => ?_)
                              refine qm_iald rfl rfl (fun jx101 x101 ex101 => ?_)
                              have r1b : 0 ≤ x101.toInt ∧ x101.toInt ≤ 99 := by rw [ex101]; exact hJ11.r1 (by decide) (by omega)
                              have r1v : (opH t z 6 0 (opF t z 5 (nvT t z (c + 6)) (nvT t z (c + 4)) (opH t z 5 1 (wE t z c 4) (c + 14)) (c + 14)) (opC t z 5 (c + 14))) = 0 → x101.toInt = (nvT t z (c + 4)) := fun q => by rw [ex101]; exact hJ11.get (q) (w := 1) (by decide) (by omega)
                              skip
                              refine qw_invV (rest := [.inl x95, .inr (.inr (some 6))]) rfl rfl rfl rfl rfl (Nat.le_of_ble_eq_true rfl) rfl (y_takeAfter (d := d0) a342 b342 z N ((opC t z 5 (c + 14)) + 2) (opH t z 6 0 (opF t z 5 (nvT t z (c + 6)) (nvT t z (c + 4)) (opH t z 5 1 (wE t z c 4) (c + 14)) (c + 14)) (opC t z 5 (c + 14))) t 7 7 x99 x101 (⟨by decide, by decide⟩) (F6m)) (fun v102 h9 hq103 => ?_)
                              obtain ⟨a104, rfl, fa104, x105, rfl, px105⟩ := hq103
                              show f_pq _ _ (377, [some (.inr (.inr (some 0))), some (.inl x1), some (.inl x27), some (.inl x32), some (.inl x61), some (.inl x65), none], [.inl x105, .inl x95, .inr (.inr (some 6))], mH a104 b342) _
                              have EF : eE (eE ((opH t z 6 0 (opF t z 5 (nvT t z (c + 6)) (nvT t z (c + 4)) (opH t z 5 1 (wE t z c 4) (c + 14)) (c + 14)) (opC t z 5 (c + 14)))) (xW t z ((opC t z 5 (c + 14)) + 2) 7)) (tkN t z ((opC t z 5 (c + 14)) + 3) x99.toInt x101.toInt) = (opF t z 6 (nvT t z (c + 6)) (nvT t z (c + 4)) (opH t z 6 0 (opF t z 5 (nvT t z (c + 6)) (nvT t z (c + 4)) (opH t z 5 1 (wE t z c 4) (c + 14)) (c + 14)) (opC t z 5 (c + 14))) (opC t z 5 (c + 14))) := by rw [show (opF t z 6 (nvT t z (c + 6)) (nvT t z (c + 4)) (opH t z 6 0 (opF t z 5 (nvT t z (c + 6)) (nvT t z (c + 4)) (opH t z 5 1 (wE t z c 4) (c + 14)) (c + 14)) (opC t z 5 (c + 14))) (opC t z 5 (c + 14))) = eE (eE ((opH t z 6 0 (opF t z 5 (nvT t z (c + 6)) (nvT t z (c + 4)) (opH t z 5 1 (wE t z c 4) (c + 14)) (c + 14)) (opC t z 5 (c + 14)))) (xW t z ((opC t z 5 (c + 14)) + 2) 7)) (tkN t z ((opC t z 5 (c + 14)) + 3) (nvT t z (c + 6)) (nvT t z (c + 4))) from if_pos A9.2]; exact eE_sub2 (fun q => by rw [r2v q, r1v q])
                              have P9 : ((opF t z 6 (nvT t z (c + 6)) (nvT t z (c + 4)) (opH t z 6 0 (opF t z 5 (nvT t z (c + 6)) (nvT t z (c + 4)) (opH t z 5 1 (wE t z c 4) (c + 14)) (c + 14)) (opC t z 5 (c + 14))) (opC t z 5 (c + 14))) = 0 → x105.toInt = nvT t z ((opC t z 5 (c + 14)) + 3)) ∧ (¬ (opF t z 6 (nvT t z (c + 6)) (nvT t z (c + 4)) (opH t z 6 0 (opF t z 5 (nvT t z (c + 6)) (nvT t z (c + 4)) (opH t z 5 1 (wE t z c 4) (c + 14)) (c + 14)) (opC t z 5 (c + 14))) (opC t z 5 (c + 14))) = 0 → x105.toInt = 0) := by rw [← EF]; exact px105
                              have F6b : RJ t z N c (L 0).toNat (upN M (L 0).toNat (lxV fM t z (c + 1))) (11) (opC t z 6 (opC t z 5 (c + 14))) ((opF t z 6 (nvT t z (c + 6)) (nvT t z (c + 4)) (opH t z 6 0 (opF t z 5 (nvT t z (c + 6)) (nvT t z (c + 4)) (opH t z 5 1 (wE t z c 4) (c + 14)) (c + 14)) (opC t z 5 (c + 14))) (opC t z 5 (c + 14)))) a a104 b342 := by rw [← EF, show opC t z 6 (opC t z 5 (c + 14)) = (opC t z 5 (c + 14)) + 4 from if_pos A9.2]; exact RJ.call hJ11 fa104.1 fa104.2.1 fa104.2.2 (fun q => (eE_z (eE_z q).1).1)
                              have HX : (opF t z 6 (nvT t z (c + 6)) (nvT t z (c + 4)) (opH t z 6 0 (opF t z 5 (nvT t z (c + 6)) (nvT t z (c + 4)) (opH t z 5 1 (wE t z c 4) (c + 14)) (c + 14)) (opC t z 5 (c + 14))) (opC t z 5 (c + 14))) = 0 → x105.toInt = (if tkW t z (opC t z 5 (c + 14)) 6 then nvT t z ((opC t z 5 (c + 14)) + 3) else 0) := fun q => by rw [if_pos A9.2]; exact P9.1 q
                              refine qw_goto rfl ?_
                              refine qm_iast rfl rfl (fun ja106 a106 ea106 => ?_)
                              have ua106_7 : (a106 0 7).toInt = (a104 0 7).toInt := by rw [ea106, mU_cell (by decide)]
                              have ua106_8 : (a106 0 8).toInt = (a104 0 8).toInt := by rw [ea106, mU_cell (by decide)]
                              have F6c := F6b.put ea106 (by omega) (by decide) HX (fun q => absurd q (by omega))
                              exact loop382 _ a106 b342 (FR.up (FR.tr (hF342) (FR.sub fa104.1 (by decide))) (by decide) ea106) (F6c)
                        refine qw_aload rfl rfl ?_
                        refine qw_getR (v := .inr (.inr (some 6))) rfl rfl rfl rfl rfl ?_
                        refine qw_iload rfl rfl ?_
                        refine qw_const rfl ?_
                        first | refine qw_iadd rfl (by omega) (fun x107 tx107 => ?_) | refine qw_iiU rfl (fun x107 tx107 => ?_)
                        refine qw_iload rfl rfl ?_
                        refine qw_if_eq rfl (fun c108 => ?_) (fun c108 => ?_)
                        · skip
                          have N9 : ¬ ((opF t z 5 (nvT t z (c + 6)) (nvT t z (c + 4)) (opH t z 5 1 (wE t z c 4) (c + 14)) (c + 14)) = 0 ∧ tkW t z (opC t z 5 (c + 14)) 6) := by rcases AA6 with h | h; omega; exact h.2
                          have H6b : RJ t z N c (L 0).toNat (upN M (L 0).toNat (lxV fM t z (c + 1))) (10) (opD t z 6 (opC t z 5 (c + 14))) ((opH t z 6 0 (opF t z 5 (nvT t z (c + 6)) (nvT t z (c + 4)) (opH t z 5 1 (wE t z c 4) (c + 14)) (c + 14)) (opC t z 5 (c + 14)))) a a64 b308 := H6a.noH N9 (by decide)
                          have HX : (opH t z 6 0 (opF t z 5 (nvT t z (c + 6)) (nvT t z (c + 4)) (opH t z 5 1 (wE t z c 4) (c + 14)) (c + 14)) (opC t z 5 (c + 14))) = 0 → (-1 : Int32).toInt = (if tkW t z (opC t z 5 (c + 14)) 6 then nvT t z ((opC t z 5 (c + 14)) + 1) else -1) := fun q => by rw [if_neg (fun hw => N9 ⟨opH_0 q, hw⟩)]; rfl
                          refine qw_const rfl ?_
                          refine qm_iast rfl rfl (fun ja109 a109 ea109 => ?_)
                          have ua109_7 : (a109 0 7).toInt = (a64 0 7).toInt := by rw [ea109, mU_cell (by decide)]
                          have ua109_8 : (a109 0 8).toInt = (a64 0 8).toInt := by rw [ea109, mU_cell (by decide)]
                          have H6c := H6b.put ea109 (by omega) (by decide) HX (fun q => absurd q (by omega))
                          exact loop342 _ a109 b308 (FR.up (FR.tr (hF308) (FR.sub fa64.1 (by decide))) (by decide) ea109) (H6c)
                        · skip
                          have A9 : (opF t z 5 (nvT t z (c + 6)) (nvT t z (c + 4)) (opH t z 5 1 (wE t z c 4) (c + 14)) (c + 14)) = 0 ∧ tkW t z (opC t z 5 (c + 14)) 6 := by rcases AA6 with h | h; exact h.2; omega
                          have H6m : MS t z N ((opC t z 5 (c + 14)) + 1) ((opF t z 5 (nvT t z (c + 6)) (nvT t z (c + 4)) (opH t z 5 1 (wE t z c 4) (c + 14)) (c + 14))) a64 b308 := by have h9 := H6a.1; rw [if_pos A9.2] at h9; exact h9
                          refine qw_aload rfl rfl ?_
                          refine qw_const rfl ?_
                          refine qw_const rfl ?_
                          refine qw_invV (rest := [.inl x107, .inr (.inr (some 6))]) rfl rfl rfl rfl rfl (Nat.le_of_ble_eq_true rfl) rfl (y_takeNumber (d := d0) a64 b308 z N ((opC t z 5 (c + 14)) + 1) (opF t z 5 (nvT t z (c + 6)) (nvT t z (c + 4)) (opH t z 5 1 (wE t z c 4) (c + 14)) (c + 14)) t 0 999 (H6m)) (fun v110 h9 hq111 => ?_)
                          obtain ⟨a112, rfl, fa112, x113, rfl, px113⟩ := hq111
                          show f_pq _ _ (337, [some (.inr (.inr (some 0))), some (.inl x1), some (.inl x27), some (.inl x32), some (.inl x61), some (.inl x65), none], [.inl x113, .inl x107, .inr (.inr (some 6))], mH a112 b308) _
                          have P9 : ((eE ((opF t z 5 (nvT t z (c + 6)) (nvT t z (c + 4)) (opH t z 5 1 (wE t z c 4) (c + 14)) (c + 14))) (tkN t z ((opC t z 5 (c + 14)) + 1) 0 999)) = 0 → x113.toInt = nvT t z ((opC t z 5 (c + 14)) + 1)) ∧ (¬ (eE ((opF t z 5 (nvT t z (c + 6)) (nvT t z (c + 4)) (opH t z 5 1 (wE t z c 4) (c + 14)) (c + 14))) (tkN t z ((opC t z 5 (c + 14)) + 1) 0 999)) = 0 → x113.toInt = 0) := px113
                          have EH : (opH t z 6 0 (opF t z 5 (nvT t z (c + 6)) (nvT t z (c + 4)) (opH t z 5 1 (wE t z c 4) (c + 14)) (c + 14)) (opC t z 5 (c + 14))) = eE ((opF t z 5 (nvT t z (c + 6)) (nvT t z (c + 4)) (opH t z 5 1 (wE t z c 4) (c + 14)) (c + 14))) (tkN t z ((opC t z 5 (c + 14)) + 1) 0 999) := if_pos A9.2
                          have H6b : RJ t z N c (L 0).toNat (upN M (L 0).toNat (lxV fM t z (c + 1))) (10) (opD t z 6 (opC t z 5 (c + 14))) ((opH t z 6 0 (opF t z 5 (nvT t z (c + 6)) (nvT t z (c + 4)) (opH t z 5 1 (wE t z c 4) (c + 14)) (c + 14)) (opC t z 5 (c + 14)))) a a112 b308 := by rw [EH, show opD t z 6 (opC t z 5 (c + 14)) = (opC t z 5 (c + 14)) + 2 from if_pos A9.2]; exact RJ.call H6a fa112.1 fa112.2.1 fa112.2.2 (fun q => (eE_z q).1)
                          have HX : (opH t z 6 0 (opF t z 5 (nvT t z (c + 6)) (nvT t z (c + 4)) (opH t z 5 1 (wE t z c 4) (c + 14)) (c + 14)) (opC t z 5 (c + 14))) = 0 → x113.toInt = (if tkW t z (opC t z 5 (c + 14)) 6 then nvT t z ((opC t z 5 (c + 14)) + 1) else -1) := fun q => by rw [if_pos A9.2]; rw [EH] at q; exact P9.1 q
                          refine qw_goto rfl ?_
                          refine qm_iast rfl rfl (fun ja114 a114 ea114 => ?_)
                          have ua114_7 : (a114 0 7).toInt = (a112 0 7).toInt := by rw [ea114, mU_cell (by decide)]
                          have ua114_8 : (a114 0 8).toInt = (a112 0 8).toInt := by rw [ea114, mU_cell (by decide)]
                          have H6c := H6b.put ea114 (by omega) (by decide) HX (fun q => absurd q (by omega))
                          exact loop342 _ a114 b308 (FR.up (FR.tr (FR.tr (hF308) (FR.sub fa64.1 (by decide))) (FR.sub fa112.1 (by decide))) (by decide) ea114) (H6c)
                    refine qw_aload rfl rfl ?_
                    refine qw_getR (v := .inr (.inr (some 6))) rfl rfl rfl rfl rfl ?_
                    refine qw_iload rfl rfl ?_
                    refine qw_const rfl ?_
                    first | refine qw_iadd rfl (by omega) (fun x115 tx115 => ?_) | refine qw_iiU rfl (fun x115 tx115 => ?_)
                    refine qw_iload rfl rfl ?_
                    refine qw_if_eq rfl (fun c116 => ?_) (fun c116 => ?_)
                    · skip
                      have N9 : ¬ ((wE t z c 4) = 0 ∧ tkW t z (c + 14) 5) := by rcases AA5 with h | h; omega; exact h.2
                      have F5b : RJ t z N c (L 0).toNat (upN M (L 0).toNat (lxV fM t z (c + 1))) (9) (opC t z 5 (c + 14)) ((opF t z 5 (nvT t z (c + 6)) (nvT t z (c + 4)) (opH t z 5 1 (wE t z c 4) (c + 14)) (c + 14))) a a268 b268 := hJ9.noF N9 (by decide)
                      have HX : (opF t z 5 (nvT t z (c + 6)) (nvT t z (c + 4)) (opH t z 5 1 (wE t z c 4) (c + 14)) (c + 14)) = 0 → (0 : Int32).toInt = (if tkW t z (c + 14) 5 then nvT t z ((c + 14) + 3) else 0) := fun q => by rw [if_neg (fun hw => N9 ⟨opH_0 (opF_0 q), hw⟩)]; rfl
                      refine qw_const rfl ?_
                      refine qm_iast rfl rfl (fun ja117 a117 ea117 => ?_)
                      have ua117_7 : (a117 0 7).toInt = (a268 0 7).toInt := by rw [ea117, mU_cell (by decide)]
                      have ua117_8 : (a117 0 8).toInt = (a268 0 8).toInt := by rw [ea117, mU_cell (by decide)]
                      have F5c := F5b.put ea117 (by omega) (by decide) HX (fun q => absurd q (by omega))
                      exact loop308 _ a117 b268 (FR.up (hF268) (by decide) ea117) (F5c)
                    · skip
                      have A9 : (wE t z c 4) = 0 ∧ tkW t z (c + 14) 5 := by rcases AA5 with h | h; exact h.2; omega
                      have F5m : MS t z N ((c + 14) + 2) ((opH t z 5 1 (wE t z c 4) (c + 14))) a268 b268 := by have h9 := hJ9.1; rw [show opD t z 5 (c + 14) = (c + 14) + 2 from if_pos A9.2] at h9; exact h9
                      refine qw_aload rfl rfl ?_
                      refine qw_const rfl ?_
                      refine qw_aload rfl rfl ?_
                      refine qw_getR (v := .inr (.inr (some 6))) rfl rfl rfl rfl rfl ?_
                      refine qw_iload rfl rfl ?_
                      refine qw_const rfl ?_
                      first | refine qw_iadd rfl (by omega) (fun x118 tx118 => ?_) | refine qw_iiU rfl (fun x118 tx118 => ?_)
                      refine qm_iald rfl rfl (fun jx119 x119 ex119 => ?_)
                      have r2b : 0 ≤ x119.toInt ∧ x119.toInt ≤ 99 := by rw [ex119]; exact hJ9.r2 (by decide) (by omega)
                      have r2v : (opH t z 5 1 (wE t z c 4) (c + 14)) = 0 → x119.toInt = (nvT t z (c + 6)) := fun q => by rw [ex119]; exact hJ9.get (q) (w := 2) (by decide) (by omega)
                      skip
                      refine qw_aload rfl rfl ?_
                      refine qw_getR (v := .inr (.inr (some 6))) rfl rfl rfl rfl rfl ?_
                      refine qw_iload rfl rfl ?_
                      refine qw_const rfl ?_
                      first | refine qw_iadd rfl (by omega) (fun x120 tx120 => ?_) | refine qw_iiU rfl (fun x120 tx120 => ?_)
                      refine qm_iald rfl rfl (fun jx121 x121 ex121 => ?_)
                      have r1b : 0 ≤ x121.toInt ∧ x121.toInt ≤ 99 := by rw [ex121]; exact hJ9.r1 (by decide) (by omega)
                      have r1v : (opH t z 5 1 (wE t z c 4) (c + 14)) = 0 → x121.toInt = (nvT t z (c + 4)) := fun q => by rw [ex121]; exact hJ9.get (q) (w := 1) (by decide) (by omega)
                      skip
                      refine qw_invV (rest := [.inl x115, .inr (.inr (some 6))]) rfl rfl rfl rfl rfl (Nat.le_of_ble_eq_true rfl) rfl (y_takeAfter (d := d0) a268 b268 z N ((c + 14) + 2) (opH t z 5 1 (wE t z c 4) (c + 14)) t 7 7 x119 x121 (⟨by decide, by decide⟩) (F5m)) (fun v122 h9 hq123 => ?_)
                      obtain ⟨a124, rfl, fa124, x125, rfl, px125⟩ := hq123
                      show f_pq _ _ (303, [some (.inr (.inr (some 0))), some (.inl x1), some (.inl x27), some (.inl x32), some (.inl x61), none, none], [.inl x125, .inl x115, .inr (.inr (some 6))], mH a124 b268) _
                      have EF : eE (eE ((opH t z 5 1 (wE t z c 4) (c + 14))) (xW t z ((c + 14) + 2) 7)) (tkN t z ((c + 14) + 3) x119.toInt x121.toInt) = (opF t z 5 (nvT t z (c + 6)) (nvT t z (c + 4)) (opH t z 5 1 (wE t z c 4) (c + 14)) (c + 14)) := by rw [show (opF t z 5 (nvT t z (c + 6)) (nvT t z (c + 4)) (opH t z 5 1 (wE t z c 4) (c + 14)) (c + 14)) = eE (eE ((opH t z 5 1 (wE t z c 4) (c + 14))) (xW t z ((c + 14) + 2) 7)) (tkN t z ((c + 14) + 3) (nvT t z (c + 6)) (nvT t z (c + 4))) from if_pos A9.2]; exact eE_sub2 (fun q => by rw [r2v q, r1v q])
                      have P9 : ((opF t z 5 (nvT t z (c + 6)) (nvT t z (c + 4)) (opH t z 5 1 (wE t z c 4) (c + 14)) (c + 14)) = 0 → x125.toInt = nvT t z ((c + 14) + 3)) ∧ (¬ (opF t z 5 (nvT t z (c + 6)) (nvT t z (c + 4)) (opH t z 5 1 (wE t z c 4) (c + 14)) (c + 14)) = 0 → x125.toInt = 0) := by rw [← EF]; exact px125
                      have F5b : RJ t z N c (L 0).toNat (upN M (L 0).toNat (lxV fM t z (c + 1))) (9) (opC t z 5 (c + 14)) ((opF t z 5 (nvT t z (c + 6)) (nvT t z (c + 4)) (opH t z 5 1 (wE t z c 4) (c + 14)) (c + 14))) a a124 b268 := by rw [← EF, show opC t z 5 (c + 14) = (c + 14) + 4 from if_pos A9.2]; exact RJ.call hJ9 fa124.1 fa124.2.1 fa124.2.2 (fun q => (eE_z (eE_z q).1).1)
                      have HX : (opF t z 5 (nvT t z (c + 6)) (nvT t z (c + 4)) (opH t z 5 1 (wE t z c 4) (c + 14)) (c + 14)) = 0 → x125.toInt = (if tkW t z (c + 14) 5 then nvT t z ((c + 14) + 3) else 0) := fun q => by rw [if_pos A9.2]; exact P9.1 q
                      refine qw_goto rfl ?_
                      refine qm_iast rfl rfl (fun ja126 a126 ea126 => ?_)
                      have ua126_7 : (a126 0 7).toInt = (a124 0 7).toInt := by rw [ea126, mU_cell (by decide)]
                      have ua126_8 : (a126 0 8).toInt = (a124 0 8).toInt := by rw [ea126, mU_cell (by decide)]
                      have F5c := F5b.put ea126 (by omega) (by decide) HX (fun q => absurd q (by omega))
                      exact loop308 _ a126 b268 (FR.up (FR.tr (hF268) (FR.sub fa124.1 (by decide))) (by decide) ea126) (F5c)
                refine qw_aload rfl rfl ?_
                refine qw_getR (v := .inr (.inr (some 6))) rfl rfl rfl rfl rfl ?_
                refine qw_iload rfl rfl ?_
                refine qw_const rfl ?_
                first | refine qw_iadd rfl (by omega) (fun x127 tx127 => ?_) | refine qw_iiU rfl (fun x127 tx127 => ?_)
                refine qw_iload rfl rfl ?_
                refine qw_if_eq rfl (fun c128 => ?_) (fun c128 => ?_)
                · skip
                  have N9 : ¬ ((wE t z c 4) = 0 ∧ tkW t z (c + 14) 5) := by rcases AA5 with h | h; omega; exact h.2
                  have H5b : RJ t z N c (L 0).toNat (upN M (L 0).toNat (lxV fM t z (c + 1))) (8) (opD t z 5 (c + 14)) ((opH t z 5 1 (wE t z c 4) (c + 14))) a a60 b235 := H5a.noH N9 (by decide)
                  have HX : (opH t z 5 1 (wE t z c 4) (c + 14)) = 0 → (-1 : Int32).toInt = (if tkW t z (c + 14) 5 then nvT t z ((c + 14) + 1) else -1) := fun q => by rw [if_neg (fun hw => N9 ⟨opH_0 q, hw⟩)]; rfl
                  refine qw_const rfl ?_
                  refine qm_iast rfl rfl (fun ja129 a129 ea129 => ?_)
                  have ua129_7 : (a129 0 7).toInt = (a60 0 7).toInt := by rw [ea129, mU_cell (by decide)]
                  have ua129_8 : (a129 0 8).toInt = (a60 0 8).toInt := by rw [ea129, mU_cell (by decide)]
                  have H5c := H5b.put ea129 (by omega) (by decide) HX (fun q => absurd q (by omega))
                  exact loop268 _ a129 b235 (FR.up (FR.tr (hF235) (FR.sub fa60.1 (by decide))) (by decide) ea129) (H5c)
                · skip
                  have A9 : (wE t z c 4) = 0 ∧ tkW t z (c + 14) 5 := by rcases AA5 with h | h; exact h.2; omega
                  have H5m : MS t z N ((c + 14) + 1) ((wE t z c 4)) a60 b235 := by have h9 := H5a.1; rw [if_pos A9.2] at h9; exact h9
                  refine qw_aload rfl rfl ?_
                  refine qw_const rfl ?_
                  refine qw_const rfl ?_
                  refine qw_invV (rest := [.inl x127, .inr (.inr (some 6))]) rfl rfl rfl rfl rfl (Nat.le_of_ble_eq_true rfl) rfl (y_takeNumber (d := d0) a60 b235 z N ((c + 14) + 1) (wE t z c 4) t 1 999 (H5m)) (fun v130 h9 hq131 => ?_)
                  obtain ⟨a132, rfl, fa132, x133, rfl, px133⟩ := hq131
                  show f_pq _ _ (263, [some (.inr (.inr (some 0))), some (.inl x1), some (.inl x27), some (.inl x32), some (.inl x61), none, none], [.inl x133, .inl x127, .inr (.inr (some 6))], mH a132 b235) _
                  have P9 : ((eE ((wE t z c 4)) (tkN t z ((c + 14) + 1) 1 999)) = 0 → x133.toInt = nvT t z ((c + 14) + 1)) ∧ (¬ (eE ((wE t z c 4)) (tkN t z ((c + 14) + 1) 1 999)) = 0 → x133.toInt = 0) := px133
                  have EH : (opH t z 5 1 (wE t z c 4) (c + 14)) = eE ((wE t z c 4)) (tkN t z ((c + 14) + 1) 1 999) := if_pos A9.2
                  have H5b : RJ t z N c (L 0).toNat (upN M (L 0).toNat (lxV fM t z (c + 1))) (8) (opD t z 5 (c + 14)) ((opH t z 5 1 (wE t z c 4) (c + 14))) a a132 b235 := by rw [EH, show opD t z 5 (c + 14) = (c + 14) + 2 from if_pos A9.2]; exact RJ.call H5a fa132.1 fa132.2.1 fa132.2.2 (fun q => (eE_z q).1)
                  have HX : (opH t z 5 1 (wE t z c 4) (c + 14)) = 0 → x133.toInt = (if tkW t z (c + 14) 5 then nvT t z ((c + 14) + 1) else -1) := fun q => by rw [if_pos A9.2]; rw [EH] at q; exact P9.1 q
                  refine qw_goto rfl ?_
                  refine qm_iast rfl rfl (fun ja134 a134 ea134 => ?_)
                  have ua134_7 : (a134 0 7).toInt = (a132 0 7).toInt := by rw [ea134, mU_cell (by decide)]
                  have ua134_8 : (a134 0 8).toInt = (a132 0 8).toInt := by rw [ea134, mU_cell (by decide)]
                  have H5c := H5b.put ea134 (by omega) (by decide) HX (fun q => absurd q (by omega))
                  exact loop268 _ a134 b235 (FR.up (FR.tr (FR.tr (hF235) (FR.sub fa60.1 (by decide))) (FR.sub fa132.1 (by decide))) (by decide) ea134) (H5c)
            refine qw_const rfl ?_
            refine qw_istore (lo' := [some (.inr (.inr (some 0))), some (.inl x1), some (.inl x27), some (.inl x32), some (.inl 0), none, none]) rfl rfl ?_
            have loop198 : ∀ (fu198 : Nat) (k : Int32) (a198 : Nat → Nat → Int32) (b198 : Nat → Nat → Int64) ,  FR [0, 6] a a198 →(0 ≤ k.toInt ∧ k.toInt ≤ 4) → (RJ t z N c (L 0).toNat (upN M (L 0).toNat (lxV fM t z (c + 1))) (4 + k.toInt.toNat) (c + 10 + k.toInt.toNat) (wE t z c k.toInt.toNat) a a198 b198) → f_pq (f_code (t_X13_readRiver (f_ev mtM d0))) fu198 (198, [some (.inr (.inr (some 0))), some (.inl x1), some (.inl x27), some (.inl x32), some (.inl k), none, none], [], mH a198 b198) (fun v9 h' => ∃ (a' : Nat → Nat → Int32) (b' : Nat → Nat → Int64), h' = mH a' b' ∧ (FR [0, 6] a a' ∧ ((∀ j, j ≠ 7 → j ≠ 8 → a' 0 j = a 0 j) ∧ MS t z N (rvC t z c) (rvE t z M (L 0).toNat c) a' b' ∧ (rvE t z M (L 0).toNat c = 0 → LR (rvL t z (c, L, M, o)) a' ∧ ∀ k : Nat, (k : Int) < L 0 + 1 → b' 10 k = upN M (L 0).toNat (lxV fM t z (c + 1)) k) ∧ (∀ j, j < 110 → a' 6 j = a 6 j))) ∧ v9 = none) := by
              intro fu198
              induction fu198 with
              | zero => intros; exact pq_0
              | succ fu198 ih198 =>
                intro k a198 b198  hF198 hk9 hJ
                refine qw_iload rfl rfl ?_
                refine qw_const rfl ?_
                refine qw_ic_ge rfl (fun c135 => ?_) (fun c135 => ?_)
                · skip
                  exact loop235 _ a198 b198 (some (.inl k)) (hF198) (by first | (rw [show (wE t z c 4) = wE t z c k.toInt.toNat from wE_st (k := k.toInt.toNat) (by omega) 4 (by omega)]; exact hJ.any (by omega) (by omega)) | (have e4 : k.toInt.toNat = 4 := (by omega); rw [e4] at hJ; exact hJ))
                · skip
                  refine qw_aload rfl rfl ?_
                  refine qw_getI (v := .inl (a198 0 8)) rfl rfl rfl rfl rfl ?_
                  have f8 := hJ.1.e8
                  refine qw_if_ne rfl (fun c136 => ?_) (fun c136 => ?_)
                  · skip
                    refine qw_aload rfl rfl ?_
                    refine qw_getR (v := .inr (.inr (some 6))) rfl rfl rfl rfl rfl ?_
                    refine qw_iload rfl rfl ?_
                    refine qw_const rfl ?_
                    first | refine qw_iadd rfl (by omega) (fun x137 tx137 => ?_) | refine qw_iiU rfl (fun x137 tx137 => ?_)
                    refine qw_iload rfl rfl ?_
                    first | refine qw_iadd rfl (by omega) (fun x138 tx138 => ?_) | refine qw_iiU rfl (fun x138 tx138 => ?_)
                    refine qw_aload rfl rfl ?_
                    refine qw_const rfl ?_
                    refine qw_const rfl ?_
                    refine qw_invV (rest := [.inl x138, .inr (.inr (some 6))]) rfl rfl rfl rfl rfl (Nat.le_of_ble_eq_true rfl) rfl (y_takeNumber (d := d0) a198 b198 z N (c + 10 + k.toInt.toNat) (wE t z c k.toInt.toNat) t 0 99 (hJ.1)) (fun v139 h9 hq140 => ?_)
                    obtain ⟨a141, rfl, fa141, x142, rfl, px142⟩ := hq140
                    show f_pq _ _ (228, [some (.inr (.inr (some 0))), some (.inl x1), some (.inl x27), some (.inl x32), some (.inl k), none, none], [.inl x142, .inl x138, .inr (.inr (some 6))], mH a141 b198) _
                    have P9 : (wE t z c (k.toInt.toNat + 1) = 0 → x142.toInt = nvT t z (c + 10 + k.toInt.toNat)) ∧ (¬ wE t z c (k.toInt.toNat + 1) = 0 → x142.toInt = 0) := px142
                    have J9 : RJ t z N c (L 0).toNat (upN M (L 0).toNat (lxV fM t z (c + 1))) (4 + k.toInt.toNat) (c + 10 + k.toInt.toNat + 1) (wE t z c (k.toInt.toNat + 1)) a a141 b198 := RJ.call hJ fa141.1 fa141.2.1 fa141.2.2 (fun q => (eE_z q).1)
                    refine qm_iast rfl rfl (fun ja143 a143 ea143 => ?_)
                    have ua143_7 : (a143 0 7).toInt = (a141 0 7).toInt := by rw [ea143, mU_cell (by decide)]
                    have ua143_8 : (a143 0 8).toInt = (a141 0 8).toInt := by rw [ea143, mU_cell (by decide)]
                    have J10 := J9.put ea143 (by omega) (by omega) (fun q => (P9.1 q).trans (rv_wat _ (by omega)).symm) (fun q => absurd q (by omega))
                    refine qw_iinc (lo' := fun z9 => [some (.inr (.inr (some 0))), some (.inl x1), some (.inl x27), some (.inl x32), some (.inl z9), none, none]) rfl rfl (fun _ => rfl) (by omega) (fun x144 tx144 => ?_)
                    exact qw_gotoD rfl (ih198 x144 a143 b198 (FR.up (FR.tr (hF198) (FR.sub fa141.1 (by decide))) (by decide) ea143) (by omega) (by rw [show x144.toInt.toNat = k.toInt.toNat + 1 from by omega]; exact J10))
                  · skip
                    exact loop235 _ a198 b198 (some (.inl k)) (hF198) (by first | (rw [show (wE t z c 4) = wE t z c k.toInt.toNat from wE_st (k := k.toInt.toNat) (by omega) 4 (by omega)]; exact hJ.any (by omega) (by omega)) | (have e4 : k.toInt.toNat = 4 := (by omega); rw [e4] at hJ; exact hJ))
            exact loop198 _ 0 a57 b22 (FR.tr (FR.up (FR.tr (FR.up (FR.tr (FR.up (FR.tr (FR.up (FR.up (FR.up (FR.up (FR.rf) (by decide) ea7) (by decide) ea24) (by decide) ea30) (by decide) ea33) (FR.sub fa37.1 (by decide))) (by decide) ea39) (FR.sub fa46.1 (by decide))) (by decide) ea48) (FR.sub fa52.1 (by decide))) (by decide) ea54) (FR.sub fa57.1 (by decide))) (by omega) (J8)
          · skip
            have K2v : kdE t z (c + 2) = flt t z (c + 2) 1 := by unfold kdE; rw [if_pos (by omega)]
            refine qw_aload rfl rfl ?_
            refine qw_const rfl ?_
            refine qw_invV (rest := []) rfl rfl rfl rfl rfl (Nat.le_of_ble_eq_true rfl) rfl (y_wrong (d := d0) a24 b22 z N (c + 2) 0 t 1 (by omega) (M2)) (fun v145 h9 hq146 => ?_)
            obtain ⟨a147, rfl, fa147, rfl⟩ := hq146
            show f_pq _ _ (108, [some (.inr (.inr (some 0))), some (.inl x1), some (.inl x27), none, none, none, none], [], mH a147 b22) _
            have WB : MS t z N (c + 2) (eE 0 (flt t z (c + 2) 1)) a147 b22 := fa147.2.2
            rw [eE_0 rfl] at WB
            have PB : ¬ flt t z (c + 2) 1 = 0 := (by have := flt_pos (t := t) (z := z) (c := c + 2) (k := 1) (by decide); omega)
            have f8 := WB.e8
            have QB : rvE t z M (L 0).toNat c = flt t z (c + 2) 1 := by rw [rv_k NN Z1 (by rw [K2v]; exact PB), K2v]
            exact qw_ret rfl ⟨a147, b22, rfl, ⟨FR.tr (FR.up (FR.up (FR.rf) (by decide) ea7) (by decide) ea24) (FR.sub fa147.1 (by decide)), ⟨fun j h7 h8 => by rw [fa147.2.1 j h8, ea24, mU_slot h7, ea7, mU_slot h7], by rw [QB]; exact WB.any PB, fun h => absurd h (by rw [QB]; exact PB), fun j _ => by rw [fa147.1 6 (by decide), ea24, mU_cell (by decide), ea7, mU_cell (by decide)]⟩⟩, rfl⟩
        · exfalso; omega
      · skip
        have K1v : nmE t z M (L 0).toNat (c + 1) = flt t z (c + 1) 3 := by unfold nmE; rw [if_pos Y2, if_pos (by omega)]
        refine qw_aload rfl rfl ?_
        refine qw_const rfl ?_
        refine qw_invV (rest := []) rfl rfl rfl rfl rfl (Nat.le_of_ble_eq_true rfl) rfl (y_wrong (d := d0) a7 b z N (c + 1) 0 t 3 (by omega) (M1)) (fun v148 h9 hq149 => ?_)
        obtain ⟨a150, rfl, fa150, rfl⟩ := hq149
        show f_pq _ _ (58, [some (.inr (.inr (some 0))), some (.inl x1), none, none, none, none, none], [], mH a150 b) _
        have WB : MS t z N (c + 1) (eE 0 (flt t z (c + 1) 3)) a150 b := fa150.2.2
        rw [eE_0 rfl] at WB
        have PB : ¬ flt t z (c + 1) 3 = 0 := (by have := flt_pos (t := t) (z := z) (c := c + 1) (k := 3) (by decide); omega)
        have f8 := WB.e8
        have QB : rvE t z M (L 0).toNat c = flt t z (c + 1) 3 := by rw [rv_n NN (by rw [K1v]; exact PB), K1v]
        refine qw_aload rfl rfl ?_
        refine qw_getI (v := .inl (a150 0 8)) rfl rfl rfl rfl rfl ?_
        refine qw_if_le rfl (fun c151 => ?_) (fun c151 => ?_)
        · exfalso; omega
        · skip
          exact qw_ret rfl ⟨a150, b, rfl, ⟨FR.tr (FR.up (FR.rf) (by decide) ea7) (FR.sub fa150.1 (by decide)), ⟨fun j h7 h8 => by rw [fa150.2.1 j h8, ea7, mU_slot h7], by rw [QB]; exact WB.any PB, fun h => absurd h (by rw [QB]; exact PB), fun j _ => by rw [fa150.1 6 (by decide), ea7, mU_cell (by decide)]⟩⟩, rfl⟩
