theorem y_EX : ∀ d, EXrow d 30 0 ∧ EXrow d 31 2 ∧ EXrow d 32 3 ∧ EXrow d 33 5 ∧ EXrow d 34 7
  | 0 => ⟨EXrow.z, EXrow.z, EXrow.z, EXrow.z, EXrow.z⟩
  | d + 1 => by
    obtain ⟨i0, i2, i3, i5, i7⟩ := y_EX d
    have u : ∀ {m md : Nat}, EXrow d m md → ∀ d0, d + 1 = d0 + 1 → EXrow d0 m md := fun h d0 h0 => by
      have e1 : d = d0 := by omega
      subst e1
      exact h
    exact ⟨fun a b z N c e fm t dd p hp h5 hf h16 hM => y_all_s a b z N c e t fm dd p (u i2) hp h5 hf h16 hM, fun a b z N c e fm t dd p hp h5 hf h16 hM => y_test_s a b z N c e t fm dd p (u i3) hp h5 hf h16 hM, fun a b z N c e fm t dd p hp h5 hf h16 hM => y_sums_s a b z N c e t fm dd p (u i5) hp h5 hf h16 hM, fun a b z N c e fm t dd p hp h5 hf h16 hM => y_products_s a b z N c e t fm dd p (u i7) hp h5 hf h16 hM, fun a b z N c e fm t dd p hp h5 hf h16 hM => y_takePart_s a b z N c e t fm dd p (u i0) (u i7) hp h5 hf h16 hM⟩
set_option maxHeartbeats 2000000 in
set_option maxRecDepth 4000 in
theorem y_readOnce {d : Nat} (a : Nat → Nat → Int32) (b : Nat → Nat → Int64) (z : Nat) (N : Nat) (c : Nat) (e : Int) (t : Nat → Int32) (L : Nat → Int) (M : Nat → Int64) (o : Nat → Bool) (hM : MS t z N c e a b) (he : e = 0) (hn0 : ¬ tkW t z c 0) (hn9 : ¬ tkW t z c 9) (hL : LR L a) (hO : OB o (a 0 17)) : f_pc mtM d 26 [.inr (.inr (some 0))] (mH a b) (fun v9 h' => ∃ (a' : Nat → Nat → Int32), h' = mH a' b ∧ (FR [0, 6, 7, 8] a a' ∧ ((∀ j, j ≠ 7 → j ≠ 8 → j ≠ 13 → j ≠ 16 → j ≠ 17 → a' 0 j = a 0 j) ∧ (∀ j, j < 110 → a' 6 j = a 6 j) ∧ ∃ r : Int × LDS, LNL t z (c, L, M, o) r ∧ MS t z N r.2.1 r.1 a' b ∧ (r.1 = 0 → LR r.2.2.1 a' ∧ r.2.2.2.1 = M ∧ OB r.2.2.2.2 (a' 0 17) ∧ r.2.2.1 0 = L 0 ∧ r.2.2.1 1 = L 1))) ∧ v9 = none) := by
  refine f_pc_of rfl (fun d0 fu hd => ?_)
  show f_pq _ _ (0, [some (.inr (.inr (some 0))), none], [], mH a b) _
  have lm1 : (-1 : Int32).toInt = -1 := rfl
  have l0 : (0 : Int32).toInt = 0 := rfl
  have l1 : (1 : Int32).toInt = 1 := rfl
  have l2 : (2 : Int32).toInt = 2 := rfl
  have l3 : (3 : Int32).toInt = 3 := rfl
  have l4 : (4 : Int32).toInt = 4 := rfl
  have l9 : (9 : Int32).toInt = 9 := rfl
  have l10 : (10 : Int32).toInt = 10 := rfl
  have l11 : (11 : Int32).toInt = 11 := rfl
  have l12 : (12 : Int32).toInt = 12 := rfl
  have l13 : (13 : Int32).toInt = 13 := rfl
  have l14 : (14 : Int32).toInt = 14 := rfl
  have l15 : (15 : Int32).toInt = 15 := rfl
  have l99 : (99 : Int32).toInt = 99 := rfl
  have l112 : (112 : Int32).toInt = 112 := rfl
  have l113 : (113 : Int32).toInt = 113 := rfl
  have l114 : (114 : Int32).toInt = 114 := rfl
  have l115 : (115 : Int32).toInt = 115 := rfl
  refine qw_aload rfl rfl ?_
  refine qw_const rfl ?_
  refine qw_invV (rest := []) rfl rfl rfl rfl rfl (Nat.le_of_ble_eq_true rfl) rfl (y_isWord (d := d0) a b z N c e t 11 11 (⟨by decide, by decide⟩) (by omega)) (fun v1 h9 hq2 => ?_)
  obtain ⟨rfl, x3, rfl, px3⟩ := hq2
  show f_pq _ _ (6, [some (.inr (.inr (some 0))), none], [.inl x3], mH a b) _
  have P1 := px3
  have loop54 : ∀ (fuJ54 : Nat) (wh : Int32) , (wh.toInt = onW t z c) → f_pq (f_code (t_X13_readOnce (f_ev mtM d0))) fuJ54 (54, [some (.inr (.inr (some 0))), some (.inl wh)], [], mH a b) (fun v9 h' => ∃ (a' : Nat → Nat → Int32), h' = mH a' b ∧ (FR [0, 6, 7, 8] a a' ∧ ((∀ j, j ≠ 7 → j ≠ 8 → j ≠ 13 → j ≠ 16 → j ≠ 17 → a' 0 j = a 0 j) ∧ (∀ j, j < 110 → a' 6 j = a 6 j) ∧ ∃ r : Int × LDS, LNL t z (c, L, M, o) r ∧ MS t z N r.2.1 r.1 a' b ∧ (r.1 = 0 → LR r.2.2.1 a' ∧ r.2.2.2.1 = M ∧ OB r.2.2.2.2 (a' 0 17) ∧ r.2.2.1 0 = L 0 ∧ r.2.2.1 1 = L 1))) ∧ v9 = none) := by
    intro fuJ54 wh  hw
    · skip
      have ow := onW_rng (t := t) (z := z) (c := c)
      refine qw_iload rfl rfl ?_
      have loop83 : ∀ (fuJ83 : Nat) (wh : Int32) (a83 : Nat → Nat → Int32) ,  FR [0, 6, 7, 8] a a83 →(wh.toInt = onW t z c) → (∃ g : Int, MS t z N c g a83 b ∧ (∀ j, j ≠ 8 → a83 0 j = a 0 j) ∧ a83 6 = a 6 ∧ (g = 0 → 0 ≤ onW t z c ∧ ¬ o (onW t z c).toNat = true) ∧ (¬ g = 0 → LNL t z (c, L, M, o) (g, c, L, M, o))) → f_pq (f_code (t_X13_readOnce (f_ev mtM d0))) fuJ83 (83, [some (.inr (.inr (some 0))), some (.inl wh)], [], mH a83 b) (fun v9 h' => ∃ (a' : Nat → Nat → Int32), h' = mH a' b ∧ (FR [0, 6, 7, 8] a a' ∧ ((∀ j, j ≠ 7 → j ≠ 8 → j ≠ 13 → j ≠ 16 → j ≠ 17 → a' 0 j = a 0 j) ∧ (∀ j, j < 110 → a' 6 j = a 6 j) ∧ ∃ r : Int × LDS, LNL t z (c, L, M, o) r ∧ MS t z N r.2.1 r.1 a' b ∧ (r.1 = 0 → LR r.2.2.1 a' ∧ r.2.2.2.1 = M ∧ OB r.2.2.2.2 (a' 0 17) ∧ r.2.2.1 0 = L 0 ∧ r.2.2.1 1 = L 1))) ∧ v9 = none) := by
        intro fuJ83 wh a83  hF83 hw hV
        · skip
          obtain ⟨g, h1, hK, hA6, h3, h4⟩ := hV
          have f8 := h1.e8
          refine qw_aload rfl rfl ?_
          refine qw_getI (v := .inl (a83 0 8)) rfl rfl rfl rfl rfl ?_
          refine qw_if_le rfl (fun c4 => ?_) (fun c4 => ?_)
          · skip
            have hQ := h3 (by omega)
            have h1 := h1.zero (by omega)
            have m7 := h1.at
            refine qw_aload rfl rfl ?_
            refine qw_dup rfl rfl ?_
            refine qw_getI (v := .inl (a83 0 17)) rfl rfl rfl rfl rfl ?_
            refine qw_const rfl ?_
            refine qw_iload rfl rfl ?_
            refine qw_iiE rfl (fun x5 tx5 => ?_)
            have b3 := tx5
            refine qw_iiE rfl (fun x6 tx6 => ?_)
            have b4 : x6 = ((a83 0 17) ||| ((1 : Int32) <<< (wh &&& 31))) := by rw [tx6, b3]
            refine qm_putI (z := false) rfl rfl rfl rfl (by first | (intro h9; cases h9; done) | (intro _; first | exact Or.inl rfl | exact Or.inr rfl | assumption)) (fun a7 ea7 => ?_)
            have ua7_8 : (a7 0 8).toInt = (a83 0 8).toInt := by rw [ea7, mU_slot (by decide)]
            have ua7_17 : a7 0 17 = x6 := by rw [ea7, mU_same]
            have wa7_17 := congrArg Int32.toInt ua7_17
            have O9 : OB (upO o (onW t z c).toNat) (a7 0 17) := by rw [ea7, mU_same]; exact OB.set (x := a83 0 17) (by rw [hK 17 (by decide)]; exact hO) (by omega) (w := wh) (by omega) b4
            have M2 := h1.keep (a' := a7) (by rw [ea7, mU_cell (by decide)]) (by rw [ea7, mU_cell (by decide)]) (by rw [ea7, mU_slot (by decide)]) (by rw [ea7, mU_slot (by decide)])
            have m6 := M2.at
            refine qw_aload rfl rfl ?_
            refine qw_dup rfl rfl ?_
            refine qw_getI (v := .inl (a7 0 7)) rfl rfl rfl rfl rfl ?_
            refine qw_const rfl ?_
            first | refine qw_iadd rfl (by omega) (fun x8 tx8 => ?_) | refine qw_iiU rfl (fun x8 tx8 => ?_)
            refine qm_putI (z := false) rfl rfl rfl rfl (by first | (intro h9; cases h9; done) | (intro _; first | exact Or.inl rfl | exact Or.inr rfl | assumption)) (fun a9 ea9 => ?_)
            have ua9_7 : a9 0 7 = x8 := by rw [ea9, mU_same]
            have wa9_7 := congrArg Int32.toInt ua9_7
            have ua9_8 : (a9 0 8).toInt = (a7 0 8).toInt := by rw [ea9, mU_slot (by decide)]
            have ua9_17 : (a9 0 17).toInt = (a7 0 17).toInt := by rw [ea9, mU_slot (by decide)]
            have M3 := M2.adv rfl (onW_k hQ.1) ea9 (by omega)
            have O9 : OB (upO o (onW t z c).toNat) (a9 0 17) := by rw [ea9, mU_slot (by decide)]; exact O9
            have L9 : LR L a9 := (hL.same hA6).same (by rw [ea9, mU_cell (by decide), ea7, mU_cell (by decide)])
            refine qw_iload rfl rfl ?_
            refine qw_if_ne rfl (fun c10 => ?_) (fun c10 => ?_)
            · skip
              have o0 : (onW t z c).toNat = 0 := by omega
              rw [o0] at O9
              refine qw_aload rfl rfl ?_
              refine qw_getR (v := .inr (.inr (some 6))) rfl rfl rfl rfl rfl ?_
              refine qw_const rfl ?_
              refine qw_aload rfl rfl ?_
              refine qw_const rfl ?_
              refine qw_const rfl ?_
              refine qw_invV (rest := [.inl 112, .inr (.inr (some 6))]) rfl rfl rfl rfl rfl (Nat.le_of_ble_eq_true rfl) rfl (y_takeNumber (d := d0) a9 b z N (c + 1) 0 t 0 9 (M3)) (fun v11 h9 hq12 => ?_)
              obtain ⟨a13, rfl, fa13, x14, rfl, px14⟩ := hq12
              show f_pq _ _ (130, [some (.inr (.inr (some 0))), some (.inl wh)], [.inl x14, .inl 112, .inr (.inr (some 6))], mH a13 b) _
              have P5 : eE 0 (tkN t z (c + 1) 0 9) = 0 → x14.toInt = nvT t z (c + 1) := px14.1
              have W4 : MS t z N (c + 2) (tkN t z (c + 1) 0 9) a13 b := by have h9 := fa13.2.2; rw [eE_0 rfl] at h9; exact h9
              have L4 := L9.same (fa13.1 6 (by decide))
              refine qm_iast rfl rfl (fun ja15 a15 ea15 => ?_)
              have ua15_7 : (a15 0 7).toInt = (a13 0 7).toInt := by rw [ea15, mU_cell (by decide)]
              have ua15_8 : (a15 0 8).toInt = (a13 0 8).toInt := by rw [ea15, mU_cell (by decide)]
              have ua15_17 : (a15 0 17).toInt = (a13 0 17).toInt := by rw [ea15, mU_cell (by decide)]
              have W5 := W4.keep (a' := a15) (by rw [ea15, mU_cell (by decide)]) (by rw [ea15, mU_cell (by decide)]) (by rw [ea15, mU_cell (by decide)]) (by rw [ea15, mU_cell (by decide)])
              have L5 := L4.put ea15 (k := 2) (by decide)
              refine qw_goto rfl ?_
              exact qw_ret rfl ⟨a15, rfl, ⟨FR.up (FR.tr (FR.up (FR.up (hF83) (by decide) ea7) (by decide) ea9) (FR.sub fa13.1 (by decide))) (by decide) ea15, ⟨fun j h7 h8 h13 h16 h17 => by rw [ea15, mU_cell (by decide), fa13.2.1 j h7 h8, ea9, mU_slot h7, ea7, mU_slot h17]; exact hK j h8, fun j hj => by rw [ea15, mU_slot (by omega), fa13.1 6 (by decide), ea9, mU_cell (by decide), ea7, mU_cell (by decide), hA6], ⟨(tkN t z (c + 1) 0 9, c + 2, upI L 2 (nvT t z (c + 1)), M, upO o 0), ln_k hn0 hn9 hQ.2 (by show onW t z c = 0; omega), W5, fun h => ⟨by have V := P5 (by rw [eE_0 rfl]; exact h); show LR (upI L 2 (nvT t z (c + 1))) _; rw [← V]; exact L5, rfl, by show OB (upO o 0) (a15 0 17); rw [ea15, mU_cell (by decide), fa13.2.1 17 (by decide) (by decide)]; exact O9, rfl, rfl⟩⟩⟩⟩, rfl⟩
            · skip
              refine qw_iload rfl rfl ?_
              refine qw_const rfl ?_
              refine qw_ic_ne rfl (fun c16 => ?_) (fun c16 => ?_)
              · skip
                have o1 : (onW t z c).toNat = 1 := by omega
                rw [o1] at O9
                refine qw_aload rfl rfl ?_
                refine qw_getR (v := .inr (.inr (some 6))) rfl rfl rfl rfl rfl ?_
                refine qw_const rfl ?_
                refine qw_aload rfl rfl ?_
                refine qw_const rfl ?_
                refine qw_const rfl ?_
                refine qw_invV (rest := [.inl 113, .inr (.inr (some 6))]) rfl rfl rfl rfl rfl (Nat.le_of_ble_eq_true rfl) rfl (y_takeNumber (d := d0) a9 b z N (c + 1) 0 t 0 10 (M3)) (fun v17 h9 hq18 => ?_)
                obtain ⟨a19, rfl, fa19, x20, rfl, px20⟩ := hq18
                show f_pq _ _ (152, [some (.inr (.inr (some 0))), some (.inl wh)], [.inl x20, .inl 113, .inr (.inr (some 6))], mH a19 b) _
                have P5 : eE 0 (tkN t z (c + 1) 0 10) = 0 → x20.toInt = nvT t z (c + 1) := px20.1
                have W4 : MS t z N (c + 2) (tkN t z (c + 1) 0 10) a19 b := by have h9 := fa19.2.2; rw [eE_0 rfl] at h9; exact h9
                have L4 := L9.same (fa19.1 6 (by decide))
                refine qm_iast rfl rfl (fun ja21 a21 ea21 => ?_)
                have ua21_7 : (a21 0 7).toInt = (a19 0 7).toInt := by rw [ea21, mU_cell (by decide)]
                have ua21_8 : (a21 0 8).toInt = (a19 0 8).toInt := by rw [ea21, mU_cell (by decide)]
                have ua21_17 : (a21 0 17).toInt = (a19 0 17).toInt := by rw [ea21, mU_cell (by decide)]
                have W5 := W4.keep (a' := a21) (by rw [ea21, mU_cell (by decide)]) (by rw [ea21, mU_cell (by decide)]) (by rw [ea21, mU_cell (by decide)]) (by rw [ea21, mU_cell (by decide)])
                have L5 := L4.put ea21 (k := 3) (by decide)
                refine qw_aload rfl rfl ?_
                refine qw_getR (v := .inr (.inr (some 6))) rfl rfl rfl rfl rfl ?_
                refine qw_const rfl ?_
                refine qw_aload rfl rfl ?_
                refine qw_const rfl ?_
                refine qw_const rfl ?_
                refine qw_const rfl ?_
                refine qw_invV (rest := [.inl 114, .inr (.inr (some 6))]) rfl rfl rfl rfl rfl (Nat.le_of_ble_eq_true rfl) rfl (y_takeAfter (d := d0) a21 b z N (c + 2) (tkN t z (c + 1) 0 10) t 13 13 0 99 (⟨by decide, by decide⟩) (W5)) (fun v22 h9 hq23 => ?_)
                obtain ⟨a24, rfl, fa24, x25, rfl, px25⟩ := hq23
                show f_pq _ _ (168, [some (.inr (.inr (some 0))), some (.inl wh)], [.inl x25, .inl 114, .inr (.inr (some 6))], mH a24 b) _
                have P7 : eE (eE (tkN t z (c + 1) 0 10) (xW t z (c + 2) 13)) (tkN t z (c + 3) 0 99) = 0 → x25.toInt = nvT t z (c + 3) := px25.1
                have W6 : MS t z N (c + 4) (eE (eE (tkN t z (c + 1) 0 10) (xW t z (c + 2) 13)) (tkN t z (c + 3) 0 99)) a24 b := fa24.2.2
                have L6 := L5.same (fa24.1 6 (by decide))
                refine qm_iast rfl rfl (fun ja26 a26 ea26 => ?_)
                have ua26_7 : (a26 0 7).toInt = (a24 0 7).toInt := by rw [ea26, mU_cell (by decide)]
                have ua26_8 : (a26 0 8).toInt = (a24 0 8).toInt := by rw [ea26, mU_cell (by decide)]
                have ua26_17 : (a26 0 17).toInt = (a24 0 17).toInt := by rw [ea26, mU_cell (by decide)]
                have W7 := W6.keep (a' := a26) (by rw [ea26, mU_cell (by decide)]) (by rw [ea26, mU_cell (by decide)]) (by rw [ea26, mU_cell (by decide)]) (by rw [ea26, mU_cell (by decide)])
                have L7 := L6.put ea26 (k := 4) (by decide)
                refine qw_goto rfl ?_
                exact qw_ret rfl ⟨a26, rfl, ⟨FR.up (FR.tr (FR.up (FR.tr (FR.up (FR.up (hF83) (by decide) ea7) (by decide) ea9) (FR.sub fa19.1 (by decide))) (by decide) ea21) (FR.sub fa24.1 (by decide))) (by decide) ea26, ⟨fun j h7 h8 h13 h16 h17 => by rw [ea26, mU_cell (by decide), fa24.2.1 j h7 h8, ea21, mU_cell (by decide), fa19.2.1 j h7 h8, ea9, mU_slot h7, ea7, mU_slot h17]; exact hK j h8, fun j hj => by rw [ea26, mU_slot (by omega), fa24.1 6 (by decide), ea21, mU_slot (by omega), fa19.1 6 (by decide), ea9, mU_cell (by decide), ea7, mU_cell (by decide), hA6], ⟨(fz [tkN t z (c + 1) 0 10, xW t z (c + 2) 13, tkN t z (c + 3) 0 99], c + 4, upI (upI L 3 (nvT t z (c + 1))) 4 (nvT t z (c + 3)), M, upO o 1), ln_s hn0 hn9 hQ.2 (by show onW t z c = 1; omega), by show MS t z N (c + 4) (fz [tkN t z (c + 1) 0 10, xW t z (c + 2) 13, tkN t z (c + 3) 0 99]) _ _; rw [fz3]; exact W7, fun h => ⟨by have h9 : fz [tkN t z (c + 1) 0 10, xW t z (c + 2) 13, tkN t z (c + 3) 0 99] = 0 := h; rw [fz3] at h9; have q1 := eE_z (eE_z h9).1; have V := P5 (by rw [eE_0 rfl]; exact q1.1); have V2 := P7 h9; show LR (upI (upI L 3 (nvT t z (c + 1))) 4 (nvT t z (c + 3))) _; rw [← V, ← V2]; exact L7, rfl, by show OB (upO o 1) (a26 0 17); rw [ea26, mU_cell (by decide), fa24.2.1 17 (by decide) (by decide), ea21, mU_cell (by decide), fa19.2.1 17 (by decide) (by decide)]; exact O9, rfl, rfl⟩⟩⟩⟩, rfl⟩
              · skip
                refine qw_aload rfl rfl ?_
                refine qw_getR (v := .inr (.inr (some 6))) rfl rfl rfl rfl rfl ?_
                refine qw_const rfl ?_
                refine qw_iload rfl rfl ?_
                first | refine qw_iadd rfl (by omega) (fun x27 tx27 => ?_) | refine qw_iiU rfl (fun x27 tx27 => ?_)
                refine qw_const rfl ?_
                first | refine qw_isub rfl (by omega) (fun x28 tx28 => ?_) | refine qw_iiU rfl (fun x28 tx28 => ?_)
                refine qw_aload rfl rfl ?_
                refine qw_getI (v := .inl (a9 0 13)) rfl rfl rfl rfl rfl ?_
                refine qm_iast rfl rfl (fun ja29 a29 ea29 => ?_)
                have ua29_7 : (a29 0 7).toInt = (a9 0 7).toInt := by rw [ea29, mU_cell (by decide)]
                have ua29_8 : (a29 0 8).toInt = (a9 0 8).toInt := by rw [ea29, mU_cell (by decide)]
                have ua29_13 : (a29 0 13).toInt = (a9 0 13).toInt := by rw [ea29, mU_cell (by decide)]
                have ua29_17 : (a29 0 17).toInt = (a9 0 17).toInt := by rw [ea29, mU_cell (by decide)]
                have W4 := M3.keep (a' := a29) (by rw [ea29, mU_cell (by decide)]) (by rw [ea29, mU_cell (by decide)]) (by rw [ea29, mU_cell (by decide)]) (by rw [ea29, mU_cell (by decide)])
                have L8 : LR L a29 := fun j q1 q2 => by rw [ea29, mU_slot (by omega)]; exact L9 j q1 q2
                refine qw_aload rfl rfl ?_
                refine qw_iload rfl rfl ?_
                refine qw_const rfl ?_
                refine qw_ic_ne rfl (fun c30 => ?_) (fun c30 => ?_)
                · skip
                  have F9 : (4 : Int) = if (onW t z c).toNat = 2 then 4 else 2 := by rw [if_pos (by omega)]
                  refine qw_const rfl ?_
                  refine qw_goto rfl ?_
                  refine qm_putI (z := false) rfl rfl rfl rfl (by first | (intro h9; cases h9; done) | (intro _; first | exact Or.inl rfl | exact Or.inr rfl | assumption)) (fun a31 ea31 => ?_)
                  have ua31_7 : (a31 0 7).toInt = (a29 0 7).toInt := by rw [ea31, mU_slot (by decide)]
                  have ua31_8 : (a31 0 8).toInt = (a29 0 8).toInt := by rw [ea31, mU_slot (by decide)]
                  have ua31_13 : (a31 0 13).toInt = (a29 0 13).toInt := by rw [ea31, mU_slot (by decide)]
                  have ua31_16 : a31 0 16 = (4 : Int32) := by rw [ea31, mU_same]
                  have wa31_16 := congrArg Int32.toInt ua31_16
                  have ua31_17 : (a31 0 17).toInt = (a29 0 17).toInt := by rw [ea31, mU_slot (by decide)]
                  have W5 := W4.keep (a' := a31) (by rw [ea31, mU_cell (by decide)]) (by rw [ea31, mU_cell (by decide)]) (by rw [ea31, mU_slot (by decide)]) (by rw [ea31, mU_slot (by decide)])
                  have L9 := L8.same (a' := a31) (by rw [ea31, mU_cell (by decide)])
                  have O9 : OB (upO o (onW t z c).toNat) (a31 0 17) := by rw [ea31, mU_slot (by decide), ea29, mU_cell (by decide)]; exact O9
                  refine qw_aload rfl rfl ?_
                  refine qw_const rfl ?_
                  refine qw_invV (rest := []) rfl rfl rfl rfl rfl (Nat.le_of_ble_eq_true rfl) rfl ((y_EX d0).1 a31 b z N (c + 1) 0 4 t 0 (0 : Int32) rfl (by decide) (Or.inr rfl) (by rw [ea31, mU_same]; rfl) W5) (fun v32 h9 hq33 => ?_)
                  obtain ⟨a34, rfl, fa34, rfl⟩ := hq33
                  show f_pq _ _ (206, [some (.inr (.inr (some 0))), some (.inl wh)], [], mH a34 b) _
                  obtain ⟨r2, k1, -, k3⟩ := fa34.2.2
                  refine qw_aload rfl rfl ?_
                  refine qw_const rfl ?_
                  refine qw_const rfl ?_
                  refine qw_invV (rest := []) rfl rfl rfl rfl rfl (Nat.le_of_ble_eq_true rfl) rfl (y_emit (d := d0) a34 b  0 0 ) (fun v35 h9 hq36 => ?_)
                  obtain ⟨a37, rfl, fa37, rfl⟩ := hq36
                  show f_pq _ _ (212, [some (.inr (.inr (some 0))), some (.inl wh)], [], mH a37 b) _
                  exact qw_ret rfl ⟨a37, rfl, ⟨FR.tr (FR.tr (FR.up (FR.up (FR.up (FR.up (hF83) (by decide) ea7) (by decide) ea9) (by decide) ea29) (by decide) ea31) (FR.sub fa34.1 (by decide))) (FR.sub fa37.1 (by decide)), ⟨fun j h7 h8 h13 h16 h17 => by rw [fa37.2 j h13, fa34.2.1 j h7 h8 h13, ea31, mU_slot h16, ea29, mU_cell (by decide), ea9, mU_slot h7, ea7, mU_slot h17]; exact hK j h8, fun j hj => by rw [fa37.1 6 (by decide), fa34.1 6 (by decide), ea31, mU_cell (by decide), ea29, mU_slot (by omega), ea9, mU_cell (by decide), ea7, mU_cell (by decide), hA6], ⟨(r2.1, r2.2, L, M, upO o (onW t z c).toNat), ln_e hn0 hn9 hQ.2 (w := (onW t z c).toNat) (by show onW t z c = ((onW t z c).toNat : Nat); omega) (by omega) F9 (k1 rfl), k3.keep (fa37.1 2 (by decide)) (fa37.1 3 (by decide)) (fa37.2 8 (by decide)) (fa37.2 7 (by decide)), fun _ => ⟨(L9.same (fa34.1 6 (by decide))).same (fa37.1 6 (by decide)), rfl, by show OB _ (a37 0 17); rw [fa37.2 17 (by decide), fa34.2.1 17 (by decide) (by decide) (by decide)]; exact O9, rfl, rfl⟩⟩⟩⟩, rfl⟩
                · skip
                  have F9 : (2 : Int) = if (onW t z c).toNat = 2 then 4 else 2 := by rw [if_neg (by omega)]
                  refine qw_const rfl ?_
                  refine qm_putI (z := false) rfl rfl rfl rfl (by first | (intro h9; cases h9; done) | (intro _; first | exact Or.inl rfl | exact Or.inr rfl | assumption)) (fun a38 ea38 => ?_)
                  have ua38_7 : (a38 0 7).toInt = (a29 0 7).toInt := by rw [ea38, mU_slot (by decide)]
                  have ua38_8 : (a38 0 8).toInt = (a29 0 8).toInt := by rw [ea38, mU_slot (by decide)]
                  have ua38_13 : (a38 0 13).toInt = (a29 0 13).toInt := by rw [ea38, mU_slot (by decide)]
                  have ua38_16 : a38 0 16 = (2 : Int32) := by rw [ea38, mU_same]
                  have wa38_16 := congrArg Int32.toInt ua38_16
                  have ua38_17 : (a38 0 17).toInt = (a29 0 17).toInt := by rw [ea38, mU_slot (by decide)]
                  have W5 := W4.keep (a' := a38) (by rw [ea38, mU_cell (by decide)]) (by rw [ea38, mU_cell (by decide)]) (by rw [ea38, mU_slot (by decide)]) (by rw [ea38, mU_slot (by decide)])
                  have L9 := L8.same (a' := a38) (by rw [ea38, mU_cell (by decide)])
                  have O9 : OB (upO o (onW t z c).toNat) (a38 0 17) := by rw [ea38, mU_slot (by decide), ea29, mU_cell (by decide)]; exact O9
                  refine qw_aload rfl rfl ?_
                  refine qw_const rfl ?_
                  refine qw_invV (rest := []) rfl rfl rfl rfl rfl (Nat.le_of_ble_eq_true rfl) rfl ((y_EX d0).1 a38 b z N (c + 1) 0 2 t 0 (0 : Int32) rfl (by decide) (Or.inl rfl) (by rw [ea38, mU_same]; rfl) W5) (fun v39 h9 hq40 => ?_)
                  obtain ⟨a41, rfl, fa41, rfl⟩ := hq40
                  show f_pq _ _ (206, [some (.inr (.inr (some 0))), some (.inl wh)], [], mH a41 b) _
                  obtain ⟨r2, k1, -, k3⟩ := fa41.2.2
                  refine qw_aload rfl rfl ?_
                  refine qw_const rfl ?_
                  refine qw_const rfl ?_
                  refine qw_invV (rest := []) rfl rfl rfl rfl rfl (Nat.le_of_ble_eq_true rfl) rfl (y_emit (d := d0) a41 b  0 0 ) (fun v42 h9 hq43 => ?_)
                  obtain ⟨a44, rfl, fa44, rfl⟩ := hq43
                  show f_pq _ _ (212, [some (.inr (.inr (some 0))), some (.inl wh)], [], mH a44 b) _
                  exact qw_ret rfl ⟨a44, rfl, ⟨FR.tr (FR.tr (FR.up (FR.up (FR.up (FR.up (hF83) (by decide) ea7) (by decide) ea9) (by decide) ea29) (by decide) ea38) (FR.sub fa41.1 (by decide))) (FR.sub fa44.1 (by decide)), ⟨fun j h7 h8 h13 h16 h17 => by rw [fa44.2 j h13, fa41.2.1 j h7 h8 h13, ea38, mU_slot h16, ea29, mU_cell (by decide), ea9, mU_slot h7, ea7, mU_slot h17]; exact hK j h8, fun j hj => by rw [fa44.1 6 (by decide), fa41.1 6 (by decide), ea38, mU_cell (by decide), ea29, mU_slot (by omega), ea9, mU_cell (by decide), ea7, mU_cell (by decide), hA6], ⟨(r2.1, r2.2, L, M, upO o (onW t z c).toNat), ln_e hn0 hn9 hQ.2 (w := (onW t z c).toNat) (by show onW t z c = ((onW t z c).toNat : Nat); omega) (by omega) F9 (k1 rfl), k3.keep (fa44.1 2 (by decide)) (fa44.1 3 (by decide)) (fa44.2 8 (by decide)) (fa44.2 7 (by decide)), fun _ => ⟨(L9.same (fa41.1 6 (by decide))).same (fa44.1 6 (by decide)), rfl, by show OB _ (a44 0 17); rw [fa44.2 17 (by decide), fa41.2.1 17 (by decide) (by decide) (by decide)]; exact O9, rfl, rfl⟩⟩⟩⟩, rfl⟩
          · skip
            exact qw_ret rfl ⟨a83, rfl, ⟨hF83, ⟨fun j _ h8 _ _ _ => hK j h8, fun j hj => by rw [hA6], ⟨(g, c, L, M, o), h4 (by omega), h1, fun h => absurd h (by show ¬ g = 0; omega)⟩⟩⟩, rfl⟩
      refine qw_if_ge rfl (fun c45 => ?_) (fun c45 => ?_)
      · skip
        refine qw_aload rfl rfl ?_
        refine qw_getI (v := .inl (a 0 17)) rfl rfl rfl rfl rfl ?_
        refine qw_iload rfl rfl ?_
        refine qw_iiE rfl (fun x46 tx46 => ?_)
        have b1 := tx46
        refine qw_const rfl ?_
        refine qw_iiE rfl (fun x47 tx47 => ?_)
        have b2 : x47 = ((a 0 17) >>> (wh &&& 31)) &&& 1 := by rw [tx47, b1]
        refine qw_const rfl ?_
        refine qw_ic_ne rfl (fun c48 => ?_) (fun c48 => ?_)
        · skip
          have B8 : (((a 0 17) >>> (wh &&& 31)) &&& 1).toInt = 1 := by rw [← b2]; exact c48
          refine qw_aload rfl rfl ?_
          refine qw_const rfl ?_
          refine qw_invV (rest := []) rfl rfl rfl rfl rfl (Nat.le_of_ble_eq_true rfl) rfl (y_wrong (d := d0) a b z N c e t 3 (by omega) (by omega)) (fun v49 h9 hq50 => ?_)
          obtain ⟨a51, rfl, fa51, rfl⟩ := hq50
          show f_pq _ _ (83, [some (.inr (.inr (some 0))), some (.inl wh)], [], mH a51 b) _
          have W9 : ∃ g : Int, MS t z N c g a51 b ∧ (∀ j, j ≠ 8 → a51 0 j = a 0 j) ∧ a51 6 = a 6 ∧ (g = 0 → 0 ≤ onW t z c ∧ ¬ o (onW t z c).toNat = true) ∧ (¬ g = 0 → LNL t z (c, L, M, o) (g, c, L, M, o)) := ⟨flt t z c 3, by have h9 := fa51.2.2; rw [eE_0 he] at h9; exact h9, fa51.2.1, fa51.1 6 (by decide), fun h => absurd h (by have := flt_pos (t := t) (z := z) (c := c) (k := 3) (by decide); omega), fun _ => ln_3 hn0 hn9 (by show ¬ onW t z c < 0; omega) ((hO.get (i := (onW t z c).toNat) (w := wh) (by omega) (by omega)).mp B8)⟩
          exact loop83 _ wh a51 (FR.tr (FR.rf) (FR.sub fa51.1 (by decide))) (hw) (W9)
        · skip
          have B9 : ¬ (((a 0 17) >>> (wh &&& 31)) &&& 1).toInt = 1 := by rw [← b2]; exact c48
          exact loop83 _ wh a (FR.rf) (hw) (⟨0, hM.zero he, fun _ _ => rfl, rfl, fun _ => ⟨by omega, fun q => B9 ((hO.get (i := (onW t z c).toNat) (w := wh) (by omega) (by omega)).mpr q)⟩, fun h => absurd rfl h⟩)
      · skip
        refine qw_aload rfl rfl ?_
        refine qw_const rfl ?_
        refine qw_invV (rest := []) rfl rfl rfl rfl rfl (Nat.le_of_ble_eq_true rfl) rfl (y_wrong (d := d0) a b z N c e t 1 (by omega) (by omega)) (fun v52 h9 hq53 => ?_)
        obtain ⟨a54, rfl, fa54, rfl⟩ := hq53
        show f_pq _ _ (63, [some (.inr (.inr (some 0))), some (.inl wh)], [], mH a54 b) _
        have W9 : ∃ g : Int, MS t z N c g a54 b ∧ (∀ j, j ≠ 8 → a54 0 j = a 0 j) ∧ a54 6 = a 6 ∧ (g = 0 → 0 ≤ onW t z c ∧ ¬ o (onW t z c).toNat = true) ∧ (¬ g = 0 → LNL t z (c, L, M, o) (g, c, L, M, o)) := ⟨flt t z c 1, by have h9 := fa54.2.2; rw [eE_0 he] at h9; exact h9, fa54.2.1, fa54.1 6 (by decide), fun h => absurd h (by have := flt_pos (t := t) (z := z) (c := c) (k := 1) (by decide); omega), fun _ => ln_1 hn0 hn9 (by show onW t z c < 0; omega)⟩
        refine qw_goto rfl ?_
        exact loop83 _ wh a54 (FR.tr (FR.rf) (FR.sub fa54.1 (by decide))) (hw) (W9)
  refine qw_if_eq rfl (fun c55 => ?_) (fun c55 => ?_)
  · skip
    have N11 : ¬ tkW t z c 11 := by rcases P1 with h | h; omega; exact fun J => h.2 ⟨he, J⟩
    refine qw_aload rfl rfl ?_
    refine qw_const rfl ?_
    refine qw_invV (rest := []) rfl rfl rfl rfl rfl (Nat.le_of_ble_eq_true rfl) rfl (y_isWord (d := d0) a b z N c e t 12 12 (⟨by decide, by decide⟩) (by omega)) (fun v56 h9 hq57 => ?_)
    obtain ⟨rfl, x58, rfl, px58⟩ := hq57
    show f_pq _ _ (19, [some (.inr (.inr (some 0))), none], [.inl x58], mH a b) _
    have P2 := px58
    refine qw_if_eq rfl (fun c59 => ?_) (fun c59 => ?_)
    · skip
      have N12 : ¬ tkW t z c 12 := by rcases P2 with h | h; omega; exact fun J => h.2 ⟨he, J⟩
      refine qw_aload rfl rfl ?_
      refine qw_const rfl ?_
      refine qw_invV (rest := []) rfl rfl rfl rfl rfl (Nat.le_of_ble_eq_true rfl) rfl (y_isWord (d := d0) a b z N c e t 14 14 (⟨by decide, by decide⟩) (by omega)) (fun v60 h9 hq61 => ?_)
      obtain ⟨rfl, x62, rfl, px62⟩ := hq61
      show f_pq _ _ (32, [some (.inr (.inr (some 0))), none], [.inl x62], mH a b) _
      have P3 := px62
      refine qw_if_eq rfl (fun c63 => ?_) (fun c63 => ?_)
      · skip
        have N14 : ¬ tkW t z c 14 := by rcases P3 with h | h; omega; exact fun J => h.2 ⟨he, J⟩
        refine qw_aload rfl rfl ?_
        refine qw_const rfl ?_
        refine qw_invV (rest := []) rfl rfl rfl rfl rfl (Nat.le_of_ble_eq_true rfl) rfl (y_isWord (d := d0) a b z N c e t 15 15 (⟨by decide, by decide⟩) (by omega)) (fun v64 h9 hq65 => ?_)
        obtain ⟨rfl, x66, rfl, px66⟩ := hq65
        show f_pq _ _ (45, [some (.inr (.inr (some 0))), none], [.inl x66], mH a b) _
        have P4 := px66
        refine qw_if_eq rfl (fun c67 => ?_) (fun c67 => ?_)
        · skip
          have N15 : ¬ tkW t z c 15 := by rcases P4 with h | h; omega; exact fun J => h.2 ⟨he, J⟩
          refine qw_const rfl ?_
          refine qw_istore (lo' := [some (.inr (.inr (some 0))), some (.inl (-1))]) rfl rfl ?_
          exact loop54 _ (-1)  (by unfold onW; first | (rw [if_pos W11]; rfl) | (rw [if_neg N11, if_pos W12]; rfl) | (rw [if_neg N11, if_neg N12, if_pos W14]; rfl) | (rw [if_neg N11, if_neg N12, if_neg N14, if_pos W15]; rfl) | (rw [if_neg N11, if_neg N12, if_neg N14, if_neg N15]; rfl))
        · skip
          have W15 : tkW t z c 15 := by rcases P4 with h | h; exact h.2.2; omega
          refine qw_const rfl ?_
          refine qw_goto rfl ?_
          refine qw_istore (lo' := [some (.inr (.inr (some 0))), some (.inl 3)]) rfl rfl ?_
          exact loop54 _ 3  (by unfold onW; first | (rw [if_pos W11]; rfl) | (rw [if_neg N11, if_pos W12]; rfl) | (rw [if_neg N11, if_neg N12, if_pos W14]; rfl) | (rw [if_neg N11, if_neg N12, if_neg N14, if_pos W15]; rfl) | (rw [if_neg N11, if_neg N12, if_neg N14, if_neg N15]; rfl))
      · skip
        have W14 : tkW t z c 14 := by rcases P3 with h | h; exact h.2.2; omega
        refine qw_const rfl ?_
        refine qw_goto rfl ?_
        refine qw_istore (lo' := [some (.inr (.inr (some 0))), some (.inl 2)]) rfl rfl ?_
        exact loop54 _ 2  (by unfold onW; first | (rw [if_pos W11]; rfl) | (rw [if_neg N11, if_pos W12]; rfl) | (rw [if_neg N11, if_neg N12, if_pos W14]; rfl) | (rw [if_neg N11, if_neg N12, if_neg N14, if_pos W15]; rfl) | (rw [if_neg N11, if_neg N12, if_neg N14, if_neg N15]; rfl))
    · skip
      have W12 : tkW t z c 12 := by rcases P2 with h | h; exact h.2.2; omega
      refine qw_const rfl ?_
      refine qw_goto rfl ?_
      refine qw_istore (lo' := [some (.inr (.inr (some 0))), some (.inl 1)]) rfl rfl ?_
      exact loop54 _ 1  (by unfold onW; first | (rw [if_pos W11]; rfl) | (rw [if_neg N11, if_pos W12]; rfl) | (rw [if_neg N11, if_neg N12, if_pos W14]; rfl) | (rw [if_neg N11, if_neg N12, if_neg N14, if_pos W15]; rfl) | (rw [if_neg N11, if_neg N12, if_neg N14, if_neg N15]; rfl))
  · skip
    have W11 : tkW t z c 11 := by rcases P1 with h | h; exact h.2.2; omega
    refine qw_const rfl ?_
    refine qw_goto rfl ?_
    refine qw_istore (lo' := [some (.inr (.inr (some 0))), some (.inl 0)]) rfl rfl ?_
    exact loop54 _ 0  (by unfold onW; first | (rw [if_pos W11]; rfl) | (rw [if_neg N11, if_pos W12]; rfl) | (rw [if_neg N11, if_neg N12, if_pos W14]; rfl) | (rw [if_neg N11, if_neg N12, if_neg N14, if_pos W15]; rfl) | (rw [if_neg N11, if_neg N12, if_neg N14, if_neg N15]; rfl))
