set_option maxRecDepth 4000 in
theorem y_emit {d : Nat} (a : Nat → Nat → Int32) (b : Nat → Nat → Int64) (p : Int32) (r : Int32)  : f_pc mtM d 29 [.inr (.inr (some 0)), .inl p, .inl r] (mH a b) (fun v9 h' => ∃ (a' : Nat → Nat → Int32), h' = mH a' b ∧ (FR [0, 7, 8] a a' ∧ (∀ j, j ≠ 13 → a' 0 j = a 0 j)) ∧ v9 = none) := by
  refine f_pc_of rfl (fun d0 fu hd => ?_)
  show f_pq _ _ (0, [some (.inr (.inr (some 0))), some (.inl p), some (.inl r)], [], mH a b) _
  have l1 : (1 : Int32).toInt = 1 := rfl
  have l1100 : (1100 : Int32).toInt = 1100 := rfl
  refine qw_aload rfl rfl ?_
  refine qw_getR (v := .inr (.inr (some 7))) rfl rfl rfl rfl rfl ?_
  refine qw_const rfl ?_
  refine qw_aload rfl rfl ?_
  refine qw_getI (v := .inl (a 0 13)) rfl rfl rfl rfl rfl ?_
  first | refine qw_iadd rfl (by omega) (fun x1 tx1 => ?_) | refine qw_iiU rfl (fun x1 tx1 => ?_)
  refine qw_iload rfl rfl ?_
  refine qm_iast rfl rfl (fun ja2 a2 ea2 => ?_)
  have ua2_13 : (a2 0 13).toInt = (a 0 13).toInt := by rw [ea2, mU_cell (by decide)]
  refine qw_aload rfl rfl ?_
  refine qw_getR (v := .inr (.inr (some 8))) rfl rfl rfl rfl rfl ?_
  refine qw_const rfl ?_
  refine qw_aload rfl rfl ?_
  refine qw_getI (v := .inl (a2 0 13)) rfl rfl rfl rfl rfl ?_
  first | refine qw_iadd rfl (by omega) (fun x3 tx3 => ?_) | refine qw_iiU rfl (fun x3 tx3 => ?_)
  refine qw_iload rfl rfl ?_
  refine qm_iast rfl rfl (fun ja4 a4 ea4 => ?_)
  have ua4_13 : (a4 0 13).toInt = (a2 0 13).toInt := by rw [ea4, mU_cell (by decide)]
  refine qw_aload rfl rfl ?_
  refine qw_dup rfl rfl ?_
  refine qw_getI (v := .inl (a4 0 13)) rfl rfl rfl rfl rfl ?_
  refine qw_const rfl ?_
  first | refine qw_iadd rfl (by omega) (fun x5 tx5 => ?_) | refine qw_iiU rfl (fun x5 tx5 => ?_)
  refine qm_putI (z := false) rfl rfl rfl rfl (by first | (intro h9; cases h9; done) | (intro _; first | exact Or.inl rfl | exact Or.inr rfl | assumption)) (fun a6 ea6 => ?_)
  have ua6_13 : a6 0 13 = x5 := by rw [ea6, mU_same]
  have wa6_13 := congrArg Int32.toInt ua6_13
  exact qw_ret rfl ⟨a6, rfl, ⟨FR.up (FR.up (FR.up (FR.rf) (by decide) ea2) (by decide) ea4) (by decide) ea6, fun j h9 => by rw [ea6, mU_slot h9, ea4, mU_cell (by decide), ea2, mU_cell (by decide)]⟩, rfl⟩
set_option maxRecDepth 4000 in
theorem y_all_s {d : Nat} (a : Nat → Nat → Int32) (b : Nat → Nat → Int64) (z : Nat) (N : Nat) (c : Nat) (e : Int) (t : Nat → Int32) (fm : Int) (dd : Nat)(p : Int32) (ih2 : ∀ d0, d = d0 + 1 → EXrow d0 31 2) (hp : p.toInt = (dd : Nat)) (hd5 : dd ≤ 5) (hfm : fm = 2 ∨ fm = 4) (h16 : (a 0 16).toInt = fm) (hM : MS t z N c e a b) : f_pc mtM d 30 [.inr (.inr (some 0)), .inl p] (mH a b) (fun v9 h' => ∃ (a' : Nat → Nat → Int32), h' = mH a' b ∧ (FR [0, 7, 8] a a' ∧ ((∀ j, j ≠ 7 → j ≠ 8 → j ≠ 13 → a' 0 j = a 0 j) ∧ EQ t z N c fm e 0 dd a' b)) ∧ v9 = none) := by
  refine f_pc_of rfl (fun d0 fu hd => ?_)
  show f_pq _ _ (0, [some (.inr (.inr (some 0))), some (.inl p), none], [], mH a b) _
  have l0 : (0 : Int32).toInt = 0 := rfl
  have l1 : (1 : Int32).toInt = 1 := rfl
  have l9 : (9 : Int32).toInt = 9 := rfl
  have l10 : (10 : Int32).toInt = 10 := rfl
  have l25 : (25 : Int32).toInt = 25 := rfl
  have l26 : (26 : Int32).toInt = 26 := rfl
  refine qw_aload rfl rfl ?_
  refine qw_iload rfl rfl ?_
  refine qw_invV (rest := []) rfl rfl rfl rfl rfl (Nat.le_of_ble_eq_true rfl) rfl (ih2 d0 hd a b z N (c) (e) fm t (dd) p (hp) (by omega) hfm (h16) (hM)) (fun v1 h9 hq2 => ?_)
  obtain ⟨a3, rfl, fa3, rfl⟩ := hq2
  show f_pq _ _ (5, [some (.inr (.inr (some 0))), some (.inl p), none], [], mH a3 b) _
  obtain ⟨r0, g1, g2, g3⟩ := fa3.2.2
  have loop5 : ∀ (fu5 : Nat)  (a5 : Nat → Nat → Int32) (o2_5 : Option f_V),  FR [0, 7, 8] a a5 →(∀ j, j ≠ 7 → j ≠ 8 → j ≠ 13 → a5 0 j = a 0 j) → (∃ r : Int × Nat, (¬ e = 0 → r.1 = e) ∧ MS t z N r.2 r.1 a5 b ∧ (e = 0 → r.1 = 0 → ∀ q, EX t z fm 1 dd r.2 q → EX t z fm 0 dd c q) ∧ (e = 0 → ¬ r.1 = 0 → EX t z fm 0 dd c r)) → f_pq (f_code (t_X13_all (f_ev mtM d0))) fu5 (5, [some (.inr (.inr (some 0))), some (.inl p), o2_5], [], mH a5 b) (fun v9 h' => ∃ (a' : Nat → Nat → Int32), h' = mH a' b ∧ (FR [0, 7, 8] a a' ∧ ((∀ j, j ≠ 7 → j ≠ 8 → j ≠ 13 → a' 0 j = a 0 j) ∧ EQ t z N c fm e 0 dd a' b)) ∧ v9 = none) := by
    intro fu5
    induction fu5 with
    | zero => intros; exact pq_0
    | succ fu5 ih5 =>
      intro  a5 o2_5 hF5 hK hW
      obtain ⟨r, h1, h2, h3, h4⟩ := hW
      have f8 := h2.e8
      have f7 := h2.at
      refine qw_aload rfl rfl ?_
      refine qw_const rfl ?_
      refine qw_invV (rest := []) rfl rfl rfl rfl rfl (Nat.le_of_ble_eq_true rfl) rfl (y_isWord (d := d0) a5 b z N r.2 r.1 t 21 25 (⟨by decide, by decide⟩) (h2)) (fun v4 h9 hq5 => ?_)
      obtain ⟨rfl, x6, rfl, px6⟩ := hq5
      show f_pq _ _ (11, [some (.inr (.inr (some 0))), some (.inl p), o2_5], [.inl x6], mH a5 b) _
      have P1 := px6
      refine qw_if_ne rfl (fun c7 => ?_) (fun c7 => ?_)
      · skip
        refine qw_aload rfl rfl ?_
        refine qw_const rfl ?_
        refine qw_invV (rest := []) rfl rfl rfl rfl rfl (Nat.le_of_ble_eq_true rfl) rfl (y_isWord (d := d0) a5 b z N r.2 r.1 t 22 26 (⟨by decide, by decide⟩) (h2)) (fun v8 h9 hq9 => ?_)
        obtain ⟨rfl, x10, rfl, px10⟩ := hq9
        show f_pq _ _ (20, [some (.inr (.inr (some 0))), some (.inl p), o2_5], [.inl x10], mH a5 b) _
        have P2 := px10
        refine qw_if_eq rfl (fun c11 => ?_) (fun c11 => ?_)
        · skip
          exact qw_ret rfl ⟨a5, rfl, ⟨hF5, ⟨hK, ⟨r, fun he => by by_cases hr : r.1 = 0; exact h3 he hr r (EX.r0 (ex_allE (fun J => by rcases P1 with h | h; omega; rcases P2 with g | g; omega; exact J.elim (fun j => h.2 ⟨hr, j⟩) (fun j => g.2 ⟨hr, j⟩))) hr); exact h4 he hr, h1, h2⟩⟩⟩, rfl⟩
        · skip
          refine qw_aload rfl rfl ?_
          refine qw_const rfl ?_
          refine qw_invV (rest := []) rfl rfl rfl rfl rfl (Nat.le_of_ble_eq_true rfl) rfl (y_isWord (d := d0) a5 b z N r.2 r.1 t 21 25 (⟨by decide, by decide⟩) (h2)) (fun v12 h9 hq13 => ?_)
          obtain ⟨rfl, x14, rfl, px14⟩ := hq13
          show f_pq _ _ (29, [some (.inr (.inr (some 0))), some (.inl p), o2_5], [.inl x14], mH a5 b) _
          have z9 : r.1 = 0 := by omega
          have J9 : tkW t z r.2 21 ∨ tkW t z r.2 22 := by rcases P1 with h | h; exact Or.inl h.2.2; (first | (rcases P2 with g | g; exact Or.inr g.2.2; omega) | (exfalso; omega))
          refine qw_istore (lo' := [some (.inr (.inr (some 0))), some (.inl p), some (.inl x14)]) rfl rfl ?_
          refine qw_aload rfl rfl ?_
          refine qw_dup rfl rfl ?_
          refine qw_getI (v := .inl (a5 0 7)) rfl rfl rfl rfl rfl ?_
          refine qw_const rfl ?_
          first | refine qw_iadd rfl (by omega) (fun x15 tx15 => ?_) | refine qw_iiU rfl (fun x15 tx15 => ?_)
          refine qm_putI (z := false) rfl rfl rfl rfl (by first | (intro h9; cases h9; done) | (intro _; first | exact Or.inl rfl | exact Or.inr rfl | assumption)) (fun a16 ea16 => ?_)
          have ua16_7 : a16 0 7 = x15 := by rw [ea16, mU_same]
          have wa16_7 := congrArg Int32.toInt ua16_7
          have M9 := h2.adv z9 (J9.elim (fun h => tkW_k h) (fun h => tkW_k h)) ea16 (by omega)
          have K9 : (a16 0 16).toInt = fm := by rw [ea16, mU_slot (by decide), hK 16 (by decide) (by decide) (by decide)]; exact h16
          refine qw_aload rfl rfl ?_
          refine qw_iload rfl rfl ?_
          refine qw_invV (rest := []) rfl rfl rfl rfl rfl (Nat.le_of_ble_eq_true rfl) rfl (ih2 d0 hd a16 b z N (r.2 + 1) (0) fm t (dd) p (hp) (by omega) hfm (K9) (M9)) (fun v17 h9 hq18 => ?_)
          obtain ⟨a19, rfl, fa19, rfl⟩ := hq18
          show f_pq _ _ (45, [some (.inr (.inr (some 0))), some (.inl p), some (.inl x14)], [], mH a19 b) _
          obtain ⟨r2, k1, -, k3⟩ := fa19.2.2
          refine qw_aload rfl rfl ?_
          refine qw_iload rfl rfl ?_
          refine qw_if_eq rfl (fun c20 => ?_) (fun c20 => ?_)
          · skip
            refine qw_const rfl ?_
            refine qw_const rfl ?_
            refine qw_invV (rest := []) rfl rfl rfl rfl rfl (Nat.le_of_ble_eq_true rfl) rfl (y_emit (d := d0) a19 b  10 0 ) (fun v21 h9 hq22 => ?_)
            obtain ⟨a23, rfl, fa23, rfl⟩ := hq22
            show f_pq _ _ (61, [some (.inr (.inr (some 0))), some (.inl p), some (.inl x14)], [], mH a23 b) _
            exact qw_gotoD rfl (ih5 a23 (some (.inl x14)) (FR.tr (FR.tr (FR.up (hF5) (by decide) ea16) (FR.sub fa19.1 (by decide))) (FR.sub fa23.1 (by decide))) (fun j h7 h8 h9 => by rw [fa23.2 j h9, fa19.2.1 j h7 h8 h9, ea16, mU_slot h7]; exact hK j h7 h8 h9) (⟨r2, fun he => absurd (h1 he) (by omega), k3.keep (fa23.1 2 (by decide)) (fa23.1 3 (by decide)) (fa23.2 8 (by decide)) (fa23.2 7 (by decide)), fun he hr q hq => h3 he z9 q (EX.seq (ex_allT J9) ((k1 rfl).z0 hr) hq), fun he hr => h3 he z9 r2 (EX.sqx (x := r2.1) (n := r2.2) (ex_allT J9) (k1 rfl) hr)⟩))
          · skip
            refine qw_const rfl ?_
            refine qw_goto rfl ?_
            refine qw_const rfl ?_
            refine qw_invV (rest := []) rfl rfl rfl rfl rfl (Nat.le_of_ble_eq_true rfl) rfl (y_emit (d := d0) a19 b  9 0 ) (fun v24 h9 hq25 => ?_)
            obtain ⟨a26, rfl, fa26, rfl⟩ := hq25
            show f_pq _ _ (61, [some (.inr (.inr (some 0))), some (.inl p), some (.inl x14)], [], mH a26 b) _
            exact qw_gotoD rfl (ih5 a26 (some (.inl x14)) (FR.tr (FR.tr (FR.up (hF5) (by decide) ea16) (FR.sub fa19.1 (by decide))) (FR.sub fa26.1 (by decide))) (fun j h7 h8 h9 => by rw [fa26.2 j h9, fa19.2.1 j h7 h8 h9, ea16, mU_slot h7]; exact hK j h7 h8 h9) (⟨r2, fun he => absurd (h1 he) (by omega), k3.keep (fa26.1 2 (by decide)) (fa26.1 3 (by decide)) (fa26.2 8 (by decide)) (fa26.2 7 (by decide)), fun he hr q hq => h3 he z9 q (EX.seq (ex_allT J9) ((k1 rfl).z0 hr) hq), fun he hr => h3 he z9 r2 (EX.sqx (x := r2.1) (n := r2.2) (ex_allT J9) (k1 rfl) hr)⟩))
      · skip
        refine qw_aload rfl rfl ?_
        refine qw_const rfl ?_
        refine qw_invV (rest := []) rfl rfl rfl rfl rfl (Nat.le_of_ble_eq_true rfl) rfl (y_isWord (d := d0) a5 b z N r.2 r.1 t 21 25 (⟨by decide, by decide⟩) (h2)) (fun v27 h9 hq28 => ?_)
        obtain ⟨rfl, x29, rfl, px29⟩ := hq28
        show f_pq _ _ (29, [some (.inr (.inr (some 0))), some (.inl p), o2_5], [.inl x29], mH a5 b) _
        have z9 : r.1 = 0 := by omega
        have J9 : tkW t z r.2 21 ∨ tkW t z r.2 22 := by rcases P1 with h | h; exact Or.inl h.2.2; (first | (rcases P2 with g | g; exact Or.inr g.2.2; omega) | (exfalso; omega))
        refine qw_istore (lo' := [some (.inr (.inr (some 0))), some (.inl p), some (.inl x29)]) rfl rfl ?_
        refine qw_aload rfl rfl ?_
        refine qw_dup rfl rfl ?_
        refine qw_getI (v := .inl (a5 0 7)) rfl rfl rfl rfl rfl ?_
        refine qw_const rfl ?_
        first | refine qw_iadd rfl (by omega) (fun x30 tx30 => ?_) | refine qw_iiU rfl (fun x30 tx30 => ?_)
        refine qm_putI (z := false) rfl rfl rfl rfl (by first | (intro h9; cases h9; done) | (intro _; first | exact Or.inl rfl | exact Or.inr rfl | assumption)) (fun a31 ea31 => ?_)
        have ua31_7 : a31 0 7 = x30 := by rw [ea31, mU_same]
        have wa31_7 := congrArg Int32.toInt ua31_7
        have M9 := h2.adv z9 (J9.elim (fun h => tkW_k h) (fun h => tkW_k h)) ea31 (by omega)
        have K9 : (a31 0 16).toInt = fm := by rw [ea31, mU_slot (by decide), hK 16 (by decide) (by decide) (by decide)]; exact h16
        refine qw_aload rfl rfl ?_
        refine qw_iload rfl rfl ?_
        refine qw_invV (rest := []) rfl rfl rfl rfl rfl (Nat.le_of_ble_eq_true rfl) rfl (ih2 d0 hd a31 b z N (r.2 + 1) (0) fm t (dd) p (hp) (by omega) hfm (K9) (M9)) (fun v32 h9 hq33 => ?_)
        obtain ⟨a34, rfl, fa34, rfl⟩ := hq33
        show f_pq _ _ (45, [some (.inr (.inr (some 0))), some (.inl p), some (.inl x29)], [], mH a34 b) _
        obtain ⟨r2, k1, -, k3⟩ := fa34.2.2
        refine qw_aload rfl rfl ?_
        refine qw_iload rfl rfl ?_
        refine qw_if_eq rfl (fun c35 => ?_) (fun c35 => ?_)
        · skip
          refine qw_const rfl ?_
          refine qw_const rfl ?_
          refine qw_invV (rest := []) rfl rfl rfl rfl rfl (Nat.le_of_ble_eq_true rfl) rfl (y_emit (d := d0) a34 b  10 0 ) (fun v36 h9 hq37 => ?_)
          obtain ⟨a38, rfl, fa38, rfl⟩ := hq37
          show f_pq _ _ (61, [some (.inr (.inr (some 0))), some (.inl p), some (.inl x29)], [], mH a38 b) _
          exact qw_gotoD rfl (ih5 a38 (some (.inl x29)) (FR.tr (FR.tr (FR.up (hF5) (by decide) ea31) (FR.sub fa34.1 (by decide))) (FR.sub fa38.1 (by decide))) (fun j h7 h8 h9 => by rw [fa38.2 j h9, fa34.2.1 j h7 h8 h9, ea31, mU_slot h7]; exact hK j h7 h8 h9) (⟨r2, fun he => absurd (h1 he) (by omega), k3.keep (fa38.1 2 (by decide)) (fa38.1 3 (by decide)) (fa38.2 8 (by decide)) (fa38.2 7 (by decide)), fun he hr q hq => h3 he z9 q (EX.seq (ex_allT J9) ((k1 rfl).z0 hr) hq), fun he hr => h3 he z9 r2 (EX.sqx (x := r2.1) (n := r2.2) (ex_allT J9) (k1 rfl) hr)⟩))
        · skip
          refine qw_const rfl ?_
          refine qw_goto rfl ?_
          refine qw_const rfl ?_
          refine qw_invV (rest := []) rfl rfl rfl rfl rfl (Nat.le_of_ble_eq_true rfl) rfl (y_emit (d := d0) a34 b  9 0 ) (fun v39 h9 hq40 => ?_)
          obtain ⟨a41, rfl, fa41, rfl⟩ := hq40
          show f_pq _ _ (61, [some (.inr (.inr (some 0))), some (.inl p), some (.inl x29)], [], mH a41 b) _
          exact qw_gotoD rfl (ih5 a41 (some (.inl x29)) (FR.tr (FR.tr (FR.up (hF5) (by decide) ea31) (FR.sub fa34.1 (by decide))) (FR.sub fa41.1 (by decide))) (fun j h7 h8 h9 => by rw [fa41.2 j h9, fa34.2.1 j h7 h8 h9, ea31, mU_slot h7]; exact hK j h7 h8 h9) (⟨r2, fun he => absurd (h1 he) (by omega), k3.keep (fa41.1 2 (by decide)) (fa41.1 3 (by decide)) (fa41.2 8 (by decide)) (fa41.2 7 (by decide)), fun he hr q hq => h3 he z9 q (EX.seq (ex_allT J9) ((k1 rfl).z0 hr) hq), fun he hr => h3 he z9 r2 (EX.sqx (x := r2.1) (n := r2.2) (ex_allT J9) (k1 rfl) hr)⟩))
  exact loop5 _ a3 none (FR.tr (FR.rf) (FR.sub fa3.1 (by decide))) (fa3.2.1) (⟨r0, g2, g3, fun he hr q hq => EX.seq ex_all ((g1 he).z0 hr) hq, fun he hr => EX.sqx (x := r0.1) (n := r0.2) ex_all (g1 he) hr⟩)
set_option maxRecDepth 4000 in
theorem y_sums_s {d : Nat} (a : Nat → Nat → Int32) (b : Nat → Nat → Int64) (z : Nat) (N : Nat) (c : Nat) (e : Int) (t : Nat → Int32) (fm : Int) (dd : Nat)(p : Int32) (ih2 : ∀ d0, d = d0 + 1 → EXrow d0 33 5) (hp : p.toInt = (dd : Nat)) (hd5 : dd ≤ 5) (hfm : fm = 2 ∨ fm = 4) (h16 : (a 0 16).toInt = fm) (hM : MS t z N c e a b) : f_pc mtM d 32 [.inr (.inr (some 0)), .inl p] (mH a b) (fun v9 h' => ∃ (a' : Nat → Nat → Int32), h' = mH a' b ∧ (FR [0, 7, 8] a a' ∧ ((∀ j, j ≠ 7 → j ≠ 8 → j ≠ 13 → a' 0 j = a 0 j) ∧ EQ t z N c fm e 3 dd a' b)) ∧ v9 = none) := by
  refine f_pc_of rfl (fun d0 fu hd => ?_)
  show f_pq _ _ (0, [some (.inr (.inr (some 0))), some (.inl p), none], [], mH a b) _
  have l0 : (0 : Int32).toInt = 0 := rfl
  have l1 : (1 : Int32).toInt = 1 := rfl
  have l4 : (4 : Int32).toInt = 4 := rfl
  have l5 : (5 : Int32).toInt = 5 := rfl
  have l43 : (43 : Int32).toInt = 43 := rfl
  have l45 : (45 : Int32).toInt = 45 := rfl
  refine qw_aload rfl rfl ?_
  refine qw_iload rfl rfl ?_
  refine qw_invV (rest := []) rfl rfl rfl rfl rfl (Nat.le_of_ble_eq_true rfl) rfl (ih2 d0 hd a b z N (c) (e) fm t (dd) p (hp) (by omega) hfm (h16) (hM)) (fun v1 h9 hq2 => ?_)
  obtain ⟨a3, rfl, fa3, rfl⟩ := hq2
  show f_pq _ _ (5, [some (.inr (.inr (some 0))), some (.inl p), none], [], mH a3 b) _
  obtain ⟨r0, g1, g2, g3⟩ := fa3.2.2
  have loop5 : ∀ (fu5 : Nat)  (a5 : Nat → Nat → Int32) (o2_5 : Option f_V),  FR [0, 7, 8] a a5 →(∀ j, j ≠ 7 → j ≠ 8 → j ≠ 13 → a5 0 j = a 0 j) → (∃ r : Int × Nat, (¬ e = 0 → r.1 = e) ∧ MS t z N r.2 r.1 a5 b ∧ (e = 0 → r.1 = 0 → ∀ q, EX t z fm 4 dd r.2 q → EX t z fm 3 dd c q) ∧ (e = 0 → ¬ r.1 = 0 → EX t z fm 3 dd c r)) → f_pq (f_code (t_X13_sums (f_ev mtM d0))) fu5 (5, [some (.inr (.inr (some 0))), some (.inl p), o2_5], [], mH a5 b) (fun v9 h' => ∃ (a' : Nat → Nat → Int32), h' = mH a' b ∧ (FR [0, 7, 8] a a' ∧ ((∀ j, j ≠ 7 → j ≠ 8 → j ≠ 13 → a' 0 j = a 0 j) ∧ EQ t z N c fm e 3 dd a' b)) ∧ v9 = none) := by
    intro fu5
    induction fu5 with
    | zero => intros; exact pq_0
    | succ fu5 ih5 =>
      intro  a5 o2_5 hF5 hK hW
      obtain ⟨r, h1, h2, h3, h4⟩ := hW
      have f8 := h2.e8
      have f7 := h2.at
      refine qw_aload rfl rfl ?_
      refine qw_const rfl ?_
      refine qw_invV (rest := []) rfl rfl rfl rfl rfl (Nat.le_of_ble_eq_true rfl) rfl (y_isSign (d := d0) a5 b z N r.2 r.1 t 43 (h2)) (fun v4 h9 hq5 => ?_)
      obtain ⟨rfl, x6, rfl, px6⟩ := hq5
      show f_pq _ _ (11, [some (.inr (.inr (some 0))), some (.inl p), o2_5], [.inl x6], mH a5 b) _
      have P1 := px6
      refine qw_if_ne rfl (fun c7 => ?_) (fun c7 => ?_)
      · skip
        refine qw_aload rfl rfl ?_
        refine qw_const rfl ?_
        refine qw_invV (rest := []) rfl rfl rfl rfl rfl (Nat.le_of_ble_eq_true rfl) rfl (y_isSign (d := d0) a5 b z N r.2 r.1 t 45 (h2)) (fun v8 h9 hq9 => ?_)
        obtain ⟨rfl, x10, rfl, px10⟩ := hq9
        show f_pq _ _ (20, [some (.inr (.inr (some 0))), some (.inl p), o2_5], [.inl x10], mH a5 b) _
        have P2 := px10
        refine qw_if_eq rfl (fun c11 => ?_) (fun c11 => ?_)
        · skip
          exact qw_ret rfl ⟨a5, rfl, ⟨hF5, ⟨hK, ⟨r, fun he => by by_cases hr : r.1 = 0; exact h3 he hr r (EX.r0 (ex_sumE (fun J => by rcases P1 with h | h; omega; rcases P2 with g | g; omega; exact J.elim (fun j => h.2 ⟨hr, j⟩) (fun j => g.2 ⟨hr, j⟩))) hr); exact h4 he hr, h1, h2⟩⟩⟩, rfl⟩
        · skip
          refine qw_aload rfl rfl ?_
          refine qw_const rfl ?_
          refine qw_invV (rest := []) rfl rfl rfl rfl rfl (Nat.le_of_ble_eq_true rfl) rfl (y_isSign (d := d0) a5 b z N r.2 r.1 t 43 (h2)) (fun v12 h9 hq13 => ?_)
          obtain ⟨rfl, x14, rfl, px14⟩ := hq13
          show f_pq _ _ (29, [some (.inr (.inr (some 0))), some (.inl p), o2_5], [.inl x14], mH a5 b) _
          have z9 : r.1 = 0 := by omega
          have J9 : tkS t z r.2 43 ∨ tkS t z r.2 45 := by rcases P1 with h | h; exact Or.inl h.2.2; (first | (rcases P2 with g | g; exact Or.inr g.2.2; omega) | (exfalso; omega))
          refine qw_istore (lo' := [some (.inr (.inr (some 0))), some (.inl p), some (.inl x14)]) rfl rfl ?_
          refine qw_aload rfl rfl ?_
          refine qw_dup rfl rfl ?_
          refine qw_getI (v := .inl (a5 0 7)) rfl rfl rfl rfl rfl ?_
          refine qw_const rfl ?_
          first | refine qw_iadd rfl (by omega) (fun x15 tx15 => ?_) | refine qw_iiU rfl (fun x15 tx15 => ?_)
          refine qm_putI (z := false) rfl rfl rfl rfl (by first | (intro h9; cases h9; done) | (intro _; first | exact Or.inl rfl | exact Or.inr rfl | assumption)) (fun a16 ea16 => ?_)
          have ua16_7 : a16 0 7 = x15 := by rw [ea16, mU_same]
          have wa16_7 := congrArg Int32.toInt ua16_7
          have M9 := h2.adv z9 (J9.elim (fun h => tkS_k h) (fun h => tkS_k h)) ea16 (by omega)
          have K9 : (a16 0 16).toInt = fm := by rw [ea16, mU_slot (by decide), hK 16 (by decide) (by decide) (by decide)]; exact h16
          refine qw_aload rfl rfl ?_
          refine qw_iload rfl rfl ?_
          refine qw_invV (rest := []) rfl rfl rfl rfl rfl (Nat.le_of_ble_eq_true rfl) rfl (ih2 d0 hd a16 b z N (r.2 + 1) (0) fm t (dd) p (hp) (by omega) hfm (K9) (M9)) (fun v17 h9 hq18 => ?_)
          obtain ⟨a19, rfl, fa19, rfl⟩ := hq18
          show f_pq _ _ (45, [some (.inr (.inr (some 0))), some (.inl p), some (.inl x14)], [], mH a19 b) _
          obtain ⟨r2, k1, -, k3⟩ := fa19.2.2
          refine qw_aload rfl rfl ?_
          refine qw_iload rfl rfl ?_
          refine qw_if_eq rfl (fun c20 => ?_) (fun c20 => ?_)
          · skip
            refine qw_const rfl ?_
            refine qw_const rfl ?_
            refine qw_invV (rest := []) rfl rfl rfl rfl rfl (Nat.le_of_ble_eq_true rfl) rfl (y_emit (d := d0) a19 b  5 0 ) (fun v21 h9 hq22 => ?_)
            obtain ⟨a23, rfl, fa23, rfl⟩ := hq22
            show f_pq _ _ (59, [some (.inr (.inr (some 0))), some (.inl p), some (.inl x14)], [], mH a23 b) _
            exact qw_gotoD rfl (ih5 a23 (some (.inl x14)) (FR.tr (FR.tr (FR.up (hF5) (by decide) ea16) (FR.sub fa19.1 (by decide))) (FR.sub fa23.1 (by decide))) (fun j h7 h8 h9 => by rw [fa23.2 j h9, fa19.2.1 j h7 h8 h9, ea16, mU_slot h7]; exact hK j h7 h8 h9) (⟨r2, fun he => absurd (h1 he) (by omega), k3.keep (fa23.1 2 (by decide)) (fa23.1 3 (by decide)) (fa23.2 8 (by decide)) (fa23.2 7 (by decide)), fun he hr q hq => h3 he z9 q (EX.seq (ex_sumT J9) ((k1 rfl).z0 hr) hq), fun he hr => h3 he z9 r2 (EX.sqx (x := r2.1) (n := r2.2) (ex_sumT J9) (k1 rfl) hr)⟩))
          · skip
            refine qw_const rfl ?_
            refine qw_goto rfl ?_
            refine qw_const rfl ?_
            refine qw_invV (rest := []) rfl rfl rfl rfl rfl (Nat.le_of_ble_eq_true rfl) rfl (y_emit (d := d0) a19 b  4 0 ) (fun v24 h9 hq25 => ?_)
            obtain ⟨a26, rfl, fa26, rfl⟩ := hq25
            show f_pq _ _ (59, [some (.inr (.inr (some 0))), some (.inl p), some (.inl x14)], [], mH a26 b) _
            exact qw_gotoD rfl (ih5 a26 (some (.inl x14)) (FR.tr (FR.tr (FR.up (hF5) (by decide) ea16) (FR.sub fa19.1 (by decide))) (FR.sub fa26.1 (by decide))) (fun j h7 h8 h9 => by rw [fa26.2 j h9, fa19.2.1 j h7 h8 h9, ea16, mU_slot h7]; exact hK j h7 h8 h9) (⟨r2, fun he => absurd (h1 he) (by omega), k3.keep (fa26.1 2 (by decide)) (fa26.1 3 (by decide)) (fa26.2 8 (by decide)) (fa26.2 7 (by decide)), fun he hr q hq => h3 he z9 q (EX.seq (ex_sumT J9) ((k1 rfl).z0 hr) hq), fun he hr => h3 he z9 r2 (EX.sqx (x := r2.1) (n := r2.2) (ex_sumT J9) (k1 rfl) hr)⟩))
      · skip
        refine qw_aload rfl rfl ?_
        refine qw_const rfl ?_
        refine qw_invV (rest := []) rfl rfl rfl rfl rfl (Nat.le_of_ble_eq_true rfl) rfl (y_isSign (d := d0) a5 b z N r.2 r.1 t 43 (h2)) (fun v27 h9 hq28 => ?_)
        obtain ⟨rfl, x29, rfl, px29⟩ := hq28
        show f_pq _ _ (29, [some (.inr (.inr (some 0))), some (.inl p), o2_5], [.inl x29], mH a5 b) _
        have z9 : r.1 = 0 := by omega
        have J9 : tkS t z r.2 43 ∨ tkS t z r.2 45 := by rcases P1 with h | h; exact Or.inl h.2.2; (first | (rcases P2 with g | g; exact Or.inr g.2.2; omega) | (exfalso; omega))
        refine qw_istore (lo' := [some (.inr (.inr (some 0))), some (.inl p), some (.inl x29)]) rfl rfl ?_
        refine qw_aload rfl rfl ?_
        refine qw_dup rfl rfl ?_
        refine qw_getI (v := .inl (a5 0 7)) rfl rfl rfl rfl rfl ?_
        refine qw_const rfl ?_
        first | refine qw_iadd rfl (by omega) (fun x30 tx30 => ?_) | refine qw_iiU rfl (fun x30 tx30 => ?_)
        refine qm_putI (z := false) rfl rfl rfl rfl (by first | (intro h9; cases h9; done) | (intro _; first | exact Or.inl rfl | exact Or.inr rfl | assumption)) (fun a31 ea31 => ?_)
        have ua31_7 : a31 0 7 = x30 := by rw [ea31, mU_same]
        have wa31_7 := congrArg Int32.toInt ua31_7
        have M9 := h2.adv z9 (J9.elim (fun h => tkS_k h) (fun h => tkS_k h)) ea31 (by omega)
        have K9 : (a31 0 16).toInt = fm := by rw [ea31, mU_slot (by decide), hK 16 (by decide) (by decide) (by decide)]; exact h16
        refine qw_aload rfl rfl ?_
        refine qw_iload rfl rfl ?_
        refine qw_invV (rest := []) rfl rfl rfl rfl rfl (Nat.le_of_ble_eq_true rfl) rfl (ih2 d0 hd a31 b z N (r.2 + 1) (0) fm t (dd) p (hp) (by omega) hfm (K9) (M9)) (fun v32 h9 hq33 => ?_)
        obtain ⟨a34, rfl, fa34, rfl⟩ := hq33
        show f_pq _ _ (45, [some (.inr (.inr (some 0))), some (.inl p), some (.inl x29)], [], mH a34 b) _
        obtain ⟨r2, k1, -, k3⟩ := fa34.2.2
        refine qw_aload rfl rfl ?_
        refine qw_iload rfl rfl ?_
        refine qw_if_eq rfl (fun c35 => ?_) (fun c35 => ?_)
        · skip
          refine qw_const rfl ?_
          refine qw_const rfl ?_
          refine qw_invV (rest := []) rfl rfl rfl rfl rfl (Nat.le_of_ble_eq_true rfl) rfl (y_emit (d := d0) a34 b  5 0 ) (fun v36 h9 hq37 => ?_)
          obtain ⟨a38, rfl, fa38, rfl⟩ := hq37
          show f_pq _ _ (59, [some (.inr (.inr (some 0))), some (.inl p), some (.inl x29)], [], mH a38 b) _
          exact qw_gotoD rfl (ih5 a38 (some (.inl x29)) (FR.tr (FR.tr (FR.up (hF5) (by decide) ea31) (FR.sub fa34.1 (by decide))) (FR.sub fa38.1 (by decide))) (fun j h7 h8 h9 => by rw [fa38.2 j h9, fa34.2.1 j h7 h8 h9, ea31, mU_slot h7]; exact hK j h7 h8 h9) (⟨r2, fun he => absurd (h1 he) (by omega), k3.keep (fa38.1 2 (by decide)) (fa38.1 3 (by decide)) (fa38.2 8 (by decide)) (fa38.2 7 (by decide)), fun he hr q hq => h3 he z9 q (EX.seq (ex_sumT J9) ((k1 rfl).z0 hr) hq), fun he hr => h3 he z9 r2 (EX.sqx (x := r2.1) (n := r2.2) (ex_sumT J9) (k1 rfl) hr)⟩))
        · skip
          refine qw_const rfl ?_
          refine qw_goto rfl ?_
          refine qw_const rfl ?_
          refine qw_invV (rest := []) rfl rfl rfl rfl rfl (Nat.le_of_ble_eq_true rfl) rfl (y_emit (d := d0) a34 b  4 0 ) (fun v39 h9 hq40 => ?_)
          obtain ⟨a41, rfl, fa41, rfl⟩ := hq40
          show f_pq _ _ (59, [some (.inr (.inr (some 0))), some (.inl p), some (.inl x29)], [], mH a41 b) _
          exact qw_gotoD rfl (ih5 a41 (some (.inl x29)) (FR.tr (FR.tr (FR.up (hF5) (by decide) ea31) (FR.sub fa34.1 (by decide))) (FR.sub fa41.1 (by decide))) (fun j h7 h8 h9 => by rw [fa41.2 j h9, fa34.2.1 j h7 h8 h9, ea31, mU_slot h7]; exact hK j h7 h8 h9) (⟨r2, fun he => absurd (h1 he) (by omega), k3.keep (fa41.1 2 (by decide)) (fa41.1 3 (by decide)) (fa41.2 8 (by decide)) (fa41.2 7 (by decide)), fun he hr q hq => h3 he z9 q (EX.seq (ex_sumT J9) ((k1 rfl).z0 hr) hq), fun he hr => h3 he z9 r2 (EX.sqx (x := r2.1) (n := r2.2) (ex_sumT J9) (k1 rfl) hr)⟩))
  exact loop5 _ a3 none (FR.tr (FR.rf) (FR.sub fa3.1 (by decide))) (fa3.2.1) (⟨r0, g2, g3, fun he hr q hq => EX.seq ex_sum ((g1 he).z0 hr) hq, fun he hr => EX.sqx (x := r0.1) (n := r0.2) ex_sum (g1 he) hr⟩)
set_option maxRecDepth 4000 in
theorem y_products_s {d : Nat} (a : Nat → Nat → Int32) (b : Nat → Nat → Int64) (z : Nat) (N : Nat) (c : Nat) (e : Int) (t : Nat → Int32) (fm : Int) (dd : Nat)(p : Int32) (ih2 : ∀ d0, d = d0 + 1 → EXrow d0 34 7) (hp : p.toInt = (dd : Nat)) (hd5 : dd ≤ 5) (hfm : fm = 2 ∨ fm = 4) (h16 : (a 0 16).toInt = fm) (hM : MS t z N c e a b) : f_pc mtM d 33 [.inr (.inr (some 0)), .inl p] (mH a b) (fun v9 h' => ∃ (a' : Nat → Nat → Int32), h' = mH a' b ∧ (FR [0, 7, 8] a a' ∧ ((∀ j, j ≠ 7 → j ≠ 8 → j ≠ 13 → a' 0 j = a 0 j) ∧ EQ t z N c fm e 5 dd a' b)) ∧ v9 = none) := by
  refine f_pc_of rfl (fun d0 fu hd => ?_)
  show f_pq _ _ (0, [some (.inr (.inr (some 0))), some (.inl p)], [], mH a b) _
  have l0 : (0 : Int32).toInt = 0 := rfl
  have l6 : (6 : Int32).toInt = 6 := rfl
  have l42 : (42 : Int32).toInt = 42 := rfl
  refine qw_aload rfl rfl ?_
  refine qw_iload rfl rfl ?_
  refine qw_invV (rest := []) rfl rfl rfl rfl rfl (Nat.le_of_ble_eq_true rfl) rfl (ih2 d0 hd a b z N (c) (e) fm t (dd) p (hp) (by omega) hfm (h16) (hM)) (fun v1 h9 hq2 => ?_)
  obtain ⟨a3, rfl, fa3, rfl⟩ := hq2
  show f_pq _ _ (5, [some (.inr (.inr (some 0))), some (.inl p)], [], mH a3 b) _
  obtain ⟨r0, g1, g2, g3⟩ := fa3.2.2
  have loop5 : ∀ (fu5 : Nat)  (a5 : Nat → Nat → Int32) ,  FR [0, 7, 8] a a5 →(∀ j, j ≠ 7 → j ≠ 8 → j ≠ 13 → a5 0 j = a 0 j) → (∃ r : Int × Nat, (¬ e = 0 → r.1 = e) ∧ MS t z N r.2 r.1 a5 b ∧ (e = 0 → r.1 = 0 → ∀ q, EX t z fm 6 dd r.2 q → EX t z fm 5 dd c q) ∧ (e = 0 → ¬ r.1 = 0 → EX t z fm 5 dd c r)) → f_pq (f_code (t_X13_products (f_ev mtM d0))) fu5 (5, [some (.inr (.inr (some 0))), some (.inl p)], [], mH a5 b) (fun v9 h' => ∃ (a' : Nat → Nat → Int32), h' = mH a' b ∧ (FR [0, 7, 8] a a' ∧ ((∀ j, j ≠ 7 → j ≠ 8 → j ≠ 13 → a' 0 j = a 0 j) ∧ EQ t z N c fm e 5 dd a' b)) ∧ v9 = none) := by
    intro fu5
    induction fu5 with
    | zero => intros; exact pq_0
    | succ fu5 ih5 =>
      intro  a5  hF5 hK hW
      obtain ⟨r, h1, h2, h3, h4⟩ := hW
      have f8 := h2.e8
      have f7 := h2.at
      refine qw_aload rfl rfl ?_
      refine qw_const rfl ?_
      refine qw_invV (rest := []) rfl rfl rfl rfl rfl (Nat.le_of_ble_eq_true rfl) rfl (y_hasSign (d := d0) a5 b z N r.2 r.1 t 42 (h2)) (fun v4 h9 hq5 => ?_)
      obtain ⟨a6, rfl, fa6, x7, rfl, px7⟩ := hq5
      show f_pq _ _ (11, [some (.inr (.inr (some 0))), some (.inl p)], [.inl x7], mH a6 b) _
      have P1 := px7
      have M8 := fa6.2.2
      refine qw_if_eq rfl (fun c8 => ?_) (fun c8 => ?_)
      · skip
        exact qw_ret rfl ⟨a6, rfl, ⟨FR.tr (hF5) (FR.sub fa6.1 (by decide)), ⟨fun j h7 h8 h9 => by rw [fa6.2.1 j h7]; exact hK j h7 h8 h9, ⟨r, fun he => by by_cases hr : r.1 = 0; exact h3 he hr r (EX.r0 (ex_prdE (fun J => by rcases P1 with h | h; omega; exact h.2 ⟨hr, J⟩)) hr); exact h4 he hr, h1, by by_cases hr : r.1 = 0; (have h9 := M8; rw [if_neg (show ¬ tkS t z r.2 (42 : Int32).toInt from fun J => by rcases P1 with h | h; omega; exact h.2 ⟨hr, J⟩)] at h9; exact h9); exact M8.step rfl rfl M8.e8.2 M8.e8.1 (fun h9 => absurd h9 hr) M8.at⟩⟩⟩, rfl⟩
      · skip
        have Q1 : r.1 = 0 ∧ tkS t z r.2 42 := by rcases P1 with h | h; exact h.2; omega
        have z9 := Q1.1
        have J9 := Q1.2
        have M9 : MS t z N (r.2 + 1) 0 a6 b := by have h9 := M8; rw [if_pos (show tkS t z r.2 (42 : Int32).toInt from J9)] at h9; exact h9.zero z9
        have K9 : (a6 0 16).toInt = fm := by rw [fa6.2.1 16 (by decide), hK 16 (by decide) (by decide) (by decide)]; exact h16
        refine qw_aload rfl rfl ?_
        refine qw_iload rfl rfl ?_
        refine qw_invV (rest := []) rfl rfl rfl rfl rfl (Nat.le_of_ble_eq_true rfl) rfl (ih2 d0 hd a6 b z N (r.2 + 1) (0) fm t (dd) p (hp) (by omega) hfm (K9) (M9)) (fun v9 h9 hq10 => ?_)
        obtain ⟨a11, rfl, fa11, rfl⟩ := hq10
        show f_pq _ _ (19, [some (.inr (.inr (some 0))), some (.inl p)], [], mH a11 b) _
        obtain ⟨r2, k1, -, k3⟩ := fa11.2.2
        refine qw_aload rfl rfl ?_
        refine qw_const rfl ?_
        refine qw_const rfl ?_
        refine qw_invV (rest := []) rfl rfl rfl rfl rfl (Nat.le_of_ble_eq_true rfl) rfl (y_emit (d := d0) a11 b  6 0 ) (fun v12 h9 hq13 => ?_)
        obtain ⟨a14, rfl, fa14, rfl⟩ := hq13
        show f_pq _ _ (26, [some (.inr (.inr (some 0))), some (.inl p)], [], mH a14 b) _
        exact qw_gotoD rfl (ih5 a14 (FR.tr (FR.tr (FR.tr (hF5) (FR.sub fa6.1 (by decide))) (FR.sub fa11.1 (by decide))) (FR.sub fa14.1 (by decide))) (fun j h7 h8 h9 => by rw [fa14.2 j h9, fa11.2.1 j h7 h8 h9, fa6.2.1 j h7]; exact hK j h7 h8 h9) (⟨r2, fun he => absurd (h1 he) (by omega), k3.keep (fa14.1 2 (by decide)) (fa14.1 3 (by decide)) (fa14.2 8 (by decide)) (fa14.2 7 (by decide)), fun he hr q hq => h3 he z9 q (EX.seq (ex_prdT J9) ((k1 rfl).z0 hr) hq), fun he hr => h3 he z9 r2 (EX.sqx (x := r2.1) (n := r2.2) (ex_prdT J9) (k1 rfl) hr)⟩))
  exact loop5 _ a3 (FR.tr (FR.rf) (FR.sub fa3.1 (by decide))) (fa3.2.1) (⟨r0, g2, g3, fun he hr q hq => EX.seq ex_prd ((g1 he).z0 hr) hq, fun he hr => EX.sqx (x := r0.1) (n := r0.2) ex_prd (g1 he) hr⟩)
