set_option maxRecDepth 4000 in
theorem y_test_s {d : Nat} (a : Nat → Nat → Int32) (b : Nat → Nat → Int64) (z : Nat) (N : Nat) (c : Nat) (e : Int) (t : Nat → Int32) (fm : Int) (dd : Nat)(p : Int32) (ih2 : ∀ d0, d = d0 + 1 → EXrow d0 32 3) (hp : p.toInt = (dd : Nat)) (hd5 : dd ≤ 5) (hfm : fm = 2 ∨ fm = 4) (h16 : (a 0 16).toInt = fm) (hM : MS t z N c e a b) : f_pc mtM d 31 [.inr (.inr (some 0)), .inl p] (mH a b) (fun v9 h' => ∃ (a' : Nat → Nat → Int32), h' = mH a' b ∧ (FR [0, 7, 8] a a' ∧ ((∀ j, j ≠ 7 → j ≠ 8 → j ≠ 13 → a' 0 j = a 0 j) ∧ EQ t z N c fm e 2 dd a' b)) ∧ v9 = none) := by
  refine f_pc_of rfl (fun d0 fu hd => ?_)
  show f_pq _ _ (0, [some (.inr (.inr (some 0))), some (.inl p), none], [], mH a b) _
  have l0 : (0 : Int32).toInt = 0 := rfl
  have l7 : (7 : Int32).toInt = 7 := rfl
  have l8 : (8 : Int32).toInt = 8 := rfl
  have l60 : (60 : Int32).toInt = 60 := rfl
  have l61 : (61 : Int32).toInt = 61 := rfl
  refine qw_aload rfl rfl ?_
  refine qw_iload rfl rfl ?_
  refine qw_invV (rest := []) rfl rfl rfl rfl rfl (Nat.le_of_ble_eq_true rfl) rfl (ih2 d0 hd a b z N (c) (e) fm t (dd) p (hp) (by omega) hfm (h16) (hM)) (fun v1 h9 hq2 => ?_)
  obtain ⟨a3, rfl, fa3, rfl⟩ := hq2
  show f_pq _ _ (5, [some (.inr (.inr (some 0))), some (.inl p), none], [], mH a3 b) _
  obtain ⟨r0, g1, g2, g3⟩ := fa3.2.2
  have K0 := fa3.2.1
  refine qw_aload rfl rfl ?_
  refine qw_const rfl ?_
  refine qw_invV (rest := []) rfl rfl rfl rfl rfl (Nat.le_of_ble_eq_true rfl) rfl (y_isSign (d := d0) a3 b z N r0.2 r0.1 t 60 (g3)) (fun v4 h9 hq5 => ?_)
  obtain ⟨rfl, x6, rfl, px6⟩ := hq5
  show f_pq _ _ (11, [some (.inr (.inr (some 0))), some (.inl p), none], [.inl x6], mH a3 b) _
  have P1 := px6
  refine qw_istore (lo' := [some (.inr (.inr (some 0))), some (.inl p), some (.inl x6)]) rfl rfl ?_
  have loop30 : ∀ (fuJ30 : Nat) (ls : Int32) (a30 : Nat → Nat → Int32) ,  FR [0, 7, 8] a a30 →(∀ j, j ≠ 7 → j ≠ 8 → j ≠ 13 → a30 0 j = a 0 j) → (r0.1 = 0 ∧ (tkS t z r0.2 60 ∨ tkS t z r0.2 61) ∧ MS t z N (r0.2 + 1) 0 a30 b) → f_pq (f_code (t_X13_test (f_ev mtM d0))) fuJ30 (30, [some (.inr (.inr (some 0))), some (.inl p), some (.inl ls)], [], mH a30 b) (fun v9 h' => ∃ (a' : Nat → Nat → Int32), h' = mH a' b ∧ (FR [0, 7, 8] a a' ∧ ((∀ j, j ≠ 7 → j ≠ 8 → j ≠ 13 → a' 0 j = a 0 j) ∧ EQ t z N c fm e 2 dd a' b)) ∧ v9 = none) := by
    intro fuJ30 ls a30  hF30 hK hW
    · skip
      refine qw_aload rfl rfl ?_
      refine qw_iload rfl rfl ?_
      refine qw_invV (rest := []) rfl rfl rfl rfl rfl (Nat.le_of_ble_eq_true rfl) rfl (ih2 d0 hd a30 b z N (r0.2 + 1) (0) fm t (dd) p (hp) (by omega) hfm (by rw [hK 16 (by decide) (by decide) (by decide)]; exact h16) (hW.2.2)) (fun v7 h9 hq8 => ?_)
      obtain ⟨a9, rfl, fa9, rfl⟩ := hq8
      show f_pq _ _ (35, [some (.inr (.inr (some 0))), some (.inl p), some (.inl ls)], [], mH a9 b) _
      obtain ⟨r2, k1, -, k3⟩ := fa9.2.2
      refine qw_aload rfl rfl ?_
      refine qw_iload rfl rfl ?_
      refine qw_if_eq rfl (fun c10 => ?_) (fun c10 => ?_)
      · skip
        refine qw_const rfl ?_
        refine qw_const rfl ?_
        refine qw_invV (rest := []) rfl rfl rfl rfl rfl (Nat.le_of_ble_eq_true rfl) rfl (y_emit (d := d0) a9 b  8 0 ) (fun v11 h9 hq12 => ?_)
        obtain ⟨a13, rfl, fa13, rfl⟩ := hq12
        show f_pq _ _ (51, [some (.inr (.inr (some 0))), some (.inl p), some (.inl ls)], [], mH a13 b) _
        exact qw_ret rfl ⟨a13, rfl, ⟨FR.tr (FR.tr (hF30) (FR.sub fa9.1 (by decide))) (FR.sub fa13.1 (by decide)), ⟨fun j h7 h8 h9 => by rw [fa13.2 j h9, fa9.2.1 j h7 h8 h9]; exact hK j h7 h8 h9, ⟨r2, fun he => ex_tst2 ((g1 he).z0 hW.1) hW.2.1 (k1 rfl), fun he => absurd (g2 he) (by have := hW.1; omega), k3.keep (fa13.1 2 (by decide)) (fa13.1 3 (by decide)) (fa13.2 8 (by decide)) (fa13.2 7 (by decide))⟩⟩⟩, rfl⟩
      · skip
        refine qw_const rfl ?_
        refine qw_goto rfl ?_
        refine qw_const rfl ?_
        refine qw_invV (rest := []) rfl rfl rfl rfl rfl (Nat.le_of_ble_eq_true rfl) rfl (y_emit (d := d0) a9 b  7 0 ) (fun v14 h9 hq15 => ?_)
        obtain ⟨a16, rfl, fa16, rfl⟩ := hq15
        show f_pq _ _ (51, [some (.inr (.inr (some 0))), some (.inl p), some (.inl ls)], [], mH a16 b) _
        exact qw_ret rfl ⟨a16, rfl, ⟨FR.tr (FR.tr (hF30) (FR.sub fa9.1 (by decide))) (FR.sub fa16.1 (by decide)), ⟨fun j h7 h8 h9 => by rw [fa16.2 j h9, fa9.2.1 j h7 h8 h9]; exact hK j h7 h8 h9, ⟨r2, fun he => ex_tst2 ((g1 he).z0 hW.1) hW.2.1 (k1 rfl), fun he => absurd (g2 he) (by have := hW.1; omega), k3.keep (fa16.1 2 (by decide)) (fa16.1 3 (by decide)) (fa16.2 8 (by decide)) (fa16.2 7 (by decide))⟩⟩⟩, rfl⟩
  refine qw_aload rfl rfl ?_
  refine qw_const rfl ?_
  refine qw_invV (rest := []) rfl rfl rfl rfl rfl (Nat.le_of_ble_eq_true rfl) rfl (y_hasSign (d := d0) a3 b z N r0.2 r0.1 t 60 (g3)) (fun v17 h9 hq18 => ?_)
  obtain ⟨a19, rfl, fa19, x20, rfl, px20⟩ := hq18
  show f_pq _ _ (18, [some (.inr (.inr (some 0))), some (.inl p), some (.inl x6)], [.inl x20], mH a19 b) _
  have P2 := px20
  have M2 := fa19.2.2
  refine qw_if_ne rfl (fun c21 => ?_) (fun c21 => ?_)
  · skip
    have N2 : ¬ (r0.1 = 0 ∧ tkS t z r0.2 60) := by rcases P2 with h | h; omega; exact h.2
    have Z2 : MS t z N r0.2 r0.1 a19 b := by by_cases hr : r0.1 = 0; (have h9 := M2; rw [if_neg (show ¬ tkS t z r0.2 (60 : Int32).toInt from fun J => N2 ⟨hr, J⟩)] at h9; exact h9); exact M2.any hr
    refine qw_aload rfl rfl ?_
    refine qw_const rfl ?_
    refine qw_invV (rest := []) rfl rfl rfl rfl rfl (Nat.le_of_ble_eq_true rfl) rfl (y_hasSign (d := d0) a19 b z N r0.2 r0.1 t 61 (Z2)) (fun v22 h9 hq23 => ?_)
    obtain ⟨a24, rfl, fa24, x25, rfl, px25⟩ := hq23
    show f_pq _ _ (27, [some (.inr (.inr (some 0))), some (.inl p), some (.inl x6)], [.inl x25], mH a24 b) _
    have P3 := px25
    have M3 := fa24.2.2
    refine qw_if_eq rfl (fun c26 => ?_) (fun c26 => ?_)
    · skip
      have N3 : ¬ (r0.1 = 0 ∧ tkS t z r0.2 61) := by rcases P3 with h | h; omega; exact h.2
      have Z3 : MS t z N r0.2 r0.1 a24 b := by by_cases hr : r0.1 = 0; (have h9 := M3; rw [if_neg (show ¬ tkS t z r0.2 (61 : Int32).toInt from fun J => N3 ⟨hr, J⟩)] at h9; exact h9); exact M3.any hr
      exact qw_ret rfl ⟨a24, rfl, ⟨FR.tr (FR.tr (FR.tr (FR.rf) (FR.sub fa3.1 (by decide))) (FR.sub fa19.1 (by decide))) (FR.sub fa24.1 (by decide)), ⟨fun j h7 h8 h9 => by rw [fa24.2.1 j h7, fa19.2.1 j h7]; exact K0 j h7 h8 h9, ⟨r0, fun he => by by_cases hr : r0.1 = 0; exact EX.r0 (ex_tst1 ((g1 he).z0 hr) (fun J => J.elim (fun j => N2 ⟨hr, j⟩) (fun j => N3 ⟨hr, j⟩))) hr; exact ex_tstX (x := r0.1) (n := r0.2) (g1 he) hr, g2, Z3⟩⟩⟩, rfl⟩
    · skip
      have Q3 : r0.1 = 0 ∧ tkS t z r0.2 61 := by rcases P3 with h | h; exact h.2; omega
      have W61 : r0.1 = 0 ∧ (tkS t z r0.2 60 ∨ tkS t z r0.2 61) ∧ MS t z N (r0.2 + 1) 0 a24 b := ⟨Q3.1, Or.inr Q3.2, by have h9 := M3; rw [if_pos (show tkS t z r0.2 (61 : Int32).toInt from Q3.2)] at h9; exact h9.zero Q3.1⟩
      exact loop30 _ x6 a24 (FR.tr (FR.tr (FR.tr (FR.rf) (FR.sub fa3.1 (by decide))) (FR.sub fa19.1 (by decide))) (FR.sub fa24.1 (by decide))) (fun j h7 h8 h9 => by rw [fa24.2.1 j h7, fa19.2.1 j h7]; exact K0 j h7 h8 h9) (W61)
  · skip
    have Q2 : r0.1 = 0 ∧ tkS t z r0.2 60 := by rcases P2 with h | h; exact h.2; omega
    have W60 : r0.1 = 0 ∧ (tkS t z r0.2 60 ∨ tkS t z r0.2 61) ∧ MS t z N (r0.2 + 1) 0 a19 b := ⟨Q2.1, Or.inl Q2.2, by have h9 := M2; rw [if_pos (show tkS t z r0.2 (60 : Int32).toInt from Q2.2)] at h9; exact h9.zero Q2.1⟩
    exact loop30 _ x6 a19 (FR.tr (FR.tr (FR.rf) (FR.sub fa3.1 (by decide))) (FR.sub fa19.1 (by decide))) (fun j h7 h8 h9 => by rw [fa19.2.1 j h7]; exact K0 j h7 h8 h9) (W60)
set_option maxHeartbeats 2000000 in
set_option maxRecDepth 4000 in
theorem y_takePart_s {d : Nat} (a : Nat → Nat → Int32) (b : Nat → Nat → Int64) (z : Nat) (N : Nat) (c : Nat) (e : Int) (t : Nat → Int32) (fm : Int) (dd : Nat)(p : Int32) (ihA : ∀ d0, d = d0 + 1 → EXrow d0 30 0) (ihP : ∀ d0, d = d0 + 1 → EXrow d0 34 7) (hp : p.toInt = (dd : Nat)) (hd5 : dd ≤ 5) (hfm : fm = 2 ∨ fm = 4) (h16 : (a 0 16).toInt = fm) (hM : MS t z N c e a b) : f_pc mtM d 34 [.inr (.inr (some 0)), .inl p] (mH a b) (fun v9 h' => ∃ (a' : Nat → Nat → Int32), h' = mH a' b ∧ (FR [0, 7, 8] a a' ∧ ((∀ j, j ≠ 7 → j ≠ 8 → j ≠ 13 → a' 0 j = a 0 j) ∧ EQ t z N c fm e 7 dd a' b)) ∧ v9 = none) := by
  refine f_pc_of rfl (fun d0 fu hd => ?_)
  show f_pq _ _ (0, [some (.inr (.inr (some 0))), some (.inl p), none, none], [], mH a b) _
  have l0 : (0 : Int32).toInt = 0 := rfl
  have l1 : (1 : Int32).toInt = 1 := rfl
  have l2 : (2 : Int32).toInt = 2 := rfl
  have l3 : (3 : Int32).toInt = 3 := rfl
  have l5 : (5 : Int32).toInt = 5 := rfl
  have l24 : (24 : Int32).toInt = 24 := rfl
  have l27 : (27 : Int32).toInt = 27 := rfl
  have l40 : (40 : Int32).toInt = 40 := rfl
  have l41 : (41 : Int32).toInt = 41 := rfl
  have m8 := hM.e8
  have ma := hM.at
  have m7 := hM.tok
  refine qw_aload rfl rfl ?_
  refine qw_getI (v := .inl (a 0 8)) rfl rfl rfl rfl rfl ?_
  refine qw_if_le rfl (fun c1 => ?_) (fun c1 => ?_)
  · skip
    have z9 : e = 0 := by omega
    have m9 := m7 z9
    refine qw_aload rfl rfl ?_
    refine qw_getR (v := .inr (.inr (some 2))) rfl rfl rfl rfl rfl ?_
    refine qw_aload rfl rfl ?_
    refine qw_getI (v := .inl (a 0 7)) rfl rfl rfl rfl rfl ?_
    refine qm_iald rfl rfl (fun jx2 x2 ex2 => ?_)
    have e9 := congrArg Int32.toInt ex2
    rw [m9.2.1] at e9
    refine qw_const rfl ?_
    have loop27 : ∀ (fuJ27 : Nat) (nb : Int32) (o3_27 : Option f_V), ((nb.toInt = 1 ∧ lxK t z c = 2) ∨ (nb.toInt = 0 ∧ ¬ lxK t z c = 2)) → f_pq (f_code (t_X13_takePart (f_ev mtM d0))) fuJ27 (27, [some (.inr (.inr (some 0))), some (.inl p), some (.inl nb), o3_27], [], mH a b) (fun v9 h' => ∃ (a' : Nat → Nat → Int32), h' = mH a' b ∧ (FR [0, 7, 8] a a' ∧ ((∀ j, j ≠ 7 → j ≠ 8 → j ≠ 13 → a' 0 j = a 0 j) ∧ EQ t z N c fm e 7 dd a' b)) ∧ v9 = none) := by
      intro fuJ27 nb o3_27 hn
      · skip
        refine qw_aload rfl rfl ?_
        refine qw_const rfl ?_
        refine qw_aload rfl rfl ?_
        refine qw_getI (v := .inl (a 0 16)) rfl rfl rfl rfl rfl ?_
        refine qw_invV (rest := []) rfl rfl rfl rfl rfl (Nat.le_of_ble_eq_true rfl) rfl (y_wordHere (d := d0) a b z N c e t 27 (a 0 16) (by have h9 := h16; rcases hfm with h | h <;> omega) (by omega)) (fun v3 h9 hq4 => ?_)
        obtain ⟨rfl, x5, rfl, px5⟩ := hq4
        show f_pq _ _ (37, [some (.inr (.inr (some 0))), some (.inl p), some (.inl nb), o3_27], [.inl x5], mH a b) _
        have F9 : x5.toInt = whF t z c 27 fm.toNat := by have h9 := px5; rw [if_pos z9, h16] at h9; exact h9
        refine qw_istore (lo' := [some (.inr (.inr (some 0))), some (.inl p), some (.inl nb), some (.inl x5)]) rfl rfl ?_
        refine qw_iload rfl rfl ?_
        have loop72 : ∀ (fuJ72 : Nat) (nb : Int32) (fa : Int32) , ((nb.toInt = 1 ∧ lxK t z c = 2) ∨ (nb.toInt = 0 ∧ ¬ lxK t z c = 2)) → (isPa t z fm c = true) → f_pq (f_code (t_X13_takePart (f_ev mtM d0))) fuJ72 (72, [some (.inr (.inr (some 0))), some (.inl p), some (.inl nb), some (.inl fa)], [], mH a b) (fun v9 h' => ∃ (a' : Nat → Nat → Int32), h' = mH a' b ∧ (FR [0, 7, 8] a a' ∧ ((∀ j, j ≠ 7 → j ≠ 8 → j ≠ 13 → a' 0 j = a 0 j) ∧ EQ t z N c fm e 7 dd a' b)) ∧ v9 = none) := by
          intro fuJ72 nb fa  hn hP
          · skip
            refine qw_iload rfl rfl ?_
            refine qw_const rfl ?_
            have loop82 : ∀ (fuJ82 : Nat) (nb : Int32) (fa : Int32) (a82 : Nat → Nat → Int32) ,  FR [0, 7, 8] a a82 →((nb.toInt = 1 ∧ lxK t z c = 2) ∨ (nb.toInt = 0 ∧ ¬ lxK t z c = 2)) → (∃ g : Int, MS t z N c g a82 b ∧ (∀ j, j ≠ 8 → a82 0 j = a 0 j) ∧ (g = 0 → isPa t z fm c = true ∧ ¬ dd = 5) ∧ (¬ g = 0 → EX t z fm 7 dd c (g, c))) → f_pq (f_code (t_X13_takePart (f_ev mtM d0))) fuJ82 (82, [some (.inr (.inr (some 0))), some (.inl p), some (.inl nb), some (.inl fa)], [], mH a82 b) (fun v9 h' => ∃ (a' : Nat → Nat → Int32), h' = mH a' b ∧ (FR [0, 7, 8] a a' ∧ ((∀ j, j ≠ 7 → j ≠ 8 → j ≠ 13 → a' 0 j = a 0 j) ∧ EQ t z N c fm e 7 dd a' b)) ∧ v9 = none) := by
              intro fuJ82 nb fa a82  hF82 hn hV
              · skip
                obtain ⟨g, h1, hK, h3, h4⟩ := hV
                have f8 := h1.e8
                refine qw_aload rfl rfl ?_
                refine qw_getI (v := .inl (a82 0 8)) rfl rfl rfl rfl rfl ?_
                refine qw_if_le rfl (fun c6 => ?_) (fun c6 => ?_)
                · skip
                  have hPd := h3 (by omega)
                  have h1 := h1.zero (by omega)
                  refine qw_aload rfl rfl ?_
                  refine qw_const rfl ?_
                  refine qw_invV (rest := []) rfl rfl rfl rfl rfl (Nat.le_of_ble_eq_true rfl) rfl (y_hasWord (d := d0) a82 b z N c 0 t 20 24 (⟨by decide, by decide⟩) (h1)) (fun v7 h9 hq8 => ?_)
                  obtain ⟨a9, rfl, fa9, x10, rfl, px10⟩ := hq8
                  show f_pq _ _ (96, [some (.inr (.inr (some 0))), some (.inl p), some (.inl nb), some (.inl fa)], [.inl x10], mH a9 b) _
                  have P1 := px10
                  have M1 := fa9.2.2
                  refine qw_if_eq rfl (fun c11 => ?_) (fun c11 => ?_)
                  · skip
                    have N1 : ¬ tkW t z c 20 := by rcases P1 with h | h; omega; exact fun J => h.2 ⟨rfl, J⟩
                    rw [if_neg N1] at M1
                    refine qw_aload rfl rfl ?_
                    refine qw_const rfl ?_
                    refine qw_invV (rest := []) rfl rfl rfl rfl rfl (Nat.le_of_ble_eq_true rfl) rfl (y_hasSign (d := d0) a9 b z N c 0 t 40 (M1)) (fun v12 h9 hq13 => ?_)
                    obtain ⟨a14, rfl, fa14, x15, rfl, px15⟩ := hq13
                    show f_pq _ _ (121, [some (.inr (.inr (some 0))), some (.inl p), some (.inl nb), some (.inl fa)], [.inl x15], mH a14 b) _
                    have P2 := px15
                    have M2 := fa14.2.2
                    refine qw_if_eq rfl (fun c16 => ?_) (fun c16 => ?_)
                    · skip
                      have N2 : ¬ tkS t z c 40 := by rcases P2 with h | h; omega; exact fun J => h.2 ⟨rfl, J⟩
                      rw [if_neg (show ¬ tkS t z c (40 : Int32).toInt from N2)] at M2
                      refine qw_aload rfl rfl ?_
                      refine qw_iload rfl rfl ?_
                      refine qw_if_eq rfl (fun c17 => ?_) (fun c17 => ?_)
                      · skip
                        refine qw_const rfl ?_
                        refine qw_iload rfl rfl ?_
                        refine qw_if_eq rfl (fun c18 => ?_) (fun c18 => ?_)
                        · skip
                          refine qw_iload rfl rfl ?_
                          refine qw_invV (rest := []) rfl rfl rfl rfl rfl (Nat.le_of_ble_eq_true rfl) rfl (y_emit (d := d0) a14 b  2 fa ) (fun v19 h9 hq20 => ?_)
                          obtain ⟨a21, rfl, fa21, rfl⟩ := hq20
                          show f_pq _ _ (171, [some (.inr (.inr (some 0))), some (.inl p), some (.inl nb), some (.inl fa)], [], mH a21 b) _
                          have M7 := M2.keep (fa21.1 2 (by decide)) (fa21.1 3 (by decide)) (fa21.2 8 (by decide)) (fa21.2 7 (by decide))
                          have ma := M7.at
                          refine qw_aload rfl rfl ?_
                          refine qw_dup rfl rfl ?_
                          refine qw_getI (v := .inl (a21 0 7)) rfl rfl rfl rfl rfl ?_
                          refine qw_const rfl ?_
                          first | refine qw_iadd rfl (by omega) (fun x22 tx22 => ?_) | refine qw_iiU rfl (fun x22 tx22 => ?_)
                          refine qm_putI (z := false) rfl rfl rfl rfl (by first | (intro h9; cases h9; done) | (intro _; first | exact Or.inl rfl | exact Or.inr rfl | assumption)) (fun a23 ea23 => ?_)
                          have ua23_7 : a23 0 7 = x22 := by rw [ea23, mU_same]
                          have wa23_7 := congrArg Int32.toInt ua23_7
                          have ua23_8 : (a23 0 8).toInt = (a21 0 8).toInt := by rw [ea23, mU_slot (by decide)]
                          have ua23_16 : (a23 0 16).toInt = (a21 0 16).toInt := by rw [ea23, mU_slot (by decide)]
                          exact qw_ret rfl ⟨a23, rfl, ⟨FR.up (FR.tr (FR.tr (FR.tr (hF82) (FR.sub fa9.1 (by decide))) (FR.sub fa14.1 (by decide))) (FR.sub fa21.1 (by decide))) (by decide) ea23, ⟨fun j h7 h8 h9 => by rw [ea23, mU_slot h7, fa21.2 j h9, fa14.2.1 j h7, fa9.2.1 j h7]; exact hK j h8, EQ.of z9 (ex_p0 hPd.1 hPd.2 N1 N2) (M7.adv rfl (isPa_k hPd.1) ea23 (by omega))⟩⟩, rfl⟩
                        · skip
                          refine qw_aload rfl rfl ?_
                          refine qw_getR (v := .inr (.inr (some 4))) rfl rfl rfl rfl rfl ?_
                          refine qw_aload rfl rfl ?_
                          refine qw_getI (v := .inl (a14 0 7)) rfl rfl rfl rfl rfl ?_
                          refine qm_lald rfl rfl (fun jy24 y24 ey24 => ?_)
                          refine qw_l2iE rfl (fun x25 tx25 => ?_)
                          refine qw_goto rfl ?_
                          refine qw_invV (rest := []) rfl rfl rfl rfl rfl (Nat.le_of_ble_eq_true rfl) rfl (y_emit (d := d0) a14 b  2 x25 ) (fun v26 h9 hq27 => ?_)
                          obtain ⟨a28, rfl, fa28, rfl⟩ := hq27
                          show f_pq _ _ (171, [some (.inr (.inr (some 0))), some (.inl p), some (.inl nb), some (.inl fa)], [], mH a28 b) _
                          have M7 := M2.keep (fa28.1 2 (by decide)) (fa28.1 3 (by decide)) (fa28.2 8 (by decide)) (fa28.2 7 (by decide))
                          have ma := M7.at
                          refine qw_aload rfl rfl ?_
                          refine qw_dup rfl rfl ?_
                          refine qw_getI (v := .inl (a28 0 7)) rfl rfl rfl rfl rfl ?_
                          refine qw_const rfl ?_
                          first | refine qw_iadd rfl (by omega) (fun x29 tx29 => ?_) | refine qw_iiU rfl (fun x29 tx29 => ?_)
                          refine qm_putI (z := false) rfl rfl rfl rfl (by first | (intro h9; cases h9; done) | (intro _; first | exact Or.inl rfl | exact Or.inr rfl | assumption)) (fun a30 ea30 => ?_)
                          have ua30_7 : a30 0 7 = x29 := by rw [ea30, mU_same]
                          have wa30_7 := congrArg Int32.toInt ua30_7
                          have ua30_8 : (a30 0 8).toInt = (a28 0 8).toInt := by rw [ea30, mU_slot (by decide)]
                          have ua30_16 : (a30 0 16).toInt = (a28 0 16).toInt := by rw [ea30, mU_slot (by decide)]
                          exact qw_ret rfl ⟨a30, rfl, ⟨FR.up (FR.tr (FR.tr (FR.tr (hF82) (FR.sub fa9.1 (by decide))) (FR.sub fa14.1 (by decide))) (FR.sub fa28.1 (by decide))) (by decide) ea30, ⟨fun j h7 h8 h9 => by rw [ea30, mU_slot h7, fa28.2 j h9, fa14.2.1 j h7, fa9.2.1 j h7]; exact hK j h8, EQ.of z9 (ex_p0 hPd.1 hPd.2 N1 N2) (M7.adv rfl (isPa_k hPd.1) ea30 (by omega))⟩⟩, rfl⟩
                      · skip
                        refine qw_const rfl ?_
                        refine qw_goto rfl ?_
                        refine qw_iload rfl rfl ?_
                        refine qw_if_eq rfl (fun c31 => ?_) (fun c31 => ?_)
                        · skip
                          refine qw_iload rfl rfl ?_
                          refine qw_invV (rest := []) rfl rfl rfl rfl rfl (Nat.le_of_ble_eq_true rfl) rfl (y_emit (d := d0) a14 b  1 fa ) (fun v32 h9 hq33 => ?_)
                          obtain ⟨a34, rfl, fa34, rfl⟩ := hq33
                          show f_pq _ _ (171, [some (.inr (.inr (some 0))), some (.inl p), some (.inl nb), some (.inl fa)], [], mH a34 b) _
                          have M7 := M2.keep (fa34.1 2 (by decide)) (fa34.1 3 (by decide)) (fa34.2 8 (by decide)) (fa34.2 7 (by decide))
                          have ma := M7.at
                          refine qw_aload rfl rfl ?_
                          refine qw_dup rfl rfl ?_
                          refine qw_getI (v := .inl (a34 0 7)) rfl rfl rfl rfl rfl ?_
                          refine qw_const rfl ?_
                          first | refine qw_iadd rfl (by omega) (fun x35 tx35 => ?_) | refine qw_iiU rfl (fun x35 tx35 => ?_)
                          refine qm_putI (z := false) rfl rfl rfl rfl (by first | (intro h9; cases h9; done) | (intro _; first | exact Or.inl rfl | exact Or.inr rfl | assumption)) (fun a36 ea36 => ?_)
                          have ua36_7 : a36 0 7 = x35 := by rw [ea36, mU_same]
                          have wa36_7 := congrArg Int32.toInt ua36_7
                          have ua36_8 : (a36 0 8).toInt = (a34 0 8).toInt := by rw [ea36, mU_slot (by decide)]
                          have ua36_16 : (a36 0 16).toInt = (a34 0 16).toInt := by rw [ea36, mU_slot (by decide)]
                          exact qw_ret rfl ⟨a36, rfl, ⟨FR.up (FR.tr (FR.tr (FR.tr (hF82) (FR.sub fa9.1 (by decide))) (FR.sub fa14.1 (by decide))) (FR.sub fa34.1 (by decide))) (by decide) ea36, ⟨fun j h7 h8 h9 => by rw [ea36, mU_slot h7, fa34.2 j h9, fa14.2.1 j h7, fa9.2.1 j h7]; exact hK j h8, EQ.of z9 (ex_p0 hPd.1 hPd.2 N1 N2) (M7.adv rfl (isPa_k hPd.1) ea36 (by omega))⟩⟩, rfl⟩
                        · skip
                          refine qw_aload rfl rfl ?_
                          refine qw_getR (v := .inr (.inr (some 4))) rfl rfl rfl rfl rfl ?_
                          refine qw_aload rfl rfl ?_
                          refine qw_getI (v := .inl (a14 0 7)) rfl rfl rfl rfl rfl ?_
                          refine qm_lald rfl rfl (fun jy37 y37 ey37 => ?_)
                          refine qw_l2iE rfl (fun x38 tx38 => ?_)
                          refine qw_goto rfl ?_
                          refine qw_invV (rest := []) rfl rfl rfl rfl rfl (Nat.le_of_ble_eq_true rfl) rfl (y_emit (d := d0) a14 b  1 x38 ) (fun v39 h9 hq40 => ?_)
                          obtain ⟨a41, rfl, fa41, rfl⟩ := hq40
                          show f_pq _ _ (171, [some (.inr (.inr (some 0))), some (.inl p), some (.inl nb), some (.inl fa)], [], mH a41 b) _
                          have M7 := M2.keep (fa41.1 2 (by decide)) (fa41.1 3 (by decide)) (fa41.2 8 (by decide)) (fa41.2 7 (by decide))
                          have ma := M7.at
                          refine qw_aload rfl rfl ?_
                          refine qw_dup rfl rfl ?_
                          refine qw_getI (v := .inl (a41 0 7)) rfl rfl rfl rfl rfl ?_
                          refine qw_const rfl ?_
                          first | refine qw_iadd rfl (by omega) (fun x42 tx42 => ?_) | refine qw_iiU rfl (fun x42 tx42 => ?_)
                          refine qm_putI (z := false) rfl rfl rfl rfl (by first | (intro h9; cases h9; done) | (intro _; first | exact Or.inl rfl | exact Or.inr rfl | assumption)) (fun a43 ea43 => ?_)
                          have ua43_7 : a43 0 7 = x42 := by rw [ea43, mU_same]
                          have wa43_7 := congrArg Int32.toInt ua43_7
                          have ua43_8 : (a43 0 8).toInt = (a41 0 8).toInt := by rw [ea43, mU_slot (by decide)]
                          have ua43_16 : (a43 0 16).toInt = (a41 0 16).toInt := by rw [ea43, mU_slot (by decide)]
                          exact qw_ret rfl ⟨a43, rfl, ⟨FR.up (FR.tr (FR.tr (FR.tr (hF82) (FR.sub fa9.1 (by decide))) (FR.sub fa14.1 (by decide))) (FR.sub fa41.1 (by decide))) (by decide) ea43, ⟨fun j h7 h8 h9 => by rw [ea43, mU_slot h7, fa41.2 j h9, fa14.2.1 j h7, fa9.2.1 j h7]; exact hK j h8, EQ.of z9 (ex_p0 hPd.1 hPd.2 N1 N2) (M7.adv rfl (isPa_k hPd.1) ea43 (by omega))⟩⟩, rfl⟩
                    · skip
                      have Q2 : (0 : Int) = 0 ∧ tkS t z c 40 := by rcases P2 with h | h; exact h.2; omega
                      rw [if_pos (show tkS t z c (40 : Int32).toInt from Q2.2)] at M2
                      refine qw_aload rfl rfl ?_
                      refine qw_iload rfl rfl ?_
                      refine qw_const rfl ?_
                      first | refine qw_iadd rfl (by omega) (fun x44 tx44 => ?_) | refine qw_iiU rfl (fun x44 tx44 => ?_)
                      refine qw_invV (rest := []) rfl rfl rfl rfl rfl (Nat.le_of_ble_eq_true rfl) rfl (ihA d0 hd a14 b z N (c + 1) (0) fm t (dd + 1) x44 (by omega) (by omega) hfm (by rw [fa14.2.1 16 (by decide), fa9.2.1 16 (by decide), hK 16 (by decide)]; exact h16) (M2)) (fun v45 h9 hq46 => ?_)
                      obtain ⟨a47, rfl, fa47, rfl⟩ := hq46
                      show f_pq _ _ (131, [some (.inr (.inr (some 0))), some (.inl p), some (.inl nb), some (.inl fa)], [], mH a47 b) _
                      obtain ⟨r2, k1, -, k3⟩ := fa47.2.2
                      refine qw_aload rfl rfl ?_
                      refine qw_const rfl ?_
                      refine qw_invV (rest := []) rfl rfl rfl rfl rfl (Nat.le_of_ble_eq_true rfl) rfl (y_takeSign (d := d0) a47 b z N r2.2 r2.1 t 41 (k3)) (fun v48 h9 hq49 => ?_)
                      obtain ⟨a50, rfl, fa50, rfl⟩ := hq49
                      show f_pq _ _ (137, [some (.inr (.inr (some 0))), some (.inl p), some (.inl nb), some (.inl fa)], [], mH a50 b) _
                      refine qw_goto rfl ?_
                      exact qw_ret rfl ⟨a50, rfl, ⟨FR.tr (FR.tr (FR.tr (FR.tr (hF82) (FR.sub fa9.1 (by decide))) (FR.sub fa14.1 (by decide))) (FR.sub fa47.1 (by decide))) (FR.sub fa50.1 (by decide)), ⟨fun j h7 h8 h9 => by rw [fa50.2.1 j h7 h8, fa47.2.1 j h7 h8 h9, fa14.2.1 j h7, fa9.2.1 j h7]; exact hK j h8, by have m9 := fa50.2.2; by_cases hr : r2.1 = 0; (rw [eE_0 hr] at m9; exact EQ.of z9 (ex_pb hPd.1 hPd.2 N1 Q2.2 ((k1 rfl).z0 hr)) m9); (rw [eE_x hr] at m9; exact EQ.of (x := r2.1) (n := r2.2) z9 (ex_pbx hPd.1 hPd.2 N1 Q2.2 (k1 rfl) hr) (m9.any hr))⟩⟩, rfl⟩
                  · skip
                    have Q1 : (0 : Int) = 0 ∧ tkW t z c 20 := by rcases P1 with h | h; exact h.2; omega
                    rw [if_pos Q1.2] at M1
                    refine qw_aload rfl rfl ?_
                    refine qw_iload rfl rfl ?_
                    refine qw_const rfl ?_
                    first | refine qw_iadd rfl (by omega) (fun x51 tx51 => ?_) | refine qw_iiU rfl (fun x51 tx51 => ?_)
                    refine qw_invV (rest := []) rfl rfl rfl rfl rfl (Nat.le_of_ble_eq_true rfl) rfl (ihP d0 hd a9 b z N (c + 1) (0) fm t (dd + 1) x51 (by omega) (by omega) hfm (by rw [fa9.2.1 16 (by decide), hK 16 (by decide)]; exact h16) (M1)) (fun v52 h9 hq53 => ?_)
                    obtain ⟨a54, rfl, fa54, rfl⟩ := hq53
                    show f_pq _ _ (106, [some (.inr (.inr (some 0))), some (.inl p), some (.inl nb), some (.inl fa)], [], mH a54 b) _
                    obtain ⟨r2, k1, -, k3⟩ := fa54.2.2
                    refine qw_aload rfl rfl ?_
                    refine qw_const rfl ?_
                    refine qw_const rfl ?_
                    refine qw_invV (rest := []) rfl rfl rfl rfl rfl (Nat.le_of_ble_eq_true rfl) rfl (y_emit (d := d0) a54 b  3 0 ) (fun v55 h9 hq56 => ?_)
                    obtain ⟨a57, rfl, fa57, rfl⟩ := hq56
                    show f_pq _ _ (112, [some (.inr (.inr (some 0))), some (.inl p), some (.inl nb), some (.inl fa)], [], mH a57 b) _
                    refine qw_goto rfl ?_
                    exact qw_ret rfl ⟨a57, rfl, ⟨FR.tr (FR.tr (FR.tr (hF82) (FR.sub fa9.1 (by decide))) (FR.sub fa54.1 (by decide))) (FR.sub fa57.1 (by decide)), ⟨fun j h7 h8 h9 => by rw [fa57.2 j h9, fa54.2.1 j h7 h8 h9, fa9.2.1 j h7]; exact hK j h8, EQ.of (x := r2.1) (n := r2.2) z9 (ex_pn hPd.1 hPd.2 Q1.2 (k1 rfl)) (k3.keep (fa57.1 2 (by decide)) (fa57.1 3 (by decide)) (fa57.2 8 (by decide)) (fa57.2 7 (by decide)))⟩⟩, rfl⟩
                · skip
                  exact qw_ret rfl ⟨a82, rfl, ⟨hF82, ⟨fun j _ h8 _ => hK j h8, EQ.of z9 (h4 (by omega)) h1⟩⟩, rfl⟩
            refine qw_ic_ne rfl (fun c58 => ?_) (fun c58 => ?_)
            · skip
              refine qw_aload rfl rfl ?_
              refine qw_const rfl ?_
              refine qw_invV (rest := []) rfl rfl rfl rfl rfl (Nat.le_of_ble_eq_true rfl) rfl (y_wrong (d := d0) a b z N c e t 5 (by omega) (by omega)) (fun v59 h9 hq60 => ?_)
              obtain ⟨a61, rfl, fa61, rfl⟩ := hq60
              show f_pq _ _ (82, [some (.inr (.inr (some 0))), some (.inl p), some (.inl nb), some (.inl fa)], [], mH a61 b) _
              have W9 : ∃ g : Int, MS t z N c g a61 b ∧ (∀ j, j ≠ 8 → a61 0 j = a 0 j) ∧ (g = 0 → isPa t z fm c = true ∧ ¬ dd = 5) ∧ (¬ g = 0 → EX t z fm 7 dd c (g, c)) := ⟨flt t z c 5, by have h9 := fa61.2.2; rw [eE_0 z9] at h9; exact h9, fa61.2.1, fun h => absurd h (by have := flt_pos (t := t) (z := z) (c := c) (k := 5) (by decide); omega), fun _ => ex_p5 hP (by omega)⟩
              exact loop82 _ nb fa a61 (FR.tr (FR.rf) (FR.sub fa61.1 (by decide))) (hn) (W9)
            · skip
              exact loop82 _ nb fa a (FR.rf) (hn) (⟨0, hM.zero z9, fun _ _ => rfl, fun _ => ⟨hP, by omega⟩, fun h => absurd rfl h⟩)
        refine qw_if_ge rfl (fun c62 => ?_) (fun c62 => ?_)
        · skip
          exact loop72 _ nb x5  (hn) (by first | exact (isPa_iff hfm).mpr (by rcases hn with h | h; exact Or.inl h.2; exact absurd h.1 (by omega)) | exact (isPa_iff hfm).mpr (Or.inr (Or.inl (by omega))) | exact (isPa_iff hfm).mpr (Or.inr (Or.inr (Or.inl (by rcases P4 with h | h; exact h.2.2; omega)))) | exact (isPa_iff hfm).mpr (Or.inr (Or.inr (Or.inr (by rcases P5 with h | h; exact h.2.2; omega)))))
        · skip
          refine qw_iload rfl rfl ?_
          refine qw_if_ne rfl (fun c63 => ?_) (fun c63 => ?_)
          · skip
            refine qw_aload rfl rfl ?_
            refine qw_const rfl ?_
            refine qw_invV (rest := []) rfl rfl rfl rfl rfl (Nat.le_of_ble_eq_true rfl) rfl (y_isSign (d := d0) a b z N c e t 40 (by omega)) (fun v64 h9 hq65 => ?_)
            obtain ⟨rfl, x66, rfl, px66⟩ := hq65
            show f_pq _ _ (52, [some (.inr (.inr (some 0))), some (.inl p), some (.inl nb), some (.inl x5)], [.inl x66], mH a b) _
            have P4 := px66
            refine qw_if_ne rfl (fun c67 => ?_) (fun c67 => ?_)
            · skip
              refine qw_aload rfl rfl ?_
              refine qw_const rfl ?_
              refine qw_invV (rest := []) rfl rfl rfl rfl rfl (Nat.le_of_ble_eq_true rfl) rfl (y_isWord (d := d0) a b z N c e t 20 24 (⟨by decide, by decide⟩) (by omega)) (fun v68 h9 hq69 => ?_)
              obtain ⟨rfl, x70, rfl, px70⟩ := hq69
              show f_pq _ _ (61, [some (.inr (.inr (some 0))), some (.inl p), some (.inl nb), some (.inl x5)], [.inl x70], mH a b) _
              have P5 := px70
              refine qw_if_ne rfl (fun c71 => ?_) (fun c71 => ?_)
              · skip
                refine qw_aload rfl rfl ?_
                refine qw_const rfl ?_
                refine qw_invV (rest := []) rfl rfl rfl rfl rfl (Nat.le_of_ble_eq_true rfl) rfl (y_wrong (d := d0) a b z N c e t 1 (by omega) (by omega)) (fun v72 h9 hq73 => ?_)
                obtain ⟨a74, rfl, fa74, rfl⟩ := hq73
                show f_pq _ _ (69, [some (.inr (.inr (some 0))), some (.inl p), some (.inl nb), some (.inl x5)], [], mH a74 b) _
                have W9 : ∃ g : Int, MS t z N c g a74 b ∧ (∀ j, j ≠ 8 → a74 0 j = a 0 j) ∧ (g = 0 → isPa t z fm c = true ∧ ¬ dd = 5) ∧ (¬ g = 0 → EX t z fm 7 dd c (g, c)) := ⟨flt t z c 1, by have h9 := fa74.2.2; rw [eE_0 z9] at h9; exact h9, fa74.2.1, fun h => absurd h (by have := flt_pos (t := t) (z := z) (c := c) (k := 1) (by decide); omega), fun _ => ex_p1 (by cases hx : isPa t z fm c with | true => (exfalso; rcases (isPa_iff hfm).mp hx with q | q | q | q; (rcases hn with h | h; omega; exact h.2 q); omega; (rcases P4 with h | h; omega; exact h.2 ⟨z9, q⟩); (rcases P5 with h | h; omega; exact h.2 ⟨z9, q⟩)) | false => rfl)⟩
                refine qw_goto rfl ?_
                have loop82 : ∀ (fu82 : Nat) (nb : Int32) (fa : Int32) (a82 : Nat → Nat → Int32) ,  FR [0, 7, 8] a a82 →((nb.toInt = 1 ∧ lxK t z c = 2) ∨ (nb.toInt = 0 ∧ ¬ lxK t z c = 2)) → (∃ g : Int, MS t z N c g a82 b ∧ (∀ j, j ≠ 8 → a82 0 j = a 0 j) ∧ (g = 0 → isPa t z fm c = true ∧ ¬ dd = 5) ∧ (¬ g = 0 → EX t z fm 7 dd c (g, c))) → f_pq (f_code (t_X13_takePart (f_ev mtM d0))) fu82 (82, [some (.inr (.inr (some 0))), some (.inl p), some (.inl nb), some (.inl fa)], [], mH a82 b) (fun v9 h' => ∃ (a' : Nat → Nat → Int32), h' = mH a' b ∧ (FR [0, 7, 8] a a' ∧ ((∀ j, j ≠ 7 → j ≠ 8 → j ≠ 13 → a' 0 j = a 0 j) ∧ EQ t z N c fm e 7 dd a' b)) ∧ v9 = none) := by
                  intro fu82
                  induction fu82 with
                  | zero => intros; exact pq_0
                  | succ fu82 ih82 =>
                    intro nb fa a82  hF82 hn hV
                    obtain ⟨g, h1, hK, h3, h4⟩ := hV
                    have f8 := h1.e8
                    refine qw_aload rfl rfl ?_
                    refine qw_getI (v := .inl (a82 0 8)) rfl rfl rfl rfl rfl ?_
                    refine qw_if_le rfl (fun c75 => ?_) (fun c75 => ?_)
                    · skip
                      have hPd := h3 (by omega)
                      have h1 := h1.zero (by omega)
                      refine qw_aload rfl rfl ?_
                      refine qw_const rfl ?_
                      refine qw_invV (rest := []) rfl rfl rfl rfl rfl (Nat.le_of_ble_eq_true rfl) rfl (y_hasWord (d := d0) a82 b z N c 0 t 20 24 (⟨by decide, by decide⟩) (h1)) (fun v76 h9 hq77 => ?_)
                      obtain ⟨a78, rfl, fa78, x79, rfl, px79⟩ := hq77
                      show f_pq _ _ (96, [some (.inr (.inr (some 0))), some (.inl p), some (.inl nb), some (.inl fa)], [.inl x79], mH a78 b) _
                      have P1 := px79
                      have M1 := fa78.2.2
                      refine qw_if_eq rfl (fun c80 => ?_) (fun c80 => ?_)
                      · skip
                        have N1 : ¬ tkW t z c 20 := by rcases P1 with h | h; omega; exact fun J => h.2 ⟨rfl, J⟩
                        rw [if_neg N1] at M1
                        refine qw_aload rfl rfl ?_
                        refine qw_const rfl ?_
                        refine qw_invV (rest := []) rfl rfl rfl rfl rfl (Nat.le_of_ble_eq_true rfl) rfl (y_hasSign (d := d0) a78 b z N c 0 t 40 (M1)) (fun v81 h9 hq82 => ?_)
                        obtain ⟨a83, rfl, fa83, x84, rfl, px84⟩ := hq82
                        show f_pq _ _ (121, [some (.inr (.inr (some 0))), some (.inl p), some (.inl nb), some (.inl fa)], [.inl x84], mH a83 b) _
                        have P2 := px84
                        have M2 := fa83.2.2
                        refine qw_if_eq rfl (fun c85 => ?_) (fun c85 => ?_)
                        · skip
                          have N2 : ¬ tkS t z c 40 := by rcases P2 with h | h; omega; exact fun J => h.2 ⟨rfl, J⟩
                          rw [if_neg (show ¬ tkS t z c (40 : Int32).toInt from N2)] at M2
                          refine qw_aload rfl rfl ?_
                          refine qw_iload rfl rfl ?_
                          refine qw_if_eq rfl (fun c86 => ?_) (fun c86 => ?_)
                          · skip
                            refine qw_const rfl ?_
                            refine qw_iload rfl rfl ?_
                            refine qw_if_eq rfl (fun c87 => ?_) (fun c87 => ?_)
                            · skip
                              refine qw_iload rfl rfl ?_
                              refine qw_invV (rest := []) rfl rfl rfl rfl rfl (Nat.le_of_ble_eq_true rfl) rfl (y_emit (d := d0) a83 b  2 fa ) (fun v88 h9 hq89 => ?_)
                              obtain ⟨a90, rfl, fa90, rfl⟩ := hq89
                              show f_pq _ _ (171, [some (.inr (.inr (some 0))), some (.inl p), some (.inl nb), some (.inl fa)], [], mH a90 b) _
                              have M7 := M2.keep (fa90.1 2 (by decide)) (fa90.1 3 (by decide)) (fa90.2 8 (by decide)) (fa90.2 7 (by decide))
                              have ma := M7.at
                              refine qw_aload rfl rfl ?_
                              refine qw_dup rfl rfl ?_
                              refine qw_getI (v := .inl (a90 0 7)) rfl rfl rfl rfl rfl ?_
                              refine qw_const rfl ?_
                              first | refine qw_iadd rfl (by omega) (fun x91 tx91 => ?_) | refine qw_iiU rfl (fun x91 tx91 => ?_)
                              refine qm_putI (z := false) rfl rfl rfl rfl (by first | (intro h9; cases h9; done) | (intro _; first | exact Or.inl rfl | exact Or.inr rfl | assumption)) (fun a92 ea92 => ?_)
                              have ua92_7 : a92 0 7 = x91 := by rw [ea92, mU_same]
                              have wa92_7 := congrArg Int32.toInt ua92_7
                              have ua92_8 : (a92 0 8).toInt = (a90 0 8).toInt := by rw [ea92, mU_slot (by decide)]
                              have ua92_16 : (a92 0 16).toInt = (a90 0 16).toInt := by rw [ea92, mU_slot (by decide)]
                              exact qw_ret rfl ⟨a92, rfl, ⟨FR.up (FR.tr (FR.tr (FR.tr (hF82) (FR.sub fa78.1 (by decide))) (FR.sub fa83.1 (by decide))) (FR.sub fa90.1 (by decide))) (by decide) ea92, ⟨fun j h7 h8 h9 => by rw [ea92, mU_slot h7, fa90.2 j h9, fa83.2.1 j h7, fa78.2.1 j h7]; exact hK j h8, EQ.of z9 (ex_p0 hPd.1 hPd.2 N1 N2) (M7.adv rfl (isPa_k hPd.1) ea92 (by omega))⟩⟩, rfl⟩
                            · skip
                              refine qw_aload rfl rfl ?_
                              refine qw_getR (v := .inr (.inr (some 4))) rfl rfl rfl rfl rfl ?_
                              refine qw_aload rfl rfl ?_
                              refine qw_getI (v := .inl (a83 0 7)) rfl rfl rfl rfl rfl ?_
                              refine qm_lald rfl rfl (fun jy93 y93 ey93 => ?_)
                              refine qw_l2iE rfl (fun x94 tx94 => ?_)
                              refine qw_goto rfl ?_
                              refine qw_invV (rest := []) rfl rfl rfl rfl rfl (Nat.le_of_ble_eq_true rfl) rfl (y_emit (d := d0) a83 b  2 x94 ) (fun v95 h9 hq96 => ?_)
                              obtain ⟨a97, rfl, fa97, rfl⟩ := hq96
                              show f_pq _ _ (171, [some (.inr (.inr (some 0))), some (.inl p), some (.inl nb), some (.inl fa)], [], mH a97 b) _
                              have M7 := M2.keep (fa97.1 2 (by decide)) (fa97.1 3 (by decide)) (fa97.2 8 (by decide)) (fa97.2 7 (by decide))
                              have ma := M7.at
                              refine qw_aload rfl rfl ?_
                              refine qw_dup rfl rfl ?_
                              refine qw_getI (v := .inl (a97 0 7)) rfl rfl rfl rfl rfl ?_
                              refine qw_const rfl ?_
                              first | refine qw_iadd rfl (by omega) (fun x98 tx98 => ?_) | refine qw_iiU rfl (fun x98 tx98 => ?_)
                              refine qm_putI (z := false) rfl rfl rfl rfl (by first | (intro h9; cases h9; done) | (intro _; first | exact Or.inl rfl | exact Or.inr rfl | assumption)) (fun a99 ea99 => ?_)
                              have ua99_7 : a99 0 7 = x98 := by rw [ea99, mU_same]
                              have wa99_7 := congrArg Int32.toInt ua99_7
                              have ua99_8 : (a99 0 8).toInt = (a97 0 8).toInt := by rw [ea99, mU_slot (by decide)]
                              have ua99_16 : (a99 0 16).toInt = (a97 0 16).toInt := by rw [ea99, mU_slot (by decide)]
                              exact qw_ret rfl ⟨a99, rfl, ⟨FR.up (FR.tr (FR.tr (FR.tr (hF82) (FR.sub fa78.1 (by decide))) (FR.sub fa83.1 (by decide))) (FR.sub fa97.1 (by decide))) (by decide) ea99, ⟨fun j h7 h8 h9 => by rw [ea99, mU_slot h7, fa97.2 j h9, fa83.2.1 j h7, fa78.2.1 j h7]; exact hK j h8, EQ.of z9 (ex_p0 hPd.1 hPd.2 N1 N2) (M7.adv rfl (isPa_k hPd.1) ea99 (by omega))⟩⟩, rfl⟩
                          · skip
                            refine qw_const rfl ?_
                            refine qw_goto rfl ?_
                            refine qw_iload rfl rfl ?_
                            refine qw_if_eq rfl (fun c100 => ?_) (fun c100 => ?_)
                            · skip
                              refine qw_iload rfl rfl ?_
                              refine qw_invV (rest := []) rfl rfl rfl rfl rfl (Nat.le_of_ble_eq_true rfl) rfl (y_emit (d := d0) a83 b  1 fa ) (fun v101 h9 hq102 => ?_)
                              obtain ⟨a103, rfl, fa103, rfl⟩ := hq102
                              show f_pq _ _ (171, [some (.inr (.inr (some 0))), some (.inl p), some (.inl nb), some (.inl fa)], [], mH a103 b) _
                              have M7 := M2.keep (fa103.1 2 (by decide)) (fa103.1 3 (by decide)) (fa103.2 8 (by decide)) (fa103.2 7 (by decide))
                              have ma := M7.at
                              refine qw_aload rfl rfl ?_
                              refine qw_dup rfl rfl ?_
                              refine qw_getI (v := .inl (a103 0 7)) rfl rfl rfl rfl rfl ?_
                              refine qw_const rfl ?_
                              first | refine qw_iadd rfl (by omega) (fun x104 tx104 => ?_) | refine qw_iiU rfl (fun x104 tx104 => ?_)
                              refine qm_putI (z := false) rfl rfl rfl rfl (by first | (intro h9; cases h9; done) | (intro _; first | exact Or.inl rfl | exact Or.inr rfl | assumption)) (fun a105 ea105 => ?_)
                              have ua105_7 : a105 0 7 = x104 := by rw [ea105, mU_same]
                              have wa105_7 := congrArg Int32.toInt ua105_7
                              have ua105_8 : (a105 0 8).toInt = (a103 0 8).toInt := by rw [ea105, mU_slot (by decide)]
                              have ua105_16 : (a105 0 16).toInt = (a103 0 16).toInt := by rw [ea105, mU_slot (by decide)]
                              exact qw_ret rfl ⟨a105, rfl, ⟨FR.up (FR.tr (FR.tr (FR.tr (hF82) (FR.sub fa78.1 (by decide))) (FR.sub fa83.1 (by decide))) (FR.sub fa103.1 (by decide))) (by decide) ea105, ⟨fun j h7 h8 h9 => by rw [ea105, mU_slot h7, fa103.2 j h9, fa83.2.1 j h7, fa78.2.1 j h7]; exact hK j h8, EQ.of z9 (ex_p0 hPd.1 hPd.2 N1 N2) (M7.adv rfl (isPa_k hPd.1) ea105 (by omega))⟩⟩, rfl⟩
                            · skip
                              refine qw_aload rfl rfl ?_
                              refine qw_getR (v := .inr (.inr (some 4))) rfl rfl rfl rfl rfl ?_
                              refine qw_aload rfl rfl ?_
                              refine qw_getI (v := .inl (a83 0 7)) rfl rfl rfl rfl rfl ?_
                              refine qm_lald rfl rfl (fun jy106 y106 ey106 => ?_)
                              refine qw_l2iE rfl (fun x107 tx107 => ?_)
                              refine qw_goto rfl ?_
                              refine qw_invV (rest := []) rfl rfl rfl rfl rfl (Nat.le_of_ble_eq_true rfl) rfl (y_emit (d := d0) a83 b  1 x107 ) (fun v108 h9 hq109 => ?_)
                              obtain ⟨a110, rfl, fa110, rfl⟩ := hq109
                              show f_pq _ _ (171, [some (.inr (.inr (some 0))), some (.inl p), some (.inl nb), some (.inl fa)], [], mH a110 b) _
                              have M7 := M2.keep (fa110.1 2 (by decide)) (fa110.1 3 (by decide)) (fa110.2 8 (by decide)) (fa110.2 7 (by decide))
                              have ma := M7.at
                              refine qw_aload rfl rfl ?_
                              refine qw_dup rfl rfl ?_
                              refine qw_getI (v := .inl (a110 0 7)) rfl rfl rfl rfl rfl ?_
                              refine qw_const rfl ?_
                              first | refine qw_iadd rfl (by omega) (fun x111 tx111 => ?_) | refine qw_iiU rfl (fun x111 tx111 => ?_)
                              refine qm_putI (z := false) rfl rfl rfl rfl (by first | (intro h9; cases h9; done) | (intro _; first | exact Or.inl rfl | exact Or.inr rfl | assumption)) (fun a112 ea112 => ?_)
                              have ua112_7 : a112 0 7 = x111 := by rw [ea112, mU_same]
                              have wa112_7 := congrArg Int32.toInt ua112_7
                              have ua112_8 : (a112 0 8).toInt = (a110 0 8).toInt := by rw [ea112, mU_slot (by decide)]
                              have ua112_16 : (a112 0 16).toInt = (a110 0 16).toInt := by rw [ea112, mU_slot (by decide)]
                              exact qw_ret rfl ⟨a112, rfl, ⟨FR.up (FR.tr (FR.tr (FR.tr (hF82) (FR.sub fa78.1 (by decide))) (FR.sub fa83.1 (by decide))) (FR.sub fa110.1 (by decide))) (by decide) ea112, ⟨fun j h7 h8 h9 => by rw [ea112, mU_slot h7, fa110.2 j h9, fa83.2.1 j h7, fa78.2.1 j h7]; exact hK j h8, EQ.of z9 (ex_p0 hPd.1 hPd.2 N1 N2) (M7.adv rfl (isPa_k hPd.1) ea112 (by omega))⟩⟩, rfl⟩
                        · skip
                          have Q2 : (0 : Int) = 0 ∧ tkS t z c 40 := by rcases P2 with h | h; exact h.2; omega
                          rw [if_pos (show tkS t z c (40 : Int32).toInt from Q2.2)] at M2
                          refine qw_aload rfl rfl ?_
                          refine qw_iload rfl rfl ?_
                          refine qw_const rfl ?_
                          first | refine qw_iadd rfl (by omega) (fun x113 tx113 => ?_) | refine qw_iiU rfl (fun x113 tx113 => ?_)
                          refine qw_invV (rest := []) rfl rfl rfl rfl rfl (Nat.le_of_ble_eq_true rfl) rfl (ihA d0 hd a83 b z N (c + 1) (0) fm t (dd + 1) x113 (by omega) (by omega) hfm (by rw [fa83.2.1 16 (by decide), fa78.2.1 16 (by decide), hK 16 (by decide)]; exact h16) (M2)) (fun v114 h9 hq115 => ?_)
                          obtain ⟨a116, rfl, fa116, rfl⟩ := hq115
                          show f_pq _ _ (131, [some (.inr (.inr (some 0))), some (.inl p), some (.inl nb), some (.inl fa)], [], mH a116 b) _
                          obtain ⟨r2, k1, -, k3⟩ := fa116.2.2
                          refine qw_aload rfl rfl ?_
                          refine qw_const rfl ?_
                          refine qw_invV (rest := []) rfl rfl rfl rfl rfl (Nat.le_of_ble_eq_true rfl) rfl (y_takeSign (d := d0) a116 b z N r2.2 r2.1 t 41 (k3)) (fun v117 h9 hq118 => ?_)
                          obtain ⟨a119, rfl, fa119, rfl⟩ := hq118
                          show f_pq _ _ (137, [some (.inr (.inr (some 0))), some (.inl p), some (.inl nb), some (.inl fa)], [], mH a119 b) _
                          refine qw_goto rfl ?_
                          exact qw_ret rfl ⟨a119, rfl, ⟨FR.tr (FR.tr (FR.tr (FR.tr (hF82) (FR.sub fa78.1 (by decide))) (FR.sub fa83.1 (by decide))) (FR.sub fa116.1 (by decide))) (FR.sub fa119.1 (by decide)), ⟨fun j h7 h8 h9 => by rw [fa119.2.1 j h7 h8, fa116.2.1 j h7 h8 h9, fa83.2.1 j h7, fa78.2.1 j h7]; exact hK j h8, by have m9 := fa119.2.2; by_cases hr : r2.1 = 0; (rw [eE_0 hr] at m9; exact EQ.of z9 (ex_pb hPd.1 hPd.2 N1 Q2.2 ((k1 rfl).z0 hr)) m9); (rw [eE_x hr] at m9; exact EQ.of (x := r2.1) (n := r2.2) z9 (ex_pbx hPd.1 hPd.2 N1 Q2.2 (k1 rfl) hr) (m9.any hr))⟩⟩, rfl⟩
                      · skip
                        have Q1 : (0 : Int) = 0 ∧ tkW t z c 20 := by rcases P1 with h | h; exact h.2; omega
                        rw [if_pos Q1.2] at M1
                        refine qw_aload rfl rfl ?_
                        refine qw_iload rfl rfl ?_
                        refine qw_const rfl ?_
                        first | refine qw_iadd rfl (by omega) (fun x120 tx120 => ?_) | refine qw_iiU rfl (fun x120 tx120 => ?_)
                        refine qw_invV (rest := []) rfl rfl rfl rfl rfl (Nat.le_of_ble_eq_true rfl) rfl (ihP d0 hd a78 b z N (c + 1) (0) fm t (dd + 1) x120 (by omega) (by omega) hfm (by rw [fa78.2.1 16 (by decide), hK 16 (by decide)]; exact h16) (M1)) (fun v121 h9 hq122 => ?_)
                        obtain ⟨a123, rfl, fa123, rfl⟩ := hq122
                        show f_pq _ _ (106, [some (.inr (.inr (some 0))), some (.inl p), some (.inl nb), some (.inl fa)], [], mH a123 b) _
                        obtain ⟨r2, k1, -, k3⟩ := fa123.2.2
                        refine qw_aload rfl rfl ?_
                        refine qw_const rfl ?_
                        refine qw_const rfl ?_
                        refine qw_invV (rest := []) rfl rfl rfl rfl rfl (Nat.le_of_ble_eq_true rfl) rfl (y_emit (d := d0) a123 b  3 0 ) (fun v124 h9 hq125 => ?_)
                        obtain ⟨a126, rfl, fa126, rfl⟩ := hq125
                        show f_pq _ _ (112, [some (.inr (.inr (some 0))), some (.inl p), some (.inl nb), some (.inl fa)], [], mH a126 b) _
                        refine qw_goto rfl ?_
                        exact qw_ret rfl ⟨a126, rfl, ⟨FR.tr (FR.tr (FR.tr (hF82) (FR.sub fa78.1 (by decide))) (FR.sub fa123.1 (by decide))) (FR.sub fa126.1 (by decide)), ⟨fun j h7 h8 h9 => by rw [fa126.2 j h9, fa123.2.1 j h7 h8 h9, fa78.2.1 j h7]; exact hK j h8, EQ.of (x := r2.1) (n := r2.2) z9 (ex_pn hPd.1 hPd.2 Q1.2 (k1 rfl)) (k3.keep (fa126.1 2 (by decide)) (fa126.1 3 (by decide)) (fa126.2 8 (by decide)) (fa126.2 7 (by decide)))⟩⟩, rfl⟩
                    · skip
                      exact qw_ret rfl ⟨a82, rfl, ⟨hF82, ⟨fun j _ h8 _ => hK j h8, EQ.of z9 (h4 (by omega)) h1⟩⟩, rfl⟩
                exact loop82 _ nb x5 a74 (FR.tr (FR.rf) (FR.sub fa74.1 (by decide))) (hn) (W9)
              · skip
                exact loop72 _ nb x5  (hn) (by first | exact (isPa_iff hfm).mpr (by rcases hn with h | h; exact Or.inl h.2; exact absurd h.1 (by omega)) | exact (isPa_iff hfm).mpr (Or.inr (Or.inl (by omega))) | exact (isPa_iff hfm).mpr (Or.inr (Or.inr (Or.inl (by rcases P4 with h | h; exact h.2.2; omega)))) | exact (isPa_iff hfm).mpr (Or.inr (Or.inr (Or.inr (by rcases P5 with h | h; exact h.2.2; omega)))))
            · skip
              exact loop72 _ nb x5  (hn) (by first | exact (isPa_iff hfm).mpr (by rcases hn with h | h; exact Or.inl h.2; exact absurd h.1 (by omega)) | exact (isPa_iff hfm).mpr (Or.inr (Or.inl (by omega))) | exact (isPa_iff hfm).mpr (Or.inr (Or.inr (Or.inl (by rcases P4 with h | h; exact h.2.2; omega)))) | exact (isPa_iff hfm).mpr (Or.inr (Or.inr (Or.inr (by rcases P5 with h | h; exact h.2.2; omega)))))
          · skip
            exact loop72 _ nb x5  (hn) (by first | exact (isPa_iff hfm).mpr (by rcases hn with h | h; exact Or.inl h.2; exact absurd h.1 (by omega)) | exact (isPa_iff hfm).mpr (Or.inr (Or.inl (by omega))) | exact (isPa_iff hfm).mpr (Or.inr (Or.inr (Or.inl (by rcases P4 with h | h; exact h.2.2; omega)))) | exact (isPa_iff hfm).mpr (Or.inr (Or.inr (Or.inr (by rcases P5 with h | h; exact h.2.2; omega)))))
    refine qw_ic_ne rfl (fun c127 => ?_) (fun c127 => ?_)
    · skip
      refine qw_const rfl ?_
      refine qw_goto rfl ?_
      refine qw_istore (lo' := [some (.inr (.inr (some 0))), some (.inl p), some (.inl 1), none]) rfl rfl ?_
      exact loop27 _ 1 none  (by first | exact Or.inl ⟨rfl, by omega⟩ | exact Or.inr ⟨rfl, by omega⟩)
    · skip
      refine qw_const rfl ?_
      refine qw_istore (lo' := [some (.inr (.inr (some 0))), some (.inl p), some (.inl 0), none]) rfl rfl ?_
      exact loop27 _ 0 none  (by first | exact Or.inl ⟨rfl, by omega⟩ | exact Or.inr ⟨rfl, by omega⟩)
  · skip
    exact qw_ret rfl ⟨a, rfl, ⟨FR.rf, ⟨fun _ _ _ _ => rfl, EQ.bad hM (by omega)⟩⟩, rfl⟩
