set_option maxHeartbeats 8000000 in
set_option maxRecDepth 4000 in
theorem s_land {K : Nat} (a : Nat → Nat → Int32) (b : Nat → Nat → Int64)  (hR : RM K a) (hC : CDI a) (hLn : LNI a) : f_call mtM 38 22 [.inr (.inr (some 0))] (mH a b) (fun v9 h' => ∃ (a' : Nat → Nat → Int32) (b' : Nat → Nat → Int64), h' = mH a' b' ∧ RM K a' ∧ (FR [0, 2, 3, 6, 7, 8, 11, 15, 16] a a' ∧ (∀ m9, m9 < 22 → ACm m9 a → ACm m9 a') ∧ (CDI a' ∧ LNI a' ∧ (a' 0 2).toInt = 0 ∧ ∀ m9 : Nat, m9 < 4 → (a' 16 m9).toInt ≠ 0 → (a 16 m9).toInt ≠ 0)) ∧ ∃ x : Int32, v9 = some (.inl x) ∧ True) := by
  refine f_call_of (d0 := 37) rfl (Nat.le_of_ble_eq_true rfl) (fun d hd => ?_)
  show f_wp _ (0, [some (.inr (.inr (some 0))), none], [], mH a b) _
  have l0 : (0 : Int32).toInt = 0 := rfl
  have l1 : (1 : Int32).toInt = 1 := rfl
  have l6 : (6 : Int32).toInt = 6 := rfl
  have l9 : (9 : Int32).toInt = 9 := rfl
  have l59 : (59 : Int32).toInt = 59 := rfl
  have l110 : (110 : Int32).toInt = 110 := rfl
  have l1100 : (1100 : Int32).toInt = 1100 := rfl
  refine w_aload rfl rfl ?_
  refine w_const rfl ?_
  refine m_putI (z := false) rfl rfl rfl rfl (by first | (intro h9; cases h9; done) | (intro _; first | exact Or.inl rfl | exact Or.inr rfl | assumption)) (fun a1 ea1 => ?_)
  have ha1 : RM K a1 := RM.up hR ea1 ⟨ti_lo _, ti_hi _⟩
  have ua1_0 : a1 0 0 = (0 : Int32) := by rw [ea1, mU_same]
  have wa1_0 := congrArg Int32.toInt ua1_0
  refine w_aload rfl rfl ?_
  refine w_invV (rest := []) rfl rfl rfl rfl rfl (Nat.le_of_ble_eq_true rfl) rfl (by omega) (s_cutAll (K := K) a1 b   ha1 ) (fun v2 h9 hq3 => ?_)
  obtain ⟨a4, b5, rfl, ha4, fa4, rfl⟩ := hq3
  show f_wp _ (9, [some (.inr (.inr (some 0))), none], [], mH a4 b5) _
  obtain ⟨N, hN1, hN2⟩ := fa4.2.2.2.2.1
  have ce := fa4
  refine w_aload rfl rfl ?_
  refine w_const rfl ?_
  refine m_putI (z := false) rfl rfl rfl rfl (by first | (intro h9; cases h9; done) | (intro _; first | exact Or.inl rfl | exact Or.inr rfl | assumption)) (fun a6 ea6 => ?_)
  have ha6 : RM K a6 := RM.up ha4 ea6 (show (0 : Int) ≤ _ ∧ _ ≤ (1000 : Int) from by omega)
  have ua6_13 : a6 0 13 = (0 : Int32) := by rw [ea6, mU_same]
  have wa6_13 := congrArg Int32.toInt ua6_13
  refine w_aload rfl rfl ?_
  refine w_const rfl ?_
  refine m_putI (z := false) rfl rfl rfl rfl (by first | (intro h9; cases h9; done) | (intro _; first | exact Or.inl rfl | exact Or.inr rfl | assumption)) (fun a7 ea7 => ?_)
  have ha7 : RM K a7 := RM.up ha6 ea7 ⟨ti_lo _, ti_hi _⟩
  have ua7_17 : a7 0 17 = (0 : Int32) := by rw [ea7, mU_same]
  have wa7_17 := congrArg Int32.toInt ua7_17
  have loop88 : ∀ (ms9 : Nat)  (a88 : Nat → Nat → Int32) (b88 : Nat → Nat → Int64) , ((0 : Int)).toNat = ms9 → RM K a88 → FR [0, 2, 3, 6, 7, 8, 11, 15, 16] a a88 → (∀ m9, m9 < 22 → ACm m9 a → ACm m9 a88) → (LI N a88) → ((∀ j, j < 110 → a88 6 j = a 6 j) ∧ (∀ j, j < 1100 → a88 7 j = a 7 j ∧ a88 8 j = a 8 j)) → (a88 11 = a 11) → ((a88 0 2).toInt = 0) → (a88 16 = a 16) → f_wp (f_code (t_X13_land (f_ev mtM d))) (88, [some (.inr (.inr (some 0))), none], [], mH a88 b88) (fun v9 h' => ∃ (a' : Nat → Nat → Int32) (b' : Nat → Nat → Int64), h' = mH a' b' ∧ RM K a' ∧ (FR [0, 2, 3, 6, 7, 8, 11, 15, 16] a a' ∧ (∀ m9, m9 < 22 → ACm m9 a → ACm m9 a') ∧ (CDI a' ∧ LNI a' ∧ (a' 0 2).toInt = 0 ∧ ∀ m9 : Nat, m9 < 4 → (a' 16 m9).toInt ≠ 0 → (a 16 m9).toInt ≠ 0)) ∧ ∃ x : Int32, v9 = some (.inl x) ∧ True) := by
    intro ms9
    induction ms9 using Nat.strongRecOn with
    | _ ms88 ih88 =>
      intro  a88 b88  hm88 hR88 hF88 hC88 hI hL hq h02 hq6
      refine w_aload rfl rfl ?_
      refine w_getI (v := .inl (a88 0 8)) rfl rfl rfl rfl rfl ?_
      have q8 : 0 ≤ (a88 0 8).toInt ∧ (a88 0 8).toInt ≤ 2147483647 := hR88 0 8
      refine w_if_le rfl (fun c9 => ?_) (fun c9 => ?_)
      · skip
        refine w_const rfl ?_
        refine w_istore (lo' := [some (.inr (.inr (some 0))), some (.inl 0)]) rfl rfl ?_
        have loop102 : ∀ (ms9 : Nat) (i : Int32) (a102 : Nat → Nat → Int32) (b102 : Nat → Nat → Int64) , (110 - i.toInt).toNat = ms9 → RM K a102 → FR [0, 2, 3, 6, 7, 8, 11, 15, 16] a a102 → (∀ m9, m9 < 22 → ACm m9 a → ACm m9 a102) → (0 ≤ i.toInt ∧ i.toInt ≤ 110) → (((∀ j, j < i.toInt.toNat → a102 6 j = a88 6 (110 + j)) ∧ (∀ j, 110 ≤ j → a102 6 j = a88 6 j) ∧ (∀ c, c ≠ 6 → a102 c = a88 c))) → f_wp (f_code (t_X13_land (f_ev mtM d))) (102, [some (.inr (.inr (some 0))), some (.inl i)], [], mH a102 b102) (fun v9 h' => ∃ (a' : Nat → Nat → Int32) (b' : Nat → Nat → Int64), h' = mH a' b' ∧ RM K a' ∧ (FR [0, 2, 3, 6, 7, 8, 11, 15, 16] a a' ∧ (∀ m9, m9 < 22 → ACm m9 a → ACm m9 a') ∧ (CDI a' ∧ LNI a' ∧ (a' 0 2).toInt = 0 ∧ ∀ m9 : Nat, m9 < 4 → (a' 16 m9).toInt ≠ 0 → (a 16 m9).toInt ≠ 0)) ∧ ∃ x : Int32, v9 = some (.inl x) ∧ True) := by
          intro ms9
          induction ms9 using Nat.strongRecOn with
          | _ ms102 ih102 =>
            intro i a102 b102  hm102 hR102 hF102 hC102 hi hS
            refine w_iload rfl rfl ?_
            refine w_const rfl ?_
            refine w_ic_ge rfl (fun c10 => ?_) (fun c10 => ?_)
            · skip
              refine w_const rfl ?_
              refine w_istore (lo' := [some (.inr (.inr (some 0))), some (.inl 0)]) rfl rfl ?_
              have z13 : 0 ≤ (a102 0 13).toInt := (hR102 0 13).1
              have loop131 : ∀ (ms9 : Nat) (i2 : Int32) (a131 : Nat → Nat → Int32) (b131 : Nat → Nat → Int64) , (1000 - i2.toInt).toNat = ms9 → RM K a131 → FR [0, 2, 3, 6, 7, 8, 11, 15, 16] a a131 → (∀ m9, m9 < 22 → ACm m9 a → ACm m9 a131) → (0 ≤ i2.toInt ∧ i2.toInt ≤ (a131 0 13).toInt) → (((∀ j, j < i2.toInt.toNat → a131 7 j = a102 7 (1100 + j) ∧ a131 8 j = a102 8 (1100 + j)) ∧ (∀ j, 1100 ≤ j → a131 7 j = a102 7 j ∧ a131 8 j = a102 8 j) ∧ (∀ c, c ≠ 7 → c ≠ 8 → a131 c = a102 c))) → f_wp (f_code (t_X13_land (f_ev mtM d))) (131, [some (.inr (.inr (some 0))), some (.inl i2)], [], mH a131 b131) (fun v9 h' => ∃ (a' : Nat → Nat → Int32) (b' : Nat → Nat → Int64), h' = mH a' b' ∧ RM K a' ∧ (FR [0, 2, 3, 6, 7, 8, 11, 15, 16] a a' ∧ (∀ m9, m9 < 22 → ACm m9 a → ACm m9 a') ∧ (CDI a' ∧ LNI a' ∧ (a' 0 2).toInt = 0 ∧ ∀ m9 : Nat, m9 < 4 → (a' 16 m9).toInt ≠ 0 → (a 16 m9).toInt ≠ 0)) ∧ ∃ x : Int32, v9 = some (.inl x) ∧ True) := by
                intro ms9
                induction ms9 using Nat.strongRecOn with
                | _ ms131 ih131 =>
                  intro i2 a131 b131  hm131 hR131 hF131 hC131 hi2 hS2
                  refine w_iload rfl rfl ?_
                  refine w_aload rfl rfl ?_
                  refine w_getI (v := .inl (a131 0 13)) rfl rfl rfl rfl rfl ?_
                  have q11 : 0 ≤ (a131 0 13).toInt ∧ (a131 0 13).toInt ≤ 1000 := hR131 0 13
                  have y0 : a131 0 13 = a102 0 13 := by rw [hS2.2.2 0 (by decide) (by decide)]
                  have y0i := congrArg Int32.toInt y0
                  refine w_ic_ge rfl (fun c12 => ?_) (fun c12 => ?_)
                  · skip
                    refine w_const rfl ?_
                    refine w_istore (lo' := [some (.inr (.inr (some 0))), some (.inl 0)]) rfl rfl ?_
                    have loop179 : ∀ (ms9 : Nat) (i3 : Int32) (a179 : Nat → Nat → Int32) (b179 : Nat → Nat → Int64) , (6 - i3.toInt).toNat = ms9 → RM K a179 → FR [0, 2, 3, 6, 7, 8, 11, 15, 16] a a179 → (∀ m9, m9 < 22 → ACm m9 a → ACm m9 a179) → (0 ≤ i3.toInt ∧ i3.toInt ≤ 6) → (a179 = a131) → f_wp (f_code (t_X13_land (f_ev mtM d))) (179, [some (.inr (.inr (some 0))), some (.inl i3)], [], mH a179 b179) (fun v9 h' => ∃ (a' : Nat → Nat → Int32) (b' : Nat → Nat → Int64), h' = mH a' b' ∧ RM K a' ∧ (FR [0, 2, 3, 6, 7, 8, 11, 15, 16] a a' ∧ (∀ m9, m9 < 22 → ACm m9 a → ACm m9 a') ∧ (CDI a' ∧ LNI a' ∧ (a' 0 2).toInt = 0 ∧ ∀ m9 : Nat, m9 < 4 → (a' 16 m9).toInt ≠ 0 → (a 16 m9).toInt ≠ 0)) ∧ ∃ x : Int32, v9 = some (.inl x) ∧ True) := by
                      intro ms9
                      induction ms9 using Nat.strongRecOn with
                      | _ ms179 ih179 =>
                        intro i3 a179 b179  hm179 hR179 hF179 hC179 hi3 hS3
                        refine w_iload rfl rfl ?_
                        refine w_const rfl ?_
                        refine w_ic_ge rfl (fun c13 => ?_) (fun c13 => ?_)
                        · skip
                          refine w_aload rfl rfl ?_
                          refine w_invV (rest := []) rfl rfl rfl rfl rfl (Nat.le_of_ble_eq_true rfl) rfl (by omega) (s_begins_1 (K := K) a179 b179   hR179 ) (fun v14 h9 hq15 => ?_)
                          obtain ⟨a16, rfl, ha16, fa16, rfl⟩ := hq15
                          show f_wp _ (207, [some (.inr (.inr (some 0))), some (.inl i3)], [], mH a16 b179) _
                          have y1 : (a102 0 13).toInt = (a88 0 13).toInt := by rw [hS.2.2 0 (by decide)]
                          have fl : (a88 0 8).toInt = 0 := by omega
                          have B9 := fa16.2.2.1
                          have BG9 := fa16.2.2.2
                          have f6 : ∀ c, c ≠ 0 → c ≠ 11 → c ≠ 15 → c ≠ 16 → a16 c = a131 c := fun c p q r s => by rw [fa16.1 c (by simp [p, q, r, s]), hS3]
                          have cd9 : CDI a16 := LI.cdi (a := a88) hI fl (fun j hj => by rw [f6 6 (by decide) (by decide) (by decide) (by decide), hS2.2.2 6 (by decide) (by decide)]; exact hS.1 j (by omega)) (fun j hj => by rw [f6 7 (by decide) (by decide) (by decide) (by decide), f6 8 (by decide) (by decide) (by decide) (by decide), (hS2.1 j (by omega)).1, (hS2.1 j (by omega)).2, hS.2.2 7 (by decide), hS.2.2 8 (by decide)]; exact ⟨rfl, rfl⟩)
                          have ln9 : LNI a16 := fun k9 h9 => absurd h9 (by rw [B9.1]; omega)
                          have t9 : (a16 0 2).toInt = 0 := by rw [B9.2 2 (by decide), hS3, hS2.2.2 0 (by decide) (by decide), hS.2.2 0 (by decide)]; exact h02
                          refine w_const rfl ?_
                          exact wp_iret (z := false) rfl (fun h9 => by cases h9) ⟨a16, b179, rfl, ha16, ⟨FR.tr (hF179) (FR.sub fa16.1 (by decide)), fun (m9 : Nat) (l9 : m9 < 22) (h7 : ACm m9 a) => fa16.2.1 m9 (by omega) ((hC179) m9 l9 h7), by first | exact ⟨cd9, ln9, t9, fun m9 h9 h8 => absurd (BG9.2.1 m9 h9) h8⟩ | exact ⟨hC.same hL.1 (fun j hj => (hL.2 j hj).1) (fun j hj => (hL.2 j hj).2), hLn.same hR (fun j _ => by rw [hq]), h02, fun m9 _ h8 => by rw [hq6] at h8; exact h8⟩⟩, ⟨_, rfl, trivial⟩⟩
                        · skip
                          refine w_aload rfl rfl ?_
                          refine w_getR (v := .inr (.inr (some 9))) rfl rfl rfl rfl rfl ?_
                          refine w_iload rfl rfl ?_
                          refine w_aload rfl rfl ?_
                          refine w_getR (v := .inr (.inr (some 10))) rfl rfl rfl rfl rfl ?_
                          refine w_iload rfl rfl ?_
                          refine m_lald rfl rfl (by omega) (fun y17 ey17 => ?_)
                          refine m_last rfl rfl (by omega) (fun b18 eb18 => ?_)
                          refine w_iinc (lo' := fun z9 => [some (.inr (.inr (some 0))), some (.inl z9)]) rfl rfl (fun _ => rfl) (by omega) (fun x19 tx19 => ?_)
                          refine w_goto rfl ?_
                          exact ih179 (6 - x19.toInt).toNat (by omega) x19 a179 b18 rfl hR179 (hF179) (hC179) (by omega) (hS3)
                    exact loop179 _ 0 a131 b131 rfl hR131 (hF131) (hC131) (by omega) (rfl)
                  · skip
                    refine w_aload rfl rfl ?_
                    refine w_getR (v := .inr (.inr (some 7))) rfl rfl rfl rfl rfl ?_
                    refine w_iload rfl rfl ?_
                    refine w_aload rfl rfl ?_
                    refine w_getR (v := .inr (.inr (some 7))) rfl rfl rfl rfl rfl ?_
                    refine w_const rfl ?_
                    refine w_iload rfl rfl ?_
                    first | refine w_iadd rfl (by omega) (fun x20 tx20 => ?_) | refine w_iiU rfl (fun x20 tx20 => ?_)
                    refine m_iald rfl rfl (by omega) (fun x21 ex21 => ?_)
                    have qx21 : 0 ≤ x21.toInt ∧ x21.toInt ≤ 10 := by rw [ex21]; exact hR131 7 _
                    have v7 : x21 = a102 7 (1100 + i2.toInt.toNat) := by rw [ex21, show (x20).toInt.toNat = 1100 + i2.toInt.toNat from by omega, (hS2.2.1 _ (by omega)).1]
                    refine m_iast rfl rfl (by omega) (fun a22 ea22 => ?_)
                    have ha22 : RM K a22 := RM.up hR131 ea22 (show (0 : Int) ≤ _ ∧ _ ≤ (10 : Int) from by omega)
                    have ua22_8 : (a22 0 8).toInt = (a131 0 8).toInt := by rw [ea22, mU_cell (by decide)]
                    have ua22_13 : (a22 0 13).toInt = (a131 0 13).toInt := by rw [ea22, mU_cell (by decide)]
                    refine w_aload rfl rfl ?_
                    refine w_getR (v := .inr (.inr (some 8))) rfl rfl rfl rfl rfl ?_
                    refine w_iload rfl rfl ?_
                    refine w_aload rfl rfl ?_
                    refine w_getR (v := .inr (.inr (some 8))) rfl rfl rfl rfl rfl ?_
                    refine w_const rfl ?_
                    refine w_iload rfl rfl ?_
                    first | refine w_iadd rfl (by omega) (fun x23 tx23 => ?_) | refine w_iiU rfl (fun x23 tx23 => ?_)
                    refine m_iald rfl rfl (by omega) (fun x24 ex24 => ?_)
                    have v8 : x24 = a102 8 (1100 + i2.toInt.toNat) := by rw [ex24, show (x23).toInt.toNat = 1100 + i2.toInt.toNat from by omega, ea22, mU_cell (by decide), (hS2.2.1 _ (by omega)).2]
                    refine m_iast rfl rfl (by omega) (fun a25 ea25 => ?_)
                    have ha25 : RM K a25 := RM.up ha22 ea25 ⟨ti_lo _, ti_hi _⟩
                    have ua25_8 : (a25 0 8).toInt = (a22 0 8).toInt := by rw [ea25, mU_cell (by decide)]
                    have ua25_13 : (a25 0 13).toInt = (a22 0 13).toInt := by rw [ea25, mU_cell (by decide)]
                    refine w_iinc (lo' := fun z9 => [some (.inr (.inr (some 0))), some (.inl z9)]) rfl rfl (fun _ => rfl) (by omega) (fun x26 tx26 => ?_)
                    refine w_goto rfl ?_
                    exact ih131 (1000 - x26.toInt).toNat (by omega) x26 a25 b131 rfl ha25 (FR.up (FR.up (hF131) (by decide) ea22) (by decide) ea25) (fun (m9 : Nat) (l9 : m9 < 22) (h7 : ACm m9 a) => ACm.up ((fun (m9 : Nat) (l9 : m9 < 22) (h7 : ACm m9 a) => ACm.up ((hC131) m9 l9 h7) ea22 (by decide)) m9 l9 h7) ea25 (by decide)) (by omega) (⟨fun j hj => ⟨by rw [ea25, mU_cell (by decide), ea22, mU_get]; split; (rename_i h5; rw [h5.2]; exact v7); (rename_i h5; exact (hS2.1 j (by omega)).1), by rw [ea25, mU_get]; split; (rename_i h5; rw [h5.2]; exact v8); (rename_i h5; rw [ea22, mU_cell (by decide)]; exact (hS2.1 j (by omega)).2)⟩, fun j hj => ⟨by rw [ea25, mU_cell (by decide), ea22, mU_slot (by omega)]; exact (hS2.2.1 j hj).1, by rw [ea25, mU_slot (by omega), ea22, mU_cell (by decide)]; exact (hS2.2.1 j hj).2⟩, fun c h7 h8 => by rw [ea25, mU_cell h8, ea22, mU_cell h7]; exact hS2.2.2 c h7 h8⟩)
              exact loop131 _ 0 a102 b102 rfl hR102 (hF102) (hC102) (by omega) (⟨fun j hj => absurd hj (by omega), fun _ _ => ⟨rfl, rfl⟩, fun _ _ _ => rfl⟩)
            · skip
              refine w_aload rfl rfl ?_
              refine w_getR (v := .inr (.inr (some 6))) rfl rfl rfl rfl rfl ?_
              refine w_iload rfl rfl ?_
              refine w_aload rfl rfl ?_
              refine w_getR (v := .inr (.inr (some 6))) rfl rfl rfl rfl rfl ?_
              refine w_const rfl ?_
              refine w_iload rfl rfl ?_
              first | refine w_iadd rfl (by omega) (fun x27 tx27 => ?_) | refine w_iiU rfl (fun x27 tx27 => ?_)
              refine m_iald rfl rfl (by omega) (fun x28 ex28 => ?_)
              have m9 : loM 6 i.toInt.toNat ≤ x28.toInt ∧ x28.toInt ≤ hiM K 6 i.toInt.toNat := by have g8 := hR102 6 (110 + i.toInt.toNat); rw [(la_per (K := K)).1, (la_per (K := K)).2] at g8; rw [ex28, show (x27).toInt.toNat = 110 + i.toInt.toNat from by omega]; exact g8
              have v9 : x28 = a88 6 (110 + i.toInt.toNat) := by rw [ex28, show (x27).toInt.toNat = 110 + i.toInt.toNat from by omega, hS.2.1 _ (by omega)]
              refine m_iast rfl rfl (by omega) (fun a29 ea29 => ?_)
              have ha29 : RM K a29 := RM.up hR102 ea29 m9
              have ua29_8 : (a29 0 8).toInt = (a102 0 8).toInt := by rw [ea29, mU_cell (by decide)]
              refine w_iinc (lo' := fun z9 => [some (.inr (.inr (some 0))), some (.inl z9)]) rfl rfl (fun _ => rfl) (by omega) (fun x30 tx30 => ?_)
              refine w_goto rfl ?_
              exact ih102 (110 - x30.toInt).toNat (by omega) x30 a29 b102 rfl ha29 (FR.up (hF102) (by decide) ea29) (fun (m9 : Nat) (l9 : m9 < 22) (h7 : ACm m9 a) => ACm.up ((hC102) m9 l9 h7) ea29 (by decide)) (by omega) (⟨fun j hj => by rw [ea29, mU_get]; split; (rename_i h5; rw [h5.2]; exact v9); (rename_i h5; exact hS.1 j (by omega)), fun j hj => by rw [ea29, mU_slot (by omega)]; exact hS.2.1 j hj, fun c hc => by rw [ea29, mU_cell hc]; exact hS.2.2 c hc⟩)
        exact loop102 _ 0 a88 b88 rfl hR88 (hF88) (hC88) (by omega) (⟨fun j hj => absurd hj (by omega), fun _ _ => rfl, fun _ _ => rfl⟩)
      · skip
        refine w_aload rfl rfl ?_
        refine w_getI (v := .inl (a88 0 8)) rfl rfl rfl rfl rfl ?_
        have q31 : 0 ≤ (a88 0 8).toInt ∧ (a88 0 8).toInt ≤ 2147483647 := hR88 0 8
        exact wp_iret (z := false) rfl (fun h9 => by cases h9) ⟨a88, b88, rfl, hR88, ⟨hF88, hC88, by first | exact ⟨cd9, ln9, t9, fun m9 h9 h8 => absurd (BG9.2.1 m9 h9) h8⟩ | exact ⟨hC.same hL.1 (fun j hj => (hL.2 j hj).1) (fun j hj => (hL.2 j hj).2), hLn.same hR (fun j _ => by rw [hq]), h02, fun m9 _ h8 => by rw [hq6] at h8; exact h8⟩⟩, ⟨_, rfl, trivial⟩⟩
  refine w_aload rfl rfl ?_
  refine w_const rfl ?_
  refine w_invV (rest := []) rfl rfl rfl rfl rfl (Nat.le_of_ble_eq_true rfl) rfl (by omega) (s_standsAsAlways_1 (K := K) a7 b5  110 ha7 (by omega)) (fun v32 h9 hq33 => ?_)
  obtain ⟨a34, rfl, ha34, fa34, rfl⟩ := hq33
  show f_wp _ (25, [some (.inr (.inr (some 0))), none], [], mH a34 b5) _
  have ct := fa34.2
  have LI0 : LI N a34 := ⟨hN1, by rw [fa34.1 0 (by decide), ea7, mU_slot (by decide), ea6, mU_slot (by decide), ce.2.1]; omega, by rw [fa34.1 2 (by decide), ea7, mU_cell (by decide), ea6, mU_cell (by decide)]; exact hN2, by rw [fa34.1 0 (by decide), ea7, mU_slot (by decide), mU_slot (by decide), ea6, mU_same, mU_slot (by decide), ce.2.1]; decide, fun _ i9 h9 => Or.inl (by rcases (by omega : i9 = 0 ∨ i9 = 1) with rfl | rfl; (have c8 : (a34 6 115).toInt = -1 := ct.2.1; show (a34 6 115).toInt < 0; omega); (have c8 : (a34 6 116).toInt = -1 := ct.2.2; show (a34 6 116).toInt < 0; omega))⟩
  have loop25 : ∀ (ms9 : Nat)  (a25 : Nat → Nat → Int32) (b25 : Nat → Nat → Int64) , (if (a25 0 8).toInt = 0 then (N : Int) - (a25 0 7).toInt + 1 else 0).toNat = ms9 → RM K a25 → FR [0, 2, 3, 6, 7, 8, 11, 15, 16] a a25 → (∀ m9, m9 < 22 → ACm m9 a → ACm m9 a25) → (LI N a25) → ((∀ j, j < 110 → a25 6 j = a 6 j) ∧ (∀ j, j < 1100 → a25 7 j = a 7 j ∧ a25 8 j = a 8 j)) → (a25 11 = a 11) → ((a25 0 2).toInt = 0) → (a25 16 = a 16) → f_wp (f_code (t_X13_land (f_ev mtM d))) (25, [some (.inr (.inr (some 0))), none], [], mH a25 b25) (fun v9 h' => ∃ (a' : Nat → Nat → Int32) (b' : Nat → Nat → Int64), h' = mH a' b' ∧ RM K a' ∧ (FR [0, 2, 3, 6, 7, 8, 11, 15, 16] a a' ∧ (∀ m9, m9 < 22 → ACm m9 a → ACm m9 a') ∧ (CDI a' ∧ LNI a' ∧ (a' 0 2).toInt = 0 ∧ ∀ m9 : Nat, m9 < 4 → (a' 16 m9).toInt ≠ 0 → (a 16 m9).toInt ≠ 0)) ∧ ∃ x : Int32, v9 = some (.inl x) ∧ True) := by
    intro ms9
    induction ms9 using Nat.strongRecOn with
    | _ ms25 ih25 =>
      intro  a25 b25  hm25 hR25 hF25 hC25 hI hL hq h02 hq6
      refine w_aload rfl rfl ?_
      refine w_getI (v := .inl (a25 0 8)) rfl rfl rfl rfl rfl ?_
      have q35 : 0 ≤ (a25 0 8).toInt ∧ (a25 0 8).toInt ≤ 2147483647 := hR25 0 8
      refine w_if_ne rfl (fun c36 => ?_) (fun c36 => ?_)
      · skip
        refine w_aload rfl rfl ?_
        refine w_getR (v := .inr (.inr (some 2))) rfl rfl rfl rfl rfl ?_
        refine w_aload rfl rfl ?_
        refine w_getI (v := .inl (a25 0 7)) rfl rfl rfl rfl rfl ?_
        have q37 : 0 ≤ (a25 0 7).toInt ∧ (a25 0 7).toInt ≤ 1000 := hR25 0 7
        refine m_iald rfl rfl (by omega) (fun x38 ex38 => ?_)
        have qx38 : 0 ≤ x38.toInt ∧ x38.toInt ≤ 4 := by rw [ex38]; exact hR25 2 _
        have e9 := congrArg Int32.toInt ex38
        refine w_if_eq rfl (fun c39 => ?_) (fun c39 => ?_)
        · skip
          exact loop88 _ a25 b25 rfl hR25 (hF25) (hC25) (hI) (hL) (hq) (h02) (hq6)
        · skip
          refine w_aload rfl rfl ?_
          refine w_const rfl ?_
          refine w_invV (rest := []) rfl rfl rfl rfl rfl (Nat.le_of_ble_eq_true rfl) rfl (by omega) (s_isWord (K := K) a25 b25  0 hR25 (by omega)) (fun v40 h9 hq41 => ?_)
          obtain ⟨rfl, x42, rfl, px42⟩ := hq41
          show f_wp _ (49, [some (.inr (.inr (some 0))), none], [.inl x42], mH a25 b25) _
          refine w_if_eq rfl (fun c43 => ?_) (fun c43 => ?_)
          · skip
            refine w_aload rfl rfl ?_
            refine w_const rfl ?_
            refine w_invV (rest := []) rfl rfl rfl rfl rfl (Nat.le_of_ble_eq_true rfl) rfl (by omega) (s_isWord (K := K) a25 b25  9 hR25 (by omega)) (fun v44 h9 hq45 => ?_)
            obtain ⟨rfl, x46, rfl, px46⟩ := hq45
            show f_wp _ (65, [some (.inr (.inr (some 0))), none], [.inl x46], mH a25 b25) _
            refine w_if_eq rfl (fun c47 => ?_) (fun c47 => ?_)
            · skip
              refine w_aload rfl rfl ?_
              refine w_invV (rest := []) rfl rfl rfl rfl rfl (Nat.le_of_ble_eq_true rfl) rfl (by omega) (s_readOnce (K := K) a25 b25 N  hR25 (hI)) (fun v48 h9 hq49 => ?_)
              obtain ⟨a50, rfl, ha50, fa50, rfl⟩ := hq49
              show f_wp _ (79, [some (.inr (.inr (some 0))), none], [], mH a50 b25) _
              have L1 := fa50.2
              refine w_aload rfl rfl ?_
              refine w_const rfl ?_
              refine w_invV (rest := []) rfl rfl rfl rfl rfl (Nat.le_of_ble_eq_true rfl) rfl (by omega) (s_takeSign (K := K) a50 b25 N 59 ha50 (L1.1.T)) (fun v51 h9 hq52 => ?_)
              obtain ⟨a53, rfl, ha53, fa53, rfl⟩ := hq52
              show f_wp _ (85, [some (.inr (.inr (some 0))), none], [], mH a53 b25) _
              have L2 := L1.1.rk ((RK.rf L1.1.T).tok fa53.1 fa53.2.1 (fun z => by have o9 := fa53.2.2; omega)) (fa53.1 7 (by decide)) (fa53.1 8 (by decide))
              have o8 := fa53.2.2
              have g1 := L1.2.2.2.2
              have j2 := L2.1.2.1
              refine w_goto rfl ?_
              exact ih25 (if (a53 0 8).toInt = 0 then (N : Int) - (a53 0 7).toInt + 1 else 0).toNat (by rw [if_pos (by omega)] at hm25; split <;> omega) a53 b25 rfl ha53 (FR.tr (FR.tr (hF25) (FR.sub fa50.1 (by decide))) (FR.sub fa53.1 (by decide))) (fun (m9 : Nat) (l9 : m9 < 22) (h7 : ACm m9 a) => ACm.fr ((fun (m9 : Nat) (l9 : m9 < 22) (h7 : ACm m9 a) => ACm.fr ((hC25) m9 l9 h7) fa50.1 (by decide)) m9 l9 h7) fa53.1 (by decide)) (L2.1) (⟨fun j hj => by rw [L2.2.1 j hj, L1.2.1 j hj]; exact hL.1 j hj, fun j hj => ⟨by rw [(L2.2.2.1 j hj).1, (L1.2.2.1 j hj).1]; exact (hL.2 j hj).1, by rw [(L2.2.2.1 j hj).2, (L1.2.2.1 j hj).2]; exact (hL.2 j hj).2⟩⟩) (by rw [fa53.1 11 (by decide), fa50.1 11 (by decide)]; exact hq) (by rw [L2.2.2.2.1 2 (by decide) (by decide) (by decide) (by decide) (by decide), L1.2.2.2.1 2 (by decide) (by decide) (by decide) (by decide) (by decide)]; exact h02) (by rw [fa53.1 16 (by decide), fa50.1 16 (by decide)]; exact hq6)
            · skip
              refine w_aload rfl rfl ?_
              refine w_invV (rest := []) rfl rfl rfl rfl rfl (Nat.le_of_ble_eq_true rfl) rfl (by omega) (s_readRange (K := K) a25 b25 N  hR25 (hI.T) (TK.lt hI.T (show (0 : Int) ≤ _ from (hR25 0 7).1) (by omega))) (fun v54 h9 hq55 => ?_)
              obtain ⟨a56, rfl, ha56, fa56, rfl⟩ := hq55
              show f_wp _ (72, [some (.inr (.inr (some 0))), none], [], mH a56 b25) _
              have L1 := hI.rk fa56.2 (fa56.1 7 (by decide)) (fa56.1 8 (by decide))
              refine w_goto rfl ?_
              refine w_aload rfl rfl ?_
              refine w_const rfl ?_
              refine w_invV (rest := []) rfl rfl rfl rfl rfl (Nat.le_of_ble_eq_true rfl) rfl (by omega) (s_takeSign (K := K) a56 b25 N 59 ha56 (L1.1.T)) (fun v57 h9 hq58 => ?_)
              obtain ⟨a59, rfl, ha59, fa59, rfl⟩ := hq58
              show f_wp _ (85, [some (.inr (.inr (some 0))), none], [], mH a59 b25) _
              have L2 := L1.1.rk ((RK.rf L1.1.T).tok fa59.1 fa59.2.1 (fun z => by have o9 := fa59.2.2; omega)) (fa59.1 7 (by decide)) (fa59.1 8 (by decide))
              have o8 := fa59.2.2
              have g1 := L1.2.2.2.2
              have j2 := L2.1.2.1
              refine w_goto rfl ?_
              exact ih25 (if (a59 0 8).toInt = 0 then (N : Int) - (a59 0 7).toInt + 1 else 0).toNat (by rw [if_pos (by omega)] at hm25; split <;> omega) a59 b25 rfl ha59 (FR.tr (FR.tr (hF25) (FR.sub fa56.1 (by decide))) (FR.sub fa59.1 (by decide))) (fun (m9 : Nat) (l9 : m9 < 22) (h7 : ACm m9 a) => ACm.fr ((fun (m9 : Nat) (l9 : m9 < 22) (h7 : ACm m9 a) => ACm.fr ((hC25) m9 l9 h7) fa56.1 (by decide)) m9 l9 h7) fa59.1 (by decide)) (L2.1) (⟨fun j hj => by rw [L2.2.1 j hj, L1.2.1 j hj]; exact hL.1 j hj, fun j hj => ⟨by rw [(L2.2.2.1 j hj).1, (L1.2.2.1 j hj).1]; exact (hL.2 j hj).1, by rw [(L2.2.2.1 j hj).2, (L1.2.2.1 j hj).2]; exact (hL.2 j hj).2⟩⟩) (by rw [fa59.1 11 (by decide), fa56.1 11 (by decide)]; exact hq) (by rw [L2.2.2.2.1 2 (by decide) (by decide) (by decide) (by decide) (by decide), L1.2.2.2.1 2 (by decide) (by decide) (by decide) (by decide) (by decide)]; exact h02) (by rw [fa59.1 16 (by decide), fa56.1 16 (by decide)]; exact hq6)
          · skip
            refine w_aload rfl rfl ?_
            refine w_invV (rest := []) rfl rfl rfl rfl rfl (Nat.le_of_ble_eq_true rfl) rfl (by omega) (s_readRiver (K := K) a25 b25 N  hR25 (hI.T) (TK.lt hI.T (show (0 : Int) ≤ _ from (hR25 0 7).1) (by omega))) (fun v60 h9 hq61 => ?_)
            obtain ⟨a62, b63, rfl, ha62, fa62, rfl⟩ := hq61
            show f_wp _ (56, [some (.inr (.inr (some 0))), none], [], mH a62 b63) _
            have L1 := hI.rk fa62.2 (fa62.1 7 (by decide)) (fa62.1 8 (by decide))
            refine w_goto rfl ?_
            refine w_aload rfl rfl ?_
            refine w_const rfl ?_
            refine w_invV (rest := []) rfl rfl rfl rfl rfl (Nat.le_of_ble_eq_true rfl) rfl (by omega) (s_takeSign (K := K) a62 b63 N 59 ha62 (L1.1.T)) (fun v64 h9 hq65 => ?_)
            obtain ⟨a66, rfl, ha66, fa66, rfl⟩ := hq65
            show f_wp _ (85, [some (.inr (.inr (some 0))), none], [], mH a66 b63) _
            have L2 := L1.1.rk ((RK.rf L1.1.T).tok fa66.1 fa66.2.1 (fun z => by have o9 := fa66.2.2; omega)) (fa66.1 7 (by decide)) (fa66.1 8 (by decide))
            have o8 := fa66.2.2
            have g1 := L1.2.2.2.2
            have j2 := L2.1.2.1
            refine w_goto rfl ?_
            exact ih25 (if (a66 0 8).toInt = 0 then (N : Int) - (a66 0 7).toInt + 1 else 0).toNat (by rw [if_pos (by omega)] at hm25; split <;> omega) a66 b63 rfl ha66 (FR.tr (FR.tr (hF25) (FR.sub fa62.1 (by decide))) (FR.sub fa66.1 (by decide))) (fun (m9 : Nat) (l9 : m9 < 22) (h7 : ACm m9 a) => ACm.fr ((fun (m9 : Nat) (l9 : m9 < 22) (h7 : ACm m9 a) => ACm.fr ((hC25) m9 l9 h7) fa62.1 (by decide)) m9 l9 h7) fa66.1 (by decide)) (L2.1) (⟨fun j hj => by rw [L2.2.1 j hj, L1.2.1 j hj]; exact hL.1 j hj, fun j hj => ⟨by rw [(L2.2.2.1 j hj).1, (L1.2.2.1 j hj).1]; exact (hL.2 j hj).1, by rw [(L2.2.2.1 j hj).2, (L1.2.2.1 j hj).2]; exact (hL.2 j hj).2⟩⟩) (by rw [fa66.1 11 (by decide), fa62.1 11 (by decide)]; exact hq) (by rw [L2.2.2.2.1 2 (by decide) (by decide) (by decide) (by decide) (by decide), L1.2.2.2.1 2 (by decide) (by decide) (by decide) (by decide) (by decide)]; exact h02) (by rw [fa66.1 16 (by decide), fa62.1 16 (by decide)]; exact hq6)
      · skip
        exact loop88 _ a25 b25 rfl hR25 (hF25) (hC25) (hI) (hL) (hq) (h02) (hq6)
  exact loop25 _ a34 b5 rfl ha34 (FR.tr (FR.up (FR.up (FR.tr (FR.up (FR.rf) (by decide) ea1) (FR.sub fa4.1 (by decide))) (by decide) ea6) (by decide) ea7) (FR.sub fa34.1 (by decide))) (fun (m9 : Nat) (l9 : m9 < 22) (h7 : ACm m9 a) => ACm.fr ((fun (m9 : Nat) (l9 : m9 < 22) (h7 : ACm m9 a) => ACm.up ((fun (m9 : Nat) (l9 : m9 < 22) (h7 : ACm m9 a) => ACm.up ((fun (m9 : Nat) (l9 : m9 < 22) (h7 : ACm m9 a) => ACm.fr ((fun (m9 : Nat) (l9 : m9 < 22) (h7 : ACm m9 a) => ACm.up ((fun (m9 : Nat) (l9 : m9 < 22) (h7 : ACm m9 a) => h7) m9 l9 h7) ea1 (by decide)) m9 l9 h7) fa4.1 (by decide)) m9 l9 h7) ea6 (by decide)) m9 l9 h7) ea7 (by decide)) m9 l9 h7) fa34.1 (by decide)) (LI0) (⟨fun j hj => by rw [fa34.2.1 j (Or.inl (by omega)), ea7, mU_cell (by decide), ea6, mU_cell (by decide), fa4.1 6 (by decide), ea1, mU_cell (by decide)], fun j hj => ⟨by rw [fa34.1 7 (by decide), ea7, mU_cell (by decide), ea6, mU_cell (by decide), fa4.1 7 (by decide), ea1, mU_cell (by decide)], by rw [fa34.1 8 (by decide), ea7, mU_cell (by decide), ea6, mU_cell (by decide), fa4.1 8 (by decide), ea1, mU_cell (by decide)]⟩⟩) (by rw [fa34.1 11 (by decide), ea7, mU_cell (by decide), ea6, mU_cell (by decide), fa4.1 11 (by decide), ea1, mU_cell (by decide)]) (by rw [fa34.1 0 (by decide), ea7, mU_slot (by decide), ea6, mU_slot (by decide)]; exact fa4.2.2.2.1) (by rw [fa34.1 16 (by decide), ea7, mU_cell (by decide), ea6, mU_cell (by decide), fa4.1 16 (by decide), ea1, mU_cell (by decide)])
