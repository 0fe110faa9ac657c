set_option maxHeartbeats 2000000 in
set_option maxRecDepth 4000 in
theorem s_will {K : Nat} (a : Nat → Nat → Int32) (b : Nat → Nat → Int64)  (hR : RM K a)  : f_call mtM 6 28 [.inr (.inr (some 0))] (mH a b) (fun v9 h' => ∃ (a' : Nat → Nat → Int32) (b' : Nat → Nat → Int64), h' = mH a' b' ∧ RM K a' ∧ (FR [0, 2, 3, 12, 15] a a' ∧ (∀ m9, m9 < 22 → ACm m9 a → ACm m9 a') ∧ ((a' 0 2).toInt = 0)) ∧ ∃ x : Int32, v9 = some (.inl x) ∧ True) := by
  refine f_call_of (d0 := 5) rfl (Nat.le_of_ble_eq_true rfl) (fun d hd => ?_)
  show f_wp _ (0, [some (.inr (.inr (some 0))), none, none], [], mH a b) _
  have l0 : (0 : Int32).toInt = 0 := rfl
  have l1 : (1 : Int32).toInt = 1 := rfl
  have l5 : (5 : Int32).toInt = 5 := rfl
  have l6 : (6 : Int32).toInt = 6 := rfl
  have l19 : (19 : Int32).toInt = 19 := rfl
  have l20 : (20 : Int32).toInt = 20 := rfl
  have l59 : (59 : Int32).toInt = 59 := rfl
  have l99 : (99 : Int32).toInt = 99 := rfl
  refine w_aload rfl rfl ?_
  refine w_const rfl ?_
  refine m_putI (z := false) rfl rfl rfl rfl (by first | (intro h9; cases h9; done) | (intro _; first | exact Or.inl rfl | exact Or.inr rfl | assumption)) (fun a1 ea1 => ?_)
  have ha1 : RM K a1 := RM.up hR ea1 ⟨ti_lo _, ti_hi _⟩
  have ua1_0 : a1 0 0 = (0 : Int32) := by rw [ea1, mU_same]
  have wa1_0 := congrArg Int32.toInt ua1_0
  refine w_aload rfl rfl ?_
  refine w_invV (rest := []) rfl rfl rfl rfl rfl (Nat.le_of_ble_eq_true rfl) rfl (by omega) (s_cutAll (K := K) a1 b   ha1 ) (fun v2 h9 hq3 => ?_)
  obtain ⟨a4, b5, rfl, ha4, fa4, rfl⟩ := hq3
  show f_wp _ (9, [some (.inr (.inr (some 0))), none, none], [], mH a4 b5) _
  obtain ⟨N, hN1, hN2⟩ := fa4.2.2.2.2.1
  have ce := fa4
  have loop96 : ∀ (ms9 : Nat) (n : Int32) (a96 : Nat → Nat → Int32) (b96 : Nat → Nat → Int64) , ((0 : Int)).toNat = ms9 → RM K a96 → FR [0, 2, 3, 12, 15] a a96 → (∀ m9, m9 < 22 → ACm m9 a → ACm m9 a96) → (0 ≤ n.toInt ∧ n.toInt ≤ 6) → ((a96 0 2).toInt = 0) → f_wp (f_code (t_X13_will (f_ev mtM d))) (96, [some (.inr (.inr (some 0))), some (.inl n), none], [], mH a96 b96) (fun v9 h' => ∃ (a' : Nat → Nat → Int32) (b' : Nat → Nat → Int64), h' = mH a' b' ∧ RM K a' ∧ (FR [0, 2, 3, 12, 15] a a' ∧ (∀ m9, m9 < 22 → ACm m9 a → ACm m9 a') ∧ ((a' 0 2).toInt = 0)) ∧ ∃ x : Int32, v9 = some (.inl x) ∧ True) := by
    intro ms9
    induction ms9 using Nat.strongRecOn with
    | _ ms96 ih96 =>
      intro n a96 b96  hm96 hR96 hF96 hC96 hn h02
      refine w_aload rfl rfl ?_
      refine w_getI (v := .inl (a96 0 8)) rfl rfl rfl rfl rfl ?_
      have q6 : 0 ≤ (a96 0 8).toInt ∧ (a96 0 8).toInt ≤ 2147483647 := hR96 0 8
      refine w_if_le rfl (fun c7 => ?_) (fun c7 => ?_)
      · skip
        refine w_aload rfl rfl ?_
        refine w_getR (v := .inr (.inr (some 15))) rfl rfl rfl rfl rfl ?_
        refine w_const rfl ?_
        refine w_iload rfl rfl ?_
        refine m_iast rfl rfl (by omega) (fun a8 ea8 => ?_)
        have ha8 : RM K a8 := RM.up hR96 ea8 (show (-1 : Int) ≤ _ ∧ _ ≤ (6 : Int) from by omega)
        have ua8_8 : (a8 0 8).toInt = (a96 0 8).toInt := by rw [ea8, mU_cell (by decide)]
        refine w_const rfl ?_
        refine w_istore (lo' := [some (.inr (.inr (some 0))), some (.inl n), some (.inl 0)]) rfl rfl ?_
        have loop118 : ∀ (ms9 : Nat) (i : Int32) (a118 : Nat → Nat → Int32) (b118 : Nat → Nat → Int64) , (6 - i.toInt).toNat = ms9 → RM K a118 → FR [0, 2, 3, 12, 15] a a118 → (∀ m9, m9 < 22 → ACm m9 a → ACm m9 a118) → (0 ≤ i.toInt ∧ i.toInt ≤ 6) → ((a118 0 2).toInt = 0) → f_wp (f_code (t_X13_will (f_ev mtM d))) (118, [some (.inr (.inr (some 0))), some (.inl n), some (.inl i)], [], mH a118 b118) (fun v9 h' => ∃ (a' : Nat → Nat → Int32) (b' : Nat → Nat → Int64), h' = mH a' b' ∧ RM K a' ∧ (FR [0, 2, 3, 12, 15] a a' ∧ (∀ m9, m9 < 22 → ACm m9 a → ACm m9 a') ∧ ((a' 0 2).toInt = 0)) ∧ ∃ x : Int32, v9 = some (.inl x) ∧ True) := by
          intro ms9
          induction ms9 using Nat.strongRecOn with
          | _ ms118 ih118 =>
            intro i a118 b118  hm118 hR118 hF118 hC118 hi h022
            refine w_iload rfl rfl ?_
            refine w_iload rfl rfl ?_
            refine w_ic_ge rfl (fun c9 => ?_) (fun c9 => ?_)
            · skip
              refine w_const rfl ?_
              exact wp_iret (z := false) rfl (fun h9 => by cases h9) ⟨a118, b118, rfl, hR118, ⟨hF118, hC118, by first | exact h022 | exact h02⟩, ⟨_, rfl, trivial⟩⟩
            · skip
              refine w_aload rfl rfl ?_
              refine w_getR (v := .inr (.inr (some 15))) rfl rfl rfl rfl rfl ?_
              refine w_const rfl ?_
              refine w_iload rfl rfl ?_
              first | refine w_iadd rfl (by omega) (fun x10 tx10 => ?_) | refine w_iiU rfl (fun x10 tx10 => ?_)
              refine w_aload rfl rfl ?_
              refine w_getR (v := .inr (.inr (some 12))) rfl rfl rfl rfl rfl ?_
              refine w_iload rfl rfl ?_
              refine m_iald rfl rfl (by omega) (fun x11 ex11 => ?_)
              have qx11 : 0 ≤ x11.toInt ∧ x11.toInt ≤ 99 := by rw [ex11]; exact hR118 12 _
              refine m_iast rfl rfl (by omega) (fun a12 ea12 => ?_)
              have ha12 : RM K a12 := RM.up hR118 ea12 (st_will (by omega) (by omega))
              have ua12_8 : (a12 0 8).toInt = (a118 0 8).toInt := by rw [ea12, mU_cell (by decide)]
              refine w_iinc (lo' := fun z9 => [some (.inr (.inr (some 0))), some (.inl n), some (.inl z9)]) rfl rfl (fun _ => rfl) (by omega) (fun x13 tx13 => ?_)
              refine w_goto rfl ?_
              exact ih118 (6 - x13.toInt).toNat (by omega) x13 a12 b118 rfl ha12 (FR.up (hF118) (by decide) ea12) (fun (m9 : Nat) (l9 : m9 < 22) (h7 : ACm m9 a) => ACm.put ((hC118) m9 l9 h7) ea12 (by omega)) (by omega) (by rw [ea12, mU_cell (by decide)]; exact h022)
        exact loop118 _ 0 a8 b96 rfl ha8 (FR.up (hF96) (by decide) ea8) (fun (m9 : Nat) (l9 : m9 < 22) (h7 : ACm m9 a) => ACm.put ((hC96) m9 l9 h7) ea8 (by omega)) (by omega) (by rw [ea8, mU_cell (by decide)]; exact h02)
      · skip
        refine w_aload rfl rfl ?_
        refine w_getI (v := .inl (a96 0 8)) rfl rfl rfl rfl rfl ?_
        have q14 : 0 ≤ (a96 0 8).toInt ∧ (a96 0 8).toInt ≤ 2147483647 := hR96 0 8
        exact wp_iret (z := false) rfl (fun h9 => by cases h9) ⟨a96, b96, rfl, hR96, ⟨hF96, hC96, by first | exact h022 | exact h02⟩, ⟨_, rfl, trivial⟩⟩
  refine w_const rfl ?_
  refine w_istore (lo' := [some (.inr (.inr (some 0))), some (.inl 0), none]) rfl rfl ?_
  have loop11 : ∀ (ms9 : Nat) (n : Int32) (a11 : Nat → Nat → Int32) (b11 : Nat → Nat → Int64) , (if (a11 0 8).toInt = 0 then (N : Int) - (a11 0 7).toInt + 1 else 0).toNat = ms9 → RM K a11 → FR [0, 2, 3, 12, 15] a a11 → (∀ m9, m9 < 22 → ACm m9 a → ACm m9 a11) → (N ≤ 1000 ∧ (a11 0 7).toInt ≤ N ∧ (a11 2 N).toInt = 0) → (0 ≤ n.toInt ∧ n.toInt ≤ 6) → ((a11 0 2).toInt = 0) → f_wp (f_code (t_X13_will (f_ev mtM d))) (11, [some (.inr (.inr (some 0))), some (.inl n), none], [], mH a11 b11) (fun v9 h' => ∃ (a' : Nat → Nat → Int32) (b' : Nat → Nat → Int64), h' = mH a' b' ∧ RM K a' ∧ (FR [0, 2, 3, 12, 15] a a' ∧ (∀ m9, m9 < 22 → ACm m9 a → ACm m9 a') ∧ ((a' 0 2).toInt = 0)) ∧ ∃ x : Int32, v9 = some (.inl x) ∧ True) := by
    intro ms9
    induction ms9 using Nat.strongRecOn with
    | _ ms11 ih11 =>
      intro n a11 b11  hm11 hR11 hF11 hC11 hT hn h02
      refine w_aload rfl rfl ?_
      refine w_getI (v := .inl (a11 0 8)) rfl rfl rfl rfl rfl ?_
      have q15 : 0 ≤ (a11 0 8).toInt ∧ (a11 0 8).toInt ≤ 2147483647 := hR11 0 8
      refine w_if_ne rfl (fun c16 => ?_) (fun c16 => ?_)
      · skip
        refine w_aload rfl rfl ?_
        refine w_getR (v := .inr (.inr (some 2))) rfl rfl rfl rfl rfl ?_
        refine w_aload rfl rfl ?_
        refine w_getI (v := .inl (a11 0 7)) rfl rfl rfl rfl rfl ?_
        have q17 : 0 ≤ (a11 0 7).toInt ∧ (a11 0 7).toInt ≤ 1000 := hR11 0 7
        refine m_iald rfl rfl (by omega) (fun x18 ex18 => ?_)
        have qx18 : 0 ≤ x18.toInt ∧ x18.toInt ≤ 4 := by rw [ex18]; exact hR11 2 _
        have e9 := congrArg Int32.toInt ex18
        refine w_if_eq rfl (fun c19 => ?_) (fun c19 => ?_)
        · skip
          exact loop96 _ n a11 b11 rfl hR11 (hF11) (hC11) (hn) (h02)
        · skip
          have y9 : (a11 0 7).toInt < N := TK.lt hT (show (0 : Int) ≤ _ from (hR11 0 7).1) (by omega)
          have h0 := RK.rf hT
          refine w_aload rfl rfl ?_
          refine w_const rfl ?_
          refine w_invV (rest := []) rfl rfl rfl rfl rfl (Nat.le_of_ble_eq_true rfl) rfl (by omega) (s_isWord (K := K) a11 b11  19 hR11 (by omega)) (fun v20 h9 hq21 => ?_)
          obtain ⟨rfl, x22, rfl, px22⟩ := hq21
          show f_wp _ (36, [some (.inr (.inr (some 0))), some (.inl n), none], [.inl x22], mH a11 b11) _
          refine w_if_ne rfl (fun c23 => ?_) (fun c23 => ?_)
          · skip
            refine w_aload rfl rfl ?_
            refine w_const rfl ?_
            refine w_invV (rest := []) rfl rfl rfl rfl rfl (Nat.le_of_ble_eq_true rfl) rfl (by omega) (s_wrong (K := K) a11 b11  1 hR11 (by omega)) (fun v24 h9 hq25 => ?_)
            obtain ⟨a26, rfl, ha26, fa26, rfl⟩ := hq25
            show f_wp _ (44, [some (.inr (.inr (some 0))), some (.inl n), none], [], mH a26 b11) _
            have rA := h0.bad fa26.1 fa26.2.1 (fun z => by have o9 := fa26.2.2; omega)
            refine w_goto rfl ?_
            refine w_aload rfl rfl ?_
            have hT6 : N ≤ 1000 ∧ (a26 0 7).toInt ≤ N ∧ (a26 2 N).toInt = 0 := by first | exact hT4 | exact rA.T hT.1
            have g6 : (a11 0 7).toInt ≤ (a26 0 7).toInt := by first | exact g4 | exact rA.2.2.1
            have k6 : (a26 0 2).toInt = 0 := by first | exact k4 | (rw [rA.2.2.2.1 2 (by decide) (by decide)]; exact h02)
            refine w_const rfl ?_
            refine w_invV (rest := []) rfl rfl rfl rfl rfl (Nat.le_of_ble_eq_true rfl) rfl (by omega) (s_takeSign (K := K) a26 b11 N 59 ha26 (hT6)) (fun v27 h9 hq28 => ?_)
            obtain ⟨a29, rfl, ha29, fa29, rfl⟩ := hq28
            show f_wp _ (93, [some (.inr (.inr (some 0))), some (.inl n), none], [], mH a29 b11) _
            have hT5 : N ≤ 1000 ∧ (a29 0 7).toInt ≤ N ∧ (a29 2 N).toInt = 0 := ⟨hT.1, fa29.2.1.2.2, by rw [fa29.1 2 (by decide)]; exact hT6.2.2⟩
            have h025 : (a29 0 2).toInt = 0 := by rw [fa29.2.1.1 2 (by decide) (by decide)]; exact k6
            have o8 := fa29.2.2
            have j2 := fa29.2.1.2.2
            refine w_goto rfl ?_
            exact ih11 (if (a29 0 8).toInt = 0 then (N : Int) - (a29 0 7).toInt + 1 else 0).toNat (by rw [if_pos (by omega)] at hm11; split <;> omega) n a29 b11 rfl ha29 (FR.tr (FR.tr (hF11) (FR.sub fa26.1 (by decide))) (FR.sub fa29.1 (by decide))) (fun (m9 : Nat) (l9 : m9 < 22) (h7 : ACm m9 a) => ACm.fr ((fun (m9 : Nat) (l9 : m9 < 22) (h7 : ACm m9 a) => ACm.fr ((hC11) m9 l9 h7) fa26.1 (by decide)) m9 l9 h7) fa29.1 (by decide)) (hT5) (by omega) (h025)
          · skip
            refine w_iload rfl rfl ?_
            refine w_const rfl ?_
            refine w_ic_ne rfl (fun c30 => ?_) (fun c30 => ?_)
            · skip
              refine w_aload rfl rfl ?_
              refine w_const rfl ?_
              refine w_invV (rest := []) rfl rfl rfl rfl rfl (Nat.le_of_ble_eq_true rfl) rfl (by omega) (s_wrong (K := K) a11 b11  5 hR11 (by omega)) (fun v31 h9 hq32 => ?_)
              obtain ⟨a33, rfl, ha33, fa33, rfl⟩ := hq32
              show f_wp _ (58, [some (.inr (.inr (some 0))), some (.inl n), none], [], mH a33 b11) _
              have rA := h0.bad fa33.1 fa33.2.1 (fun z => by have o9 := fa33.2.2; omega)
              refine w_goto rfl ?_
              refine w_aload rfl rfl ?_
              have hT6 : N ≤ 1000 ∧ (a33 0 7).toInt ≤ N ∧ (a33 2 N).toInt = 0 := by first | exact hT4 | exact rA.T hT.1
              have g6 : (a11 0 7).toInt ≤ (a33 0 7).toInt := by first | exact g4 | exact rA.2.2.1
              have k6 : (a33 0 2).toInt = 0 := by first | exact k4 | (rw [rA.2.2.2.1 2 (by decide) (by decide)]; exact h02)
              refine w_const rfl ?_
              refine w_invV (rest := []) rfl rfl rfl rfl rfl (Nat.le_of_ble_eq_true rfl) rfl (by omega) (s_takeSign (K := K) a33 b11 N 59 ha33 (hT6)) (fun v34 h9 hq35 => ?_)
              obtain ⟨a36, rfl, ha36, fa36, rfl⟩ := hq35
              show f_wp _ (93, [some (.inr (.inr (some 0))), some (.inl n), none], [], mH a36 b11) _
              have hT5 : N ≤ 1000 ∧ (a36 0 7).toInt ≤ N ∧ (a36 2 N).toInt = 0 := ⟨hT.1, fa36.2.1.2.2, by rw [fa36.1 2 (by decide)]; exact hT6.2.2⟩
              have h025 : (a36 0 2).toInt = 0 := by rw [fa36.2.1.1 2 (by decide) (by decide)]; exact k6
              have o8 := fa36.2.2
              have j2 := fa36.2.1.2.2
              refine w_goto rfl ?_
              exact ih11 (if (a36 0 8).toInt = 0 then (N : Int) - (a36 0 7).toInt + 1 else 0).toNat (by rw [if_pos (by omega)] at hm11; split <;> omega) n a36 b11 rfl ha36 (FR.tr (FR.tr (hF11) (FR.sub fa33.1 (by decide))) (FR.sub fa36.1 (by decide))) (fun (m9 : Nat) (l9 : m9 < 22) (h7 : ACm m9 a) => ACm.fr ((fun (m9 : Nat) (l9 : m9 < 22) (h7 : ACm m9 a) => ACm.fr ((hC11) m9 l9 h7) fa33.1 (by decide)) m9 l9 h7) fa36.1 (by decide)) (hT5) (by omega) (h025)
            · skip
              refine w_aload rfl rfl ?_
              refine w_dup rfl rfl ?_
              refine w_getI (v := .inl (a11 0 7)) rfl rfl rfl rfl rfl ?_
              have q37 : 0 ≤ (a11 0 7).toInt ∧ (a11 0 7).toInt ≤ 1000 := hR11 0 7
              refine w_const rfl ?_
              first | refine w_iadd rfl (by omega) (fun x38 tx38 => ?_) | refine w_iiU rfl (fun x38 tx38 => ?_)
              refine m_putI (z := false) rfl rfl rfl rfl (by first | (intro h9; cases h9; done) | (intro _; first | exact Or.inl rfl | exact Or.inr rfl | assumption)) (fun a39 ea39 => ?_)
              have ha39 : RM K a39 := RM.up hR11 ea39 (show (0 : Int) ≤ _ ∧ _ ≤ (1000 : Int) from by omega)
              have ua39_7 : a39 0 7 = x38 := by rw [ea39, mU_same]
              have wa39_7 := congrArg Int32.toInt ua39_7
              have ua39_8 : (a39 0 8).toInt = (a11 0 8).toInt := by rw [ea39, mU_slot (by decide)]
              have rB := h0.up ea39 (by omega)
              refine w_aload rfl rfl ?_
              refine w_getR (v := .inr (.inr (some 12))) rfl rfl rfl rfl rfl ?_
              refine w_iload rfl rfl ?_
              refine w_aload rfl rfl ?_
              refine w_const rfl ?_
              refine w_const rfl ?_
              refine w_invV (rest := [.inl n, .inr (.inr (some 12))]) rfl rfl rfl rfl rfl (Nat.le_of_ble_eq_true rfl) rfl (by omega) (s_takeNumber (K := K) a39 b11 N 0 99 ha39 (by omega) (rB.T hT.1)) (fun v40 h9 hq41 => ?_)
              obtain ⟨a42, rfl, ha42, fa42, x43, rfl, px43⟩ := hq41
              show f_wp _ (83, [some (.inr (.inr (some 0))), some (.inl n), none], [.inl x43, .inl n, .inr (.inr (some 12))], mH a42 b11) _
              have rC := rB.tok fa42.1 fa42.2 (fun z => by have o9 := px43; omega)
              have rCt := px43
              refine m_iast rfl rfl (by omega) (fun a44 ea44 => ?_)
              have ha44 : RM K a44 := RM.up ha42 ea44 (show (0 : Int) ≤ _ ∧ _ ≤ (99 : Int) from by omega)
              have ua44_7 : (a44 0 7).toInt = (a42 0 7).toInt := by rw [ea44, mU_cell (by decide)]
              have ua44_8 : (a44 0 8).toInt = (a42 0 8).toInt := by rw [ea44, mU_cell (by decide)]
              have hT4 : N ≤ 1000 ∧ (a44 0 7).toInt ≤ N ∧ (a44 2 N).toInt = 0 := by rw [ea44, mU_cell (by decide), mU_cell (by decide)]; exact rC.T hT.1
              have g4 : (a11 0 7).toInt ≤ (a44 0 7).toInt := by rw [ea44, mU_cell (by decide)]; exact rC.2.2.1
              have k4 : (a44 0 2).toInt = 0 := by rw [ea44, mU_cell (by decide), rC.2.2.2.1 2 (by decide) (by decide)]; exact h02
              refine w_iinc (lo' := fun z9 => [some (.inr (.inr (some 0))), some (.inl z9), none]) rfl rfl (fun _ => rfl) (by omega) (fun x45 tx45 => ?_)
              refine w_aload rfl rfl ?_
              have hT6 : N ≤ 1000 ∧ (a44 0 7).toInt ≤ N ∧ (a44 2 N).toInt = 0 := by first | exact hT4 | exact rA.T hT.1
              have g6 : (a11 0 7).toInt ≤ (a44 0 7).toInt := by first | exact g4 | exact rA.2.2.1
              have k6 : (a44 0 2).toInt = 0 := by first | exact k4 | (rw [rA.2.2.2.1 2 (by decide) (by decide)]; exact h02)
              refine w_const rfl ?_
              refine w_invV (rest := []) rfl rfl rfl rfl rfl (Nat.le_of_ble_eq_true rfl) rfl (by omega) (s_takeSign (K := K) a44 b11 N 59 ha44 (hT6)) (fun v46 h9 hq47 => ?_)
              obtain ⟨a48, rfl, ha48, fa48, rfl⟩ := hq47
              show f_wp _ (93, [some (.inr (.inr (some 0))), some (.inl x45), none], [], mH a48 b11) _
              have hT5 : N ≤ 1000 ∧ (a48 0 7).toInt ≤ N ∧ (a48 2 N).toInt = 0 := ⟨hT.1, fa48.2.1.2.2, by rw [fa48.1 2 (by decide)]; exact hT6.2.2⟩
              have h025 : (a48 0 2).toInt = 0 := by rw [fa48.2.1.1 2 (by decide) (by decide)]; exact k6
              have o8 := fa48.2.2
              have j2 := fa48.2.1.2.2
              refine w_goto rfl ?_
              exact ih11 (if (a48 0 8).toInt = 0 then (N : Int) - (a48 0 7).toInt + 1 else 0).toNat (by rw [if_pos (by omega)] at hm11; split <;> omega) x45 a48 b11 rfl ha48 (FR.tr (FR.up (FR.tr (FR.up (hF11) (by decide) ea39) (FR.sub fa42.1 (by decide))) (by decide) ea44) (FR.sub fa48.1 (by decide))) (fun (m9 : Nat) (l9 : m9 < 22) (h7 : ACm m9 a) => ACm.fr ((fun (m9 : Nat) (l9 : m9 < 22) (h7 : ACm m9 a) => ACm.up ((fun (m9 : Nat) (l9 : m9 < 22) (h7 : ACm m9 a) => ACm.fr ((fun (m9 : Nat) (l9 : m9 < 22) (h7 : ACm m9 a) => ACm.up ((hC11) m9 l9 h7) ea39 (by decide)) m9 l9 h7) fa42.1 (by decide)) m9 l9 h7) ea44 (by decide)) m9 l9 h7) fa48.1 (by decide)) (hT5) (by omega) (h025)
      · skip
        exact loop96 _ n a11 b11 rfl hR11 (hF11) (hC11) (hn) (h02)
  exact loop11 _ 0 a4 b5 rfl ha4 (FR.tr (FR.up (FR.rf) (by decide) ea1) (FR.sub fa4.1 (by decide))) (fun (m9 : Nat) (l9 : m9 < 22) (h7 : ACm m9 a) => ACm.fr ((fun (m9 : Nat) (l9 : m9 < 22) (h7 : ACm m9 a) => ACm.up ((fun (m9 : Nat) (l9 : m9 < 22) (h7 : ACm m9 a) => h7) m9 l9 h7) ea1 (by decide)) m9 l9 h7) fa4.1 (by decide)) (⟨hN1, by rw [ce.2.1]; omega, hN2⟩) (by omega) (ce.2.2.2.1)
