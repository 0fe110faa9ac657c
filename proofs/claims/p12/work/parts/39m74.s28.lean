set_option maxRecDepth 4000 in
theorem s_standsAsAlways_1 {K : Nat} (a : Nat → Nat → Int32) (b : Nat → Nat → Int64) (q : Int32) (hR : RM K a) (hq : q.toInt = 0 ∨ q.toInt = 110) : f_call mtM 1 15 [.inr (.inr (some 0)), .inl q] (mH a b) (fun v9 h' => ∃ (a' : Nat → Nat → Int32), h' = mH a' b ∧ RM K a' ∧ (FR [6] a a' ∧ ((∀ j, (j < q.toInt.toNat ∨ q.toInt.toNat + 110 ≤ j) → a' 6 j = a 6 j) ∧ (a' 6 (q.toInt.toNat + 5)).toInt = -1 ∧ (a' 6 (q.toInt.toNat + 6)).toInt = -1)) ∧ v9 = none) := by
  refine f_call_of (d0 := 0) rfl (Nat.le_of_ble_eq_true rfl) (fun d hd => ?_)
  show f_wp _ (0, [some (.inr (.inr (some 0))), some (.inl q), none], [], mH a b) _
  have lm1 : (-1 : Int32).toInt = -1 := rfl
  have l0 : (0 : Int32).toInt = 0 := rfl
  have l1 : (1 : Int32).toInt = 1 := rfl
  have l5 : (5 : Int32).toInt = 5 := rfl
  have l110 : (110 : Int32).toInt = 110 := rfl
  refine w_const rfl ?_
  refine w_istore (lo' := [some (.inr (.inr (some 0))), some (.inl q), some (.inl 0)]) rfl rfl ?_
  have loop2 : ∀ (ms9 : Nat) (k : Int32) (a2 : Nat → Nat → Int32) , (110 - k.toInt).toNat = ms9 → RM K a2 → FR [6] a a2 → (0 ≤ k.toInt ∧ k.toInt ≤ 110) → ((∀ j, (j < q.toInt.toNat ∨ q.toInt.toNat + 110 ≤ j) → a2 6 j = a 6 j)) → f_wp (f_code (t_X13_standsAsAlways (f_ev mtM d))) (2, [some (.inr (.inr (some 0))), some (.inl q), some (.inl k)], [], mH a2 b) (fun v9 h' => ∃ (a' : Nat → Nat → Int32), h' = mH a' b ∧ RM K a' ∧ (FR [6] a a' ∧ ((∀ j, (j < q.toInt.toNat ∨ q.toInt.toNat + 110 ≤ j) → a' 6 j = a 6 j) ∧ (a' 6 (q.toInt.toNat + 5)).toInt = -1 ∧ (a' 6 (q.toInt.toNat + 6)).toInt = -1)) ∧ v9 = none) := by
    intro ms9
    induction ms9 using Nat.strongRecOn with
    | _ ms2 ih2 =>
      intro k a2  hm2 hR2 hF2 hk hS
      refine w_iload rfl rfl ?_
      refine w_const rfl ?_
      refine w_ic_ge rfl (fun c1 => ?_) (fun c1 => ?_)
      · skip
        refine w_aload rfl rfl ?_
        refine w_getR (v := .inr (.inr (some 6))) rfl rfl rfl rfl rfl ?_
        refine w_iload rfl rfl ?_
        refine w_const rfl ?_
        first | refine w_iadd rfl (by omega) (fun x2 tx2 => ?_) | refine w_iiU rfl (fun x2 tx2 => ?_)
        refine w_const rfl ?_
        refine m_iast rfl rfl (by omega) (fun a3 ea3 => ?_)
        have ha3 : RM K a3 := RM.up hR2 ea3 (la_law (by omega) (by omega))
        refine w_aload rfl rfl ?_
        refine w_getR (v := .inr (.inr (some 6))) rfl rfl rfl rfl rfl ?_
        refine w_iload rfl rfl ?_
        refine w_const rfl ?_
        first | refine w_iadd rfl (by omega) (fun x4 tx4 => ?_) | refine w_iiU rfl (fun x4 tx4 => ?_)
        refine w_const rfl ?_
        first | refine w_iadd rfl (by omega) (fun x5 tx5 => ?_) | refine w_iiU rfl (fun x5 tx5 => ?_)
        refine w_const rfl ?_
        refine m_iast rfl rfl (by omega) (fun a6 ea6 => ?_)
        have ha6 : RM K a6 := RM.up ha3 ea6 (la_law (by omega) (by omega))
        exact w_ret rfl ⟨a6, rfl, ha6, ⟨FR.up (FR.up (hF2) (by decide) ea3) (by decide) ea6, ⟨fun j hj => by rw [ea6, mU_slot (by omega), ea3, mU_slot (by omega)]; exact hS j hj, by rw [ea6, mU_slot (by omega), ea3, show q.toInt.toNat + 5 = (x2).toInt.toNat from by omega, mU_same]; rfl, by rw [ea6, show q.toInt.toNat + 6 = (x5).toInt.toNat from by omega, mU_same]; rfl⟩⟩, rfl⟩
      · skip
        refine w_aload rfl rfl ?_
        refine w_getR (v := .inr (.inr (some 6))) rfl rfl rfl rfl rfl ?_
        refine w_iload rfl rfl ?_
        refine w_iload rfl rfl ?_
        first | refine w_iadd rfl (by omega) (fun x7 tx7 => ?_) | refine w_iiU rfl (fun x7 tx7 => ?_)
        refine w_const rfl ?_
        refine m_iast rfl rfl (by omega) (fun a8 ea8 => ?_)
        have ha8 : RM K a8 := RM.up hR2 ea8 (la_zero l0)
        refine w_iinc (lo' := fun z9 => [some (.inr (.inr (some 0))), some (.inl q), some (.inl z9)]) rfl rfl (fun _ => rfl) (by omega) (fun x9 tx9 => ?_)
        refine w_goto rfl ?_
        exact ih2 (110 - x9.toInt).toNat (by omega) x9 a8 rfl ha8 (FR.up (hF2) (by decide) ea8) (by omega) (fun j hj => by rw [ea8, mU_slot (by omega)]; exact hS j hj)
  exact loop2 _ 0 a rfl hR (FR.rf) (by omega) (fun _ _ => rfl)
set_option maxRecDepth 4000 in
theorem s_begins_1 {K : Nat} (a : Nat → Nat → Int32) (b : Nat → Nat → Int64)  (hR : RM K a)  : f_call mtM 2 39 [.inr (.inr (some 0))] (mH a b) (fun v9 h' => ∃ (a' : Nat → Nat → Int32), h' = mH a' b ∧ RM K a' ∧ (FR [0, 11, 15, 16] a a' ∧ (∀ m9, m9 < 22 → ACm m9 a → ACm m9 a') ∧ (((a' 11 0).toInt = 0 ∧ (∀ j, j ≠ 23 → a' 0 j = a 0 j)) ∧ (a' 0 23).toInt = 0 ∧ (∀ m9, m9 < 4 → (a' 16 m9).toInt = 0) ∧ AC a' 0)) ∧ v9 = none) := by
  refine f_call_of (d0 := 1) rfl (Nat.le_of_ble_eq_true rfl) (fun d hd => ?_)
  show f_wp _ (0, [some (.inr (.inr (some 0))), none], [], mH a b) _
  have lm1 : (-1 : Int32).toInt = -1 := rfl
  have l0 : (0 : Int32).toInt = 0 := rfl
  have l1 : (1 : Int32).toInt = 1 := rfl
  have l4 : (4 : Int32).toInt = 4 := rfl
  have l19 : (19 : Int32).toInt = 19 := rfl
  have l26 : (26 : Int32).toInt = 26 := rfl
  refine w_aload rfl rfl ?_
  refine w_const rfl ?_
  refine w_invV (rest := []) rfl rfl rfl rfl rfl (Nat.le_of_ble_eq_true rfl) rfl (by omega) (s_starts (K := K) a b  0 hR (by omega)) (fun v1 h9 hq2 => ?_)
  obtain ⟨a3, rfl, ha3, fa3, rfl⟩ := hq2
  show f_wp _ (5, [some (.inr (.inr (some 0))), none], [], mH a3 b) _
  refine w_aload rfl rfl ?_
  refine w_getR (v := .inr (.inr (some 15))) rfl rfl rfl rfl rfl ?_
  refine w_const rfl ?_
  refine w_const rfl ?_
  refine m_iast rfl rfl (by omega) (fun a4 ea4 => ?_)
  have ha4 : RM K a4 := RM.up ha3 ea4 (show (-1 : Int) ≤ _ ∧ _ ≤ (6 : Int) from by omega)
  refine w_aload rfl rfl ?_
  refine w_getR (v := .inr (.inr (some 15))) rfl rfl rfl rfl rfl ?_
  refine w_const rfl ?_
  refine w_const rfl ?_
  refine m_iast rfl rfl (by omega) (fun a5 ea5 => ?_)
  have ha5 : RM K a5 := RM.up ha4 ea5 (show (0 : Int) ≤ _ ∧ _ ≤ (10 : Int) from by omega)
  refine w_aload rfl rfl ?_
  refine w_getR (v := .inr (.inr (some 11))) rfl rfl rfl rfl rfl ?_
  refine w_const rfl ?_
  refine w_const rfl ?_
  refine m_iast rfl rfl (by omega) (fun a6 ea6 => ?_)
  have ha6 : RM K a6 := RM.up ha5 ea6 (show (0 : Int) ≤ _ ∧ _ ≤ (24 : Int) from by omega)
  refine w_aload rfl rfl ?_
  refine w_const rfl ?_
  refine m_putI (z := false) rfl rfl rfl rfl (by first | (intro h9; cases h9; done) | (intro _; first | exact Or.inl rfl | exact Or.inr rfl | assumption)) (fun a7 ea7 => ?_)
  have ha7 : RM K a7 := RM.up ha6 ea7 (show (0 : Int) ≤ _ ∧ _ ≤ (16 : Int) from by omega)
  have ua7_23 : a7 0 23 = (0 : Int32) := by rw [ea7, mU_same]
  have wa7_23 := congrArg Int32.toInt ua7_23
  refine w_const rfl ?_
  refine w_istore (lo' := [some (.inr (.inr (some 0))), some (.inl 0)]) rfl rfl ?_
  have loop35 : ∀ (ms9 : Nat) (m : Int32) (a35 : Nat → Nat → Int32) , (4 - m.toInt).toNat = ms9 → RM K a35 → FR [0, 11, 15, 16] a a35 → (∀ m9, m9 < 22 → ACm m9 a → ACm m9 a35) → (0 ≤ m.toInt ∧ m.toInt ≤ 4) → (((a35 11 0).toInt = 0 ∧ (∀ j, j ≠ 23 → a35 0 j = a 0 j))) → ((a35 0 23).toInt = 0 ∧ (∀ j, j < m.toInt.toNat → (a35 16 j).toInt = 0) ∧ AC a35 0) → f_wp (f_code (t_X13_begins (f_ev mtM d))) (35, [some (.inr (.inr (some 0))), some (.inl m)], [], mH a35 b) (fun v9 h' => ∃ (a' : Nat → Nat → Int32), h' = mH a' b ∧ RM K a' ∧ (FR [0, 11, 15, 16] a a' ∧ (∀ m9, m9 < 22 → ACm m9 a → ACm m9 a') ∧ (((a' 11 0).toInt = 0 ∧ (∀ j, j ≠ 23 → a' 0 j = a 0 j)) ∧ (a' 0 23).toInt = 0 ∧ (∀ m9, m9 < 4 → (a' 16 m9).toInt = 0) ∧ AC a' 0)) ∧ v9 = none) := by
    intro ms9
    induction ms9 using Nat.strongRecOn with
    | _ ms35 ih35 =>
      intro m a35  hm35 hR35 hF35 hC35 hm hS hB
      refine w_iload rfl rfl ?_
      refine w_const rfl ?_
      refine w_ic_ge rfl (fun c8 => ?_) (fun c8 => ?_)
      · skip
        exact w_ret rfl ⟨a35, rfl, hR35, ⟨hF35, hC35, ⟨hS, hB.1, fun m9 h9 => hB.2.1 m9 (by omega), hB.2.2⟩⟩, rfl⟩
      · skip
        refine w_aload rfl rfl ?_
        refine w_getR (v := .inr (.inr (some 16))) rfl rfl rfl rfl rfl ?_
        refine w_iload rfl rfl ?_
        refine w_const rfl ?_
        refine m_bast rfl rfl (by omega) (fun a9 ea9 => ?_)
        have ha9 : RM K a9 := RM.up hR35 ea9 (ti_nz _)
        refine w_iinc (lo' := fun z9 => [some (.inr (.inr (some 0))), some (.inl z9)]) rfl rfl (fun _ => rfl) (by omega) (fun x10 tx10 => ?_)
        refine w_goto rfl ?_
        exact ih35 (4 - x10.toInt).toNat (by omega) x10 a9 rfl ha9 (FR.up (hF35) (by decide) ea9) (fun (m9 : Nat) (l9 : m9 < 22) (h7 : ACm m9 a) => ACm.up ((hC35) m9 l9 h7) ea9 (by decide)) (by omega) (by rw [ea9, mU_cell (by decide), mU_cell (by decide)]; exact hS) (⟨by rw [ea9, mU_cell (by decide)]; exact hB.1, fun j hj => by rw [ea9, mU_get]; split; (first | rfl | decide | omega); (rename_i h5; exact hB.2.1 j (by omega)), AC.same hB.2.2 (fun r9 _ => by rw [ea9, mU_cell (by decide)])⟩)
  exact loop35 _ 0 a7 rfl ha7 (FR.up (FR.up (FR.up (FR.up (FR.tr (FR.rf) (FR.sub fa3.1 (by decide))) (by decide) ea4) (by decide) ea5) (by decide) ea6) (by decide) ea7) (fun (m9 : Nat) (l9 : m9 < 22) (h7 : ACm m9 a) => ACm.up ((fun (m9 : Nat) (l9 : m9 < 22) (h7 : ACm m9 a) => ACm.up ((fun (m9 : Nat) (l9 : m9 < 22) (h7 : ACm m9 a) => ACm.put ((fun (m9 : Nat) (l9 : m9 < 22) (h7 : ACm m9 a) => ACm.put ((fun (m9 : Nat) (l9 : m9 < 22) (h7 : ACm m9 a) => fa3.2.1 m9 (by omega) ((fun (m9 : Nat) (l9 : m9 < 22) (h7 : ACm m9 a) => h7) m9 l9 h7)) m9 l9 h7) ea4 (by omega)) m9 l9 h7) ea5 (by omega)) m9 l9 h7) ea6 (by decide)) m9 l9 h7) ea7 (by decide)) (by omega) (⟨by rw [ea7, mU_cell (by decide), ea6, show (0 : Int32).toInt.toNat = 0 from rfl, mU_same]; rfl, fun j hj => by rw [ea7, mU_slot hj, ea6, mU_cell (by decide), ea5, mU_cell (by decide), ea4, mU_cell (by decide), fa3.1 0 (by decide)]⟩) (⟨by rw [ea7, mU_same]; rfl, fun j hj => absurd hj (by omega), AC.same (AC.start (q := 0) (fun r9 h8 => by have h9 := fa3.2.2.2 r9 h8; rw [l0] at h9; simpa using h9)) (fun r9 _ => by rw [ea7, mU_cell (by decide), ea6, mU_cell (by decide), ea5, mU_slot (by omega), ea4, mU_slot (by omega)])⟩)
set_option maxHeartbeats 4000000 in
set_option maxRecDepth 4000 in
theorem s_readOnce {K : Nat} (a : Nat → Nat → Int32) (b : Nat → Nat → Int64) (N : Nat) (hR : RM K a) (hI : LI N a) : f_call mtM 36 26 [.inr (.inr (some 0))] (mH a b) (fun v9 h' => ∃ (a' : Nat → Nat → Int32), h' = mH a' b ∧ RM K a' ∧ (FR [0, 6, 7, 8] a a' ∧ (LI N a' ∧ KL a a')) ∧ v9 = none) := by
  refine f_call_of (d0 := 35) rfl (Nat.le_of_ble_eq_true rfl) (fun d hd => ?_)
  show f_wp _ (0, [some (.inr (.inr (some 0))), none], [], mH a b) _
  have lm1 : (-1 : Int32).toInt = -1 := rfl
  have l0 : (0 : Int32).toInt = 0 := rfl
  have l1 : (1 : Int32).toInt = 1 := rfl
  have l2 : (2 : Int32).toInt = 2 := rfl
  have l3 : (3 : Int32).toInt = 3 := rfl
  have l4 : (4 : Int32).toInt = 4 := rfl
  have l9 : (9 : Int32).toInt = 9 := rfl
  have l10 : (10 : Int32).toInt = 10 := rfl
  have l11 : (11 : Int32).toInt = 11 := rfl
  have l12 : (12 : Int32).toInt = 12 := rfl
  have l13 : (13 : Int32).toInt = 13 := rfl
  have l14 : (14 : Int32).toInt = 14 := rfl
  have l15 : (15 : Int32).toInt = 15 := rfl
  have l99 : (99 : Int32).toInt = 99 := rfl
  have l112 : (112 : Int32).toInt = 112 := rfl
  have l113 : (113 : Int32).toInt = 113 := rfl
  have l114 : (114 : Int32).toInt = 114 := rfl
  have l115 : (115 : Int32).toInt = 115 := rfl
  have z7 : 0 ≤ (a 0 7).toInt ∧ (a 0 7).toInt ≤ 1000 := hR 0 7
  have z8 : 0 ≤ (a 0 8).toInt ∧ (a 0 8).toInt ≤ 2147483647 := hR 0 8
  have hN := hI.1
  have z13 : 0 ≤ (a 0 13).toInt ∧ (a 0 13).toInt ≤ 1000 := hR 0 13
  have i2 := hI.2.1
  have i4 := hI.2.2.2.1
  refine w_aload rfl rfl ?_
  refine w_const rfl ?_
  refine w_invV (rest := []) rfl rfl rfl rfl rfl (Nat.le_of_ble_eq_true rfl) rfl (by omega) (s_isWord (K := K) a b  11 hR (by omega)) (fun v1 h9 hq2 => ?_)
  obtain ⟨rfl, x3, rfl, px3⟩ := hq2
  show f_wp _ (6, [some (.inr (.inr (some 0))), none], [.inl x3], mH a b) _
  have s1 := px3
  refine w_if_eq rfl (fun c4 => ?_) (fun c4 => ?_)
  · skip
    refine w_aload rfl rfl ?_
    refine w_const rfl ?_
    refine w_invV (rest := []) rfl rfl rfl rfl rfl (Nat.le_of_ble_eq_true rfl) rfl (by omega) (s_isWord (K := K) a b  12 hR (by omega)) (fun v5 h9 hq6 => ?_)
    obtain ⟨rfl, x7, rfl, px7⟩ := hq6
    show f_wp _ (19, [some (.inr (.inr (some 0))), none], [.inl x7], mH a b) _
    have s2 := px7
    refine w_if_eq rfl (fun c8 => ?_) (fun c8 => ?_)
    · skip
      refine w_aload rfl rfl ?_
      refine w_const rfl ?_
      refine w_invV (rest := []) rfl rfl rfl rfl rfl (Nat.le_of_ble_eq_true rfl) rfl (by omega) (s_isWord (K := K) a b  14 hR (by omega)) (fun v9 h9 hq10 => ?_)
      obtain ⟨rfl, x11, rfl, px11⟩ := hq10
      show f_wp _ (32, [some (.inr (.inr (some 0))), none], [.inl x11], mH a b) _
      have s3 := px11
      refine w_if_eq rfl (fun c12 => ?_) (fun c12 => ?_)
      · skip
        refine w_aload rfl rfl ?_
        refine w_const rfl ?_
        refine w_invV (rest := []) rfl rfl rfl rfl rfl (Nat.le_of_ble_eq_true rfl) rfl (by omega) (s_isWord (K := K) a b  15 hR (by omega)) (fun v13 h9 hq14 => ?_)
        obtain ⟨rfl, x15, rfl, px15⟩ := hq14
        show f_wp _ (45, [some (.inr (.inr (some 0))), none], [.inl x15], mH a b) _
        have s4 := px15
        refine w_if_eq rfl (fun c16 => ?_) (fun c16 => ?_)
        · skip
          refine w_const rfl ?_
          refine w_istore (lo' := [some (.inr (.inr (some 0))), some (.inl (-1))]) rfl rfl ?_
          refine w_iload rfl rfl ?_
          refine w_if_ge rfl (fun c17 => ?_) (fun c17 => ?_)
          · exfalso; omega
          · skip
            refine w_aload rfl rfl ?_
            refine w_const rfl ?_
            refine w_invV (rest := []) rfl rfl rfl rfl rfl (Nat.le_of_ble_eq_true rfl) rfl (by omega) (s_wrong (K := K) a b  1 hR (by omega)) (fun v18 h9 hq19 => ?_)
            obtain ⟨a20, rfl, ha20, fa20, rfl⟩ := hq19
            show f_wp _ (63, [some (.inr (.inr (some 0))), some (.inl (-1))], [], mH a20 b) _
            have wg := fa20.2.2
            refine w_goto rfl ?_
            refine w_aload rfl rfl ?_
            refine w_getI (v := .inl (a20 0 8)) rfl rfl rfl rfl rfl ?_
            have q21 : 0 ≤ (a20 0 8).toInt ∧ (a20 0 8).toInt ≤ 2147483647 := ha20 0 8
            refine w_if_le rfl (fun c22 => ?_) (fun c22 => ?_)
            · exfalso; omega
            · skip
              exact w_ret rfl ⟨a20, rfl, ha20, ⟨FR.tr (FR.rf) (FR.sub fa20.1 (by decide)), hI.rk ((RK.rf hI.T).bad fa20.1 fa20.2.1 (fun z => by have o9 := fa20.2.2; omega)) (fa20.1 7 (by decide)) (fa20.1 8 (by decide))⟩, rfl⟩
        · skip
          refine w_const rfl ?_
          refine w_goto rfl ?_
          refine w_istore (lo' := [some (.inr (.inr (some 0))), some (.inl 3)]) rfl rfl ?_
          refine w_iload rfl rfl ?_
          refine w_if_ge rfl (fun c23 => ?_) (fun c23 => ?_)
          · skip
            refine w_aload rfl rfl ?_
            refine w_getI (v := .inl (a 0 17)) rfl rfl rfl rfl rfl ?_
            refine w_iload rfl rfl ?_
            refine w_iiE rfl (fun x24 tx24 => ?_)
            refine w_const rfl ?_
            refine w_iiE rfl (fun x25 tx25 => ?_)
            refine w_const rfl ?_
            refine w_ic_ne rfl (fun c26 => ?_) (fun c26 => ?_)
            · skip
              refine w_aload rfl rfl ?_
              refine w_const rfl ?_
              refine w_invV (rest := []) rfl rfl rfl rfl rfl (Nat.le_of_ble_eq_true rfl) rfl (by omega) (s_wrong (K := K) a b  3 hR (by omega)) (fun v27 h9 hq28 => ?_)
              obtain ⟨a29, rfl, ha29, fa29, rfl⟩ := hq28
              show f_wp _ (83, [some (.inr (.inr (some 0))), some (.inl 3)], [], mH a29 b) _
              have wg := fa29.2.2
              refine w_aload rfl rfl ?_
              refine w_getI (v := .inl (a29 0 8)) rfl rfl rfl rfl rfl ?_
              have q30 : 0 ≤ (a29 0 8).toInt ∧ (a29 0 8).toInt ≤ 2147483647 := ha29 0 8
              refine w_if_le rfl (fun c31 => ?_) (fun c31 => ?_)
              · exfalso; omega
              · skip
                exact w_ret rfl ⟨a29, rfl, ha29, ⟨FR.tr (FR.rf) (FR.sub fa29.1 (by decide)), hI.rk ((RK.rf hI.T).bad fa29.1 fa29.2.1 (fun z => by have o9 := fa29.2.2; omega)) (fa29.1 7 (by decide)) (fa29.1 8 (by decide))⟩, rfl⟩
            · skip
              refine w_aload rfl rfl ?_
              refine w_getI (v := .inl (a 0 8)) rfl rfl rfl rfl rfl ?_
              have q32 : 0 ≤ (a 0 8).toInt ∧ (a 0 8).toInt ≤ 2147483647 := hR 0 8
              refine w_if_le rfl (fun c33 => ?_) (fun c33 => ?_)
              · skip
                refine w_aload rfl rfl ?_
                refine w_dup rfl rfl ?_
                refine w_getI (v := .inl (a 0 17)) rfl rfl rfl rfl rfl ?_
                refine w_const rfl ?_
                refine w_iload rfl rfl ?_
                refine w_iiE rfl (fun x34 tx34 => ?_)
                refine w_iiE rfl (fun x35 tx35 => ?_)
                refine m_putI (z := false) rfl rfl rfl rfl (by first | (intro h9; cases h9; done) | (intro _; first | exact Or.inl rfl | exact Or.inr rfl | assumption)) (fun a36 ea36 => ?_)
                have ha36 : RM K a36 := RM.up hR ea36 ⟨ti_lo _, ti_hi _⟩
                have ua36_8 : (a36 0 8).toInt = (a 0 8).toInt := by rw [ea36, mU_slot (by decide)]
                have ua36_17 : a36 0 17 = x35 := by rw [ea36, mU_same]
                have wa36_17 := congrArg Int32.toInt ua36_17
                have L1 := LI.fld hI ea36 (Or.inr rfl)
                refine w_aload rfl rfl ?_
                refine w_dup rfl rfl ?_
                refine w_getI (v := .inl (a36 0 7)) rfl rfl rfl rfl rfl ?_
                have q37 : 0 ≤ (a36 0 7).toInt ∧ (a36 0 7).toInt ≤ 1000 := ha36 0 7
                have y9 : (a 0 7).toInt < N := TK.lt hI.T z7.1 (by omega)
                have y8 : (a36 0 7).toInt < N := by rw [ea36, mU_slot (by decide)]; exact y9
                have y7 : (a36 0 7).toInt = (a 0 7).toInt := by rw [ea36, mU_slot (by decide)]
                refine w_const rfl ?_
                first | refine w_iadd rfl (by omega) (fun x38 tx38 => ?_) | refine w_iiU rfl (fun x38 tx38 => ?_)
                refine m_putI (z := false) rfl rfl rfl rfl (by first | (intro h9; cases h9; done) | (intro _; first | exact Or.inl rfl | exact Or.inr rfl | assumption)) (fun a39 ea39 => ?_)
                have ha39 : RM K a39 := RM.up ha36 ea39 (show (0 : Int) ≤ _ ∧ _ ≤ (1000 : Int) from by omega)
                have ua39_7 : a39 0 7 = x38 := by rw [ea39, mU_same]
                have wa39_7 := congrArg Int32.toInt ua39_7
                have ua39_8 : (a39 0 8).toInt = (a36 0 8).toInt := by rw [ea39, mU_slot (by decide)]
                have ua39_17 : (a39 0 17).toInt = (a36 0 17).toInt := by rw [ea39, mU_slot (by decide)]
                have r1 := (RK.rf L1.1.T).up ea39 (by omega)
                refine w_iload rfl rfl ?_
                refine w_if_ne rfl (fun c40 => ?_) (fun c40 => ?_)
                · exfalso; omega
                · skip
                  refine w_iload rfl rfl ?_
                  refine w_const rfl ?_
                  refine w_ic_ne rfl (fun c41 => ?_) (fun c41 => ?_)
                  · exfalso; omega
                  · skip
                    refine w_aload rfl rfl ?_
                    refine w_getR (v := .inr (.inr (some 6))) rfl rfl rfl rfl rfl ?_
                    refine w_const rfl ?_
                    refine w_iload rfl rfl ?_
                    first | refine w_iadd rfl (by omega) (fun x42 tx42 => ?_) | refine w_iiU rfl (fun x42 tx42 => ?_)
                    refine w_const rfl ?_
                    first | refine w_isub rfl (by omega) (fun x43 tx43 => ?_) | refine w_iiU rfl (fun x43 tx43 => ?_)
                    refine w_aload rfl rfl ?_
                    refine w_getI (v := .inl (a39 0 13)) rfl rfl rfl rfl rfl ?_
                    have q44 : 0 ≤ (a39 0 13).toInt ∧ (a39 0 13).toInt ≤ 1000 := ha39 0 13
                    refine m_iast rfl rfl (by omega) (fun a45 ea45 => ?_)
                    have ha45 : RM K a45 := RM.up ha39 ea45 (la_law (by omega) (by omega))
                    have ua45_7 : (a45 0 7).toInt = (a39 0 7).toInt := by rw [ea45, mU_cell (by decide)]
                    have ua45_8 : (a45 0 8).toInt = (a39 0 8).toInt := by rw [ea45, mU_cell (by decide)]
                    have ua45_13 : (a45 0 13).toInt = (a39 0 13).toInt := by rw [ea45, mU_cell (by decide)]
                    have ua45_17 : (a45 0 17).toInt = (a39 0 17).toInt := by rw [ea45, mU_cell (by decide)]
                    refine w_aload rfl rfl ?_
                    refine w_iload rfl rfl ?_
                    refine w_const rfl ?_
                    refine w_ic_ne rfl (fun c46 => ?_) (fun c46 => ?_)
                    · exfalso; omega
                    · skip
                      refine w_const rfl ?_
                      refine m_putI (z := false) rfl rfl rfl rfl (by first | (intro h9; cases h9; done) | (intro _; first | exact Or.inl rfl | exact Or.inr rfl | assumption)) (fun a47 ea47 => ?_)
                      have ha47 : RM K a47 := RM.up ha45 ea47 (show (0 : Int) ≤ _ ∧ _ ≤ (4 : Int) from by omega)
                      have ua47_7 : (a47 0 7).toInt = (a45 0 7).toInt := by rw [ea47, mU_slot (by decide)]
                      have ua47_8 : (a47 0 8).toInt = (a45 0 8).toInt := by rw [ea47, mU_slot (by decide)]
                      have ua47_13 : (a47 0 13).toInt = (a45 0 13).toInt := by rw [ea47, mU_slot (by decide)]
                      have ua47_16 : a47 0 16 = (2 : Int32) := by rw [ea47, mU_same]
                      have wa47_16 := congrArg Int32.toInt ua47_16
                      have ua47_17 : (a47 0 17).toInt = (a45 0 17).toInt := by rw [ea47, mU_slot (by decide)]
                      have v7 : (a47 0 7).toInt = (a 0 7).toInt + 1 := by rw [ea47, mU_slot (by decide), ea45, mU_cell (by decide), ea39, mU_same]; omega
                      have v13 : a47 0 13 = a 0 13 := by rw [ea47, mU_slot (by decide), ea45, mU_cell (by decide), ea39, mU_slot (by decide), ea36, mU_slot (by decide)]
                      have v13i := congrArg Int32.toInt v13
                      have PI : PS a47 N (a47 0 13).toInt.toNat 0 := PS.init hN (by omega) (by rw [ea47, mU_cell (by decide), ea45, mU_cell (by decide), ea39, mU_cell (by decide), ea36, mU_cell (by decide)]; exact hI.2.2.1) (by omega) (by omega)
                      have f1 : ∀ c, c ≠ 0 → c ≠ 6 → a47 c = a c := fun c h0 h6 => by rw [ea47, mU_cell h0, ea45, mU_cell h6, ea39, mU_cell h0, ea36, mU_cell h0]
                      have e0 : ∀ j, j ≠ 7 → j ≠ 16 → j ≠ 17 → a47 0 j = a 0 j := fun j h7 h16 h17 => by rw [ea47, mU_slot h16, ea45, mU_cell (by decide), ea39, mU_slot h7, ea36, mU_slot h17]
                      obtain ⟨k2, hk2, kx⟩ : ∃ k2 : Nat, k2 < 2 ∧ 115 + k2 = (x43).toInt.toNat := ⟨(x43).toInt.toNat - 115, by omega, by omega⟩
                      have e6 : ∀ j, j ≠ 115 + k2 → a47 6 j = a 6 j := fun j hj => by rw [ea47, mU_cell (by decide), ea45, mU_slot (by omega), ea39, mU_cell (by decide), ea36, mU_cell (by decide)]
                      have ek : (a47 6 (115 + k2)).toInt = (a 0 13).toInt := by rw [ea47, mU_cell (by decide), ea45, kx, mU_same, ea39, mU_slot (by decide), ea36, mU_slot (by decide)]
                      refine w_aload rfl rfl ?_
                      refine w_const rfl ?_
                      refine w_invV (rest := []) rfl rfl rfl rfl rfl (Nat.le_of_ble_eq_true rfl) rfl (by omega) (s_all0 _ a47 b ha47 PI) (fun v48 h9 hq49 => ?_)
                      obtain ⟨a50, rfl, ha50, fa50, rfl⟩ := hq49
                      show f_wp _ (206, [some (.inr (.inr (some 0))), some (.inl 3)], [], mH a50 b) _
                      have A9 := fa50
                      have k9 := A9.2.2.2.2.2
                      have j9 := A9.2.1.2.1
                      refine w_aload rfl rfl ?_
                      refine w_const rfl ?_
                      refine w_const rfl ?_
                      refine w_invV (rest := []) rfl rfl rfl rfl rfl (Nat.le_of_ble_eq_true rfl) rfl (by omega) (s_emit_1 (K := K) a50 b  0 0 ha50 (by omega) (by omega)) (fun v51 h9 hq52 => ?_)
                      obtain ⟨a53, rfl, ha53, fa53, rfl⟩ := hq52
                      show f_wp _ (212, [some (.inr (.inr (some 0))), some (.inl 3)], [], mH a53 b) _
                      exact w_ret rfl ⟨a53, rfl, ha53, ⟨FR.tr (FR.tr (FR.up (FR.up (FR.up (FR.up (FR.rf) (by decide) ea36) (by decide) ea39) (by decide) ea45) (by decide) ea47) (FR.sub fa50.1 (by decide))) (FR.sub fa53.1 (by decide)), LI.law hI (by omega) hk2 (by omega) f1 e0 v7 e6 ek A9.2 A9.1 fa53.1 fa53.2⟩, rfl⟩
              · skip
                exact w_ret rfl ⟨a, rfl, hR, ⟨FR.rf, ⟨hI, KL.rf⟩⟩, rfl⟩
          · exfalso; omega
      · skip
        refine w_const rfl ?_
        refine w_goto rfl ?_
        refine w_istore (lo' := [some (.inr (.inr (some 0))), some (.inl 2)]) rfl rfl ?_
        refine w_iload rfl rfl ?_
        refine w_if_ge rfl (fun c54 => ?_) (fun c54 => ?_)
        · skip
          refine w_aload rfl rfl ?_
          refine w_getI (v := .inl (a 0 17)) rfl rfl rfl rfl rfl ?_
          refine w_iload rfl rfl ?_
          refine w_iiE rfl (fun x55 tx55 => ?_)
          refine w_const rfl ?_
          refine w_iiE rfl (fun x56 tx56 => ?_)
          refine w_const rfl ?_
          refine w_ic_ne rfl (fun c57 => ?_) (fun c57 => ?_)
          · skip
            refine w_aload rfl rfl ?_
            refine w_const rfl ?_
            refine w_invV (rest := []) rfl rfl rfl rfl rfl (Nat.le_of_ble_eq_true rfl) rfl (by omega) (s_wrong (K := K) a b  3 hR (by omega)) (fun v58 h9 hq59 => ?_)
            obtain ⟨a60, rfl, ha60, fa60, rfl⟩ := hq59
            show f_wp _ (83, [some (.inr (.inr (some 0))), some (.inl 2)], [], mH a60 b) _
            have wg := fa60.2.2
            refine w_aload rfl rfl ?_
            refine w_getI (v := .inl (a60 0 8)) rfl rfl rfl rfl rfl ?_
            have q61 : 0 ≤ (a60 0 8).toInt ∧ (a60 0 8).toInt ≤ 2147483647 := ha60 0 8
            refine w_if_le rfl (fun c62 => ?_) (fun c62 => ?_)
            · exfalso; omega
            · skip
              exact w_ret rfl ⟨a60, rfl, ha60, ⟨FR.tr (FR.rf) (FR.sub fa60.1 (by decide)), hI.rk ((RK.rf hI.T).bad fa60.1 fa60.2.1 (fun z => by have o9 := fa60.2.2; omega)) (fa60.1 7 (by decide)) (fa60.1 8 (by decide))⟩, rfl⟩
          · skip
            refine w_aload rfl rfl ?_
            refine w_getI (v := .inl (a 0 8)) rfl rfl rfl rfl rfl ?_
            have q63 : 0 ≤ (a 0 8).toInt ∧ (a 0 8).toInt ≤ 2147483647 := hR 0 8
            refine w_if_le rfl (fun c64 => ?_) (fun c64 => ?_)
            · skip
              refine w_aload rfl rfl ?_
              refine w_dup rfl rfl ?_
              refine w_getI (v := .inl (a 0 17)) rfl rfl rfl rfl rfl ?_
              refine w_const rfl ?_
              refine w_iload rfl rfl ?_
              refine w_iiE rfl (fun x65 tx65 => ?_)
              refine w_iiE rfl (fun x66 tx66 => ?_)
              refine m_putI (z := false) rfl rfl rfl rfl (by first | (intro h9; cases h9; done) | (intro _; first | exact Or.inl rfl | exact Or.inr rfl | assumption)) (fun a67 ea67 => ?_)
              have ha67 : RM K a67 := RM.up hR ea67 ⟨ti_lo _, ti_hi _⟩
              have ua67_8 : (a67 0 8).toInt = (a 0 8).toInt := by rw [ea67, mU_slot (by decide)]
              have ua67_17 : a67 0 17 = x66 := by rw [ea67, mU_same]
              have wa67_17 := congrArg Int32.toInt ua67_17
              have L1 := LI.fld hI ea67 (Or.inr rfl)
              refine w_aload rfl rfl ?_
              refine w_dup rfl rfl ?_
              refine w_getI (v := .inl (a67 0 7)) rfl rfl rfl rfl rfl ?_
              have q68 : 0 ≤ (a67 0 7).toInt ∧ (a67 0 7).toInt ≤ 1000 := ha67 0 7
              have y9 : (a 0 7).toInt < N := TK.lt hI.T z7.1 (by omega)
              have y8 : (a67 0 7).toInt < N := by rw [ea67, mU_slot (by decide)]; exact y9
              have y7 : (a67 0 7).toInt = (a 0 7).toInt := by rw [ea67, mU_slot (by decide)]
              refine w_const rfl ?_
              first | refine w_iadd rfl (by omega) (fun x69 tx69 => ?_) | refine w_iiU rfl (fun x69 tx69 => ?_)
              refine m_putI (z := false) rfl rfl rfl rfl (by first | (intro h9; cases h9; done) | (intro _; first | exact Or.inl rfl | exact Or.inr rfl | assumption)) (fun a70 ea70 => ?_)
              have ha70 : RM K a70 := RM.up ha67 ea70 (show (0 : Int) ≤ _ ∧ _ ≤ (1000 : Int) from by omega)
              have ua70_7 : a70 0 7 = x69 := by rw [ea70, mU_same]
              have wa70_7 := congrArg Int32.toInt ua70_7
              have ua70_8 : (a70 0 8).toInt = (a67 0 8).toInt := by rw [ea70, mU_slot (by decide)]
              have ua70_17 : (a70 0 17).toInt = (a67 0 17).toInt := by rw [ea70, mU_slot (by decide)]
              have r1 := (RK.rf L1.1.T).up ea70 (by omega)
              refine w_iload rfl rfl ?_
              refine w_if_ne rfl (fun c71 => ?_) (fun c71 => ?_)
              · exfalso; omega
              · skip
                refine w_iload rfl rfl ?_
                refine w_const rfl ?_
                refine w_ic_ne rfl (fun c72 => ?_) (fun c72 => ?_)
                · exfalso; omega
                · skip
                  refine w_aload rfl rfl ?_
                  refine w_getR (v := .inr (.inr (some 6))) rfl rfl rfl rfl rfl ?_
                  refine w_const rfl ?_
                  refine w_iload rfl rfl ?_
                  first | refine w_iadd rfl (by omega) (fun x73 tx73 => ?_) | refine w_iiU rfl (fun x73 tx73 => ?_)
                  refine w_const rfl ?_
                  first | refine w_isub rfl (by omega) (fun x74 tx74 => ?_) | refine w_iiU rfl (fun x74 tx74 => ?_)
                  refine w_aload rfl rfl ?_
                  refine w_getI (v := .inl (a70 0 13)) rfl rfl rfl rfl rfl ?_
                  have q75 : 0 ≤ (a70 0 13).toInt ∧ (a70 0 13).toInt ≤ 1000 := ha70 0 13
                  refine m_iast rfl rfl (by omega) (fun a76 ea76 => ?_)
                  have ha76 : RM K a76 := RM.up ha70 ea76 (la_law (by omega) (by omega))
                  have ua76_7 : (a76 0 7).toInt = (a70 0 7).toInt := by rw [ea76, mU_cell (by decide)]
                  have ua76_8 : (a76 0 8).toInt = (a70 0 8).toInt := by rw [ea76, mU_cell (by decide)]
                  have ua76_13 : (a76 0 13).toInt = (a70 0 13).toInt := by rw [ea76, mU_cell (by decide)]
                  have ua76_17 : (a76 0 17).toInt = (a70 0 17).toInt := by rw [ea76, mU_cell (by decide)]
                  refine w_aload rfl rfl ?_
                  refine w_iload rfl rfl ?_
                  refine w_const rfl ?_
                  refine w_ic_ne rfl (fun c77 => ?_) (fun c77 => ?_)
                  · skip
                    refine w_const rfl ?_
                    refine w_goto rfl ?_
                    refine m_putI (z := false) rfl rfl rfl rfl (by first | (intro h9; cases h9; done) | (intro _; first | exact Or.inl rfl | exact Or.inr rfl | assumption)) (fun a78 ea78 => ?_)
                    have ha78 : RM K a78 := RM.up ha76 ea78 (show (0 : Int) ≤ _ ∧ _ ≤ (4 : Int) from by omega)
                    have ua78_7 : (a78 0 7).toInt = (a76 0 7).toInt := by rw [ea78, mU_slot (by decide)]
                    have ua78_8 : (a78 0 8).toInt = (a76 0 8).toInt := by rw [ea78, mU_slot (by decide)]
                    have ua78_13 : (a78 0 13).toInt = (a76 0 13).toInt := by rw [ea78, mU_slot (by decide)]
                    have ua78_16 : a78 0 16 = (4 : Int32) := by rw [ea78, mU_same]
                    have wa78_16 := congrArg Int32.toInt ua78_16
                    have ua78_17 : (a78 0 17).toInt = (a76 0 17).toInt := by rw [ea78, mU_slot (by decide)]
                    have v7 : (a78 0 7).toInt = (a 0 7).toInt + 1 := by rw [ea78, mU_slot (by decide), ea76, mU_cell (by decide), ea70, mU_same]; omega
                    have v13 : a78 0 13 = a 0 13 := by rw [ea78, mU_slot (by decide), ea76, mU_cell (by decide), ea70, mU_slot (by decide), ea67, mU_slot (by decide)]
                    have v13i := congrArg Int32.toInt v13
                    have PI : PS a78 N (a78 0 13).toInt.toNat 0 := PS.init hN (by omega) (by rw [ea78, mU_cell (by decide), ea76, mU_cell (by decide), ea70, mU_cell (by decide), ea67, mU_cell (by decide)]; exact hI.2.2.1) (by omega) (by omega)
                    have f1 : ∀ c, c ≠ 0 → c ≠ 6 → a78 c = a c := fun c h0 h6 => by rw [ea78, mU_cell h0, ea76, mU_cell h6, ea70, mU_cell h0, ea67, mU_cell h0]
                    have e0 : ∀ j, j ≠ 7 → j ≠ 16 → j ≠ 17 → a78 0 j = a 0 j := fun j h7 h16 h17 => by rw [ea78, mU_slot h16, ea76, mU_cell (by decide), ea70, mU_slot h7, ea67, mU_slot h17]
                    obtain ⟨k2, hk2, kx⟩ : ∃ k2 : Nat, k2 < 2 ∧ 115 + k2 = (x74).toInt.toNat := ⟨(x74).toInt.toNat - 115, by omega, by omega⟩
                    have e6 : ∀ j, j ≠ 115 + k2 → a78 6 j = a 6 j := fun j hj => by rw [ea78, mU_cell (by decide), ea76, mU_slot (by omega), ea70, mU_cell (by decide), ea67, mU_cell (by decide)]
                    have ek : (a78 6 (115 + k2)).toInt = (a 0 13).toInt := by rw [ea78, mU_cell (by decide), ea76, kx, mU_same, ea70, mU_slot (by decide), ea67, mU_slot (by decide)]
                    refine w_aload rfl rfl ?_
                    refine w_const rfl ?_
                    refine w_invV (rest := []) rfl rfl rfl rfl rfl (Nat.le_of_ble_eq_true rfl) rfl (by omega) (s_all0 _ a78 b ha78 PI) (fun v79 h9 hq80 => ?_)
                    obtain ⟨a81, rfl, ha81, fa81, rfl⟩ := hq80
                    show f_wp _ (206, [some (.inr (.inr (some 0))), some (.inl 2)], [], mH a81 b) _
                    have A9 := fa81
                    have k9 := A9.2.2.2.2.2
                    have j9 := A9.2.1.2.1
                    refine w_aload rfl rfl ?_
                    refine w_const rfl ?_
                    refine w_const rfl ?_
                    refine w_invV (rest := []) rfl rfl rfl rfl rfl (Nat.le_of_ble_eq_true rfl) rfl (by omega) (s_emit_1 (K := K) a81 b  0 0 ha81 (by omega) (by omega)) (fun v82 h9 hq83 => ?_)
                    obtain ⟨a84, rfl, ha84, fa84, rfl⟩ := hq83
                    show f_wp _ (212, [some (.inr (.inr (some 0))), some (.inl 2)], [], mH a84 b) _
                    exact w_ret rfl ⟨a84, rfl, ha84, ⟨FR.tr (FR.tr (FR.up (FR.up (FR.up (FR.up (FR.rf) (by decide) ea67) (by decide) ea70) (by decide) ea76) (by decide) ea78) (FR.sub fa81.1 (by decide))) (FR.sub fa84.1 (by decide)), LI.law hI (by omega) hk2 (by omega) f1 e0 v7 e6 ek A9.2 A9.1 fa84.1 fa84.2⟩, rfl⟩
                  · exfalso; omega
            · skip
              exact w_ret rfl ⟨a, rfl, hR, ⟨FR.rf, ⟨hI, KL.rf⟩⟩, rfl⟩
        · exfalso; omega
    · skip
      refine w_const rfl ?_
      refine w_goto rfl ?_
      refine w_istore (lo' := [some (.inr (.inr (some 0))), some (.inl 1)]) rfl rfl ?_
      refine w_iload rfl rfl ?_
      refine w_if_ge rfl (fun c85 => ?_) (fun c85 => ?_)
      · skip
        refine w_aload rfl rfl ?_
        refine w_getI (v := .inl (a 0 17)) rfl rfl rfl rfl rfl ?_
        refine w_iload rfl rfl ?_
        refine w_iiE rfl (fun x86 tx86 => ?_)
        refine w_const rfl ?_
        refine w_iiE rfl (fun x87 tx87 => ?_)
        refine w_const rfl ?_
        refine w_ic_ne rfl (fun c88 => ?_) (fun c88 => ?_)
        · skip
          refine w_aload rfl rfl ?_
          refine w_const rfl ?_
          refine w_invV (rest := []) rfl rfl rfl rfl rfl (Nat.le_of_ble_eq_true rfl) rfl (by omega) (s_wrong (K := K) a b  3 hR (by omega)) (fun v89 h9 hq90 => ?_)
          obtain ⟨a91, rfl, ha91, fa91, rfl⟩ := hq90
          show f_wp _ (83, [some (.inr (.inr (some 0))), some (.inl 1)], [], mH a91 b) _
          have wg := fa91.2.2
          refine w_aload rfl rfl ?_
          refine w_getI (v := .inl (a91 0 8)) rfl rfl rfl rfl rfl ?_
          have q92 : 0 ≤ (a91 0 8).toInt ∧ (a91 0 8).toInt ≤ 2147483647 := ha91 0 8
          refine w_if_le rfl (fun c93 => ?_) (fun c93 => ?_)
          · exfalso; omega
          · skip
            exact w_ret rfl ⟨a91, rfl, ha91, ⟨FR.tr (FR.rf) (FR.sub fa91.1 (by decide)), hI.rk ((RK.rf hI.T).bad fa91.1 fa91.2.1 (fun z => by have o9 := fa91.2.2; omega)) (fa91.1 7 (by decide)) (fa91.1 8 (by decide))⟩, rfl⟩
        · skip
          refine w_aload rfl rfl ?_
          refine w_getI (v := .inl (a 0 8)) rfl rfl rfl rfl rfl ?_
          have q94 : 0 ≤ (a 0 8).toInt ∧ (a 0 8).toInt ≤ 2147483647 := hR 0 8
          refine w_if_le rfl (fun c95 => ?_) (fun c95 => ?_)
          · skip
            refine w_aload rfl rfl ?_
            refine w_dup rfl rfl ?_
            refine w_getI (v := .inl (a 0 17)) rfl rfl rfl rfl rfl ?_
            refine w_const rfl ?_
            refine w_iload rfl rfl ?_
            refine w_iiE rfl (fun x96 tx96 => ?_)
            refine w_iiE rfl (fun x97 tx97 => ?_)
            refine m_putI (z := false) rfl rfl rfl rfl (by first | (intro h9; cases h9; done) | (intro _; first | exact Or.inl rfl | exact Or.inr rfl | assumption)) (fun a98 ea98 => ?_)
            have ha98 : RM K a98 := RM.up hR ea98 ⟨ti_lo _, ti_hi _⟩
            have ua98_8 : (a98 0 8).toInt = (a 0 8).toInt := by rw [ea98, mU_slot (by decide)]
            have ua98_17 : a98 0 17 = x97 := by rw [ea98, mU_same]
            have wa98_17 := congrArg Int32.toInt ua98_17
            have L1 := LI.fld hI ea98 (Or.inr rfl)
            refine w_aload rfl rfl ?_
            refine w_dup rfl rfl ?_
            refine w_getI (v := .inl (a98 0 7)) rfl rfl rfl rfl rfl ?_
            have q99 : 0 ≤ (a98 0 7).toInt ∧ (a98 0 7).toInt ≤ 1000 := ha98 0 7
            have y9 : (a 0 7).toInt < N := TK.lt hI.T z7.1 (by omega)
            have y8 : (a98 0 7).toInt < N := by rw [ea98, mU_slot (by decide)]; exact y9
            have y7 : (a98 0 7).toInt = (a 0 7).toInt := by rw [ea98, mU_slot (by decide)]
            refine w_const rfl ?_
            first | refine w_iadd rfl (by omega) (fun x100 tx100 => ?_) | refine w_iiU rfl (fun x100 tx100 => ?_)
            refine m_putI (z := false) rfl rfl rfl rfl (by first | (intro h9; cases h9; done) | (intro _; first | exact Or.inl rfl | exact Or.inr rfl | assumption)) (fun a101 ea101 => ?_)
            have ha101 : RM K a101 := RM.up ha98 ea101 (show (0 : Int) ≤ _ ∧ _ ≤ (1000 : Int) from by omega)
            have ua101_7 : a101 0 7 = x100 := by rw [ea101, mU_same]
            have wa101_7 := congrArg Int32.toInt ua101_7
            have ua101_8 : (a101 0 8).toInt = (a98 0 8).toInt := by rw [ea101, mU_slot (by decide)]
            have ua101_17 : (a101 0 17).toInt = (a98 0 17).toInt := by rw [ea101, mU_slot (by decide)]
            have r1 := (RK.rf L1.1.T).up ea101 (by omega)
            refine w_iload rfl rfl ?_
            refine w_if_ne rfl (fun c102 => ?_) (fun c102 => ?_)
            · exfalso; omega
            · skip
              refine w_iload rfl rfl ?_
              refine w_const rfl ?_
              refine w_ic_ne rfl (fun c103 => ?_) (fun c103 => ?_)
              · skip
                refine w_aload rfl rfl ?_
                refine w_getR (v := .inr (.inr (some 6))) rfl rfl rfl rfl rfl ?_
                refine w_const rfl ?_
                refine w_aload rfl rfl ?_
                refine w_const rfl ?_
                refine w_const rfl ?_
                refine w_invV (rest := [.inl 113, .inr (.inr (some 6))]) rfl rfl rfl rfl rfl (Nat.le_of_ble_eq_true rfl) rfl (by omega) (s_takeNumber (K := K) a101 b N 0 10 ha101 (by omega) (r1.T hN)) (fun v104 h9 hq105 => ?_)
                obtain ⟨a106, rfl, ha106, fa106, x107, rfl, px107⟩ := hq105
                show f_wp _ (152, [some (.inr (.inr (some 0))), some (.inl 1)], [.inl x107, .inl 113, .inr (.inr (some 6))], mH a106 b) _
                have r2 := r1.tok fa106.1 fa106.2 (fun z => by have o9 := px107; omega)
                have r2t := px107
                refine m_iast rfl rfl (by omega) (fun a108 ea108 => ?_)
                have ha108 : RM K a108 := RM.up ha106 ea108 (show (0 : Int) ≤ _ ∧ _ ≤ (10 : Int) from by omega)
                have ua108_7 : (a108 0 7).toInt = (a106 0 7).toInt := by rw [ea108, mU_cell (by decide)]
                have ua108_8 : (a108 0 8).toInt = (a106 0 8).toInt := by rw [ea108, mU_cell (by decide)]
                have ua108_17 : (a108 0 17).toInt = (a106 0 17).toInt := by rw [ea108, mU_cell (by decide)]
                have r3 := r2.put ea108 (by omega)
                refine w_aload rfl rfl ?_
                refine w_getR (v := .inr (.inr (some 6))) rfl rfl rfl rfl rfl ?_
                refine w_const rfl ?_
                refine w_aload rfl rfl ?_
                refine w_const rfl ?_
                refine w_const rfl ?_
                refine w_const rfl ?_
                refine w_invV (rest := [.inl 114, .inr (.inr (some 6))]) rfl rfl rfl rfl rfl (Nat.le_of_ble_eq_true rfl) rfl (by omega) (s_takeAfter (K := K) a108 b N 13 0 99 ha108 (by omega) (by omega) (r3.T hN)) (fun v109 h9 hq110 => ?_)
                obtain ⟨a111, rfl, ha111, fa111, x112, rfl, px112⟩ := hq110
                show f_wp _ (168, [some (.inr (.inr (some 0))), some (.inl 1)], [.inl x112, .inl 114, .inr (.inr (some 6))], mH a111 b) _
                have r4 := r3.tok fa111.1 fa111.2 (fun z => by have o9 := px112; omega)
                have r4t := px112
                refine m_iast rfl rfl (by omega) (fun a113 ea113 => ?_)
                have ha113 : RM K a113 := RM.up ha111 ea113 (show (0 : Int) ≤ _ ∧ _ ≤ (99 : Int) from by omega)
                have ua113_7 : (a113 0 7).toInt = (a111 0 7).toInt := by rw [ea113, mU_cell (by decide)]
                have ua113_8 : (a113 0 8).toInt = (a111 0 8).toInt := by rw [ea113, mU_cell (by decide)]
                have ua113_17 : (a113 0 17).toInt = (a111 0 17).toInt := by rw [ea113, mU_cell (by decide)]
                have r5 := r4.put ea113 (by omega)
                refine w_goto rfl ?_
                exact w_ret rfl ⟨a113, rfl, ha113, ⟨FR.up (FR.tr (FR.up (FR.tr (FR.up (FR.up (FR.rf) (by decide) ea98) (by decide) ea101) (FR.sub fa106.1 (by decide))) (by decide) ea108) (FR.sub fa111.1 (by decide))) (by decide) ea113, ⟨(L1.1.rk r5 (by rw [ea113, mU_cell (by decide), fa111.1 7 (by decide), ea108, mU_cell (by decide), fa106.1 7 (by decide), ea101, mU_cell (by decide)]) (by rw [ea113, mU_cell (by decide), fa111.1 8 (by decide), ea108, mU_cell (by decide), fa106.1 8 (by decide), ea101, mU_cell (by decide)])).1, L1.2.tr (L1.1.rk r5 (by rw [ea113, mU_cell (by decide), fa111.1 7 (by decide), ea108, mU_cell (by decide), fa106.1 7 (by decide), ea101, mU_cell (by decide)]) (by rw [ea113, mU_cell (by decide), fa111.1 8 (by decide), ea108, mU_cell (by decide), fa106.1 8 (by decide), ea101, mU_cell (by decide)])).2⟩⟩, rfl⟩
              · exfalso; omega
          · skip
            exact w_ret rfl ⟨a, rfl, hR, ⟨FR.rf, ⟨hI, KL.rf⟩⟩, rfl⟩
      · exfalso; omega
  · skip
    refine w_const rfl ?_
    refine w_goto rfl ?_
    refine w_istore (lo' := [some (.inr (.inr (some 0))), some (.inl 0)]) rfl rfl ?_
    refine w_iload rfl rfl ?_
    refine w_if_ge rfl (fun c114 => ?_) (fun c114 => ?_)
    · skip
      refine w_aload rfl rfl ?_
      refine w_getI (v := .inl (a 0 17)) rfl rfl rfl rfl rfl ?_
      refine w_iload rfl rfl ?_
      refine w_iiE rfl (fun x115 tx115 => ?_)
      refine w_const rfl ?_
      refine w_iiE rfl (fun x116 tx116 => ?_)
      refine w_const rfl ?_
      refine w_ic_ne rfl (fun c117 => ?_) (fun c117 => ?_)
      · skip
        refine w_aload rfl rfl ?_
        refine w_const rfl ?_
        refine w_invV (rest := []) rfl rfl rfl rfl rfl (Nat.le_of_ble_eq_true rfl) rfl (by omega) (s_wrong (K := K) a b  3 hR (by omega)) (fun v118 h9 hq119 => ?_)
        obtain ⟨a120, rfl, ha120, fa120, rfl⟩ := hq119
        show f_wp _ (83, [some (.inr (.inr (some 0))), some (.inl 0)], [], mH a120 b) _
        have wg := fa120.2.2
        refine w_aload rfl rfl ?_
        refine w_getI (v := .inl (a120 0 8)) rfl rfl rfl rfl rfl ?_
        have q121 : 0 ≤ (a120 0 8).toInt ∧ (a120 0 8).toInt ≤ 2147483647 := ha120 0 8
        refine w_if_le rfl (fun c122 => ?_) (fun c122 => ?_)
        · exfalso; omega
        · skip
          exact w_ret rfl ⟨a120, rfl, ha120, ⟨FR.tr (FR.rf) (FR.sub fa120.1 (by decide)), hI.rk ((RK.rf hI.T).bad fa120.1 fa120.2.1 (fun z => by have o9 := fa120.2.2; omega)) (fa120.1 7 (by decide)) (fa120.1 8 (by decide))⟩, rfl⟩
      · skip
        refine w_aload rfl rfl ?_
        refine w_getI (v := .inl (a 0 8)) rfl rfl rfl rfl rfl ?_
        have q123 : 0 ≤ (a 0 8).toInt ∧ (a 0 8).toInt ≤ 2147483647 := hR 0 8
        refine w_if_le rfl (fun c124 => ?_) (fun c124 => ?_)
        · skip
          refine w_aload rfl rfl ?_
          refine w_dup rfl rfl ?_
          refine w_getI (v := .inl (a 0 17)) rfl rfl rfl rfl rfl ?_
          refine w_const rfl ?_
          refine w_iload rfl rfl ?_
          refine w_iiE rfl (fun x125 tx125 => ?_)
          refine w_iiE rfl (fun x126 tx126 => ?_)
          refine m_putI (z := false) rfl rfl rfl rfl (by first | (intro h9; cases h9; done) | (intro _; first | exact Or.inl rfl | exact Or.inr rfl | assumption)) (fun a127 ea127 => ?_)
          have ha127 : RM K a127 := RM.up hR ea127 ⟨ti_lo _, ti_hi _⟩
          have ua127_8 : (a127 0 8).toInt = (a 0 8).toInt := by rw [ea127, mU_slot (by decide)]
          have ua127_17 : a127 0 17 = x126 := by rw [ea127, mU_same]
          have wa127_17 := congrArg Int32.toInt ua127_17
          have L1 := LI.fld hI ea127 (Or.inr rfl)
          refine w_aload rfl rfl ?_
          refine w_dup rfl rfl ?_
          refine w_getI (v := .inl (a127 0 7)) rfl rfl rfl rfl rfl ?_
          have q128 : 0 ≤ (a127 0 7).toInt ∧ (a127 0 7).toInt ≤ 1000 := ha127 0 7
          have y9 : (a 0 7).toInt < N := TK.lt hI.T z7.1 (by omega)
          have y8 : (a127 0 7).toInt < N := by rw [ea127, mU_slot (by decide)]; exact y9
          have y7 : (a127 0 7).toInt = (a 0 7).toInt := by rw [ea127, mU_slot (by decide)]
          refine w_const rfl ?_
          first | refine w_iadd rfl (by omega) (fun x129 tx129 => ?_) | refine w_iiU rfl (fun x129 tx129 => ?_)
          refine m_putI (z := false) rfl rfl rfl rfl (by first | (intro h9; cases h9; done) | (intro _; first | exact Or.inl rfl | exact Or.inr rfl | assumption)) (fun a130 ea130 => ?_)
          have ha130 : RM K a130 := RM.up ha127 ea130 (show (0 : Int) ≤ _ ∧ _ ≤ (1000 : Int) from by omega)
          have ua130_7 : a130 0 7 = x129 := by rw [ea130, mU_same]
          have wa130_7 := congrArg Int32.toInt ua130_7
          have ua130_8 : (a130 0 8).toInt = (a127 0 8).toInt := by rw [ea130, mU_slot (by decide)]
          have ua130_17 : (a130 0 17).toInt = (a127 0 17).toInt := by rw [ea130, mU_slot (by decide)]
          have r1 := (RK.rf L1.1.T).up ea130 (by omega)
          refine w_iload rfl rfl ?_
          refine w_if_ne rfl (fun c131 => ?_) (fun c131 => ?_)
          · skip
            refine w_aload rfl rfl ?_
            refine w_getR (v := .inr (.inr (some 6))) rfl rfl rfl rfl rfl ?_
            refine w_const rfl ?_
            refine w_aload rfl rfl ?_
            refine w_const rfl ?_
            refine w_const rfl ?_
            refine w_invV (rest := [.inl 112, .inr (.inr (some 6))]) rfl rfl rfl rfl rfl (Nat.le_of_ble_eq_true rfl) rfl (by omega) (s_takeNumber (K := K) a130 b N 0 9 ha130 (by omega) (r1.T hN)) (fun v132 h9 hq133 => ?_)
            obtain ⟨a134, rfl, ha134, fa134, x135, rfl, px135⟩ := hq133
            show f_wp _ (130, [some (.inr (.inr (some 0))), some (.inl 0)], [.inl x135, .inl 112, .inr (.inr (some 6))], mH a134 b) _
            have r2 := r1.tok fa134.1 fa134.2 (fun z => by have o9 := px135; omega)
            have r2t := px135
            refine m_iast rfl rfl (by omega) (fun a136 ea136 => ?_)
            have ha136 : RM K a136 := RM.up ha134 ea136 (show (0 : Int) ≤ _ ∧ _ ≤ (9 : Int) from by omega)
            have ua136_7 : (a136 0 7).toInt = (a134 0 7).toInt := by rw [ea136, mU_cell (by decide)]
            have ua136_8 : (a136 0 8).toInt = (a134 0 8).toInt := by rw [ea136, mU_cell (by decide)]
            have ua136_17 : (a136 0 17).toInt = (a134 0 17).toInt := by rw [ea136, mU_cell (by decide)]
            have r3 := r2.put ea136 (by omega)
            refine w_goto rfl ?_
            exact w_ret rfl ⟨a136, rfl, ha136, ⟨FR.up (FR.tr (FR.up (FR.up (FR.rf) (by decide) ea127) (by decide) ea130) (FR.sub fa134.1 (by decide))) (by decide) ea136, ⟨(L1.1.rk r3 (by rw [ea136, mU_cell (by decide), fa134.1 7 (by decide), ea130, mU_cell (by decide)]) (by rw [ea136, mU_cell (by decide), fa134.1 8 (by decide), ea130, mU_cell (by decide)])).1, L1.2.tr (L1.1.rk r3 (by rw [ea136, mU_cell (by decide), fa134.1 7 (by decide), ea130, mU_cell (by decide)]) (by rw [ea136, mU_cell (by decide), fa134.1 8 (by decide), ea130, mU_cell (by decide)])).2⟩⟩, rfl⟩
          · exfalso; omega
        · skip
          exact w_ret rfl ⟨a, rfl, hR, ⟨FR.rf, ⟨hI, KL.rf⟩⟩, rfl⟩
    · exfalso; omega
