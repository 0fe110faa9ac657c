set_option maxRecDepth 4000 in
theorem s_starts {K : Nat} (a : Nat → Nat → Int32) (b : Nat → Nat → Int64) (q : Int32) (hR : RM K a) (hb : 0 ≤ q.toInt ∧ q.toInt ≤ 1260 ∧ q.toInt % 60 = 0) : f_call mtM 1 38 [.inr (.inr (some 0)), .inl q] (mH a b) (fun v9 h' => ∃ (a' : Nat → Nat → Int32), h' = mH a' b ∧ RM K a' ∧ (FR [15] a a' ∧ (∀ m9, m9 < 22 → ACm m9 a → ACm m9 a') ∧ (∀ j, (j < q.toInt.toNat ∨ q.toInt.toNat + 19 ≤ j) → a' 15 j = a 15 j) ∧ (∀ i, i < 6 → a' 15 (q.toInt.toNat + 1 + i) = -1)) ∧ v9 = none) := by
  refine f_call_of (d0 := 0) rfl (Nat.le_of_ble_eq_true rfl) (fun d hd => ?_)
  show f_wp _ (0, [some (.inr (.inr (some 0))), some (.inl q), none], [], mH a b) _
  have lm1 : (-1 : Int32).toInt = -1 := rfl
  have l0 : (0 : Int32).toInt = 0 := rfl
  have l1 : (1 : Int32).toInt = 1 := rfl
  have l6 : (6 : Int32).toInt = 6 := rfl
  have l7 : (7 : Int32).toInt = 7 := rfl
  have l13 : (13 : Int32).toInt = 13 := rfl
  refine w_aload rfl rfl ?_
  refine w_getR (v := .inr (.inr (some 15))) rfl rfl rfl rfl rfl ?_
  refine w_iload rfl rfl ?_
  refine w_const rfl ?_
  first | refine w_iadd rfl (by omega) (fun x1 tx1 => ?_) | refine w_iiU rfl (fun x1 tx1 => ?_)
  refine w_const rfl ?_
  refine m_iast rfl rfl (by omega) (fun a2 ea2 => ?_)
  have ha2 : RM K a2 := RM.up hR ea2 (st_now (by omega) (by omega))
  refine w_const rfl ?_
  refine w_istore (lo' := [some (.inr (.inr (some 0))), some (.inl q), some (.inl 0)]) rfl rfl ?_
  have loop11 : ∀ (ms9 : Nat) (r : Int32) (a11 : Nat → Nat → Int32) , (6 - r.toInt).toNat = ms9 → RM K a11 → FR [15] a a11 → (∀ m9, m9 < 22 → ACm m9 a → ACm m9 a11) → (0 ≤ r.toInt ∧ r.toInt ≤ 6) → ((∀ j, (j < q.toInt.toNat ∨ q.toInt.toNat + 19 ≤ j) → a11 15 j = a 15 j)) → ((∀ i, i < r.toInt.toNat → a11 15 (q.toInt.toNat + 1 + i) = -1)) → f_wp (f_code (t_X13_starts (f_ev mtM d))) (11, [some (.inr (.inr (some 0))), some (.inl q), some (.inl r)], [], mH a11 b) (fun v9 h' => ∃ (a' : Nat → Nat → Int32), h' = mH a' b ∧ RM K a' ∧ (FR [15] a a' ∧ (∀ m9, m9 < 22 → ACm m9 a → ACm m9 a') ∧ (∀ j, (j < q.toInt.toNat ∨ q.toInt.toNat + 19 ≤ j) → a' 15 j = a 15 j) ∧ (∀ i, i < 6 → a' 15 (q.toInt.toNat + 1 + i) = -1)) ∧ v9 = none) := by
    intro ms9
    induction ms9 using Nat.strongRecOn with
    | _ ms11 ih11 =>
      intro r a11  hm11 hR11 hF11 hC11 hr hS hW
      refine w_iload rfl rfl ?_
      refine w_const rfl ?_
      refine w_ic_ge rfl (fun c3 => ?_) (fun c3 => ?_)
      · skip
        exact w_ret rfl ⟨a11, rfl, hR11, ⟨hF11, hC11, ⟨hS, fun i hi => hW i (by omega)⟩⟩, rfl⟩
      · skip
        refine w_aload rfl rfl ?_
        refine w_getR (v := .inr (.inr (some 15))) rfl rfl rfl rfl rfl ?_
        refine w_iload rfl rfl ?_
        refine w_const rfl ?_
        first | refine w_iadd rfl (by omega) (fun x4 tx4 => ?_) | refine w_iiU rfl (fun x4 tx4 => ?_)
        refine w_iload rfl rfl ?_
        first | refine w_iadd rfl (by omega) (fun x5 tx5 => ?_) | refine w_iiU rfl (fun x5 tx5 => ?_)
        refine w_const rfl ?_
        refine m_iast rfl rfl (by omega) (fun a6 ea6 => ?_)
        have ha6 : RM K a6 := RM.up hR11 ea6 (st_wed (by omega) (by omega))
        refine w_aload rfl rfl ?_
        refine w_getR (v := .inr (.inr (some 15))) rfl rfl rfl rfl rfl ?_
        refine w_iload rfl rfl ?_
        refine w_const rfl ?_
        first | refine w_iadd rfl (by omega) (fun x7 tx7 => ?_) | refine w_iiU rfl (fun x7 tx7 => ?_)
        refine w_iload rfl rfl ?_
        first | refine w_iadd rfl (by omega) (fun x8 tx8 => ?_) | refine w_iiU rfl (fun x8 tx8 => ?_)
        refine w_const rfl ?_
        refine m_iast rfl rfl (by omega) (fun a9 ea9 => ?_)
        have ha9 : RM K a9 := RM.up ha6 ea9 (st_any _ (by omega))
        refine w_aload rfl rfl ?_
        refine w_getR (v := .inr (.inr (some 15))) rfl rfl rfl rfl rfl ?_
        refine w_iload rfl rfl ?_
        refine w_const rfl ?_
        first | refine w_iadd rfl (by omega) (fun x10 tx10 => ?_) | refine w_iiU rfl (fun x10 tx10 => ?_)
        refine w_iload rfl rfl ?_
        first | refine w_iadd rfl (by omega) (fun x11 tx11 => ?_) | refine w_iiU rfl (fun x11 tx11 => ?_)
        refine w_const rfl ?_
        refine m_iast rfl rfl (by omega) (fun a12 ea12 => ?_)
        have ha12 : RM K a12 := RM.up ha9 ea12 (st_any _ (by omega))
        refine w_iinc (lo' := fun z9 => [some (.inr (.inr (some 0))), some (.inl q), some (.inl z9)]) rfl rfl (fun _ => rfl) (by omega) (fun x13 tx13 => ?_)
        refine w_goto rfl ?_
        exact ih11 (6 - x13.toInt).toNat (by omega) x13 a12 rfl ha12 (FR.up (FR.up (FR.up (hF11) (by decide) ea6) (by decide) ea9) (by decide) ea12) (fun (m9 : Nat) (l9 : m9 < 22) (h7 : ACm m9 a) => ACm.put ((fun (m9 : Nat) (l9 : m9 < 22) (h7 : ACm m9 a) => ACm.put ((fun (m9 : Nat) (l9 : m9 < 22) (h7 : ACm m9 a) => ACm.put ((hC11) m9 l9 h7) ea6 (by omega)) m9 l9 h7) ea9 (by omega)) m9 l9 h7) ea12 (by omega)) (by omega) (fun j hj => by rw [ea12, mU_slot (by omega), ea9, mU_slot (by omega), ea6, mU_slot (by omega)]; exact hS j hj) (fun i hi => by rw [ea12, mU_slot (by omega), ea9, mU_slot (by omega), ea6, mU_get]; split; rfl; exact hW i (by omega))
  exact loop11 _ 0 a2 rfl ha2 (FR.up (FR.rf) (by decide) ea2) (fun (m9 : Nat) (l9 : m9 < 22) (h7 : ACm m9 a) => ACm.put ((fun (m9 : Nat) (l9 : m9 < 22) (h7 : ACm m9 a) => h7) m9 l9 h7) ea2 (by omega)) (by omega) (fun j hj => by rw [ea2, mU_slot (by omega)]) (fun i hi => absurd hi (by omega))
set_option maxRecDepth 4000 in
theorem s_begins {K : Nat} (a : Nat → Nat → Int32) (b : Nat → Nat → Int64)  (hR : RM K a)  : f_call mtM 2 39 [.inr (.inr (some 0))] (mH a b) (fun v9 h' => ∃ (a' : Nat → Nat → Int32), h' = mH a' b ∧ RM K a' ∧ (FR [0, 11, 15, 16] a a' ∧ (∀ m9, m9 < 22 → ACm m9 a → ACm m9 a') ∧ (∀ j, 60 ≤ j → a' 15 j = a 15 j) ∧ (∀ i, i < 6 → a' 15 (1 + i) = -1)) ∧ v9 = none) := by
  refine f_call_of (d0 := 1) rfl (Nat.le_of_ble_eq_true rfl) (fun d hd => ?_)
  show f_wp _ (0, [some (.inr (.inr (some 0))), none], [], mH a b) _
  have lm1 : (-1 : Int32).toInt = -1 := rfl
  have l0 : (0 : Int32).toInt = 0 := rfl
  have l1 : (1 : Int32).toInt = 1 := rfl
  have l4 : (4 : Int32).toInt = 4 := rfl
  have l19 : (19 : Int32).toInt = 19 := rfl
  have l26 : (26 : Int32).toInt = 26 := rfl
  refine w_aload rfl rfl ?_
  refine w_const rfl ?_
  refine w_invV (rest := []) rfl rfl rfl rfl rfl (Nat.le_of_ble_eq_true rfl) rfl (by omega) (s_starts (K := K) a b  0 hR (by omega)) (fun v1 h9 hq2 => ?_)
  obtain ⟨a3, rfl, ha3, fa3, rfl⟩ := hq2
  show f_wp _ (5, [some (.inr (.inr (some 0))), none], [], mH a3 b) _
  refine w_aload rfl rfl ?_
  refine w_getR (v := .inr (.inr (some 15))) rfl rfl rfl rfl rfl ?_
  refine w_const rfl ?_
  refine w_const rfl ?_
  refine m_iast rfl rfl (by omega) (fun a4 ea4 => ?_)
  have ha4 : RM K a4 := RM.up ha3 ea4 (show (-1 : Int) ≤ _ ∧ _ ≤ (6 : Int) from by omega)
  refine w_aload rfl rfl ?_
  refine w_getR (v := .inr (.inr (some 15))) rfl rfl rfl rfl rfl ?_
  refine w_const rfl ?_
  refine w_const rfl ?_
  refine m_iast rfl rfl (by omega) (fun a5 ea5 => ?_)
  have ha5 : RM K a5 := RM.up ha4 ea5 (show (0 : Int) ≤ _ ∧ _ ≤ (10 : Int) from by omega)
  refine w_aload rfl rfl ?_
  refine w_getR (v := .inr (.inr (some 11))) rfl rfl rfl rfl rfl ?_
  refine w_const rfl ?_
  refine w_const rfl ?_
  refine m_iast rfl rfl (by omega) (fun a6 ea6 => ?_)
  have ha6 : RM K a6 := RM.up ha5 ea6 (show (0 : Int) ≤ _ ∧ _ ≤ (24 : Int) from by omega)
  refine w_aload rfl rfl ?_
  refine w_const rfl ?_
  refine m_putI (z := false) rfl rfl rfl rfl (by first | (intro h9; cases h9; done) | (intro _; first | exact Or.inl rfl | exact Or.inr rfl | assumption)) (fun a7 ea7 => ?_)
  have ha7 : RM K a7 := RM.up ha6 ea7 (show (0 : Int) ≤ _ ∧ _ ≤ (16 : Int) from by omega)
  have ua7_23 : a7 0 23 = (0 : Int32) := by rw [ea7, mU_same]
  have wa7_23 := congrArg Int32.toInt ua7_23
  refine w_const rfl ?_
  refine w_istore (lo' := [some (.inr (.inr (some 0))), some (.inl 0)]) rfl rfl ?_
  have loop35 : ∀ (ms9 : Nat) (m : Int32) (a35 : Nat → Nat → Int32) , (4 - m.toInt).toNat = ms9 → RM K a35 → FR [0, 11, 15, 16] a a35 → (∀ m9, m9 < 22 → ACm m9 a → ACm m9 a35) → (0 ≤ m.toInt ∧ m.toInt ≤ 4) → ((∀ j, 60 ≤ j → a35 15 j = a 15 j) ∧ (∀ i, i < 6 → a35 15 (1 + i) = -1)) → f_wp (f_code (t_X13_begins (f_ev mtM d))) (35, [some (.inr (.inr (some 0))), some (.inl m)], [], mH a35 b) (fun v9 h' => ∃ (a' : Nat → Nat → Int32), h' = mH a' b ∧ RM K a' ∧ (FR [0, 11, 15, 16] a a' ∧ (∀ m9, m9 < 22 → ACm m9 a → ACm m9 a') ∧ (∀ j, 60 ≤ j → a' 15 j = a 15 j) ∧ (∀ i, i < 6 → a' 15 (1 + i) = -1)) ∧ v9 = none) := by
    intro ms9
    induction ms9 using Nat.strongRecOn with
    | _ ms35 ih35 =>
      intro m a35  hm35 hR35 hF35 hC35 hm hS
      refine w_iload rfl rfl ?_
      refine w_const rfl ?_
      refine w_ic_ge rfl (fun c8 => ?_) (fun c8 => ?_)
      · skip
        exact w_ret rfl ⟨a35, rfl, hR35, ⟨hF35, hC35, hS⟩, rfl⟩
      · skip
        refine w_aload rfl rfl ?_
        refine w_getR (v := .inr (.inr (some 16))) rfl rfl rfl rfl rfl ?_
        refine w_iload rfl rfl ?_
        refine w_const rfl ?_
        refine m_bast rfl rfl (by omega) (fun a9 ea9 => ?_)
        have ha9 : RM K a9 := RM.up hR35 ea9 (ti_nz _)
        refine w_iinc (lo' := fun z9 => [some (.inr (.inr (some 0))), some (.inl z9)]) rfl rfl (fun _ => rfl) (by omega) (fun x10 tx10 => ?_)
        refine w_goto rfl ?_
        exact ih35 (4 - x10.toInt).toNat (by omega) x10 a9 rfl ha9 (FR.up (hF35) (by decide) ea9) (fun (m9 : Nat) (l9 : m9 < 22) (h7 : ACm m9 a) => ACm.up ((hC35) m9 l9 h7) ea9 (by decide)) (by omega) (by rw [ea9, mU_cell (by decide)]; exact hS)
  exact loop35 _ 0 a7 rfl ha7 (FR.up (FR.up (FR.up (FR.up (FR.tr (FR.rf) (FR.sub fa3.1 (by decide))) (by decide) ea4) (by decide) ea5) (by decide) ea6) (by decide) ea7) (fun (m9 : Nat) (l9 : m9 < 22) (h7 : ACm m9 a) => ACm.up ((fun (m9 : Nat) (l9 : m9 < 22) (h7 : ACm m9 a) => ACm.up ((fun (m9 : Nat) (l9 : m9 < 22) (h7 : ACm m9 a) => ACm.put ((fun (m9 : Nat) (l9 : m9 < 22) (h7 : ACm m9 a) => ACm.put ((fun (m9 : Nat) (l9 : m9 < 22) (h7 : ACm m9 a) => fa3.2.1 m9 (by omega) ((fun (m9 : Nat) (l9 : m9 < 22) (h7 : ACm m9 a) => h7) m9 l9 h7)) m9 l9 h7) ea4 (by omega)) m9 l9 h7) ea5 (by omega)) m9 l9 h7) ea6 (by decide)) m9 l9 h7) ea7 (by decide)) (by omega) (⟨fun j hj => by rw [ea7, mU_cell (by decide), ea6, mU_cell (by decide), ea5, mU_slot (by omega), ea4, mU_slot (by omega)]; exact fa3.2.2.1 j (by omega), fun i hi => by rw [ea7, mU_cell (by decide), ea6, mU_cell (by decide), ea5, mU_slot (by omega), ea4, mU_slot (by omega)]; have h8 := fa3.2.2.2 i hi; rw [l0] at h8; simpa using h8⟩)
set_option maxRecDepth 4000 in
theorem s_lay {K : Nat} (a : Nat → Nat → Int32) (b : Nat → Nat → Int64) (L_v : Int64) (hR : RM K a)  : f_call mtM 1 1 [.inr (.inr (some 0)), .inr (.inl L_v)] (mH a b) (fun v9 h' => ∃ (a' : Nat → Nat → Int32), h' = mH a' b ∧ RM K a' ∧ (FR [0, 1] a a' ∧ True) ∧ v9 = none) := by
  refine f_call_of (d0 := 0) rfl (Nat.le_of_ble_eq_true rfl) (fun d hd => ?_)
  show f_wp _ (0, [some (.inr (.inr (some 0))), some (.inr (.inl L_v)), none, none, none], [], mH a b) _
  have lm8 : (-8 : Int32).toInt = -8 := rfl
  have l1 : (1 : Int32).toInt = 1 := rfl
  have l10 : (10 : Int32).toInt = 10 := rfl
  have l32 : (32 : Int32).toInt = 32 := rfl
  have l56 : (56 : Int32).toInt = 56 := rfl
  have l126 : (126 : Int32).toInt = 126 := rfl
  have l255 : (255 : Int32).toInt = 255 := rfl
  have l1000 : (1000 : Int32).toInt = 1000 := rfl
  refine w_const rfl ?_
  refine w_istore (lo' := [some (.inr (.inr (some 0))), some (.inr (.inl L_v)), none, some (.inl 56), none]) rfl rfl ?_
  have loop3 : ∀ (ms9 : Nat) (k : Int32) (a3 : Nat → Nat → Int32) (o4_3 : Option f_V), (k.toInt + 8).toNat = ms9 → RM K a3 → FR [0, 1] a a3 → (-8 ≤ k.toInt ∧ k.toInt ≤ 56) → f_wp (f_code (t_X13_lay (f_ev mtM d))) (3, [some (.inr (.inr (some 0))), some (.inr (.inl L_v)), none, some (.inl k), o4_3], [], mH a3 b) (fun v9 h' => ∃ (a' : Nat → Nat → Int32), h' = mH a' b ∧ RM K a' ∧ (FR [0, 1] a a' ∧ True) ∧ v9 = none) := by
    intro ms9
    induction ms9 using Nat.strongRecOn with
    | _ ms3 ih3 =>
      intro k a3 o4_3 hm3 hR3 hF3 hk
      refine w_iload rfl rfl ?_
      refine w_if_lt rfl (fun c1 => ?_) (fun c1 => ?_)
      · skip
        exact w_ret rfl ⟨a3, rfl, hR3, ⟨hF3, trivial⟩, rfl⟩
      · skip
        refine w_lload rfl rfl ?_
        refine w_iload rfl rfl ?_
        refine w_liE rfl (fun y2 ty2 => ?_)
        refine w_l2iE rfl (fun x3 tx3 => ?_)
        refine w_const rfl ?_
        refine w_iiE rfl (fun x4 tx4 => ?_)
        refine w_istore (lo' := [some (.inr (.inr (some 0))), some (.inr (.inl L_v)), none, some (.inl k), some (.inl x4)]) rfl rfl ?_
        refine w_iload rfl rfl ?_
        refine w_const rfl ?_
        refine w_ic_eq rfl (fun c5 => ?_) (fun c5 => ?_)
        · skip
          refine w_aload rfl rfl ?_
          refine w_getI (v := .inl (a3 0 2)) rfl rfl rfl rfl rfl ?_
          have q6 : 0 ≤ (a3 0 2).toInt ∧ (a3 0 2).toInt ≤ 1000 := hR3 0 2
          refine w_const rfl ?_
          refine w_ic_ge rfl (fun c7 => ?_) (fun c7 => ?_)
          · skip
            refine w_iinc (lo' := fun z9 => [some (.inr (.inr (some 0))), some (.inr (.inl L_v)), none, some (.inl z9), some (.inl x4)]) rfl rfl (fun _ => rfl) (by omega) (fun x8 tx8 => ?_)
            refine w_goto rfl ?_
            exact ih3 (x8.toInt + 8).toNat (by omega) x8 a3 (some (.inl x4)) rfl hR3 (hF3) (by omega)
          · skip
            refine w_aload rfl rfl ?_
            refine w_getR (v := .inr (.inr (some 1))) rfl rfl rfl rfl rfl ?_
            refine w_aload rfl rfl ?_
            refine w_getI (v := .inl (a3 0 2)) rfl rfl rfl rfl rfl ?_
            have q9 : 0 ≤ (a3 0 2).toInt ∧ (a3 0 2).toInt ≤ 1000 := hR3 0 2
            refine w_iload rfl rfl ?_
            refine m_iast rfl rfl (by omega) (fun a10 ea10 => ?_)
            have ha10 : RM K a10 := RM.up hR3 ea10 ⟨ti_lo _, ti_hi _⟩
            have ua10_2 : (a10 0 2).toInt = (a3 0 2).toInt := by rw [ea10, mU_cell (by decide)]
            refine w_aload rfl rfl ?_
            refine w_dup rfl rfl ?_
            refine w_getI (v := .inl (a10 0 2)) rfl rfl rfl rfl rfl ?_
            have q11 : 0 ≤ (a10 0 2).toInt ∧ (a10 0 2).toInt ≤ 1000 := ha10 0 2
            refine w_const rfl ?_
            first | refine w_iadd rfl (by omega) (fun x12 tx12 => ?_) | refine w_iiU rfl (fun x12 tx12 => ?_)
            refine m_putI (z := false) rfl rfl rfl rfl (by first | (intro h9; cases h9; done) | (intro _; first | exact Or.inl rfl | exact Or.inr rfl | assumption)) (fun a13 ea13 => ?_)
            have ha13 : RM K a13 := RM.up ha10 ea13 (show (0 : Int) ≤ _ ∧ _ ≤ (1000 : Int) from by omega)
            have ua13_2 : a13 0 2 = x12 := by rw [ea13, mU_same]
            have wa13_2 := congrArg Int32.toInt ua13_2
            refine w_iinc (lo' := fun z9 => [some (.inr (.inr (some 0))), some (.inr (.inl L_v)), none, some (.inl z9), some (.inl x4)]) rfl rfl (fun _ => rfl) (by omega) (fun x14 tx14 => ?_)
            refine w_goto rfl ?_
            exact ih3 (x14.toInt + 8).toNat (by omega) x14 a13 (some (.inl x4)) rfl ha13 (FR.up (FR.up (hF3) (by decide) ea10) (by decide) ea13) (by omega)
        · skip
          refine w_iload rfl rfl ?_
          refine w_const rfl ?_
          refine w_ic_lt rfl (fun c15 => ?_) (fun c15 => ?_)
          · skip
            refine w_iinc (lo' := fun z9 => [some (.inr (.inr (some 0))), some (.inr (.inl L_v)), none, some (.inl z9), some (.inl x4)]) rfl rfl (fun _ => rfl) (by omega) (fun x16 tx16 => ?_)
            refine w_goto rfl ?_
            exact ih3 (x16.toInt + 8).toNat (by omega) x16 a3 (some (.inl x4)) rfl hR3 (hF3) (by omega)
          · skip
            refine w_iload rfl rfl ?_
            refine w_const rfl ?_
            refine w_ic_gt rfl (fun c17 => ?_) (fun c17 => ?_)
            · skip
              refine w_iinc (lo' := fun z9 => [some (.inr (.inr (some 0))), some (.inr (.inl L_v)), none, some (.inl z9), some (.inl x4)]) rfl rfl (fun _ => rfl) (by omega) (fun x18 tx18 => ?_)
              refine w_goto rfl ?_
              exact ih3 (x18.toInt + 8).toNat (by omega) x18 a3 (some (.inl x4)) rfl hR3 (hF3) (by omega)
            · skip
              refine w_aload rfl rfl ?_
              refine w_getI (v := .inl (a3 0 2)) rfl rfl rfl rfl rfl ?_
              have q19 : 0 ≤ (a3 0 2).toInt ∧ (a3 0 2).toInt ≤ 1000 := hR3 0 2
              refine w_const rfl ?_
              refine w_ic_ge rfl (fun c20 => ?_) (fun c20 => ?_)
              · skip
                refine w_iinc (lo' := fun z9 => [some (.inr (.inr (some 0))), some (.inr (.inl L_v)), none, some (.inl z9), some (.inl x4)]) rfl rfl (fun _ => rfl) (by omega) (fun x21 tx21 => ?_)
                refine w_goto rfl ?_
                exact ih3 (x21.toInt + 8).toNat (by omega) x21 a3 (some (.inl x4)) rfl hR3 (hF3) (by omega)
              · skip
                refine w_aload rfl rfl ?_
                refine w_getR (v := .inr (.inr (some 1))) rfl rfl rfl rfl rfl ?_
                refine w_aload rfl rfl ?_
                refine w_getI (v := .inl (a3 0 2)) rfl rfl rfl rfl rfl ?_
                have q22 : 0 ≤ (a3 0 2).toInt ∧ (a3 0 2).toInt ≤ 1000 := hR3 0 2
                refine w_iload rfl rfl ?_
                refine m_iast rfl rfl (by omega) (fun a23 ea23 => ?_)
                have ha23 : RM K a23 := RM.up hR3 ea23 ⟨ti_lo _, ti_hi _⟩
                have ua23_2 : (a23 0 2).toInt = (a3 0 2).toInt := by rw [ea23, mU_cell (by decide)]
                refine w_aload rfl rfl ?_
                refine w_dup rfl rfl ?_
                refine w_getI (v := .inl (a23 0 2)) rfl rfl rfl rfl rfl ?_
                have q24 : 0 ≤ (a23 0 2).toInt ∧ (a23 0 2).toInt ≤ 1000 := ha23 0 2
                refine w_const rfl ?_
                first | refine w_iadd rfl (by omega) (fun x25 tx25 => ?_) | refine w_iiU rfl (fun x25 tx25 => ?_)
                refine m_putI (z := false) rfl rfl rfl rfl (by first | (intro h9; cases h9; done) | (intro _; first | exact Or.inl rfl | exact Or.inr rfl | assumption)) (fun a26 ea26 => ?_)
                have ha26 : RM K a26 := RM.up ha23 ea26 (show (0 : Int) ≤ _ ∧ _ ≤ (1000 : Int) from by omega)
                have ua26_2 : a26 0 2 = x25 := by rw [ea26, mU_same]
                have wa26_2 := congrArg Int32.toInt ua26_2
                refine w_iinc (lo' := fun z9 => [some (.inr (.inr (some 0))), some (.inr (.inl L_v)), none, some (.inl z9), some (.inl x4)]) rfl rfl (fun _ => rfl) (by omega) (fun x27 tx27 => ?_)
                refine w_goto rfl ?_
                exact ih3 (x27.toInt + 8).toNat (by omega) x27 a26 (some (.inl x4)) rfl ha26 (FR.up (FR.up (hF3) (by decide) ea23) (by decide) ea26) (by omega)
  exact loop3 _ 56 a none rfl hR (FR.rf) (by omega)
