def gM (x : Int64) (n : Int) : Nat → Int
  | 0 => n
  | m + 1 => fS (gM x n m) (byM x (Int32.ofNat (56 - 8 * m)))
theorem gM_s {x : Int64} {n : Int} {m : Nat} {s : Int32} (h : s.toInt = 56 - 8 * m) (h0 : 0 ≤ s.toInt) : gM x n (m + 1) = fS (gM x n m) (byM x s) := by
  have e : Int32.ofNat (56 - 8 * m) = s := Int32.toInt_inj.mp (by rw [Int32.toInt_ofNat_of_lt (by omega)]; omega)
  show fS (gM x n m) (byM x (Int32.ofNat (56 - 8 * m))) = _
  rw [e]
set_option maxRecDepth 4000 in
theorem s_lay_1 {K : Nat} (a : Nat → Nat → Int32) (b : Nat → Nat → Int64) (L_v : Int64) (hR : RM K a)  : f_call mtM 1 1 [.inr (.inr (some 0)), .inr (.inl L_v)] (mH a b) (fun v9 h' => ∃ (a' : Nat → Nat → Int32), h' = mH a' b ∧ RM K a' ∧ (FR [0, 1] a a' ∧ ((a' 0 2).toInt = gM L_v (a 0 2).toInt 8 ∧ (∀ j, j ≠ 2 → a' 0 j = a 0 j))) ∧ v9 = none) := by
  refine f_call_of (d0 := 0) rfl (Nat.le_of_ble_eq_true rfl) (fun d hd => ?_)
  show f_wp _ (0, [some (.inr (.inr (some 0))), some (.inr (.inl L_v)), none, none, none], [], mH a b) _
  have lm8 : (-8 : Int32).toInt = -8 := rfl
  have l1 : (1 : Int32).toInt = 1 := rfl
  have l10 : (10 : Int32).toInt = 10 := rfl
  have l32 : (32 : Int32).toInt = 32 := rfl
  have l56 : (56 : Int32).toInt = 56 := rfl
  have l126 : (126 : Int32).toInt = 126 := rfl
  have l255 : (255 : Int32).toInt = 255 := rfl
  have l1000 : (1000 : Int32).toInt = 1000 := rfl
  refine w_const rfl ?_
  refine w_istore (lo' := [some (.inr (.inr (some 0))), some (.inr (.inl L_v)), none, some (.inl 56), none]) rfl rfl ?_
  have loop3 : ∀ (ms9 : Nat) (k : Int32) (a3 : Nat → Nat → Int32) (o4_3 : Option f_V), (k.toInt + 8).toNat = ms9 → RM K a3 → FR [0, 1] a a3 → (-8 ≤ k.toInt ∧ k.toInt ≤ 56 ∧ k.toInt % 8 = 0) → ((a3 0 2).toInt = gM L_v (a 0 2).toInt ((56 - k.toInt) / 8).toNat) → (∀ j, j ≠ 2 → a3 0 j = a 0 j) → f_wp (f_code (t_X13_lay (f_ev mtM d))) (3, [some (.inr (.inr (some 0))), some (.inr (.inl L_v)), none, some (.inl k), o4_3], [], mH a3 b) (fun v9 h' => ∃ (a' : Nat → Nat → Int32), h' = mH a' b ∧ RM K a' ∧ (FR [0, 1] a a' ∧ ((a' 0 2).toInt = gM L_v (a 0 2).toInt 8 ∧ (∀ j, j ≠ 2 → a' 0 j = a 0 j))) ∧ v9 = none) := by
    intro ms9
    induction ms9 using Nat.strongRecOn with
    | _ ms3 ih3 =>
      intro k a3 o4_3 hm3 hR3 hF3 hk hl hS
      refine w_iload rfl rfl ?_
      refine w_if_lt rfl (fun c1 => ?_) (fun c1 => ?_)
      · skip
        exact w_ret rfl ⟨a3, rfl, hR3, ⟨hF3, ⟨by rw [hl, show ((56 - k.toInt) / 8).toNat = 8 from by omega], hS⟩⟩, rfl⟩
      · skip
        refine w_lload rfl rfl ?_
        refine w_iload rfl rfl ?_
        refine w_liE rfl (fun y2 ty2 => ?_)
        have y9 := ty2
        refine w_l2iE rfl (fun x3 tx3 => ?_)
        have x9 := tx3
        refine w_const rfl ?_
        refine w_iiE rfl (fun x4 tx4 => ?_)
        have p9 : x4 = byM L_v k := by rw [tx4, x9, y9]; rfl
        refine w_istore (lo' := [some (.inr (.inr (some 0))), some (.inr (.inl L_v)), none, some (.inl k), some (.inl x4)]) rfl rfl ?_
        refine w_iload rfl rfl ?_
        refine w_const rfl ?_
        refine w_ic_eq rfl (fun c5 => ?_) (fun c5 => ?_)
        · skip
          refine w_aload rfl rfl ?_
          refine w_getI (v := .inl (a3 0 2)) rfl rfl rfl rfl rfl ?_
          have q6 : 0 ≤ (a3 0 2).toInt ∧ (a3 0 2).toInt ≤ 1000 := hR3 0 2
          refine w_const rfl ?_
          refine w_ic_ge rfl (fun c7 => ?_) (fun c7 => ?_)
          · skip
            refine w_iinc (lo' := fun z9 => [some (.inr (.inr (some 0))), some (.inr (.inl L_v)), none, some (.inl z9), some (.inl x4)]) rfl rfl (fun _ => rfl) (by omega) (fun x8 tx8 => ?_)
            refine w_goto rfl ?_
            exact ih3 (x8.toInt + 8).toNat (by omega) x8 a3 (some (.inl x4)) rfl hR3 (hF3) (by omega) (by rw [show ((56 - x8.toInt) / 8).toNat = ((56 - k.toInt) / 8).toNat + 1 from by omega, gM_s (s := k) (by omega) (by omega), ← hl, ← p9]; unfold fS; rw [if_neg (by omega)]; omega) (hS)
          · skip
            refine w_aload rfl rfl ?_
            refine w_getR (v := .inr (.inr (some 1))) rfl rfl rfl rfl rfl ?_
            refine w_aload rfl rfl ?_
            refine w_getI (v := .inl (a3 0 2)) rfl rfl rfl rfl rfl ?_
            have q9 : 0 ≤ (a3 0 2).toInt ∧ (a3 0 2).toInt ≤ 1000 := hR3 0 2
            refine w_iload rfl rfl ?_
            refine m_iast rfl rfl (by omega) (fun a10 ea10 => ?_)
            have ha10 : RM K a10 := RM.up hR3 ea10 ⟨ti_lo _, ti_hi _⟩
            have ua10_2 : (a10 0 2).toInt = (a3 0 2).toInt := by rw [ea10, mU_cell (by decide)]
            refine w_aload rfl rfl ?_
            refine w_dup rfl rfl ?_
            refine w_getI (v := .inl (a10 0 2)) rfl rfl rfl rfl rfl ?_
            have q11 : 0 ≤ (a10 0 2).toInt ∧ (a10 0 2).toInt ≤ 1000 := ha10 0 2
            refine w_const rfl ?_
            first | refine w_iadd rfl (by omega) (fun x12 tx12 => ?_) | refine w_iiU rfl (fun x12 tx12 => ?_)
            refine m_putI (z := false) rfl rfl rfl rfl (by first | (intro h9; cases h9; done) | (intro _; first | exact Or.inl rfl | exact Or.inr rfl | assumption)) (fun a13 ea13 => ?_)
            have ha13 : RM K a13 := RM.up ha10 ea13 (show (0 : Int) ≤ _ ∧ _ ≤ (1000 : Int) from by omega)
            have ua13_2 : a13 0 2 = x12 := by rw [ea13, mU_same]
            have wa13_2 := congrArg Int32.toInt ua13_2
            refine w_iinc (lo' := fun z9 => [some (.inr (.inr (some 0))), some (.inr (.inl L_v)), none, some (.inl z9), some (.inl x4)]) rfl rfl (fun _ => rfl) (by omega) (fun x14 tx14 => ?_)
            refine w_goto rfl ?_
            exact ih3 (x14.toInt + 8).toNat (by omega) x14 a13 (some (.inl x4)) rfl ha13 (FR.up (FR.up (hF3) (by decide) ea10) (by decide) ea13) (by omega) (by rw [show ((56 - x14.toInt) / 8).toNat = ((56 - k.toInt) / 8).toNat + 1 from by omega, gM_s (s := k) (by omega) (by omega), ← hl, ← p9]; unfold fS; rw [if_pos (by omega), ea13, mU_same]; omega) (fun j hj => by rw [ea13, mU_slot hj, ea10, mU_cell (by decide)]; exact hS j hj)
        · skip
          refine w_iload rfl rfl ?_
          refine w_const rfl ?_
          refine w_ic_lt rfl (fun c15 => ?_) (fun c15 => ?_)
          · skip
            refine w_iinc (lo' := fun z9 => [some (.inr (.inr (some 0))), some (.inr (.inl L_v)), none, some (.inl z9), some (.inl x4)]) rfl rfl (fun _ => rfl) (by omega) (fun x16 tx16 => ?_)
            refine w_goto rfl ?_
            exact ih3 (x16.toInt + 8).toNat (by omega) x16 a3 (some (.inl x4)) rfl hR3 (hF3) (by omega) (by rw [show ((56 - x16.toInt) / 8).toNat = ((56 - k.toInt) / 8).toNat + 1 from by omega, gM_s (s := k) (by omega) (by omega), ← hl, ← p9]; unfold fS; rw [if_neg (by omega)]; omega) (hS)
          · skip
            refine w_iload rfl rfl ?_
            refine w_const rfl ?_
            refine w_ic_gt rfl (fun c17 => ?_) (fun c17 => ?_)
            · skip
              refine w_iinc (lo' := fun z9 => [some (.inr (.inr (some 0))), some (.inr (.inl L_v)), none, some (.inl z9), some (.inl x4)]) rfl rfl (fun _ => rfl) (by omega) (fun x18 tx18 => ?_)
              refine w_goto rfl ?_
              exact ih3 (x18.toInt + 8).toNat (by omega) x18 a3 (some (.inl x4)) rfl hR3 (hF3) (by omega) (by rw [show ((56 - x18.toInt) / 8).toNat = ((56 - k.toInt) / 8).toNat + 1 from by omega, gM_s (s := k) (by omega) (by omega), ← hl, ← p9]; unfold fS; rw [if_neg (by omega)]; omega) (hS)
            · skip
              refine w_aload rfl rfl ?_
              refine w_getI (v := .inl (a3 0 2)) rfl rfl rfl rfl rfl ?_
              have q19 : 0 ≤ (a3 0 2).toInt ∧ (a3 0 2).toInt ≤ 1000 := hR3 0 2
              refine w_const rfl ?_
              refine w_ic_ge rfl (fun c20 => ?_) (fun c20 => ?_)
              · skip
                refine w_iinc (lo' := fun z9 => [some (.inr (.inr (some 0))), some (.inr (.inl L_v)), none, some (.inl z9), some (.inl x4)]) rfl rfl (fun _ => rfl) (by omega) (fun x21 tx21 => ?_)
                refine w_goto rfl ?_
                exact ih3 (x21.toInt + 8).toNat (by omega) x21 a3 (some (.inl x4)) rfl hR3 (hF3) (by omega) (by rw [show ((56 - x21.toInt) / 8).toNat = ((56 - k.toInt) / 8).toNat + 1 from by omega, gM_s (s := k) (by omega) (by omega), ← hl, ← p9]; unfold fS; rw [if_neg (by omega)]; omega) (hS)
              · skip
                refine w_aload rfl rfl ?_
                refine w_getR (v := .inr (.inr (some 1))) rfl rfl rfl rfl rfl ?_
                refine w_aload rfl rfl ?_
                refine w_getI (v := .inl (a3 0 2)) rfl rfl rfl rfl rfl ?_
                have q22 : 0 ≤ (a3 0 2).toInt ∧ (a3 0 2).toInt ≤ 1000 := hR3 0 2
                refine w_iload rfl rfl ?_
                refine m_iast rfl rfl (by omega) (fun a23 ea23 => ?_)
                have ha23 : RM K a23 := RM.up hR3 ea23 ⟨ti_lo _, ti_hi _⟩
                have ua23_2 : (a23 0 2).toInt = (a3 0 2).toInt := by rw [ea23, mU_cell (by decide)]
                refine w_aload rfl rfl ?_
                refine w_dup rfl rfl ?_
                refine w_getI (v := .inl (a23 0 2)) rfl rfl rfl rfl rfl ?_
                have q24 : 0 ≤ (a23 0 2).toInt ∧ (a23 0 2).toInt ≤ 1000 := ha23 0 2
                refine w_const rfl ?_
                first | refine w_iadd rfl (by omega) (fun x25 tx25 => ?_) | refine w_iiU rfl (fun x25 tx25 => ?_)
                refine m_putI (z := false) rfl rfl rfl rfl (by first | (intro h9; cases h9; done) | (intro _; first | exact Or.inl rfl | exact Or.inr rfl | assumption)) (fun a26 ea26 => ?_)
                have ha26 : RM K a26 := RM.up ha23 ea26 (show (0 : Int) ≤ _ ∧ _ ≤ (1000 : Int) from by omega)
                have ua26_2 : a26 0 2 = x25 := by rw [ea26, mU_same]
                have wa26_2 := congrArg Int32.toInt ua26_2
                refine w_iinc (lo' := fun z9 => [some (.inr (.inr (some 0))), some (.inr (.inl L_v)), none, some (.inl z9), some (.inl x4)]) rfl rfl (fun _ => rfl) (by omega) (fun x27 tx27 => ?_)
                refine w_goto rfl ?_
                exact ih3 (x27.toInt + 8).toNat (by omega) x27 a26 (some (.inl x4)) rfl ha26 (FR.up (FR.up (hF3) (by decide) ea23) (by decide) ea26) (by omega) (by rw [show ((56 - x27.toInt) / 8).toNat = ((56 - k.toInt) / 8).toNat + 1 from by omega, gM_s (s := k) (by omega) (by omega), ← hl, ← p9]; unfold fS; rw [if_pos (by omega), ea26, mU_same]; omega) (fun j hj => by rw [ea26, mU_slot hj, ea23, mU_cell (by decide)]; exact hS j hj)
  exact loop3 _ 56 a none rfl hR (FR.rf) (by omega) (rfl) (fun _ _ => rfl)
set_option maxRecDepth 4000 in
theorem s_feed_1 {K : Nat} (a : Nat → Nat → Int32) (b : Nat → Nat → Int64) (L_a : Int64) (L_b : Int64) (L_c : Int64) (hR : RM K a)  : f_call mtM 2 0 [.inr (.inr (some 0)), .inr (.inl L_a), .inr (.inl L_b), .inr (.inl L_c)] (mH a b) (fun v9 h' => ∃ (a' : Nat → Nat → Int32), h' = mH a' b ∧ RM K a' ∧ (FR [0, 1] a a' ∧ ((a' 0 2).toInt = gM L_c (gM L_b (gM L_a (a 0 2).toInt 8) 8) 8)) ∧ ∃ x : Int32, v9 = some (.inl x) ∧ (x = a' 0 2)) := by
  refine f_call_of (d0 := 1) rfl (Nat.le_of_ble_eq_true rfl) (fun d hd => ?_)
  show f_wp _ (0, [some (.inr (.inr (some 0))), some (.inr (.inl L_a)), none, some (.inr (.inl L_b)), none, some (.inr (.inl L_c)), none], [], mH a b) _
  have l0 : (0 : Int32).toInt = 0 := rfl
  refine w_aload rfl rfl ?_
  refine w_const rfl ?_
  refine m_putI (z := false) rfl rfl rfl rfl (by first | (intro h9; cases h9; done) | (intro _; first | exact Or.inl rfl | exact Or.inr rfl | assumption)) (fun a1 ea1 => ?_)
  have ha1 : RM K a1 := RM.up hR ea1 ⟨ti_lo _, ti_hi _⟩
  have ua1_0 : a1 0 0 = (0 : Int32) := by rw [ea1, mU_same]
  have wa1_0 := congrArg Int32.toInt ua1_0
  refine w_aload rfl rfl ?_
  refine w_lload rfl rfl ?_
  refine w_invV (rest := []) rfl rfl rfl rfl rfl (Nat.le_of_ble_eq_true rfl) rfl (by omega) (s_lay_1 (K := K) a1 b  L_a ha1 ) (fun v2 h9 hq3 => ?_)
  obtain ⟨a4, rfl, ha4, fa4, rfl⟩ := hq3
  show f_wp _ (10, [some (.inr (.inr (some 0))), some (.inr (.inl L_a)), none, some (.inr (.inl L_b)), none, some (.inr (.inl L_c)), none], [], mH a4 b) _
  refine w_aload rfl rfl ?_
  refine w_lload rfl rfl ?_
  refine w_invV (rest := []) rfl rfl rfl rfl rfl (Nat.le_of_ble_eq_true rfl) rfl (by omega) (s_lay_1 (K := K) a4 b  L_b ha4 ) (fun v5 h9 hq6 => ?_)
  obtain ⟨a7, rfl, ha7, fa7, rfl⟩ := hq6
  show f_wp _ (15, [some (.inr (.inr (some 0))), some (.inr (.inl L_a)), none, some (.inr (.inl L_b)), none, some (.inr (.inl L_c)), none], [], mH a7 b) _
  refine w_aload rfl rfl ?_
  refine w_lload rfl rfl ?_
  refine w_invV (rest := []) rfl rfl rfl rfl rfl (Nat.le_of_ble_eq_true rfl) rfl (by omega) (s_lay_1 (K := K) a7 b  L_c ha7 ) (fun v8 h9 hq9 => ?_)
  obtain ⟨a10, rfl, ha10, fa10, rfl⟩ := hq9
  show f_wp _ (21, [some (.inr (.inr (some 0))), some (.inr (.inl L_a)), none, some (.inr (.inl L_b)), none, some (.inr (.inl L_c)), none], [], mH a10 b) _
  refine w_aload rfl rfl ?_
  refine w_getI (v := .inl (a10 0 2)) rfl rfl rfl rfl rfl ?_
  have q11 : 0 ≤ (a10 0 2).toInt ∧ (a10 0 2).toInt ≤ 1000 := ha10 0 2
  exact wp_iret (z := false) rfl (fun h9 => by cases h9) ⟨a10, rfl, ha10, ⟨FR.tr (FR.tr (FR.tr (FR.up (FR.rf) (by decide) ea1) (FR.sub fa4.1 (by decide))) (FR.sub fa7.1 (by decide))) (FR.sub fa10.1 (by decide)), by rw [fa10.2.1, fa7.2.1, fa4.2.1, ea1, mU_slot (by decide)]⟩, ⟨_, rfl, rfl⟩⟩
