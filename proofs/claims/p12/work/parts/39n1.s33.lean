set_option maxRecDepth 4000 in
theorem s_isSignOf_1 {K : Nat} (a : Nat → Nat → Int32) (b : Nat → Nat → Int64) (c : Int32)  : f_call mtM 1 5 [.inl c] (mH a b) (fun v9 h' => h' = mH a b ∧ ∃ x : Int32, v9 = some (.inl x) ∧ ((x.toInt = 1 ∧ lxS c = true) ∨ (x.toInt = 0 ∧ ¬ lxS c = true))) := by
  refine f_call_of (d0 := 0) rfl (Nat.le_of_ble_eq_true rfl) (fun d hd => ?_)
  show f_wp _ (0, [some (.inl c)], [], mH a b) _
  have l0 : (0 : Int32).toInt = 0 := rfl
  have l1 : (1 : Int32).toInt = 1 := rfl
  have l40 : (40 : Int32).toInt = 40 := rfl
  have l41 : (41 : Int32).toInt = 41 := rfl
  have l42 : (42 : Int32).toInt = 42 := rfl
  have l43 : (43 : Int32).toInt = 43 := rfl
  have l45 : (45 : Int32).toInt = 45 := rfl
  have l59 : (59 : Int32).toInt = 59 := rfl
  have l60 : (60 : Int32).toInt = 60 := rfl
  have l61 : (61 : Int32).toInt = 61 := rfl
  refine w_iload rfl rfl ?_
  refine w_const rfl ?_
  refine w_ic_eq rfl (fun c1 => ?_) (fun c1 => ?_)
  · skip
    refine w_const rfl ?_
    refine w_goto rfl ?_
    exact wp_iret (z := true) rfl (fun _ => by first | exact Or.inl rfl | exact Or.inr rfl | (rcases (by omega : (1 : Int32).toInt = 0 ∨ (1 : Int32).toInt = 1) with h8 | h8; exact Or.inl (ti_eq h8); exact Or.inr (ti_eq h8))) ⟨rfl, ⟨_, rfl, by rw [lxS_iff]; omega⟩⟩
  · skip
    refine w_iload rfl rfl ?_
    refine w_const rfl ?_
    refine w_ic_eq rfl (fun c2 => ?_) (fun c2 => ?_)
    · skip
      refine w_const rfl ?_
      refine w_goto rfl ?_
      exact wp_iret (z := true) rfl (fun _ => by first | exact Or.inl rfl | exact Or.inr rfl | (rcases (by omega : (1 : Int32).toInt = 0 ∨ (1 : Int32).toInt = 1) with h8 | h8; exact Or.inl (ti_eq h8); exact Or.inr (ti_eq h8))) ⟨rfl, ⟨_, rfl, by rw [lxS_iff]; omega⟩⟩
    · skip
      refine w_iload rfl rfl ?_
      refine w_const rfl ?_
      refine w_ic_eq rfl (fun c3 => ?_) (fun c3 => ?_)
      · skip
        refine w_const rfl ?_
        refine w_goto rfl ?_
        exact wp_iret (z := true) rfl (fun _ => by first | exact Or.inl rfl | exact Or.inr rfl | (rcases (by omega : (1 : Int32).toInt = 0 ∨ (1 : Int32).toInt = 1) with h8 | h8; exact Or.inl (ti_eq h8); exact Or.inr (ti_eq h8))) ⟨rfl, ⟨_, rfl, by rw [lxS_iff]; omega⟩⟩
      · skip
        refine w_iload rfl rfl ?_
        refine w_const rfl ?_
        refine w_ic_eq rfl (fun c4 => ?_) (fun c4 => ?_)
        · skip
          refine w_const rfl ?_
          refine w_goto rfl ?_
          exact wp_iret (z := true) rfl (fun _ => by first | exact Or.inl rfl | exact Or.inr rfl | (rcases (by omega : (1 : Int32).toInt = 0 ∨ (1 : Int32).toInt = 1) with h8 | h8; exact Or.inl (ti_eq h8); exact Or.inr (ti_eq h8))) ⟨rfl, ⟨_, rfl, by rw [lxS_iff]; omega⟩⟩
        · skip
          refine w_iload rfl rfl ?_
          refine w_const rfl ?_
          refine w_ic_eq rfl (fun c5 => ?_) (fun c5 => ?_)
          · skip
            refine w_const rfl ?_
            refine w_goto rfl ?_
            exact wp_iret (z := true) rfl (fun _ => by first | exact Or.inl rfl | exact Or.inr rfl | (rcases (by omega : (1 : Int32).toInt = 0 ∨ (1 : Int32).toInt = 1) with h8 | h8; exact Or.inl (ti_eq h8); exact Or.inr (ti_eq h8))) ⟨rfl, ⟨_, rfl, by rw [lxS_iff]; omega⟩⟩
          · skip
            refine w_iload rfl rfl ?_
            refine w_const rfl ?_
            refine w_ic_eq rfl (fun c6 => ?_) (fun c6 => ?_)
            · skip
              refine w_const rfl ?_
              refine w_goto rfl ?_
              exact wp_iret (z := true) rfl (fun _ => by first | exact Or.inl rfl | exact Or.inr rfl | (rcases (by omega : (1 : Int32).toInt = 0 ∨ (1 : Int32).toInt = 1) with h8 | h8; exact Or.inl (ti_eq h8); exact Or.inr (ti_eq h8))) ⟨rfl, ⟨_, rfl, by rw [lxS_iff]; omega⟩⟩
            · skip
              refine w_iload rfl rfl ?_
              refine w_const rfl ?_
              refine w_ic_eq rfl (fun c7 => ?_) (fun c7 => ?_)
              · skip
                refine w_const rfl ?_
                refine w_goto rfl ?_
                exact wp_iret (z := true) rfl (fun _ => by first | exact Or.inl rfl | exact Or.inr rfl | (rcases (by omega : (1 : Int32).toInt = 0 ∨ (1 : Int32).toInt = 1) with h8 | h8; exact Or.inl (ti_eq h8); exact Or.inr (ti_eq h8))) ⟨rfl, ⟨_, rfl, by rw [lxS_iff]; omega⟩⟩
              · skip
                refine w_iload rfl rfl ?_
                refine w_const rfl ?_
                refine w_ic_ne rfl (fun c8 => ?_) (fun c8 => ?_)
                · skip
                  refine w_const rfl ?_
                  refine w_goto rfl ?_
                  exact wp_iret (z := true) rfl (fun _ => by first | exact Or.inl rfl | exact Or.inr rfl | (rcases (by omega : (1 : Int32).toInt = 0 ∨ (1 : Int32).toInt = 1) with h8 | h8; exact Or.inl (ti_eq h8); exact Or.inr (ti_eq h8))) ⟨rfl, ⟨_, rfl, by rw [lxS_iff]; omega⟩⟩
                · skip
                  refine w_const rfl ?_
                  exact wp_iret (z := true) rfl (fun _ => by first | exact Or.inl rfl | exact Or.inr rfl | (rcases (by omega : (0 : Int32).toInt = 0 ∨ (0 : Int32).toInt = 1) with h8 | h8; exact Or.inl (ti_eq h8); exact Or.inr (ti_eq h8))) ⟨rfl, ⟨_, rfl, by rw [lxS_iff]; omega⟩⟩
set_option maxRecDepth 4000 in
theorem s_rank_1 {K : Nat} (a : Nat → Nat → Int32) (b : Nat → Nat → Int64) (c : Int32) (hc : 97 ≤ c.toInt ∧ c.toInt ≤ 122) : f_call mtM 2 4 [.inl c] (mH a b) (fun v9 h' => h' = mH a b ∧ ∃ x : Int32, v9 = some (.inl x) ∧ x.toInt = c.toInt - 96) := by
  refine f_call_of (d0 := 1) rfl (Nat.le_of_ble_eq_true rfl) (fun d hd => ?_)
  show f_wp _ (0, [some (.inl c)], [], mH a b) _
  have l21 : (21 : Int32).toInt = 21 := rfl
  have l96 : (96 : Int32).toInt = 96 := rfl
  refine w_iload rfl rfl ?_
  refine w_invS (rest := []) rfl (Nat.le_of_ble_eq_true rfl) rfl (Nat.le_of_ble_eq_true rfl) rfl (by omega) (s_isLetter (K := K) a b  c  ) (fun v1 h9 hq2 => ?_)
  obtain ⟨rfl, x3, rfl, px3⟩ := hq2
  show f_wp _ (4, [some (.inl c)], [.inl x3], mH a b) _
  refine w_if_eq rfl (fun c4 => ?_) (fun c4 => ?_)
  · skip
    refine w_iload rfl rfl ?_
    refine w_const rfl ?_
    first | refine w_isub rfl (by omega) (fun x5 tx5 => ?_) | refine w_iiU rfl (fun x5 tx5 => ?_)
    exact wp_iret (z := false) rfl (fun h9 => by cases h9) ⟨rfl, ⟨_, rfl, by omega⟩⟩
  · skip
    refine w_iload rfl rfl ?_
    refine w_const rfl ?_
    first | refine w_isub rfl (by omega) (fun x6 tx6 => ?_) | refine w_iiU rfl (fun x6 tx6 => ?_)
    refine w_goto rfl ?_
    exact wp_iret (z := false) rfl (fun h9 => by cases h9) ⟨rfl, ⟨_, rfl, by omega⟩⟩
set_option maxRecDepth 4000 in
theorem s_lay_2 {K : Nat} (a : Nat → Nat → Int32) (b : Nat → Nat → Int64) (L_v : Int64) (hR : RM K a)  : f_call mtM 1 1 [.inr (.inr (some 0)), .inr (.inl L_v)] (mH a b) (fun v9 h' => ∃ (a' : Nat → Nat → Int32), h' = mH a' b ∧ RM K a' ∧ (FR [0, 1] a a' ∧ (TL (a' 1) (a' 0 2).toInt.toNat = gMl L_v (TL (a 1) (a 0 2).toInt.toNat) 8 ∧ (∀ j, j ≠ 2 → a' 0 j = a 0 j))) ∧ v9 = none) := by
  refine f_call_of (d0 := 0) rfl (Nat.le_of_ble_eq_true rfl) (fun d hd => ?_)
  show f_wp _ (0, [some (.inr (.inr (some 0))), some (.inr (.inl L_v)), none, none, none], [], mH a b) _
  have lm8 : (-8 : Int32).toInt = -8 := rfl
  have l1 : (1 : Int32).toInt = 1 := rfl
  have l10 : (10 : Int32).toInt = 10 := rfl
  have l32 : (32 : Int32).toInt = 32 := rfl
  have l56 : (56 : Int32).toInt = 56 := rfl
  have l126 : (126 : Int32).toInt = 126 := rfl
  have l255 : (255 : Int32).toInt = 255 := rfl
  have l1000 : (1000 : Int32).toInt = 1000 := rfl
  refine w_const rfl ?_
  refine w_istore (lo' := [some (.inr (.inr (some 0))), some (.inr (.inl L_v)), none, some (.inl 56), none]) rfl rfl ?_
  have loop3 : ∀ (ms9 : Nat) (k : Int32) (a3 : Nat → Nat → Int32) (o4_3 : Option f_V), (k.toInt + 8).toNat = ms9 → RM K a3 → FR [0, 1] a a3 → (-8 ≤ k.toInt ∧ k.toInt ≤ 56 ∧ k.toInt % 8 = 0) → (TL (a3 1) (a3 0 2).toInt.toNat = gMl L_v (TL (a 1) (a 0 2).toInt.toNat) ((56 - k.toInt) / 8).toNat) → (∀ j, j ≠ 2 → a3 0 j = a 0 j) → f_wp (f_code (t_X13_lay (f_ev mtM d))) (3, [some (.inr (.inr (some 0))), some (.inr (.inl L_v)), none, some (.inl k), o4_3], [], mH a3 b) (fun v9 h' => ∃ (a' : Nat → Nat → Int32), h' = mH a' b ∧ RM K a' ∧ (FR [0, 1] a a' ∧ (TL (a' 1) (a' 0 2).toInt.toNat = gMl L_v (TL (a 1) (a 0 2).toInt.toNat) 8 ∧ (∀ j, j ≠ 2 → a' 0 j = a 0 j))) ∧ v9 = none) := by
    intro ms9
    induction ms9 using Nat.strongRecOn with
    | _ ms3 ih3 =>
      intro k a3 o4_3 hm3 hR3 hF3 hk hl hS
      refine w_iload rfl rfl ?_
      refine w_if_lt rfl (fun c1 => ?_) (fun c1 => ?_)
      · skip
        exact w_ret rfl ⟨a3, rfl, hR3, ⟨hF3, ⟨by rw [hl, show ((56 - k.toInt) / 8).toNat = 8 from by omega], hS⟩⟩, rfl⟩
      · skip
        refine w_lload rfl rfl ?_
        refine w_iload rfl rfl ?_
        refine w_liE rfl (fun y2 ty2 => ?_)
        have y9 := ty2
        refine w_l2iE rfl (fun x3 tx3 => ?_)
        have x9 := tx3
        refine w_const rfl ?_
        refine w_iiE rfl (fun x4 tx4 => ?_)
        have p9 : x4 = byM L_v k := by rw [tx4, x9, y9]; rfl
        refine w_istore (lo' := [some (.inr (.inr (some 0))), some (.inr (.inl L_v)), none, some (.inl k), some (.inl x4)]) rfl rfl ?_
        refine w_iload rfl rfl ?_
        refine w_const rfl ?_
        refine w_ic_eq rfl (fun c5 => ?_) (fun c5 => ?_)
        · skip
          refine w_aload rfl rfl ?_
          refine w_getI (v := .inl (a3 0 2)) rfl rfl rfl rfl rfl ?_
          have q6 : 0 ≤ (a3 0 2).toInt ∧ (a3 0 2).toInt ≤ 1000 := hR3 0 2
          refine w_const rfl ?_
          refine w_ic_ge rfl (fun c7 => ?_) (fun c7 => ?_)
          · skip
            refine w_iinc (lo' := fun z9 => [some (.inr (.inr (some 0))), some (.inr (.inl L_v)), none, some (.inl z9), some (.inl x4)]) rfl rfl (fun _ => rfl) (by omega) (fun x8 tx8 => ?_)
            refine w_goto rfl ?_
            exact ih3 (x8.toInt + 8).toNat (by omega) x8 a3 (some (.inl x4)) rfl hR3 (hF3) (by omega) (by rw [show ((56 - x8.toInt) / 8).toNat = ((56 - k.toInt) / 8).toNat + 1 from by omega, gMl_s (s := k) (by omega) (by omega), ← hl, ← p9]; exact fT_skip (n := (a3 0 2).toInt) (by rw [TL_len]; have z9 := hR3 0 2; have z8 : 0 ≤ (a3 0 2).toInt := z9.1; omega) (by omega)) (hS)
          · skip
            refine w_aload rfl rfl ?_
            refine w_getR (v := .inr (.inr (some 1))) rfl rfl rfl rfl rfl ?_
            refine w_aload rfl rfl ?_
            refine w_getI (v := .inl (a3 0 2)) rfl rfl rfl rfl rfl ?_
            have q9 : 0 ≤ (a3 0 2).toInt ∧ (a3 0 2).toInt ≤ 1000 := hR3 0 2
            refine w_iload rfl rfl ?_
            refine m_iast rfl rfl (by omega) (fun a10 ea10 => ?_)
            have ha10 : RM K a10 := RM.up hR3 ea10 ⟨ti_lo _, ti_hi _⟩
            have ua10_2 : (a10 0 2).toInt = (a3 0 2).toInt := by rw [ea10, mU_cell (by decide)]
            refine w_aload rfl rfl ?_
            refine w_dup rfl rfl ?_
            refine w_getI (v := .inl (a10 0 2)) rfl rfl rfl rfl rfl ?_
            have q11 : 0 ≤ (a10 0 2).toInt ∧ (a10 0 2).toInt ≤ 1000 := ha10 0 2
            refine w_const rfl ?_
            first | refine w_iadd rfl (by omega) (fun x12 tx12 => ?_) | refine w_iiU rfl (fun x12 tx12 => ?_)
            refine m_putI (z := false) rfl rfl rfl rfl (by first | (intro h9; cases h9; done) | (intro _; first | exact Or.inl rfl | exact Or.inr rfl | assumption)) (fun a13 ea13 => ?_)
            have ha13 : RM K a13 := RM.up ha10 ea13 (show (0 : Int) ≤ _ ∧ _ ≤ (1000 : Int) from by omega)
            have ua13_2 : a13 0 2 = x12 := by rw [ea13, mU_same]
            have wa13_2 := congrArg Int32.toInt ua13_2
            refine w_iinc (lo' := fun z9 => [some (.inr (.inr (some 0))), some (.inr (.inl L_v)), none, some (.inl z9), some (.inl x4)]) rfl rfl (fun _ => rfl) (by omega) (fun x14 tx14 => ?_)
            refine w_goto rfl ?_
            exact ih3 (x14.toInt + 8).toNat (by omega) x14 a13 (some (.inl x4)) rfl ha13 (FR.up (FR.up (hF3) (by decide) ea10) (by decide) ea13) (by omega) (by rw [show ((56 - x14.toInt) / 8).toNat = ((56 - k.toInt) / 8).toNat + 1 from by omega, gMl_s (s := k) (by omega) (by omega), ← hl, ← p9]; exact fT_put ea10 ea13 (by decide) (by omega) (by omega) (by omega)) (fun j hj => by rw [ea13, mU_slot hj, ea10, mU_cell (by decide)]; exact hS j hj)
        · skip
          refine w_iload rfl rfl ?_
          refine w_const rfl ?_
          refine w_ic_lt rfl (fun c15 => ?_) (fun c15 => ?_)
          · skip
            refine w_iinc (lo' := fun z9 => [some (.inr (.inr (some 0))), some (.inr (.inl L_v)), none, some (.inl z9), some (.inl x4)]) rfl rfl (fun _ => rfl) (by omega) (fun x16 tx16 => ?_)
            refine w_goto rfl ?_
            exact ih3 (x16.toInt + 8).toNat (by omega) x16 a3 (some (.inl x4)) rfl hR3 (hF3) (by omega) (by rw [show ((56 - x16.toInt) / 8).toNat = ((56 - k.toInt) / 8).toNat + 1 from by omega, gMl_s (s := k) (by omega) (by omega), ← hl, ← p9]; exact fT_skip (n := (a3 0 2).toInt) (by rw [TL_len]; have z9 := hR3 0 2; have z8 : 0 ≤ (a3 0 2).toInt := z9.1; omega) (by omega)) (hS)
          · skip
            refine w_iload rfl rfl ?_
            refine w_const rfl ?_
            refine w_ic_gt rfl (fun c17 => ?_) (fun c17 => ?_)
            · skip
              refine w_iinc (lo' := fun z9 => [some (.inr (.inr (some 0))), some (.inr (.inl L_v)), none, some (.inl z9), some (.inl x4)]) rfl rfl (fun _ => rfl) (by omega) (fun x18 tx18 => ?_)
              refine w_goto rfl ?_
              exact ih3 (x18.toInt + 8).toNat (by omega) x18 a3 (some (.inl x4)) rfl hR3 (hF3) (by omega) (by rw [show ((56 - x18.toInt) / 8).toNat = ((56 - k.toInt) / 8).toNat + 1 from by omega, gMl_s (s := k) (by omega) (by omega), ← hl, ← p9]; exact fT_skip (n := (a3 0 2).toInt) (by rw [TL_len]; have z9 := hR3 0 2; have z8 : 0 ≤ (a3 0 2).toInt := z9.1; omega) (by omega)) (hS)
            · skip
              refine w_aload rfl rfl ?_
              refine w_getI (v := .inl (a3 0 2)) rfl rfl rfl rfl rfl ?_
              have q19 : 0 ≤ (a3 0 2).toInt ∧ (a3 0 2).toInt ≤ 1000 := hR3 0 2
              refine w_const rfl ?_
              refine w_ic_ge rfl (fun c20 => ?_) (fun c20 => ?_)
              · skip
                refine w_iinc (lo' := fun z9 => [some (.inr (.inr (some 0))), some (.inr (.inl L_v)), none, some (.inl z9), some (.inl x4)]) rfl rfl (fun _ => rfl) (by omega) (fun x21 tx21 => ?_)
                refine w_goto rfl ?_
                exact ih3 (x21.toInt + 8).toNat (by omega) x21 a3 (some (.inl x4)) rfl hR3 (hF3) (by omega) (by rw [show ((56 - x21.toInt) / 8).toNat = ((56 - k.toInt) / 8).toNat + 1 from by omega, gMl_s (s := k) (by omega) (by omega), ← hl, ← p9]; exact fT_skip (n := (a3 0 2).toInt) (by rw [TL_len]; have z9 := hR3 0 2; have z8 : 0 ≤ (a3 0 2).toInt := z9.1; omega) (by omega)) (hS)
              · skip
                refine w_aload rfl rfl ?_
                refine w_getR (v := .inr (.inr (some 1))) rfl rfl rfl rfl rfl ?_
                refine w_aload rfl rfl ?_
                refine w_getI (v := .inl (a3 0 2)) rfl rfl rfl rfl rfl ?_
                have q22 : 0 ≤ (a3 0 2).toInt ∧ (a3 0 2).toInt ≤ 1000 := hR3 0 2
                refine w_iload rfl rfl ?_
                refine m_iast rfl rfl (by omega) (fun a23 ea23 => ?_)
                have ha23 : RM K a23 := RM.up hR3 ea23 ⟨ti_lo _, ti_hi _⟩
                have ua23_2 : (a23 0 2).toInt = (a3 0 2).toInt := by rw [ea23, mU_cell (by decide)]
                refine w_aload rfl rfl ?_
                refine w_dup rfl rfl ?_
                refine w_getI (v := .inl (a23 0 2)) rfl rfl rfl rfl rfl ?_
                have q24 : 0 ≤ (a23 0 2).toInt ∧ (a23 0 2).toInt ≤ 1000 := ha23 0 2
                refine w_const rfl ?_
                first | refine w_iadd rfl (by omega) (fun x25 tx25 => ?_) | refine w_iiU rfl (fun x25 tx25 => ?_)
                refine m_putI (z := false) rfl rfl rfl rfl (by first | (intro h9; cases h9; done) | (intro _; first | exact Or.inl rfl | exact Or.inr rfl | assumption)) (fun a26 ea26 => ?_)
                have ha26 : RM K a26 := RM.up ha23 ea26 (show (0 : Int) ≤ _ ∧ _ ≤ (1000 : Int) from by omega)
                have ua26_2 : a26 0 2 = x25 := by rw [ea26, mU_same]
                have wa26_2 := congrArg Int32.toInt ua26_2
                refine w_iinc (lo' := fun z9 => [some (.inr (.inr (some 0))), some (.inr (.inl L_v)), none, some (.inl z9), some (.inl x4)]) rfl rfl (fun _ => rfl) (by omega) (fun x27 tx27 => ?_)
                refine w_goto rfl ?_
                exact ih3 (x27.toInt + 8).toNat (by omega) x27 a26 (some (.inl x4)) rfl ha26 (FR.up (FR.up (hF3) (by decide) ea23) (by decide) ea26) (by omega) (by rw [show ((56 - x27.toInt) / 8).toNat = ((56 - k.toInt) / 8).toNat + 1 from by omega, gMl_s (s := k) (by omega) (by omega), ← hl, ← p9]; exact fT_put ea23 ea26 (by decide) (by omega) (by omega) (by omega)) (fun j hj => by rw [ea26, mU_slot hj, ea23, mU_cell (by decide)]; exact hS j hj)
  exact loop3 _ 56 a none rfl hR (FR.rf) (by omega) (rfl) (fun _ _ => rfl)
set_option maxRecDepth 4000 in
theorem s_feed_2 {K : Nat} (a : Nat → Nat → Int32) (b : Nat → Nat → Int64) (L_a : Int64) (L_b : Int64) (L_c : Int64) (hR : RM K a)  : f_call mtM 2 0 [.inr (.inr (some 0)), .inr (.inl L_a), .inr (.inl L_b), .inr (.inl L_c)] (mH a b) (fun v9 h' => ∃ (a' : Nat → Nat → Int32), h' = mH a' b ∧ RM K a' ∧ (FR [0, 1] a a' ∧ (TL (a' 1) (a' 0 2).toInt.toNat = gMl L_c (gMl L_b (gMl L_a (TL (a 1) (a 0 2).toInt.toNat) 8) 8) 8)) ∧ ∃ x : Int32, v9 = some (.inl x) ∧ (x = a' 0 2)) := by
  refine f_call_of (d0 := 1) rfl (Nat.le_of_ble_eq_true rfl) (fun d hd => ?_)
  show f_wp _ (0, [some (.inr (.inr (some 0))), some (.inr (.inl L_a)), none, some (.inr (.inl L_b)), none, some (.inr (.inl L_c)), none], [], mH a b) _
  have l0 : (0 : Int32).toInt = 0 := rfl
  refine w_aload rfl rfl ?_
  refine w_const rfl ?_
  refine m_putI (z := false) rfl rfl rfl rfl (by first | (intro h9; cases h9; done) | (intro _; first | exact Or.inl rfl | exact Or.inr rfl | assumption)) (fun a1 ea1 => ?_)
  have ha1 : RM K a1 := RM.up hR ea1 ⟨ti_lo _, ti_hi _⟩
  have ua1_0 : a1 0 0 = (0 : Int32) := by rw [ea1, mU_same]
  have wa1_0 := congrArg Int32.toInt ua1_0
  refine w_aload rfl rfl ?_
  refine w_lload rfl rfl ?_
  refine w_invV (rest := []) rfl rfl rfl rfl rfl (Nat.le_of_ble_eq_true rfl) rfl (by omega) (s_lay_2 (K := K) a1 b  L_a ha1 ) (fun v2 h9 hq3 => ?_)
  obtain ⟨a4, rfl, ha4, fa4, rfl⟩ := hq3
  show f_wp _ (10, [some (.inr (.inr (some 0))), some (.inr (.inl L_a)), none, some (.inr (.inl L_b)), none, some (.inr (.inl L_c)), none], [], mH a4 b) _
  refine w_aload rfl rfl ?_
  refine w_lload rfl rfl ?_
  refine w_invV (rest := []) rfl rfl rfl rfl rfl (Nat.le_of_ble_eq_true rfl) rfl (by omega) (s_lay_2 (K := K) a4 b  L_b ha4 ) (fun v5 h9 hq6 => ?_)
  obtain ⟨a7, rfl, ha7, fa7, rfl⟩ := hq6
  show f_wp _ (15, [some (.inr (.inr (some 0))), some (.inr (.inl L_a)), none, some (.inr (.inl L_b)), none, some (.inr (.inl L_c)), none], [], mH a7 b) _
  refine w_aload rfl rfl ?_
  refine w_lload rfl rfl ?_
  refine w_invV (rest := []) rfl rfl rfl rfl rfl (Nat.le_of_ble_eq_true rfl) rfl (by omega) (s_lay_2 (K := K) a7 b  L_c ha7 ) (fun v8 h9 hq9 => ?_)
  obtain ⟨a10, rfl, ha10, fa10, rfl⟩ := hq9
  show f_wp _ (21, [some (.inr (.inr (some 0))), some (.inr (.inl L_a)), none, some (.inr (.inl L_b)), none, some (.inr (.inl L_c)), none], [], mH a10 b) _
  refine w_aload rfl rfl ?_
  refine w_getI (v := .inl (a10 0 2)) rfl rfl rfl rfl rfl ?_
  have q11 : 0 ≤ (a10 0 2).toInt ∧ (a10 0 2).toInt ≤ 1000 := ha10 0 2
  exact wp_iret (z := false) rfl (fun h9 => by cases h9) ⟨a10, rfl, ha10, ⟨FR.tr (FR.tr (FR.tr (FR.up (FR.rf) (by decide) ea1) (FR.sub fa4.1 (by decide))) (FR.sub fa7.1 (by decide))) (FR.sub fa10.1 (by decide)), by rw [fa10.2.1, fa7.2.1, fa4.2.1, ea1, mU_cell (by decide), mU_slot (by decide)]⟩, ⟨_, rfl, rfl⟩⟩
set_option maxRecDepth 4000 in
theorem s_cutAll_1 {K : Nat} (a : Nat → Nat → Int32) (b : Nat → Nat → Int64)  (hR : RM K a)  : f_call mtM 3 6 [.inr (.inr (some 0))] (mH a b) (fun v9 h' => ∃ (a' : Nat → Nat → Int32) (b' : Nat → Nat → Int64), h' = mH a' b' ∧ RM K a' ∧ (FR [0, 2, 3] a a' ∧ ((a' 0 7).toInt = 0 ∧ (a' 0 8).toInt = 0 ∧ (a' 0 2).toInt = 0 ∧ (∃ N : Nat, TKM (a 1) (a 0 2).toInt.toNat N a' b') ∧ (∀ j, j ≠ 2 → j ≠ 3 → j ≠ 7 → j ≠ 8 → a' 0 j = a 0 j) ∧ (∀ c, c ≠ 4 → b' c = b c))) ∧ v9 = none) := by
  refine f_call_of (d0 := 2) rfl (Nat.le_of_ble_eq_true rfl) (fun d hd => ?_)
  show f_wp _ (0, [some (.inr (.inr (some 0))), none, none, none, none, none, none], [], mH a b) _
  have l0 : (0 : Int32).toInt = 0 := rfl
  have l1 : (1 : Int32).toInt = 1 := rfl
  have l2 : (2 : Int32).toInt = 2 := rfl
  have l3 : (3 : Int32).toInt = 3 := rfl
  have l4 : (4 : Int32).toInt = 4 := rfl
  have l8 : (8 : Int32).toInt = 8 := rfl
  have l10 : (10 : Int32).toInt = 10 := rfl
  have l32 : (32 : Int32).toInt = 32 := rfl
  refine w_aload rfl rfl ?_
  refine w_aload rfl rfl ?_
  refine w_getI (v := .inl (a 0 2)) rfl rfl rfl rfl rfl ?_
  have q1 : 0 ≤ (a 0 2).toInt ∧ (a 0 2).toInt ≤ 1000 := hR 0 2
  refine m_putI (z := false) rfl rfl rfl rfl (by first | (intro h9; cases h9; done) | (intro _; first | exact Or.inl rfl | exact Or.inr rfl | assumption)) (fun a2 ea2 => ?_)
  have ha2 : RM K a2 := RM.up hR ea2 (show (0 : Int) ≤ _ ∧ _ ≤ (1000 : Int) from by omega)
  have ua2_2 : (a2 0 2).toInt = (a 0 2).toInt := by rw [ea2, mU_slot (by decide)]
  have ua2_3 : a2 0 3 = (a 0 2) := by rw [ea2, mU_same]
  have wa2_3 := congrArg Int32.toInt ua2_3
  refine w_aload rfl rfl ?_
  refine w_const rfl ?_
  refine m_putI (z := false) rfl rfl rfl rfl (by first | (intro h9; cases h9; done) | (intro _; first | exact Or.inl rfl | exact Or.inr rfl | assumption)) (fun a3 ea3 => ?_)
  have ha3 : RM K a3 := RM.up ha2 ea3 (show (0 : Int) ≤ _ ∧ _ ≤ (1000 : Int) from by omega)
  have ua3_2 : a3 0 2 = (0 : Int32) := by rw [ea3, mU_same]
  have wa3_2 := congrArg Int32.toInt ua3_2
  refine w_const rfl ?_
  refine w_istore (lo' := [some (.inr (.inr (some 0))), some (.inl 0), none, none, none, none, none]) rfl rfl ?_
  have z3 : 0 ≤ (a3 0 3).toInt ∧ (a3 0 3).toInt ≤ 1000 := ha3 0 3
  have z2 : 0 ≤ (a 0 2).toInt ∧ (a 0 2).toInt ≤ 1000 := hR 0 2
  refine w_const rfl ?_
  refine w_istore (lo' := [some (.inr (.inr (some 0))), some (.inl 0), some (.inl 0), none, none, none, none]) rfl rfl ?_
  have loop17 : ∀ (ms9 : Nat) (n : Int32) (i : Int32) (a17 : Nat → Nat → Int32) (b17 : Nat → Nat → Int64) (o3_17 : Option f_V) (o4_17 : Option f_V) (o5_17 : Option f_V), (1000 - i.toInt).toNat = ms9 → RM K a17 → FR [0, 2, 3] a a17 → (0 ≤ n.toInt ∧ n.toInt ≤ i.toInt ∧ i.toInt ≤ (a17 0 3).toInt) → ((a17 0 2).toInt = 0) → (∀ j, j ≠ 2 → j ≠ 3 → a17 0 j = a 0 j) → ((a17 0 3).toInt = (a 0 2).toInt) → (LXM (a 1) (a 0 2).toInt.toNat n.toInt.toNat i.toInt.toNat a17 b17) → (∀ c, c ≠ 4 → b17 c = b c) → f_wp (f_code (t_X13_cutAll (f_ev mtM d))) (17, [some (.inr (.inr (some 0))), some (.inl n), some (.inl i), o3_17, o4_17, o5_17, none], [], mH a17 b17) (fun v9 h' => ∃ (a' : Nat → Nat → Int32) (b' : Nat → Nat → Int64), h' = mH a' b' ∧ RM K a' ∧ (FR [0, 2, 3] a a' ∧ ((a' 0 7).toInt = 0 ∧ (a' 0 8).toInt = 0 ∧ (a' 0 2).toInt = 0 ∧ (∃ N : Nat, TKM (a 1) (a 0 2).toInt.toNat N a' b') ∧ (∀ j, j ≠ 2 → j ≠ 3 → j ≠ 7 → j ≠ 8 → a' 0 j = a 0 j) ∧ (∀ c, c ≠ 4 → b' c = b c))) ∧ v9 = none) := by
    intro ms9
    induction ms9 using Nat.strongRecOn with
    | _ ms17 ih17 =>
      intro n i a17 b17 o3_17 o4_17 o5_17 hm17 hR17 hF17 hn hT2 hS h3 hX hB
      refine w_iload rfl rfl ?_
      refine w_aload rfl rfl ?_
      refine w_getI (v := .inl (a17 0 3)) rfl rfl rfl rfl rfl ?_
      have q4 : 0 ≤ (a17 0 3).toInt ∧ (a17 0 3).toInt ≤ 1000 := hR17 0 3
      refine w_ic_ge rfl (fun c5 => ?_) (fun c5 => ?_)
      · skip
        refine w_aload rfl rfl ?_
        refine w_getR (v := .inr (.inr (some 2))) rfl rfl rfl rfl rfl ?_
        refine w_iload rfl rfl ?_
        refine w_const rfl ?_
        refine m_iast rfl rfl (by omega) (fun a6 ea6 => ?_)
        have ha6 : RM K a6 := RM.up hR17 ea6 (show (0 : Int) ≤ _ ∧ _ ≤ (4 : Int) from by omega)
        have ua6_2 : (a6 0 2).toInt = (a17 0 2).toInt := by rw [ea6, mU_cell (by decide)]
        have ua6_3 : (a6 0 3).toInt = (a17 0 3).toInt := by rw [ea6, mU_cell (by decide)]
        refine w_aload rfl rfl ?_
        refine w_getR (v := .inr (.inr (some 3))) rfl rfl rfl rfl rfl ?_
        refine w_iload rfl rfl ?_
        refine w_aload rfl rfl ?_
        refine w_getI (v := .inl (a6 0 3)) rfl rfl rfl rfl rfl ?_
        have q7 : 0 ≤ (a6 0 3).toInt ∧ (a6 0 3).toInt ≤ 1000 := ha6 0 3
        refine m_iast rfl rfl (by omega) (fun a8 ea8 => ?_)
        have ha8 : RM K a8 := RM.up ha6 ea8 (show (0 : Int) ≤ _ ∧ _ ≤ (1000 : Int) from by omega)
        have ua8_2 : (a8 0 2).toInt = (a6 0 2).toInt := by rw [ea8, mU_cell (by decide)]
        have ua8_3 : (a8 0 3).toInt = (a6 0 3).toInt := by rw [ea8, mU_cell (by decide)]
        refine w_aload rfl rfl ?_
        refine w_const rfl ?_
        refine m_putI (z := false) rfl rfl rfl rfl (by first | (intro h9; cases h9; done) | (intro _; first | exact Or.inl rfl | exact Or.inr rfl | assumption)) (fun a9 ea9 => ?_)
        have ha9 : RM K a9 := RM.up ha8 ea9 (show (0 : Int) ≤ _ ∧ _ ≤ (1000 : Int) from by omega)
        have ua9_2 : (a9 0 2).toInt = (a8 0 2).toInt := by rw [ea9, mU_slot (by decide)]
        have ua9_3 : (a9 0 3).toInt = (a8 0 3).toInt := by rw [ea9, mU_slot (by decide)]
        have ua9_7 : a9 0 7 = (0 : Int32) := by rw [ea9, mU_same]
        have wa9_7 := congrArg Int32.toInt ua9_7
        refine w_aload rfl rfl ?_
        refine w_const rfl ?_
        refine m_putI (z := false) rfl rfl rfl rfl (by first | (intro h9; cases h9; done) | (intro _; first | exact Or.inl rfl | exact Or.inr rfl | assumption)) (fun a10 ea10 => ?_)
        have ha10 : RM K a10 := RM.up ha9 ea10 (show (0 : Int) ≤ _ ∧ _ ≤ (2147483647 : Int) from by omega)
        have ua10_2 : (a10 0 2).toInt = (a9 0 2).toInt := by rw [ea10, mU_slot (by decide)]
        have ua10_3 : (a10 0 3).toInt = (a9 0 3).toInt := by rw [ea10, mU_slot (by decide)]
        have ua10_8 : a10 0 8 = (0 : Int32) := by rw [ea10, mU_same]
        have wa10_8 := congrArg Int32.toInt ua10_8
        exact w_ret rfl ⟨a10, b17, rfl, ha10, ⟨FR.up (FR.up (FR.up (FR.up (hF17) (by decide) ea6) (by decide) ea8) (by decide) ea9) (by decide) ea10, ⟨by rw [ea10, mU_slot (by decide), ea9, mU_same]; rfl, by rw [ea10, mU_same]; rfl, by rw [ea10, mU_slot (by decide), ea9, mU_slot (by decide), ea8, mU_cell (by decide), ea6, mU_cell (by decide)]; exact hT2, ⟨n.toInt.toNat, ((LXM.done hX (by omega) ea6 ea8 rfl (by omega)).up ea9).up ea10⟩, fun j h2 h3 h7 h8 => by rw [ea10, mU_slot h8, ea9, mU_slot h7, ea8, mU_cell (by decide), ea6, mU_cell (by decide)]; exact hS j h2 h3, hB⟩⟩, rfl⟩
      · skip
        refine w_aload rfl rfl ?_
        refine w_getR (v := .inr (.inr (some 1))) rfl rfl rfl rfl rfl ?_
        refine w_iload rfl rfl ?_
        refine m_iald rfl rfl (by omega) (fun x11 ex11 => ?_)
        have T3 := congrArg Int32.toInt ex11
        have T4 : x11 = a 1 i.toInt.toNat := by rw [ex11, hF17 1 (by decide)]
        have T4i := congrArg Int32.toInt T4
        refine w_istore (lo' := [some (.inr (.inr (some 0))), some (.inl n), some (.inl i), some (.inl x11), o4_17, o5_17, none]) rfl rfl ?_
        refine w_iload rfl rfl ?_
        refine w_const rfl ?_
        refine w_ic_eq rfl (fun c12 => ?_) (fun c12 => ?_)
        · skip
          refine w_iinc (lo' := fun z9 => [some (.inr (.inr (some 0))), some (.inl n), some (.inl z9), some (.inl x11), o4_17, o5_17, none]) rfl rfl (fun _ => rfl) (by omega) (fun x13 tx13 => ?_)
          refine w_goto rfl ?_
          exact ih17 (1000 - x13.toInt).toNat (by omega) n x13 a17 b17 (some (.inl x11)) o4_17 o5_17 rfl hR17 (hF17) (by omega) (hT2) (hS) (h3) (LXM.blank hX (by omega) (lxB_iff.mpr (by rw [← T4]; omega)) (by omega)) (hB)
        · skip
          refine w_iload rfl rfl ?_
          refine w_const rfl ?_
          refine w_ic_ne rfl (fun c14 => ?_) (fun c14 => ?_)
          · skip
            refine w_iinc (lo' := fun z9 => [some (.inr (.inr (some 0))), some (.inl n), some (.inl z9), some (.inl x11), o4_17, o5_17, none]) rfl rfl (fun _ => rfl) (by omega) (fun x15 tx15 => ?_)
            refine w_goto rfl ?_
            exact ih17 (1000 - x15.toInt).toNat (by omega) n x15 a17 b17 (some (.inl x11)) o4_17 o5_17 rfl hR17 (hF17) (by omega) (hT2) (hS) (h3) (LXM.blank hX (by omega) (lxB_iff.mpr (by rw [← T4]; omega)) (by omega)) (hB)
          · skip
            refine w_iload rfl rfl ?_
            refine w_istore (lo' := [some (.inr (.inr (some 0))), some (.inl n), some (.inl i), some (.inl x11), some (.inl i), o5_17, none]) rfl rfl ?_
            refine w_const rfl ?_
            refine w_lstore (lo' := [some (.inr (.inr (some 0))), some (.inl n), some (.inl i), some (.inl x11), some (.inl i), some (.inr (.inl 0)), none]) rfl rfl ?_
            refine w_aload rfl rfl ?_
            refine w_getR (v := .inr (.inr (some 3))) rfl rfl rfl rfl rfl ?_
            refine w_iload rfl rfl ?_
            refine w_iload rfl rfl ?_
            refine m_iast rfl rfl (by omega) (fun a16 ea16 => ?_)
            have ha16 : RM K a16 := RM.up hR17 ea16 (show (0 : Int) ≤ _ ∧ _ ≤ (1000 : Int) from by omega)
            have ua16_2 : (a16 0 2).toInt = (a17 0 2).toInt := by rw [ea16, mU_cell (by decide)]
            have ua16_3 : (a16 0 3).toInt = (a17 0 3).toInt := by rw [ea16, mU_cell (by decide)]
            refine w_iload rfl rfl ?_
            refine w_invS (rest := []) rfl (Nat.le_of_ble_eq_true rfl) rfl (Nat.le_of_ble_eq_true rfl) rfl (by omega) (s_isLetter (K := K) a16 b17  x11  ) (fun v17 h9 hq18 => ?_)
            obtain ⟨rfl, x19, rfl, px19⟩ := hq18
            show f_wp _ (67, [some (.inr (.inr (some 0))), some (.inl n), some (.inl i), some (.inl x11), some (.inl i), some (.inr (.inl 0)), none], [.inl x19], mH a16 b17) _
            have P6 := px19
            refine w_if_eq rfl (fun c20 => ?_) (fun c20 => ?_)
            · skip
              refine w_iload rfl rfl ?_
              refine w_invS (rest := []) rfl (Nat.le_of_ble_eq_true rfl) rfl (Nat.le_of_ble_eq_true rfl) rfl (by omega) (s_isDigit (K := K) a16 b17  x11  ) (fun v21 h9 hq22 => ?_)
              obtain ⟨rfl, x23, rfl, px23⟩ := hq22
              show f_wp _ (156, [some (.inr (.inr (some 0))), some (.inl n), some (.inl i), some (.inl x11), some (.inl i), some (.inr (.inl 0)), none], [.inl x23], mH a16 b17) _
              have P7 := px23
              refine w_if_eq rfl (fun c24 => ?_) (fun c24 => ?_)
              · skip
                refine w_iload rfl rfl ?_
                refine w_i2lE rfl (fun y25 ty25 => ?_)
                have Y9 := ty25
                refine w_lstore (lo' := [some (.inr (.inr (some 0))), some (.inl n), some (.inl i), some (.inl x11), some (.inl i), some (.inr (.inl y25)), none]) rfl rfl ?_
                refine w_aload rfl rfl ?_
                refine w_getR (v := .inr (.inr (some 2))) rfl rfl rfl rfl rfl ?_
                refine w_iload rfl rfl ?_
                refine w_iload rfl rfl ?_
                refine w_invS (rest := [.inl n, .inr (.inr (some 2))]) rfl (Nat.le_of_ble_eq_true rfl) rfl (Nat.le_of_ble_eq_true rfl) rfl (by omega) (s_isSignOf_1 (K := K) a16 b17  x11  ) (fun v26 h9 hq27 => ?_)
                obtain ⟨rfl, x28, rfl, px28⟩ := hq27
                show f_wp _ (253, [some (.inr (.inr (some 0))), some (.inl n), some (.inl i), some (.inl x11), some (.inl i), some (.inr (.inl y25)), none], [.inl x28, .inl n, .inr (.inr (some 2))], mH a16 b17) _
                have P9 := px28
                refine w_if_eq rfl (fun c29 => ?_) (fun c29 => ?_)
                · skip
                  refine w_const rfl ?_
                  refine m_iast rfl rfl (by omega) (fun a30 ea30 => ?_)
                  have ha30 : RM K a30 := RM.up ha16 ea30 (show (0 : Int) ≤ _ ∧ _ ≤ (4 : Int) from by omega)
                  have ua30_2 : (a30 0 2).toInt = (a16 0 2).toInt := by rw [ea30, mU_cell (by decide)]
                  have ua30_3 : (a30 0 3).toInt = (a16 0 3).toInt := by rw [ea30, mU_cell (by decide)]
                  refine w_iinc (lo' := fun z9 => [some (.inr (.inr (some 0))), some (.inl n), some (.inl z9), some (.inl x11), some (.inl i), some (.inr (.inl y25)), none]) rfl rfl (fun _ => rfl) (by omega) (fun x31 tx31 => ?_)
                  refine w_aload rfl rfl ?_
                  refine w_getR (v := .inr (.inr (some 4))) rfl rfl rfl rfl rfl ?_
                  refine w_iload rfl rfl ?_
                  refine w_lload rfl rfl ?_
                  refine m_last rfl rfl (by omega) (fun b32 eb32 => ?_)
                  refine w_iinc (lo' := fun z9 => [some (.inr (.inr (some 0))), some (.inl z9), some (.inl x31), some (.inl x11), some (.inl i), some (.inr (.inl y25)), none]) rfl rfl (fun _ => rfl) (by omega) (fun x33 tx33 => ?_)
                  refine w_goto rfl ?_
                  exact ih17 (1000 - x31.toInt).toNat (by omega) x33 x31 a30 b32 (some (.inl x11)) (some (.inl i)) (some (.inr (.inl y25))) rfl ha30 (FR.up (FR.up (hF17) (by decide) ea16) (by decide) ea30) (by omega) (by rw [ea30, mU_cell (by decide), ea16, mU_cell (by decide)]; exact hT2) (fun j h2 h3 => by rw [ea30, mU_cell (by decide), ea16, mU_cell (by decide)]; exact hS j h2 h3) (by rw [ea30, mU_cell (by decide), ea16, mU_cell (by decide)]; exact h3) (LXM.tok hX (by omega) (fun h9 => by have h8 := lxB_iff.mp h9; rw [← T4] at h8; omega) ((lx_one (fun h9 => by have h8 := lxL_iff.mp h9; rw [← T4] at h8; omega) (fun h9 => by have h8 := lxD_iff.mp h9; rw [← T4] at h8; omega)).trans (by omega)) (by omega) ea16 ea30 eb32 (by omega) (by rw [lxT_one (fun h9 => by have h8 := lxL_iff.mp h9; rw [← T4] at h8; omega) (fun h9 => by have h8 := lxD_iff.mp h9; rw [← T4] at h8; omega), ← T4]; rcases P9 with h9 | h9; (rw [if_pos h9.2]; omega); (rw [if_neg h9.2]; omega)) (fun _ => by rw [lxU_one (fun h9 => by have h8 := lxL_iff.mp h9; rw [← T4] at h8; omega) (fun h9 => by have h8 := lxD_iff.mp h9; rw [← T4] at h8; omega), ← T4]; exact i64_of (i2l_ti Y9))) (fun c hc => by rw [eb32, mV_cell hc]; exact hB c hc)
                · skip
                  refine w_const rfl ?_
                  refine w_goto rfl ?_
                  refine m_iast rfl rfl (by omega) (fun a34 ea34 => ?_)
                  have ha34 : RM K a34 := RM.up ha16 ea34 (show (0 : Int) ≤ _ ∧ _ ≤ (4 : Int) from by omega)
                  have ua34_2 : (a34 0 2).toInt = (a16 0 2).toInt := by rw [ea34, mU_cell (by decide)]
                  have ua34_3 : (a34 0 3).toInt = (a16 0 3).toInt := by rw [ea34, mU_cell (by decide)]
                  refine w_iinc (lo' := fun z9 => [some (.inr (.inr (some 0))), some (.inl n), some (.inl z9), some (.inl x11), some (.inl i), some (.inr (.inl y25)), none]) rfl rfl (fun _ => rfl) (by omega) (fun x35 tx35 => ?_)
                  refine w_aload rfl rfl ?_
                  refine w_getR (v := .inr (.inr (some 4))) rfl rfl rfl rfl rfl ?_
                  refine w_iload rfl rfl ?_
                  refine w_lload rfl rfl ?_
                  refine m_last rfl rfl (by omega) (fun b36 eb36 => ?_)
                  refine w_iinc (lo' := fun z9 => [some (.inr (.inr (some 0))), some (.inl z9), some (.inl x35), some (.inl x11), some (.inl i), some (.inr (.inl y25)), none]) rfl rfl (fun _ => rfl) (by omega) (fun x37 tx37 => ?_)
                  refine w_goto rfl ?_
                  exact ih17 (1000 - x35.toInt).toNat (by omega) x37 x35 a34 b36 (some (.inl x11)) (some (.inl i)) (some (.inr (.inl y25))) rfl ha34 (FR.up (FR.up (hF17) (by decide) ea16) (by decide) ea34) (by omega) (by rw [ea34, mU_cell (by decide), ea16, mU_cell (by decide)]; exact hT2) (fun j h2 h3 => by rw [ea34, mU_cell (by decide), ea16, mU_cell (by decide)]; exact hS j h2 h3) (by rw [ea34, mU_cell (by decide), ea16, mU_cell (by decide)]; exact h3) (LXM.tok hX (by omega) (fun h9 => by have h8 := lxB_iff.mp h9; rw [← T4] at h8; omega) ((lx_one (fun h9 => by have h8 := lxL_iff.mp h9; rw [← T4] at h8; omega) (fun h9 => by have h8 := lxD_iff.mp h9; rw [← T4] at h8; omega)).trans (by omega)) (by omega) ea16 ea34 eb36 (by omega) (by rw [lxT_one (fun h9 => by have h8 := lxL_iff.mp h9; rw [← T4] at h8; omega) (fun h9 => by have h8 := lxD_iff.mp h9; rw [← T4] at h8; omega), ← T4]; rcases P9 with h9 | h9; (rw [if_pos h9.2]; omega); (rw [if_neg h9.2]; omega)) (fun _ => by rw [lxU_one (fun h9 => by have h8 := lxL_iff.mp h9; rw [← T4] at h8; omega) (fun h9 => by have h8 := lxD_iff.mp h9; rw [← T4] at h8; omega), ← T4]; exact i64_of (i2l_ti Y9))) (fun c hc => by rw [eb36, mV_cell hc]; exact hB c hc)
              · skip
                have loop159 : ∀ (ms9 : Nat) (i2 : Int32) (v : Int64) , (1000 - i2.toInt).toNat = ms9 → (i.toInt ≤ i2.toInt ∧ i2.toInt ≤ (a16 0 3).toInt) → (lxq lxD (a 1) (a 0 2).toInt.toNat i.toInt.toNat = lxq lxD (a 1) (a 0 2).toInt.toNat i2.toInt.toNat) → (i2.toInt - i.toInt ≤ 4 → v = lxv fD (a 1) (i2.toInt - i.toInt).toNat i.toInt.toNat 0) → f_wp (f_code (t_X13_cutAll (f_ev mtM d))) (159, [some (.inr (.inr (some 0))), some (.inl n), some (.inl i2), some (.inl x11), some (.inl i), some (.inr (.inl v)), none], [], mH a16 b17) (fun v9 h' => ∃ (a' : Nat → Nat → Int32) (b' : Nat → Nat → Int64), h' = mH a' b' ∧ RM K a' ∧ (FR [0, 2, 3] a a' ∧ ((a' 0 7).toInt = 0 ∧ (a' 0 8).toInt = 0 ∧ (a' 0 2).toInt = 0 ∧ (∃ N : Nat, TKM (a 1) (a 0 2).toInt.toNat N a' b') ∧ (∀ j, j ≠ 2 → j ≠ 3 → j ≠ 7 → j ≠ 8 → a' 0 j = a 0 j) ∧ (∀ c, c ≠ 4 → b' c = b c))) ∧ v9 = none) := by
                  intro ms9
                  induction ms9 using Nat.strongRecOn with
                  | _ ms159 ih159 =>
                    intro i2 v  hm159 hi2 hq hv
                    refine w_iload rfl rfl ?_
                    refine w_aload rfl rfl ?_
                    refine w_getI (v := .inl (a16 0 3)) rfl rfl rfl rfl rfl ?_
                    have q38 : 0 ≤ (a16 0 3).toInt ∧ (a16 0 3).toInt ≤ 1000 := ha16 0 3
                    refine w_ic_ge rfl (fun c39 => ?_) (fun c39 => ?_)
                    · skip
                      refine w_aload rfl rfl ?_
                      refine w_getR (v := .inr (.inr (some 2))) rfl rfl rfl rfl rfl ?_
                      refine w_iload rfl rfl ?_
                      refine w_iload rfl rfl ?_
                      refine w_iload rfl rfl ?_
                      first | refine w_isub rfl (by omega) (fun x40 tx40 => ?_) | refine w_iiU rfl (fun x40 tx40 => ?_)
                      refine w_const rfl ?_
                      refine w_ic_le rfl (fun c41 => ?_) (fun c41 => ?_)
                      · skip
                        refine w_const rfl ?_
                        refine m_iast rfl rfl (by omega) (fun a42 ea42 => ?_)
                        have ha42 : RM K a42 := RM.up ha16 ea42 (show (0 : Int) ≤ _ ∧ _ ≤ (4 : Int) from by omega)
                        have ua42_2 : (a42 0 2).toInt = (a16 0 2).toInt := by rw [ea42, mU_cell (by decide)]
                        have ua42_3 : (a42 0 3).toInt = (a16 0 3).toInt := by rw [ea42, mU_cell (by decide)]
                        refine w_goto rfl ?_
                        refine w_aload rfl rfl ?_
                        refine w_getR (v := .inr (.inr (some 4))) rfl rfl rfl rfl rfl ?_
                        refine w_iload rfl rfl ?_
                        refine w_lload rfl rfl ?_
                        refine m_last rfl rfl (by omega) (fun b43 eb43 => ?_)
                        refine w_iinc (lo' := fun z9 => [some (.inr (.inr (some 0))), some (.inl z9), some (.inl i2), some (.inl x11), some (.inl i), some (.inr (.inl v)), none]) rfl rfl (fun _ => rfl) (by omega) (fun x44 tx44 => ?_)
                        refine w_goto rfl ?_
                        exact ih17 (1000 - i2.toInt).toNat (by omega) x44 i2 a42 b43 (some (.inl x11)) (some (.inl i)) (some (.inr (.inl v))) rfl ha42 (FR.up (FR.up (hF17) (by decide) ea16) (by decide) ea42) (by omega) (by rw [ea42, mU_cell (by decide), ea16, mU_cell (by decide)]; exact hT2) (fun j h2 h3 => by rw [ea42, mU_cell (by decide), ea16, mU_cell (by decide)]; exact hS j h2 h3) (by rw [ea42, mU_cell (by decide), ea16, mU_cell (by decide)]; exact h3) (LXM.tok hX (by omega) (fun h9 => by have h8 := lxB_iff.mp h9; rw [← T4] at h8; omega) (lx_dig (fun h9 => by have h8 := lxL_iff.mp h9; rw [← T4] at h8; omega) (lxD_iff.mpr (by rw [← T4]; omega)) hq (by first | exact Or.inl (by omega) | exact Or.inr (fun h9 => by have h8 := lxD_iff.mp h9; rw [← T8] at h8; omega))) (by omega) ea16 ea42 eb43 (by omega) (by rw [lxT_dig (fun h9 => by have h8 := lxL_iff.mp h9; rw [← T4] at h8; omega) (lxD_iff.mpr (by rw [← T4]; omega)), (lx_dig (fun h9 => by have h8 := lxL_iff.mp h9; rw [← T4] at h8; omega) (lxD_iff.mpr (by rw [← T4]; omega)) hq (by first | exact Or.inl (by omega) | exact Or.inr (fun h9 => by have h8 := lxD_iff.mp h9; rw [← T8] at h8; omega)))]; split <;> omega) (fun h9 => by have h7 : i2.toInt - i.toInt ≤ 4 := (by rw [lxT_dig (fun h9 => by have h8 := lxL_iff.mp h9; rw [← T4] at h8; omega) (lxD_iff.mpr (by rw [← T4]; omega)), (lx_dig (fun h9 => by have h8 := lxL_iff.mp h9; rw [← T4] at h8; omega) (lxD_iff.mpr (by rw [← T4]; omega)) hq (by first | exact Or.inl (by omega) | exact Or.inr (fun h9 => by have h8 := lxD_iff.mp h9; rw [← T8] at h8; omega)))] at h9; split at h9 <;> omega); rw [lxU_dig (fun h9 => by have h8 := lxL_iff.mp h9; rw [← T4] at h8; omega) (lxD_iff.mpr (by rw [← T4]; omega)), (lx_dig (fun h9 => by have h8 := lxL_iff.mp h9; rw [← T4] at h8; omega) (lxD_iff.mpr (by rw [← T4]; omega)) hq (by first | exact Or.inl (by omega) | exact Or.inr (fun h9 => by have h8 := lxD_iff.mp h9; rw [← T8] at h8; omega))), show i2.toInt.toNat - i.toInt.toNat = (i2.toInt - i.toInt).toNat from by omega]; exact hv h7)) (fun c hc => by rw [eb43, mV_cell hc]; exact hB c hc)
                      · skip
                        refine w_const rfl ?_
                        refine w_goto rfl ?_
                        refine m_iast rfl rfl (by omega) (fun a45 ea45 => ?_)
                        have ha45 : RM K a45 := RM.up ha16 ea45 (show (0 : Int) ≤ _ ∧ _ ≤ (4 : Int) from by omega)
                        have ua45_2 : (a45 0 2).toInt = (a16 0 2).toInt := by rw [ea45, mU_cell (by decide)]
                        have ua45_3 : (a45 0 3).toInt = (a16 0 3).toInt := by rw [ea45, mU_cell (by decide)]
                        refine w_goto rfl ?_
                        refine w_aload rfl rfl ?_
                        refine w_getR (v := .inr (.inr (some 4))) rfl rfl rfl rfl rfl ?_
                        refine w_iload rfl rfl ?_
                        refine w_lload rfl rfl ?_
                        refine m_last rfl rfl (by omega) (fun b46 eb46 => ?_)
                        refine w_iinc (lo' := fun z9 => [some (.inr (.inr (some 0))), some (.inl z9), some (.inl i2), some (.inl x11), some (.inl i), some (.inr (.inl v)), none]) rfl rfl (fun _ => rfl) (by omega) (fun x47 tx47 => ?_)
                        refine w_goto rfl ?_
                        exact ih17 (1000 - i2.toInt).toNat (by omega) x47 i2 a45 b46 (some (.inl x11)) (some (.inl i)) (some (.inr (.inl v))) rfl ha45 (FR.up (FR.up (hF17) (by decide) ea16) (by decide) ea45) (by omega) (by rw [ea45, mU_cell (by decide), ea16, mU_cell (by decide)]; exact hT2) (fun j h2 h3 => by rw [ea45, mU_cell (by decide), ea16, mU_cell (by decide)]; exact hS j h2 h3) (by rw [ea45, mU_cell (by decide), ea16, mU_cell (by decide)]; exact h3) (LXM.tok hX (by omega) (fun h9 => by have h8 := lxB_iff.mp h9; rw [← T4] at h8; omega) (lx_dig (fun h9 => by have h8 := lxL_iff.mp h9; rw [← T4] at h8; omega) (lxD_iff.mpr (by rw [← T4]; omega)) hq (by first | exact Or.inl (by omega) | exact Or.inr (fun h9 => by have h8 := lxD_iff.mp h9; rw [← T8] at h8; omega))) (by omega) ea16 ea45 eb46 (by omega) (by rw [lxT_dig (fun h9 => by have h8 := lxL_iff.mp h9; rw [← T4] at h8; omega) (lxD_iff.mpr (by rw [← T4]; omega)), (lx_dig (fun h9 => by have h8 := lxL_iff.mp h9; rw [← T4] at h8; omega) (lxD_iff.mpr (by rw [← T4]; omega)) hq (by first | exact Or.inl (by omega) | exact Or.inr (fun h9 => by have h8 := lxD_iff.mp h9; rw [← T8] at h8; omega)))]; split <;> omega) (fun h9 => by have h7 : i2.toInt - i.toInt ≤ 4 := (by rw [lxT_dig (fun h9 => by have h8 := lxL_iff.mp h9; rw [← T4] at h8; omega) (lxD_iff.mpr (by rw [← T4]; omega)), (lx_dig (fun h9 => by have h8 := lxL_iff.mp h9; rw [← T4] at h8; omega) (lxD_iff.mpr (by rw [← T4]; omega)) hq (by first | exact Or.inl (by omega) | exact Or.inr (fun h9 => by have h8 := lxD_iff.mp h9; rw [← T8] at h8; omega)))] at h9; split at h9 <;> omega); rw [lxU_dig (fun h9 => by have h8 := lxL_iff.mp h9; rw [← T4] at h8; omega) (lxD_iff.mpr (by rw [← T4]; omega)), (lx_dig (fun h9 => by have h8 := lxL_iff.mp h9; rw [← T4] at h8; omega) (lxD_iff.mpr (by rw [← T4]; omega)) hq (by first | exact Or.inl (by omega) | exact Or.inr (fun h9 => by have h8 := lxD_iff.mp h9; rw [← T8] at h8; omega))), show i2.toInt.toNat - i.toInt.toNat = (i2.toInt - i.toInt).toNat from by omega]; exact hv h7)) (fun c hc => by rw [eb46, mV_cell hc]; exact hB c hc)
                    · skip
                      refine w_aload rfl rfl ?_
                      refine w_getR (v := .inr (.inr (some 1))) rfl rfl rfl rfl rfl ?_
                      refine w_iload rfl rfl ?_
                      refine m_iald rfl rfl (by omega) (fun x48 ex48 => ?_)
                      have T8 : x48 = a 1 i2.toInt.toNat := by rw [ex48, ea16, mU_cell (by decide), hF17 1 (by decide)]
                      have T8i := congrArg Int32.toInt T8
                      have T5 : i2.toInt = i.toInt → x48.toInt = (a 1 i.toInt.toNat).toInt := fun h => by rw [T8, h]
                      refine w_invS (rest := []) rfl (Nat.le_of_ble_eq_true rfl) rfl (Nat.le_of_ble_eq_true rfl) rfl (by omega) (s_isDigit (K := K) a16 b17  x48  ) (fun v49 h9 hq50 => ?_)
                      obtain ⟨rfl, x51, rfl, px51⟩ := hq50
                      show f_wp _ (176, [some (.inr (.inr (some 0))), some (.inl n), some (.inl i2), some (.inl x11), some (.inl i), some (.inr (.inl v)), none], [.inl x51], mH a16 b17) _
                      have P8 := px51
                      refine w_if_eq rfl (fun c52 => ?_) (fun c52 => ?_)
                      · skip
                        refine w_aload rfl rfl ?_
                        refine w_getR (v := .inr (.inr (some 2))) rfl rfl rfl rfl rfl ?_
                        refine w_iload rfl rfl ?_
                        refine w_iload rfl rfl ?_
                        refine w_iload rfl rfl ?_
                        first | refine w_isub rfl (by omega) (fun x53 tx53 => ?_) | refine w_iiU rfl (fun x53 tx53 => ?_)
                        refine w_const rfl ?_
                        refine w_ic_le rfl (fun c54 => ?_) (fun c54 => ?_)
                        · skip
                          refine w_const rfl ?_
                          refine m_iast rfl rfl (by omega) (fun a55 ea55 => ?_)
                          have ha55 : RM K a55 := RM.up ha16 ea55 (show (0 : Int) ≤ _ ∧ _ ≤ (4 : Int) from by omega)
                          have ua55_2 : (a55 0 2).toInt = (a16 0 2).toInt := by rw [ea55, mU_cell (by decide)]
                          have ua55_3 : (a55 0 3).toInt = (a16 0 3).toInt := by rw [ea55, mU_cell (by decide)]
                          refine w_goto rfl ?_
                          refine w_aload rfl rfl ?_
                          refine w_getR (v := .inr (.inr (some 4))) rfl rfl rfl rfl rfl ?_
                          refine w_iload rfl rfl ?_
                          refine w_lload rfl rfl ?_
                          refine m_last rfl rfl (by omega) (fun b56 eb56 => ?_)
                          refine w_iinc (lo' := fun z9 => [some (.inr (.inr (some 0))), some (.inl z9), some (.inl i2), some (.inl x11), some (.inl i), some (.inr (.inl v)), none]) rfl rfl (fun _ => rfl) (by omega) (fun x57 tx57 => ?_)
                          refine w_goto rfl ?_
                          exact ih17 (1000 - i2.toInt).toNat (by omega) x57 i2 a55 b56 (some (.inl x11)) (some (.inl i)) (some (.inr (.inl v))) rfl ha55 (FR.up (FR.up (hF17) (by decide) ea16) (by decide) ea55) (by omega) (by rw [ea55, mU_cell (by decide), ea16, mU_cell (by decide)]; exact hT2) (fun j h2 h3 => by rw [ea55, mU_cell (by decide), ea16, mU_cell (by decide)]; exact hS j h2 h3) (by rw [ea55, mU_cell (by decide), ea16, mU_cell (by decide)]; exact h3) (LXM.tok hX (by omega) (fun h9 => by have h8 := lxB_iff.mp h9; rw [← T4] at h8; omega) (lx_dig (fun h9 => by have h8 := lxL_iff.mp h9; rw [← T4] at h8; omega) (lxD_iff.mpr (by rw [← T4]; omega)) hq (by first | exact Or.inl (by omega) | exact Or.inr (fun h9 => by have h8 := lxD_iff.mp h9; rw [← T8] at h8; omega))) (by omega) ea16 ea55 eb56 (by omega) (by rw [lxT_dig (fun h9 => by have h8 := lxL_iff.mp h9; rw [← T4] at h8; omega) (lxD_iff.mpr (by rw [← T4]; omega)), (lx_dig (fun h9 => by have h8 := lxL_iff.mp h9; rw [← T4] at h8; omega) (lxD_iff.mpr (by rw [← T4]; omega)) hq (by first | exact Or.inl (by omega) | exact Or.inr (fun h9 => by have h8 := lxD_iff.mp h9; rw [← T8] at h8; omega)))]; split <;> omega) (fun h9 => by have h7 : i2.toInt - i.toInt ≤ 4 := (by rw [lxT_dig (fun h9 => by have h8 := lxL_iff.mp h9; rw [← T4] at h8; omega) (lxD_iff.mpr (by rw [← T4]; omega)), (lx_dig (fun h9 => by have h8 := lxL_iff.mp h9; rw [← T4] at h8; omega) (lxD_iff.mpr (by rw [← T4]; omega)) hq (by first | exact Or.inl (by omega) | exact Or.inr (fun h9 => by have h8 := lxD_iff.mp h9; rw [← T8] at h8; omega)))] at h9; split at h9 <;> omega); rw [lxU_dig (fun h9 => by have h8 := lxL_iff.mp h9; rw [← T4] at h8; omega) (lxD_iff.mpr (by rw [← T4]; omega)), (lx_dig (fun h9 => by have h8 := lxL_iff.mp h9; rw [← T4] at h8; omega) (lxD_iff.mpr (by rw [← T4]; omega)) hq (by first | exact Or.inl (by omega) | exact Or.inr (fun h9 => by have h8 := lxD_iff.mp h9; rw [← T8] at h8; omega))), show i2.toInt.toNat - i.toInt.toNat = (i2.toInt - i.toInt).toNat from by omega]; exact hv h7)) (fun c hc => by rw [eb56, mV_cell hc]; exact hB c hc)
                        · skip
                          refine w_const rfl ?_
                          refine w_goto rfl ?_
                          refine m_iast rfl rfl (by omega) (fun a58 ea58 => ?_)
                          have ha58 : RM K a58 := RM.up ha16 ea58 (show (0 : Int) ≤ _ ∧ _ ≤ (4 : Int) from by omega)
                          have ua58_2 : (a58 0 2).toInt = (a16 0 2).toInt := by rw [ea58, mU_cell (by decide)]
                          have ua58_3 : (a58 0 3).toInt = (a16 0 3).toInt := by rw [ea58, mU_cell (by decide)]
                          refine w_goto rfl ?_
                          refine w_aload rfl rfl ?_
                          refine w_getR (v := .inr (.inr (some 4))) rfl rfl rfl rfl rfl ?_
                          refine w_iload rfl rfl ?_
                          refine w_lload rfl rfl ?_
                          refine m_last rfl rfl (by omega) (fun b59 eb59 => ?_)
                          refine w_iinc (lo' := fun z9 => [some (.inr (.inr (some 0))), some (.inl z9), some (.inl i2), some (.inl x11), some (.inl i), some (.inr (.inl v)), none]) rfl rfl (fun _ => rfl) (by omega) (fun x60 tx60 => ?_)
                          refine w_goto rfl ?_
                          exact ih17 (1000 - i2.toInt).toNat (by omega) x60 i2 a58 b59 (some (.inl x11)) (some (.inl i)) (some (.inr (.inl v))) rfl ha58 (FR.up (FR.up (hF17) (by decide) ea16) (by decide) ea58) (by omega) (by rw [ea58, mU_cell (by decide), ea16, mU_cell (by decide)]; exact hT2) (fun j h2 h3 => by rw [ea58, mU_cell (by decide), ea16, mU_cell (by decide)]; exact hS j h2 h3) (by rw [ea58, mU_cell (by decide), ea16, mU_cell (by decide)]; exact h3) (LXM.tok hX (by omega) (fun h9 => by have h8 := lxB_iff.mp h9; rw [← T4] at h8; omega) (lx_dig (fun h9 => by have h8 := lxL_iff.mp h9; rw [← T4] at h8; omega) (lxD_iff.mpr (by rw [← T4]; omega)) hq (by first | exact Or.inl (by omega) | exact Or.inr (fun h9 => by have h8 := lxD_iff.mp h9; rw [← T8] at h8; omega))) (by omega) ea16 ea58 eb59 (by omega) (by rw [lxT_dig (fun h9 => by have h8 := lxL_iff.mp h9; rw [← T4] at h8; omega) (lxD_iff.mpr (by rw [← T4]; omega)), (lx_dig (fun h9 => by have h8 := lxL_iff.mp h9; rw [← T4] at h8; omega) (lxD_iff.mpr (by rw [← T4]; omega)) hq (by first | exact Or.inl (by omega) | exact Or.inr (fun h9 => by have h8 := lxD_iff.mp h9; rw [← T8] at h8; omega)))]; split <;> omega) (fun h9 => by have h7 : i2.toInt - i.toInt ≤ 4 := (by rw [lxT_dig (fun h9 => by have h8 := lxL_iff.mp h9; rw [← T4] at h8; omega) (lxD_iff.mpr (by rw [← T4]; omega)), (lx_dig (fun h9 => by have h8 := lxL_iff.mp h9; rw [← T4] at h8; omega) (lxD_iff.mpr (by rw [← T4]; omega)) hq (by first | exact Or.inl (by omega) | exact Or.inr (fun h9 => by have h8 := lxD_iff.mp h9; rw [← T8] at h8; omega)))] at h9; split at h9 <;> omega); rw [lxU_dig (fun h9 => by have h8 := lxL_iff.mp h9; rw [← T4] at h8; omega) (lxD_iff.mpr (by rw [← T4]; omega)), (lx_dig (fun h9 => by have h8 := lxL_iff.mp h9; rw [← T4] at h8; omega) (lxD_iff.mpr (by rw [← T4]; omega)) hq (by first | exact Or.inl (by omega) | exact Or.inr (fun h9 => by have h8 := lxD_iff.mp h9; rw [← T8] at h8; omega))), show i2.toInt.toNat - i.toInt.toNat = (i2.toInt - i.toInt).toNat from by omega]; exact hv h7)) (fun c hc => by rw [eb59, mV_cell hc]; exact hB c hc)
                      · skip
                        refine w_iload rfl rfl ?_
                        refine w_iload rfl rfl ?_
                        first | refine w_isub rfl (by omega) (fun x61 tx61 => ?_) | refine w_iiU rfl (fun x61 tx61 => ?_)
                        refine w_const rfl ?_
                        refine w_ic_ge rfl (fun c62 => ?_) (fun c62 => ?_)
                        · skip
                          refine w_lload rfl rfl ?_
                          refine w_lstore (lo' := [some (.inr (.inr (some 0))), some (.inl n), some (.inl i2), some (.inl x11), some (.inl i), some (.inr (.inl v)), none]) rfl rfl ?_
                          refine w_iinc (lo' := fun z9 => [some (.inr (.inr (some 0))), some (.inl n), some (.inl z9), some (.inl x11), some (.inl i), some (.inr (.inl v)), none]) rfl rfl (fun _ => rfl) (by omega) (fun x63 tx63 => ?_)
                          refine w_goto rfl ?_
                          exact ih159 (1000 - x63.toInt).toNat (by omega) x63 v rfl  (by omega) (hq.trans (lxq_next (by omega) (lxD_iff.mpr (by rw [← T8]; omega)) (by omega))) (fun h9 => absurd h9 (by omega))
                        · skip
                          refine w_const rfl ?_
                          refine w_lload rfl rfl ?_
                          refine w_llE rfl (fun y64 ty64 => ?_)
                          have Y1 := ty64
                          refine w_aload rfl rfl ?_
                          refine w_getR (v := .inr (.inr (some 1))) rfl rfl rfl rfl rfl ?_
                          refine w_iload rfl rfl ?_
                          refine m_iald rfl rfl (by omega) (fun x65 ex65 => ?_)
                          have T9 : x65 = a 1 i2.toInt.toNat := by rw [ex65, ea16, mU_cell (by decide), hF17 1 (by decide)]
                          have T9i := congrArg Int32.toInt T9
                          refine w_i2lE rfl (fun y66 ty66 => ?_)
                          have Y2 := ty66
                          refine w_llE rfl (fun y67 ty67 => ?_)
                          have Y3 := ty67
                          refine w_const rfl ?_
                          refine w_llE rfl (fun y68 ty68 => ?_)
                          have Y4 := ty68
                          refine w_goto rfl ?_
                          refine w_lstore (lo' := [some (.inr (.inr (some 0))), some (.inl n), some (.inl i2), some (.inl x11), some (.inl i), some (.inr (.inl y68)), none]) rfl rfl ?_
                          refine w_iinc (lo' := fun z9 => [some (.inr (.inr (some 0))), some (.inl n), some (.inl z9), some (.inl x11), some (.inl i), some (.inr (.inl y68)), none]) rfl rfl (fun _ => rfl) (by omega) (fun x69 tx69 => ?_)
                          refine w_goto rfl ?_
                          exact ih159 (1000 - x69.toInt).toNat (by omega) x69 y68 rfl  (by omega) (hq.trans (lxq_next (by omega) (lxD_iff.mpr (by rw [← T8]; omega)) (by omega))) (fun h9 => by rw [show (x69.toInt - i.toInt).toNat = (i2.toInt - i.toInt).toNat + 1 from by omega, lxv_succ, ← hv (by omega), show i.toInt.toNat + (i2.toInt - i.toInt).toNat = i2.toInt.toNat from by omega, ← T9]; exact fD_step Y1 Y2 Y3 Y4)
                exact loop159 _ i 0 rfl  (by omega) (rfl) (fun _ => by rw [show (i.toInt - i.toInt).toNat = 0 from by omega]; rfl)
            · skip
              have loop70 : ∀ (ms9 : Nat) (i1 : Int32) (v : Int64) , (1000 - i1.toInt).toNat = ms9 → (i.toInt ≤ i1.toInt ∧ i1.toInt ≤ (a16 0 3).toInt) → (lxq lxL (a 1) (a 0 2).toInt.toNat i.toInt.toNat = lxq lxL (a 1) (a 0 2).toInt.toNat i1.toInt.toNat) → (i1.toInt - i.toInt ≤ 8 → v = lxv fM (a 1) (i1.toInt - i.toInt).toNat i.toInt.toNat 0) → f_wp (f_code (t_X13_cutAll (f_ev mtM d))) (70, [some (.inr (.inr (some 0))), some (.inl n), some (.inl i1), some (.inl x11), some (.inl i), some (.inr (.inl v)), none], [], mH a16 b17) (fun v9 h' => ∃ (a' : Nat → Nat → Int32) (b' : Nat → Nat → Int64), h' = mH a' b' ∧ RM K a' ∧ (FR [0, 2, 3] a a' ∧ ((a' 0 7).toInt = 0 ∧ (a' 0 8).toInt = 0 ∧ (a' 0 2).toInt = 0 ∧ (∃ N : Nat, TKM (a 1) (a 0 2).toInt.toNat N a' b') ∧ (∀ j, j ≠ 2 → j ≠ 3 → j ≠ 7 → j ≠ 8 → a' 0 j = a 0 j) ∧ (∀ c, c ≠ 4 → b' c = b c))) ∧ v9 = none) := by
                intro ms9
                induction ms9 using Nat.strongRecOn with
                | _ ms70 ih70 =>
                  intro i1 v  hm70 hi1 hq hv
                  refine w_iload rfl rfl ?_
                  refine w_aload rfl rfl ?_
                  refine w_getI (v := .inl (a16 0 3)) rfl rfl rfl rfl rfl ?_
                  have q70 : 0 ≤ (a16 0 3).toInt ∧ (a16 0 3).toInt ≤ 1000 := ha16 0 3
                  refine w_ic_ge rfl (fun c71 => ?_) (fun c71 => ?_)
                  · skip
                    refine w_aload rfl rfl ?_
                    refine w_getR (v := .inr (.inr (some 2))) rfl rfl rfl rfl rfl ?_
                    refine w_iload rfl rfl ?_
                    refine w_iload rfl rfl ?_
                    refine w_iload rfl rfl ?_
                    first | refine w_isub rfl (by omega) (fun x72 tx72 => ?_) | refine w_iiU rfl (fun x72 tx72 => ?_)
                    refine w_const rfl ?_
                    refine w_ic_le rfl (fun c73 => ?_) (fun c73 => ?_)
                    · skip
                      refine w_const rfl ?_
                      refine m_iast rfl rfl (by omega) (fun a74 ea74 => ?_)
                      have ha74 : RM K a74 := RM.up ha16 ea74 (show (0 : Int) ≤ _ ∧ _ ≤ (4 : Int) from by omega)
                      have ua74_2 : (a74 0 2).toInt = (a16 0 2).toInt := by rw [ea74, mU_cell (by decide)]
                      have ua74_3 : (a74 0 3).toInt = (a16 0 3).toInt := by rw [ea74, mU_cell (by decide)]
                      refine w_goto rfl ?_
                      refine w_aload rfl rfl ?_
                      refine w_getR (v := .inr (.inr (some 4))) rfl rfl rfl rfl rfl ?_
                      refine w_iload rfl rfl ?_
                      refine w_lload rfl rfl ?_
                      refine m_last rfl rfl (by omega) (fun b75 eb75 => ?_)
                      refine w_iinc (lo' := fun z9 => [some (.inr (.inr (some 0))), some (.inl z9), some (.inl i1), some (.inl x11), some (.inl i), some (.inr (.inl v)), none]) rfl rfl (fun _ => rfl) (by omega) (fun x76 tx76 => ?_)
                      refine w_goto rfl ?_
                      exact ih17 (1000 - i1.toInt).toNat (by omega) x76 i1 a74 b75 (some (.inl x11)) (some (.inl i)) (some (.inr (.inl v))) rfl ha74 (FR.up (FR.up (hF17) (by decide) ea16) (by decide) ea74) (by omega) (by rw [ea74, mU_cell (by decide), ea16, mU_cell (by decide)]; exact hT2) (fun j h2 h3 => by rw [ea74, mU_cell (by decide), ea16, mU_cell (by decide)]; exact hS j h2 h3) (by rw [ea74, mU_cell (by decide), ea16, mU_cell (by decide)]; exact h3) (LXM.tok hX (by omega) (fun h9 => by have h8 := lxB_iff.mp h9; rw [← T4] at h8; omega) (lx_let (lxL_iff.mpr (by rw [← T4]; omega)) hq (by first | exact Or.inl (by omega) | exact Or.inr (fun h9 => by have h8 := lxL_iff.mp h9; rw [← T8] at h8; omega))) (by omega) ea16 ea74 eb75 (by omega) (by rw [lxT_let (lxL_iff.mpr (by rw [← T4]; omega)), (lx_let (lxL_iff.mpr (by rw [← T4]; omega)) hq (by first | exact Or.inl (by omega) | exact Or.inr (fun h9 => by have h8 := lxL_iff.mp h9; rw [← T8] at h8; omega)))]; split <;> omega) (fun h9 => by have h7 : i1.toInt - i.toInt ≤ 8 := (by rw [lxT_let (lxL_iff.mpr (by rw [← T4]; omega)), (lx_let (lxL_iff.mpr (by rw [← T4]; omega)) hq (by first | exact Or.inl (by omega) | exact Or.inr (fun h9 => by have h8 := lxL_iff.mp h9; rw [← T8] at h8; omega)))] at h9; split at h9 <;> omega); rw [lxU_let (lxL_iff.mpr (by rw [← T4]; omega)), (lx_let (lxL_iff.mpr (by rw [← T4]; omega)) hq (by first | exact Or.inl (by omega) | exact Or.inr (fun h9 => by have h8 := lxL_iff.mp h9; rw [← T8] at h8; omega))), show i1.toInt.toNat - i.toInt.toNat = (i1.toInt - i.toInt).toNat from by omega]; exact hv h7)) (fun c hc => by rw [eb75, mV_cell hc]; exact hB c hc)
                    · skip
                      refine w_const rfl ?_
                      refine w_goto rfl ?_
                      refine m_iast rfl rfl (by omega) (fun a77 ea77 => ?_)
                      have ha77 : RM K a77 := RM.up ha16 ea77 (show (0 : Int) ≤ _ ∧ _ ≤ (4 : Int) from by omega)
                      have ua77_2 : (a77 0 2).toInt = (a16 0 2).toInt := by rw [ea77, mU_cell (by decide)]
                      have ua77_3 : (a77 0 3).toInt = (a16 0 3).toInt := by rw [ea77, mU_cell (by decide)]
                      refine w_goto rfl ?_
                      refine w_aload rfl rfl ?_
                      refine w_getR (v := .inr (.inr (some 4))) rfl rfl rfl rfl rfl ?_
                      refine w_iload rfl rfl ?_
                      refine w_lload rfl rfl ?_
                      refine m_last rfl rfl (by omega) (fun b78 eb78 => ?_)
                      refine w_iinc (lo' := fun z9 => [some (.inr (.inr (some 0))), some (.inl z9), some (.inl i1), some (.inl x11), some (.inl i), some (.inr (.inl v)), none]) rfl rfl (fun _ => rfl) (by omega) (fun x79 tx79 => ?_)
                      refine w_goto rfl ?_
                      exact ih17 (1000 - i1.toInt).toNat (by omega) x79 i1 a77 b78 (some (.inl x11)) (some (.inl i)) (some (.inr (.inl v))) rfl ha77 (FR.up (FR.up (hF17) (by decide) ea16) (by decide) ea77) (by omega) (by rw [ea77, mU_cell (by decide), ea16, mU_cell (by decide)]; exact hT2) (fun j h2 h3 => by rw [ea77, mU_cell (by decide), ea16, mU_cell (by decide)]; exact hS j h2 h3) (by rw [ea77, mU_cell (by decide), ea16, mU_cell (by decide)]; exact h3) (LXM.tok hX (by omega) (fun h9 => by have h8 := lxB_iff.mp h9; rw [← T4] at h8; omega) (lx_let (lxL_iff.mpr (by rw [← T4]; omega)) hq (by first | exact Or.inl (by omega) | exact Or.inr (fun h9 => by have h8 := lxL_iff.mp h9; rw [← T8] at h8; omega))) (by omega) ea16 ea77 eb78 (by omega) (by rw [lxT_let (lxL_iff.mpr (by rw [← T4]; omega)), (lx_let (lxL_iff.mpr (by rw [← T4]; omega)) hq (by first | exact Or.inl (by omega) | exact Or.inr (fun h9 => by have h8 := lxL_iff.mp h9; rw [← T8] at h8; omega)))]; split <;> omega) (fun h9 => by have h7 : i1.toInt - i.toInt ≤ 8 := (by rw [lxT_let (lxL_iff.mpr (by rw [← T4]; omega)), (lx_let (lxL_iff.mpr (by rw [← T4]; omega)) hq (by first | exact Or.inl (by omega) | exact Or.inr (fun h9 => by have h8 := lxL_iff.mp h9; rw [← T8] at h8; omega)))] at h9; split at h9 <;> omega); rw [lxU_let (lxL_iff.mpr (by rw [← T4]; omega)), (lx_let (lxL_iff.mpr (by rw [← T4]; omega)) hq (by first | exact Or.inl (by omega) | exact Or.inr (fun h9 => by have h8 := lxL_iff.mp h9; rw [← T8] at h8; omega))), show i1.toInt.toNat - i.toInt.toNat = (i1.toInt - i.toInt).toNat from by omega]; exact hv h7)) (fun c hc => by rw [eb78, mV_cell hc]; exact hB c hc)
                  · skip
                    refine w_aload rfl rfl ?_
                    refine w_getR (v := .inr (.inr (some 1))) rfl rfl rfl rfl rfl ?_
                    refine w_iload rfl rfl ?_
                    refine m_iald rfl rfl (by omega) (fun x80 ex80 => ?_)
                    have T8 : x80 = a 1 i1.toInt.toNat := by rw [ex80, ea16, mU_cell (by decide), hF17 1 (by decide)]
                    have T8i := congrArg Int32.toInt T8
                    have T5 : i1.toInt = i.toInt → x80.toInt = (a 1 i.toInt.toNat).toInt := fun h => by rw [T8, h]
                    refine w_invS (rest := []) rfl (Nat.le_of_ble_eq_true rfl) rfl (Nat.le_of_ble_eq_true rfl) rfl (by omega) (s_isLetter (K := K) a16 b17  x80  ) (fun v81 h9 hq82 => ?_)
                    obtain ⟨rfl, x83, rfl, px83⟩ := hq82
                    show f_wp _ (87, [some (.inr (.inr (some 0))), some (.inl n), some (.inl i1), some (.inl x11), some (.inl i), some (.inr (.inl v)), none], [.inl x83], mH a16 b17) _
                    have P8 := px83
                    refine w_if_eq rfl (fun c84 => ?_) (fun c84 => ?_)
                    · skip
                      refine w_aload rfl rfl ?_
                      refine w_getR (v := .inr (.inr (some 2))) rfl rfl rfl rfl rfl ?_
                      refine w_iload rfl rfl ?_
                      refine w_iload rfl rfl ?_
                      refine w_iload rfl rfl ?_
                      first | refine w_isub rfl (by omega) (fun x85 tx85 => ?_) | refine w_iiU rfl (fun x85 tx85 => ?_)
                      refine w_const rfl ?_
                      refine w_ic_le rfl (fun c86 => ?_) (fun c86 => ?_)
                      · skip
                        refine w_const rfl ?_
                        refine m_iast rfl rfl (by omega) (fun a87 ea87 => ?_)
                        have ha87 : RM K a87 := RM.up ha16 ea87 (show (0 : Int) ≤ _ ∧ _ ≤ (4 : Int) from by omega)
                        have ua87_2 : (a87 0 2).toInt = (a16 0 2).toInt := by rw [ea87, mU_cell (by decide)]
                        have ua87_3 : (a87 0 3).toInt = (a16 0 3).toInt := by rw [ea87, mU_cell (by decide)]
                        refine w_goto rfl ?_
                        refine w_aload rfl rfl ?_
                        refine w_getR (v := .inr (.inr (some 4))) rfl rfl rfl rfl rfl ?_
                        refine w_iload rfl rfl ?_
                        refine w_lload rfl rfl ?_
                        refine m_last rfl rfl (by omega) (fun b88 eb88 => ?_)
                        refine w_iinc (lo' := fun z9 => [some (.inr (.inr (some 0))), some (.inl z9), some (.inl i1), some (.inl x11), some (.inl i), some (.inr (.inl v)), none]) rfl rfl (fun _ => rfl) (by omega) (fun x89 tx89 => ?_)
                        refine w_goto rfl ?_
                        exact ih17 (1000 - i1.toInt).toNat (by omega) x89 i1 a87 b88 (some (.inl x11)) (some (.inl i)) (some (.inr (.inl v))) rfl ha87 (FR.up (FR.up (hF17) (by decide) ea16) (by decide) ea87) (by omega) (by rw [ea87, mU_cell (by decide), ea16, mU_cell (by decide)]; exact hT2) (fun j h2 h3 => by rw [ea87, mU_cell (by decide), ea16, mU_cell (by decide)]; exact hS j h2 h3) (by rw [ea87, mU_cell (by decide), ea16, mU_cell (by decide)]; exact h3) (LXM.tok hX (by omega) (fun h9 => by have h8 := lxB_iff.mp h9; rw [← T4] at h8; omega) (lx_let (lxL_iff.mpr (by rw [← T4]; omega)) hq (by first | exact Or.inl (by omega) | exact Or.inr (fun h9 => by have h8 := lxL_iff.mp h9; rw [← T8] at h8; omega))) (by omega) ea16 ea87 eb88 (by omega) (by rw [lxT_let (lxL_iff.mpr (by rw [← T4]; omega)), (lx_let (lxL_iff.mpr (by rw [← T4]; omega)) hq (by first | exact Or.inl (by omega) | exact Or.inr (fun h9 => by have h8 := lxL_iff.mp h9; rw [← T8] at h8; omega)))]; split <;> omega) (fun h9 => by have h7 : i1.toInt - i.toInt ≤ 8 := (by rw [lxT_let (lxL_iff.mpr (by rw [← T4]; omega)), (lx_let (lxL_iff.mpr (by rw [← T4]; omega)) hq (by first | exact Or.inl (by omega) | exact Or.inr (fun h9 => by have h8 := lxL_iff.mp h9; rw [← T8] at h8; omega)))] at h9; split at h9 <;> omega); rw [lxU_let (lxL_iff.mpr (by rw [← T4]; omega)), (lx_let (lxL_iff.mpr (by rw [← T4]; omega)) hq (by first | exact Or.inl (by omega) | exact Or.inr (fun h9 => by have h8 := lxL_iff.mp h9; rw [← T8] at h8; omega))), show i1.toInt.toNat - i.toInt.toNat = (i1.toInt - i.toInt).toNat from by omega]; exact hv h7)) (fun c hc => by rw [eb88, mV_cell hc]; exact hB c hc)
                      · skip
                        refine w_const rfl ?_
                        refine w_goto rfl ?_
                        refine m_iast rfl rfl (by omega) (fun a90 ea90 => ?_)
                        have ha90 : RM K a90 := RM.up ha16 ea90 (show (0 : Int) ≤ _ ∧ _ ≤ (4 : Int) from by omega)
                        have ua90_2 : (a90 0 2).toInt = (a16 0 2).toInt := by rw [ea90, mU_cell (by decide)]
                        have ua90_3 : (a90 0 3).toInt = (a16 0 3).toInt := by rw [ea90, mU_cell (by decide)]
                        refine w_goto rfl ?_
                        refine w_aload rfl rfl ?_
                        refine w_getR (v := .inr (.inr (some 4))) rfl rfl rfl rfl rfl ?_
                        refine w_iload rfl rfl ?_
                        refine w_lload rfl rfl ?_
                        refine m_last rfl rfl (by omega) (fun b91 eb91 => ?_)
                        refine w_iinc (lo' := fun z9 => [some (.inr (.inr (some 0))), some (.inl z9), some (.inl i1), some (.inl x11), some (.inl i), some (.inr (.inl v)), none]) rfl rfl (fun _ => rfl) (by omega) (fun x92 tx92 => ?_)
                        refine w_goto rfl ?_
                        exact ih17 (1000 - i1.toInt).toNat (by omega) x92 i1 a90 b91 (some (.inl x11)) (some (.inl i)) (some (.inr (.inl v))) rfl ha90 (FR.up (FR.up (hF17) (by decide) ea16) (by decide) ea90) (by omega) (by rw [ea90, mU_cell (by decide), ea16, mU_cell (by decide)]; exact hT2) (fun j h2 h3 => by rw [ea90, mU_cell (by decide), ea16, mU_cell (by decide)]; exact hS j h2 h3) (by rw [ea90, mU_cell (by decide), ea16, mU_cell (by decide)]; exact h3) (LXM.tok hX (by omega) (fun h9 => by have h8 := lxB_iff.mp h9; rw [← T4] at h8; omega) (lx_let (lxL_iff.mpr (by rw [← T4]; omega)) hq (by first | exact Or.inl (by omega) | exact Or.inr (fun h9 => by have h8 := lxL_iff.mp h9; rw [← T8] at h8; omega))) (by omega) ea16 ea90 eb91 (by omega) (by rw [lxT_let (lxL_iff.mpr (by rw [← T4]; omega)), (lx_let (lxL_iff.mpr (by rw [← T4]; omega)) hq (by first | exact Or.inl (by omega) | exact Or.inr (fun h9 => by have h8 := lxL_iff.mp h9; rw [← T8] at h8; omega)))]; split <;> omega) (fun h9 => by have h7 : i1.toInt - i.toInt ≤ 8 := (by rw [lxT_let (lxL_iff.mpr (by rw [← T4]; omega)), (lx_let (lxL_iff.mpr (by rw [← T4]; omega)) hq (by first | exact Or.inl (by omega) | exact Or.inr (fun h9 => by have h8 := lxL_iff.mp h9; rw [← T8] at h8; omega)))] at h9; split at h9 <;> omega); rw [lxU_let (lxL_iff.mpr (by rw [← T4]; omega)), (lx_let (lxL_iff.mpr (by rw [← T4]; omega)) hq (by first | exact Or.inl (by omega) | exact Or.inr (fun h9 => by have h8 := lxL_iff.mp h9; rw [← T8] at h8; omega))), show i1.toInt.toNat - i.toInt.toNat = (i1.toInt - i.toInt).toNat from by omega]; exact hv h7)) (fun c hc => by rw [eb91, mV_cell hc]; exact hB c hc)
                    · skip
                      refine w_iload rfl rfl ?_
                      refine w_iload rfl rfl ?_
                      first | refine w_isub rfl (by omega) (fun x93 tx93 => ?_) | refine w_iiU rfl (fun x93 tx93 => ?_)
                      refine w_const rfl ?_
                      refine w_ic_ge rfl (fun c94 => ?_) (fun c94 => ?_)
                      · skip
                        refine w_lload rfl rfl ?_
                        refine w_lstore (lo' := [some (.inr (.inr (some 0))), some (.inl n), some (.inl i1), some (.inl x11), some (.inl i), some (.inr (.inl v)), none]) rfl rfl ?_
                        refine w_iinc (lo' := fun z9 => [some (.inr (.inr (some 0))), some (.inl n), some (.inl z9), some (.inl x11), some (.inl i), some (.inr (.inl v)), none]) rfl rfl (fun _ => rfl) (by omega) (fun x95 tx95 => ?_)
                        refine w_goto rfl ?_
                        exact ih70 (1000 - x95.toInt).toNat (by omega) x95 v rfl  (by omega) (hq.trans (lxq_next (by omega) (lxL_iff.mpr (by rw [← T8]; omega)) (by omega))) (fun h9 => absurd h9 (by omega))
                      · skip
                        refine w_const rfl ?_
                        refine w_lload rfl rfl ?_
                        refine w_llE rfl (fun y96 ty96 => ?_)
                        have Y1 := ty96
                        refine w_aload rfl rfl ?_
                        refine w_getR (v := .inr (.inr (some 1))) rfl rfl rfl rfl rfl ?_
                        refine w_iload rfl rfl ?_
                        refine m_iald rfl rfl (by omega) (fun x97 ex97 => ?_)
                        have T9 : x97 = a 1 i1.toInt.toNat := by rw [ex97, ea16, mU_cell (by decide), hF17 1 (by decide)]
                        have T9i := congrArg Int32.toInt T9
                        refine w_invS (rest := [.inr (.inl y96)]) rfl (Nat.le_of_ble_eq_true rfl) rfl (Nat.le_of_ble_eq_true rfl) rfl (by omega) (s_rank_1 (K := K) a16 b17  x97  (by omega)) (fun v98 h9 hq99 => ?_)
                        obtain ⟨rfl, x100, rfl, px100⟩ := hq99
                        show f_wp _ (114, [some (.inr (.inr (some 0))), some (.inl n), some (.inl i1), some (.inl x11), some (.inl i), some (.inr (.inl v)), none], [.inl x100, .inr (.inl y96)], mH a16 b17) _
                        have R1 := px100
                        refine w_i2lE rfl (fun y101 ty101 => ?_)
                        have Y2 := ty101
                        refine w_llE rfl (fun y102 ty102 => ?_)
                        have Y3 := ty102
                        refine w_goto rfl ?_
                        refine w_lstore (lo' := [some (.inr (.inr (some 0))), some (.inl n), some (.inl i1), some (.inl x11), some (.inl i), some (.inr (.inl y102)), none]) rfl rfl ?_
                        refine w_iinc (lo' := fun z9 => [some (.inr (.inr (some 0))), some (.inl n), some (.inl z9), some (.inl x11), some (.inl i), some (.inr (.inl y102)), none]) rfl rfl (fun _ => rfl) (by omega) (fun x103 tx103 => ?_)
                        refine w_goto rfl ?_
                        exact ih70 (1000 - x103.toInt).toNat (by omega) x103 y102 rfl  (by omega) (hq.trans (lxq_next (by omega) (lxL_iff.mpr (by rw [← T8]; omega)) (by omega))) (fun h9 => by rw [show (x103.toInt - i.toInt).toNat = (i1.toInt - i.toInt).toNat + 1 from by omega, lxv_succ, ← hv (by omega), show i.toInt.toNat + (i1.toInt - i.toInt).toNat = i1.toInt.toNat from by omega, ← T9]; exact fM_step Y1 R1 Y2 Y3)
              exact loop70 _ i 0 rfl  (by omega) (rfl) (fun _ => by rw [show (i.toInt - i.toInt).toNat = 0 from by omega]; rfl)
  exact loop17 _ 0 0 a3 b none none none rfl ha3 (FR.up (FR.up (FR.rf) (by decide) ea2) (by decide) ea3) (by omega) (by rw [ea3, mU_same]; rfl) (fun j h2 h3 => by rw [ea3, mU_slot h2, ea2, mU_slot h3]) (by rw [ea3, mU_slot (by decide), ea2, mU_same]) (LXM.init) (fun _ _ => rfl)
