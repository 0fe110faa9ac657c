set_option maxRecDepth 4000 in
theorem s_wrong {K : Nat} (a : Nat → Nat → Int32) (b : Nat → Nat → Int64) (w : Int32) (hR : RM K a) (hw : 1 ≤ w.toInt ∧ w.toInt ≤ 5) : f_call mtM 1 7 [.inr (.inr (some 0)), .inl w] (mH a b) (fun v9 h' => ∃ (a' : Nat → Nat → Int32), h' = mH a' b ∧ RM K a' ∧ (FR [0] a a' ∧ (∀ j, j ≠ 8 → a' 0 j = a 0 j) ∧ 0 < (a' 0 8).toInt) ∧ v9 = none) := by
  refine f_call_of (d0 := 0) rfl (Nat.le_of_ble_eq_true rfl) (fun d hd => ?_)
  show f_wp _ (0, [some (.inr (.inr (some 0))), some (.inl w)], [], mH a b) _
  have l16 : (16 : Int32).toInt = 16 := rfl
  refine w_aload rfl rfl ?_
  refine w_getI (v := .inl (a 0 8)) rfl rfl rfl rfl rfl ?_
  have q1 : 0 ≤ (a 0 8).toInt ∧ (a 0 8).toInt ≤ 2147483647 := hR 0 8
  refine w_if_ne rfl (fun c2 => ?_) (fun c2 => ?_)
  · skip
    refine w_aload rfl rfl ?_
    refine w_iload rfl rfl ?_
    refine w_const rfl ?_
    refine w_aload rfl rfl ?_
    refine w_getR (v := .inr (.inr (some 3))) rfl rfl rfl rfl rfl ?_
    refine w_aload rfl rfl ?_
    refine w_getI (v := .inl (a 0 7)) rfl rfl rfl rfl rfl ?_
    have q3 : 0 ≤ (a 0 7).toInt ∧ (a 0 7).toInt ≤ 1000 := hR 0 7
    refine m_iald rfl rfl (by omega) (fun x4 ex4 => ?_)
    have qx4 : 0 ≤ x4.toInt ∧ x4.toInt ≤ 1000 := by rw [ex4]; exact hR 3 _
    first | refine w_imul rfl (c := 16) rfl (by omega) (fun x5 tx5 => ?_) | refine w_iiU rfl (fun x5 tx5 => ?_)
    first | refine w_iadd rfl (by omega) (fun x6 tx6 => ?_) | refine w_iiU rfl (fun x6 tx6 => ?_)
    refine m_putI (z := false) rfl rfl rfl rfl (by first | (intro h9; cases h9; done) | (intro _; first | exact Or.inl rfl | exact Or.inr rfl | assumption)) (fun a7 ea7 => ?_)
    have ha7 : RM K a7 := RM.up hR ea7 (show (0 : Int) ≤ _ ∧ _ ≤ (2147483647 : Int) from by omega)
    have ua7_7 : (a7 0 7).toInt = (a 0 7).toInt := by rw [ea7, mU_slot (by decide)]
    have ua7_8 : a7 0 8 = x6 := by rw [ea7, mU_same]
    have wa7_8 := congrArg Int32.toInt ua7_8
    exact w_ret rfl ⟨a7, rfl, ha7, ⟨FR.up (FR.rf) (by decide) ea7, by first | exact ⟨fun j hj => rfl, by omega⟩ | exact ⟨fun j hj => by rw [ea7, mU_slot hj], by rw [ea7, mU_same]; omega⟩⟩, rfl⟩
  · skip
    exact w_ret rfl ⟨a, rfl, hR, ⟨FR.rf, by first | exact ⟨fun j hj => rfl, by omega⟩ | exact ⟨fun j hj => by rw [@e, mU_slot hj], by rw [@e, mU_same]; omega⟩⟩, rfl⟩
set_option maxRecDepth 4000 in
theorem s_isSign {K : Nat} (a : Nat → Nat → Int32) (b : Nat → Nat → Int64) (c : Int32) (hR : RM K a)  : f_call mtM 1 8 [.inr (.inr (some 0)), .inl c] (mH a b) (fun v9 h' => h' = mH a b ∧ ∃ x : Int32, v9 = some (.inl x) ∧ ((x.toInt = 1 ∧ (a 0 8).toInt = 0 ∧ (a 2 (a 0 7).toInt.toNat).toInt = 3) ∨ x.toInt = 0)) := by
  refine f_call_of (d0 := 0) rfl (Nat.le_of_ble_eq_true rfl) (fun d hd => ?_)
  show f_wp _ (0, [some (.inr (.inr (some 0))), some (.inl c)], [], mH a b) _
  have l0 : (0 : Int32).toInt = 0 := rfl
  have l1 : (1 : Int32).toInt = 1 := rfl
  have l3 : (3 : Int32).toInt = 3 := rfl
  refine w_aload rfl rfl ?_
  refine w_getI (v := .inl (a 0 8)) rfl rfl rfl rfl rfl ?_
  have q1 : 0 ≤ (a 0 8).toInt ∧ (a 0 8).toInt ≤ 2147483647 := hR 0 8
  refine w_if_ne rfl (fun c2 => ?_) (fun c2 => ?_)
  · skip
    refine w_aload rfl rfl ?_
    refine w_getR (v := .inr (.inr (some 2))) rfl rfl rfl rfl rfl ?_
    refine w_aload rfl rfl ?_
    refine w_getI (v := .inl (a 0 7)) rfl rfl rfl rfl rfl ?_
    have q3 : 0 ≤ (a 0 7).toInt ∧ (a 0 7).toInt ≤ 1000 := hR 0 7
    refine m_iald rfl rfl (by omega) (fun x4 ex4 => ?_)
    have qx4 : 0 ≤ x4.toInt ∧ x4.toInt ≤ 4 := by rw [ex4]; exact hR 2 _
    have e9 := congrArg Int32.toInt ex4
    refine w_const rfl ?_
    refine w_ic_ne rfl (fun c5 => ?_) (fun c5 => ?_)
    · skip
      refine w_aload rfl rfl ?_
      refine w_getR (v := .inr (.inr (some 4))) rfl rfl rfl rfl rfl ?_
      refine w_aload rfl rfl ?_
      refine w_getI (v := .inl (a 0 7)) rfl rfl rfl rfl rfl ?_
      have q6 : 0 ≤ (a 0 7).toInt ∧ (a 0 7).toInt ≤ 1000 := hR 0 7
      refine m_lald rfl rfl (by omega) (fun y7 ey7 => ?_)
      refine w_iload rfl rfl ?_
      refine w_i2lE rfl (fun y8 ty8 => ?_)
      refine w_lcmpE rfl (fun x9 tx9 => ?_)
      refine w_if_ne rfl (fun c10 => ?_) (fun c10 => ?_)
      · skip
        refine w_const rfl ?_
        refine w_goto rfl ?_
        exact wp_iret (z := true) rfl (fun _ => by first | exact Or.inl rfl | exact Or.inr rfl | (rcases (by omega : (1 : Int32).toInt = 0 ∨ (1 : Int32).toInt = 1) with h8 | h8; exact Or.inl (ti_eq h8); exact Or.inr (ti_eq h8))) ⟨rfl, ⟨_, rfl, by omega⟩⟩
      · skip
        refine w_const rfl ?_
        exact wp_iret (z := true) rfl (fun _ => by first | exact Or.inl rfl | exact Or.inr rfl | (rcases (by omega : (0 : Int32).toInt = 0 ∨ (0 : Int32).toInt = 1) with h8 | h8; exact Or.inl (ti_eq h8); exact Or.inr (ti_eq h8))) ⟨rfl, ⟨_, rfl, by omega⟩⟩
    · skip
      refine w_const rfl ?_
      exact wp_iret (z := true) rfl (fun _ => by first | exact Or.inl rfl | exact Or.inr rfl | (rcases (by omega : (0 : Int32).toInt = 0 ∨ (0 : Int32).toInt = 1) with h8 | h8; exact Or.inl (ti_eq h8); exact Or.inr (ti_eq h8))) ⟨rfl, ⟨_, rfl, by omega⟩⟩
  · skip
    refine w_const rfl ?_
    exact wp_iret (z := true) rfl (fun _ => by first | exact Or.inl rfl | exact Or.inr rfl | (rcases (by omega : (0 : Int32).toInt = 0 ∨ (0 : Int32).toInt = 1) with h8 | h8; exact Or.inl (ti_eq h8); exact Or.inr (ti_eq h8))) ⟨rfl, ⟨_, rfl, by omega⟩⟩
set_option maxRecDepth 4000 in
theorem s_isWord {K : Nat} (a : Nat → Nat → Int32) (b : Nat → Nat → Int64) (c : Int32) (hR : RM K a) (hc : 0 ≤ c.toInt ∧ c.toInt ≤ 30) : f_call mtM 1 9 [.inr (.inr (some 0)), .inl c] (mH a b) (fun v9 h' => h' = mH a b ∧ ∃ x : Int32, v9 = some (.inl x) ∧ ((x.toInt = 1 ∧ (a 0 8).toInt = 0 ∧ (a 2 (a 0 7).toInt.toNat).toInt = 1) ∨ x.toInt = 0)) := by
  refine f_call_of (d0 := 0) rfl (Nat.le_of_ble_eq_true rfl) (fun d hd => ?_)
  show f_wp _ (0, [some (.inr (.inr (some 0))), some (.inl c)], [], mH a b) _
  have l0 : (0 : Int32).toInt = 0 := rfl
  have l1 : (1 : Int32).toInt = 1 := rfl
  refine w_aload rfl rfl ?_
  refine w_getI (v := .inl (a 0 8)) rfl rfl rfl rfl rfl ?_
  have q1 : 0 ≤ (a 0 8).toInt ∧ (a 0 8).toInt ≤ 2147483647 := hR 0 8
  refine w_if_ne rfl (fun c2 => ?_) (fun c2 => ?_)
  · skip
    refine w_aload rfl rfl ?_
    refine w_getR (v := .inr (.inr (some 2))) rfl rfl rfl rfl rfl ?_
    refine w_aload rfl rfl ?_
    refine w_getI (v := .inl (a 0 7)) rfl rfl rfl rfl rfl ?_
    have q3 : 0 ≤ (a 0 7).toInt ∧ (a 0 7).toInt ≤ 1000 := hR 0 7
    refine m_iald rfl rfl (by omega) (fun x4 ex4 => ?_)
    have qx4 : 0 ≤ x4.toInt ∧ x4.toInt ≤ 4 := by rw [ex4]; exact hR 2 _
    have e9 := congrArg Int32.toInt ex4
    refine w_const rfl ?_
    refine w_ic_ne rfl (fun c5 => ?_) (fun c5 => ?_)
    · skip
      refine w_aload rfl rfl ?_
      refine w_getR (v := .inr (.inr (some 4))) rfl rfl rfl rfl rfl ?_
      refine w_aload rfl rfl ?_
      refine w_getI (v := .inl (a 0 7)) rfl rfl rfl rfl rfl ?_
      have q6 : 0 ≤ (a 0 7).toInt ∧ (a 0 7).toInt ≤ 1000 := hR 0 7
      refine m_lald rfl rfl (by omega) (fun y7 ey7 => ?_)
      refine w_aload rfl rfl ?_
      refine w_getR (v := .inr (.inr (some 5))) rfl rfl rfl rfl rfl ?_
      refine w_iload rfl rfl ?_
      refine m_lald rfl rfl (by omega) (fun y8 ey8 => ?_)
      refine w_lcmpE rfl (fun x9 tx9 => ?_)
      refine w_if_ne rfl (fun c10 => ?_) (fun c10 => ?_)
      · skip
        refine w_const rfl ?_
        refine w_goto rfl ?_
        exact wp_iret (z := true) rfl (fun _ => by first | exact Or.inl rfl | exact Or.inr rfl | (rcases (by omega : (1 : Int32).toInt = 0 ∨ (1 : Int32).toInt = 1) with h8 | h8; exact Or.inl (ti_eq h8); exact Or.inr (ti_eq h8))) ⟨rfl, ⟨_, rfl, by omega⟩⟩
      · skip
        refine w_const rfl ?_
        exact wp_iret (z := true) rfl (fun _ => by first | exact Or.inl rfl | exact Or.inr rfl | (rcases (by omega : (0 : Int32).toInt = 0 ∨ (0 : Int32).toInt = 1) with h8 | h8; exact Or.inl (ti_eq h8); exact Or.inr (ti_eq h8))) ⟨rfl, ⟨_, rfl, by omega⟩⟩
    · skip
      refine w_const rfl ?_
      exact wp_iret (z := true) rfl (fun _ => by first | exact Or.inl rfl | exact Or.inr rfl | (rcases (by omega : (0 : Int32).toInt = 0 ∨ (0 : Int32).toInt = 1) with h8 | h8; exact Or.inl (ti_eq h8); exact Or.inr (ti_eq h8))) ⟨rfl, ⟨_, rfl, by omega⟩⟩
  · skip
    refine w_const rfl ?_
    exact wp_iret (z := true) rfl (fun _ => by first | exact Or.inl rfl | exact Or.inr rfl | (rcases (by omega : (0 : Int32).toInt = 0 ∨ (0 : Int32).toInt = 1) with h8 | h8; exact Or.inl (ti_eq h8); exact Or.inr (ti_eq h8))) ⟨rfl, ⟨_, rfl, by omega⟩⟩
set_option maxRecDepth 4000 in
theorem s_between {K : Nat} (a : Nat → Nat → Int32) (b : Nat → Nat → Int64) (r : Int32) (s : Int32) (hR : RM K a) (hr : 0 ≤ r.toInt ∧ r.toInt < 6) (hs : 0 ≤ s.toInt ∧ s.toInt < 6) : f_call mtM 2 64 [.inr (.inr (some 0)), .inl r, .inl s] (mH a b) (fun v9 h' => h' = mH a b ∧ ∃ x : Int32, v9 = some (.inl x) ∧ True) := by
  refine f_call_of (d0 := 1) rfl (Nat.le_of_ble_eq_true rfl) (fun d hd => ?_)
  show f_wp _ (0, [some (.inr (.inr (some 0))), some (.inl r), some (.inl s), none, none, none, none, none, none], [], mH a b) _
  have l0 : (0 : Int32).toInt = 0 := rfl
  have l1 : (1 : Int32).toInt = 1 := rfl
  have l2 : (2 : Int32).toInt = 2 := rfl
  have l3 : (3 : Int32).toInt = 3 := rfl
  have l91 : (91 : Int32).toInt = 91 := rfl
  refine w_aload rfl rfl ?_
  refine w_iload rfl rfl ?_
  refine w_const rfl ?_
  refine w_invV (rest := []) rfl rfl rfl rfl rfl (Nat.le_of_ble_eq_true rfl) rfl (by omega) (s_riverOf (K := K) a b  r 3  (by omega) (by omega)) (fun v1 h9 hq2 => ?_)
  obtain ⟨rfl, x3, rfl, px3⟩ := hq2
  show f_wp _ (6, [some (.inr (.inr (some 0))), some (.inl r), some (.inl s), none, none, none, none, none, none], [.inl x3], mH a b) _
  refine w_istore (lo' := [some (.inr (.inr (some 0))), some (.inl r), some (.inl s), some (.inl x3), none, none, none, none, none]) rfl rfl ?_
  refine w_aload rfl rfl ?_
  refine w_iload rfl rfl ?_
  refine w_const rfl ?_
  refine w_invV (rest := []) rfl rfl rfl rfl rfl (Nat.le_of_ble_eq_true rfl) rfl (by omega) (s_riverOf (K := K) a b  s 3  (by omega) (by omega)) (fun v4 h9 hq5 => ?_)
  obtain ⟨rfl, x6, rfl, px6⟩ := hq5
  show f_wp _ (13, [some (.inr (.inr (some 0))), some (.inl r), some (.inl s), some (.inl x3), none, none, none, none, none], [.inl x6], mH a b) _
  refine w_istore (lo' := [some (.inr (.inr (some 0))), some (.inl r), some (.inl s), some (.inl x3), some (.inl x6), none, none, none, none]) rfl rfl ?_
  refine w_const rfl ?_
  refine w_istore (lo' := [some (.inr (.inr (some 0))), some (.inl r), some (.inl s), some (.inl x3), some (.inl x6), some (.inl 0), none, none, none]) rfl rfl ?_
  refine w_const rfl ?_
  refine w_istore (lo' := [some (.inr (.inr (some 0))), some (.inl r), some (.inl s), some (.inl x3), some (.inl x6), some (.inl 0), some (.inl 0), none, none]) rfl rfl ?_
  have loop21 : ∀ (ms9 : Nat) (sum : Int32) (k : Int32) (o7_21 : Option f_V) (o8_21 : Option f_V), (4 - k.toInt).toNat = ms9 → (0 ≤ k.toInt ∧ k.toInt ≤ 4) → f_wp (f_code (t_X13_between (f_ev mtM d))) (21, [some (.inr (.inr (some 0))), some (.inl r), some (.inl s), some (.inl x3), some (.inl x6), some (.inl sum), some (.inl k), o7_21, o8_21], [], mH a b) (fun v9 h' => h' = mH a b ∧ ∃ x : Int32, v9 = some (.inl x) ∧ True) := by
    intro ms9
    induction ms9 using Nat.strongRecOn with
    | _ ms21 ih21 =>
      intro sum k o7_21 o8_21 hm21 hk
      refine w_iload rfl rfl ?_
      refine w_aload rfl rfl ?_
      refine w_getR (v := .inr (.inr (some 6))) rfl rfl rfl rfl rfl ?_
      refine w_const rfl ?_
      refine m_iald rfl rfl (by omega) (fun x7 ex7 => ?_)
      have u9 : 0 ≤ x7.toInt ∧ x7.toInt ≤ 4 := by rw [ex7]; exact RM.la1 hR
      refine w_ic_ge rfl (fun c8 => ?_) (fun c8 => ?_)
      · skip
        refine w_iload rfl rfl ?_
        exact wp_iret (z := false) rfl (fun h9 => by cases h9) ⟨rfl, ⟨_, rfl, trivial⟩⟩
      · skip
        refine w_aload rfl rfl ?_
        refine w_getR (v := .inr (.inr (some 6))) rfl rfl rfl rfl rfl ?_
        refine w_const rfl ?_
        refine w_const rfl ?_
        refine w_iload rfl rfl ?_
        first | refine w_imul rfl (c := 2) rfl (by omega) (fun x9 tx9 => ?_) | refine w_iiU rfl (fun x9 tx9 => ?_)
        first | refine w_iadd rfl (by omega) (fun x10 tx10 => ?_) | refine w_iiU rfl (fun x10 tx10 => ?_)
        refine m_iald rfl rfl (by omega) (fun x11 ex11 => ?_)
        refine w_istore (lo' := [some (.inr (.inr (some 0))), some (.inl r), some (.inl s), some (.inl x3), some (.inl x6), some (.inl sum), some (.inl k), some (.inl x11), o8_21]) rfl rfl ?_
        refine w_iload rfl rfl ?_
        refine w_iload rfl rfl ?_
        refine w_ic_ge rfl (fun c12 => ?_) (fun c12 => ?_)
        · skip
          refine w_iload rfl rfl ?_
          refine w_iload rfl rfl ?_
          refine w_ic_ge rfl (fun c13 => ?_) (fun c13 => ?_)
          · skip
            refine w_const rfl ?_
            refine w_istore (lo' := [some (.inr (.inr (some 0))), some (.inl r), some (.inl s), some (.inl x3), some (.inl x6), some (.inl sum), some (.inl k), some (.inl x11), some (.inl 0)]) rfl rfl ?_
            refine w_iload rfl rfl ?_
            refine w_iload rfl rfl ?_
            refine w_if_eq rfl (fun c14 => ?_) (fun c14 => ?_)
            · skip
              refine w_const rfl ?_
              first | refine w_iadd rfl (by omega) (fun x15 tx15 => ?_) | refine w_iiU rfl (fun x15 tx15 => ?_)
              refine w_istore (lo' := [some (.inr (.inr (some 0))), some (.inl r), some (.inl s), some (.inl x3), some (.inl x6), some (.inl x15), some (.inl k), some (.inl x11), some (.inl 0)]) rfl rfl ?_
              refine w_iinc (lo' := fun z9 => [some (.inr (.inr (some 0))), some (.inl r), some (.inl s), some (.inl x3), some (.inl x6), some (.inl x15), some (.inl z9), some (.inl x11), some (.inl 0)]) rfl rfl (fun _ => rfl) (by omega) (fun x16 tx16 => ?_)
              refine w_goto rfl ?_
              exact ih21 (4 - x16.toInt).toNat (by omega) x15 x16 (some (.inl x11)) (some (.inl 0)) rfl  (by omega)
            · skip
              refine w_aload rfl rfl ?_
              refine w_getR (v := .inr (.inr (some 6))) rfl rfl rfl rfl rfl ?_
              refine w_const rfl ?_
              refine w_const rfl ?_
              refine w_iload rfl rfl ?_
              first | refine w_imul rfl (c := 2) rfl (by omega) (fun x17 tx17 => ?_) | refine w_iiU rfl (fun x17 tx17 => ?_)
              first | refine w_iadd rfl (by omega) (fun x18 tx18 => ?_) | refine w_iiU rfl (fun x18 tx18 => ?_)
              refine w_const rfl ?_
              first | refine w_iadd rfl (by omega) (fun x19 tx19 => ?_) | refine w_iiU rfl (fun x19 tx19 => ?_)
              refine m_iald rfl rfl (by omega) (fun x20 ex20 => ?_)
              refine w_goto rfl ?_
              first | refine w_iadd rfl (by omega) (fun x21 tx21 => ?_) | refine w_iiU rfl (fun x21 tx21 => ?_)
              refine w_istore (lo' := [some (.inr (.inr (some 0))), some (.inl r), some (.inl s), some (.inl x3), some (.inl x6), some (.inl x21), some (.inl k), some (.inl x11), some (.inl 0)]) rfl rfl ?_
              refine w_iinc (lo' := fun z9 => [some (.inr (.inr (some 0))), some (.inl r), some (.inl s), some (.inl x3), some (.inl x6), some (.inl x21), some (.inl z9), some (.inl x11), some (.inl 0)]) rfl rfl (fun _ => rfl) (by omega) (fun x22 tx22 => ?_)
              refine w_goto rfl ?_
              exact ih21 (4 - x22.toInt).toNat (by omega) x21 x22 (some (.inl x11)) (some (.inl 0)) rfl  (by omega)
          · skip
            refine w_iload rfl rfl ?_
            refine w_iload rfl rfl ?_
            refine w_ic_ge rfl (fun c23 => ?_) (fun c23 => ?_)
            · skip
              refine w_const rfl ?_
              refine w_istore (lo' := [some (.inr (.inr (some 0))), some (.inl r), some (.inl s), some (.inl x3), some (.inl x6), some (.inl sum), some (.inl k), some (.inl x11), some (.inl 0)]) rfl rfl ?_
              refine w_iload rfl rfl ?_
              refine w_iload rfl rfl ?_
              refine w_if_eq rfl (fun c24 => ?_) (fun c24 => ?_)
              · skip
                refine w_const rfl ?_
                first | refine w_iadd rfl (by omega) (fun x25 tx25 => ?_) | refine w_iiU rfl (fun x25 tx25 => ?_)
                refine w_istore (lo' := [some (.inr (.inr (some 0))), some (.inl r), some (.inl s), some (.inl x3), some (.inl x6), some (.inl x25), some (.inl k), some (.inl x11), some (.inl 0)]) rfl rfl ?_
                refine w_iinc (lo' := fun z9 => [some (.inr (.inr (some 0))), some (.inl r), some (.inl s), some (.inl x3), some (.inl x6), some (.inl x25), some (.inl z9), some (.inl x11), some (.inl 0)]) rfl rfl (fun _ => rfl) (by omega) (fun x26 tx26 => ?_)
                refine w_goto rfl ?_
                exact ih21 (4 - x26.toInt).toNat (by omega) x25 x26 (some (.inl x11)) (some (.inl 0)) rfl  (by omega)
              · skip
                refine w_aload rfl rfl ?_
                refine w_getR (v := .inr (.inr (some 6))) rfl rfl rfl rfl rfl ?_
                refine w_const rfl ?_
                refine w_const rfl ?_
                refine w_iload rfl rfl ?_
                first | refine w_imul rfl (c := 2) rfl (by omega) (fun x27 tx27 => ?_) | refine w_iiU rfl (fun x27 tx27 => ?_)
                first | refine w_iadd rfl (by omega) (fun x28 tx28 => ?_) | refine w_iiU rfl (fun x28 tx28 => ?_)
                refine w_const rfl ?_
                first | refine w_iadd rfl (by omega) (fun x29 tx29 => ?_) | refine w_iiU rfl (fun x29 tx29 => ?_)
                refine m_iald rfl rfl (by omega) (fun x30 ex30 => ?_)
                refine w_goto rfl ?_
                first | refine w_iadd rfl (by omega) (fun x31 tx31 => ?_) | refine w_iiU rfl (fun x31 tx31 => ?_)
                refine w_istore (lo' := [some (.inr (.inr (some 0))), some (.inl r), some (.inl s), some (.inl x3), some (.inl x6), some (.inl x31), some (.inl k), some (.inl x11), some (.inl 0)]) rfl rfl ?_
                refine w_iinc (lo' := fun z9 => [some (.inr (.inr (some 0))), some (.inl r), some (.inl s), some (.inl x3), some (.inl x6), some (.inl x31), some (.inl z9), some (.inl x11), some (.inl 0)]) rfl rfl (fun _ => rfl) (by omega) (fun x32 tx32 => ?_)
                refine w_goto rfl ?_
                exact ih21 (4 - x32.toInt).toNat (by omega) x31 x32 (some (.inl x11)) (some (.inl 0)) rfl  (by omega)
            · skip
              refine w_const rfl ?_
              refine w_goto rfl ?_
              refine w_istore (lo' := [some (.inr (.inr (some 0))), some (.inl r), some (.inl s), some (.inl x3), some (.inl x6), some (.inl sum), some (.inl k), some (.inl x11), some (.inl 1)]) rfl rfl ?_
              refine w_iload rfl rfl ?_
              refine w_iload rfl rfl ?_
              refine w_if_eq rfl (fun c33 => ?_) (fun c33 => ?_)
              · skip
                refine w_const rfl ?_
                first | refine w_iadd rfl (by omega) (fun x34 tx34 => ?_) | refine w_iiU rfl (fun x34 tx34 => ?_)
                refine w_istore (lo' := [some (.inr (.inr (some 0))), some (.inl r), some (.inl s), some (.inl x3), some (.inl x6), some (.inl x34), some (.inl k), some (.inl x11), some (.inl 1)]) rfl rfl ?_
                refine w_iinc (lo' := fun z9 => [some (.inr (.inr (some 0))), some (.inl r), some (.inl s), some (.inl x3), some (.inl x6), some (.inl x34), some (.inl z9), some (.inl x11), some (.inl 1)]) rfl rfl (fun _ => rfl) (by omega) (fun x35 tx35 => ?_)
                refine w_goto rfl ?_
                exact ih21 (4 - x35.toInt).toNat (by omega) x34 x35 (some (.inl x11)) (some (.inl 1)) rfl  (by omega)
              · skip
                refine w_aload rfl rfl ?_
                refine w_getR (v := .inr (.inr (some 6))) rfl rfl rfl rfl rfl ?_
                refine w_const rfl ?_
                refine w_const rfl ?_
                refine w_iload rfl rfl ?_
                first | refine w_imul rfl (c := 2) rfl (by omega) (fun x36 tx36 => ?_) | refine w_iiU rfl (fun x36 tx36 => ?_)
                first | refine w_iadd rfl (by omega) (fun x37 tx37 => ?_) | refine w_iiU rfl (fun x37 tx37 => ?_)
                refine w_const rfl ?_
                first | refine w_iadd rfl (by omega) (fun x38 tx38 => ?_) | refine w_iiU rfl (fun x38 tx38 => ?_)
                refine m_iald rfl rfl (by omega) (fun x39 ex39 => ?_)
                refine w_goto rfl ?_
                first | refine w_iadd rfl (by omega) (fun x40 tx40 => ?_) | refine w_iiU rfl (fun x40 tx40 => ?_)
                refine w_istore (lo' := [some (.inr (.inr (some 0))), some (.inl r), some (.inl s), some (.inl x3), some (.inl x6), some (.inl x40), some (.inl k), some (.inl x11), some (.inl 1)]) rfl rfl ?_
                refine w_iinc (lo' := fun z9 => [some (.inr (.inr (some 0))), some (.inl r), some (.inl s), some (.inl x3), some (.inl x6), some (.inl x40), some (.inl z9), some (.inl x11), some (.inl 1)]) rfl rfl (fun _ => rfl) (by omega) (fun x41 tx41 => ?_)
                refine w_goto rfl ?_
                exact ih21 (4 - x41.toInt).toNat (by omega) x40 x41 (some (.inl x11)) (some (.inl 1)) rfl  (by omega)
        · skip
          refine w_iload rfl rfl ?_
          refine w_iload rfl rfl ?_
          refine w_ic_lt rfl (fun c42 => ?_) (fun c42 => ?_)
          · skip
            refine w_const rfl ?_
            refine w_goto rfl ?_
            refine w_istore (lo' := [some (.inr (.inr (some 0))), some (.inl r), some (.inl s), some (.inl x3), some (.inl x6), some (.inl sum), some (.inl k), some (.inl x11), some (.inl 1)]) rfl rfl ?_
            refine w_iload rfl rfl ?_
            refine w_iload rfl rfl ?_
            refine w_if_eq rfl (fun c43 => ?_) (fun c43 => ?_)
            · skip
              refine w_const rfl ?_
              first | refine w_iadd rfl (by omega) (fun x44 tx44 => ?_) | refine w_iiU rfl (fun x44 tx44 => ?_)
              refine w_istore (lo' := [some (.inr (.inr (some 0))), some (.inl r), some (.inl s), some (.inl x3), some (.inl x6), some (.inl x44), some (.inl k), some (.inl x11), some (.inl 1)]) rfl rfl ?_
              refine w_iinc (lo' := fun z9 => [some (.inr (.inr (some 0))), some (.inl r), some (.inl s), some (.inl x3), some (.inl x6), some (.inl x44), some (.inl z9), some (.inl x11), some (.inl 1)]) rfl rfl (fun _ => rfl) (by omega) (fun x45 tx45 => ?_)
              refine w_goto rfl ?_
              exact ih21 (4 - x45.toInt).toNat (by omega) x44 x45 (some (.inl x11)) (some (.inl 1)) rfl  (by omega)
            · skip
              refine w_aload rfl rfl ?_
              refine w_getR (v := .inr (.inr (some 6))) rfl rfl rfl rfl rfl ?_
              refine w_const rfl ?_
              refine w_const rfl ?_
              refine w_iload rfl rfl ?_
              first | refine w_imul rfl (c := 2) rfl (by omega) (fun x46 tx46 => ?_) | refine w_iiU rfl (fun x46 tx46 => ?_)
              first | refine w_iadd rfl (by omega) (fun x47 tx47 => ?_) | refine w_iiU rfl (fun x47 tx47 => ?_)
              refine w_const rfl ?_
              first | refine w_iadd rfl (by omega) (fun x48 tx48 => ?_) | refine w_iiU rfl (fun x48 tx48 => ?_)
              refine m_iald rfl rfl (by omega) (fun x49 ex49 => ?_)
              refine w_goto rfl ?_
              first | refine w_iadd rfl (by omega) (fun x50 tx50 => ?_) | refine w_iiU rfl (fun x50 tx50 => ?_)
              refine w_istore (lo' := [some (.inr (.inr (some 0))), some (.inl r), some (.inl s), some (.inl x3), some (.inl x6), some (.inl x50), some (.inl k), some (.inl x11), some (.inl 1)]) rfl rfl ?_
              refine w_iinc (lo' := fun z9 => [some (.inr (.inr (some 0))), some (.inl r), some (.inl s), some (.inl x3), some (.inl x6), some (.inl x50), some (.inl z9), some (.inl x11), some (.inl 1)]) rfl rfl (fun _ => rfl) (by omega) (fun x51 tx51 => ?_)
              refine w_goto rfl ?_
              exact ih21 (4 - x51.toInt).toNat (by omega) x50 x51 (some (.inl x11)) (some (.inl 1)) rfl  (by omega)
          · skip
            refine w_iload rfl rfl ?_
            refine w_iload rfl rfl ?_
            refine w_ic_ge rfl (fun c52 => ?_) (fun c52 => ?_)
            · skip
              refine w_const rfl ?_
              refine w_istore (lo' := [some (.inr (.inr (some 0))), some (.inl r), some (.inl s), some (.inl x3), some (.inl x6), some (.inl sum), some (.inl k), some (.inl x11), some (.inl 0)]) rfl rfl ?_
              refine w_iload rfl rfl ?_
              refine w_iload rfl rfl ?_
              refine w_if_eq rfl (fun c53 => ?_) (fun c53 => ?_)
              · skip
                refine w_const rfl ?_
                first | refine w_iadd rfl (by omega) (fun x54 tx54 => ?_) | refine w_iiU rfl (fun x54 tx54 => ?_)
                refine w_istore (lo' := [some (.inr (.inr (some 0))), some (.inl r), some (.inl s), some (.inl x3), some (.inl x6), some (.inl x54), some (.inl k), some (.inl x11), some (.inl 0)]) rfl rfl ?_
                refine w_iinc (lo' := fun z9 => [some (.inr (.inr (some 0))), some (.inl r), some (.inl s), some (.inl x3), some (.inl x6), some (.inl x54), some (.inl z9), some (.inl x11), some (.inl 0)]) rfl rfl (fun _ => rfl) (by omega) (fun x55 tx55 => ?_)
                refine w_goto rfl ?_
                exact ih21 (4 - x55.toInt).toNat (by omega) x54 x55 (some (.inl x11)) (some (.inl 0)) rfl  (by omega)
              · skip
                refine w_aload rfl rfl ?_
                refine w_getR (v := .inr (.inr (some 6))) rfl rfl rfl rfl rfl ?_
                refine w_const rfl ?_
                refine w_const rfl ?_
                refine w_iload rfl rfl ?_
                first | refine w_imul rfl (c := 2) rfl (by omega) (fun x56 tx56 => ?_) | refine w_iiU rfl (fun x56 tx56 => ?_)
                first | refine w_iadd rfl (by omega) (fun x57 tx57 => ?_) | refine w_iiU rfl (fun x57 tx57 => ?_)
                refine w_const rfl ?_
                first | refine w_iadd rfl (by omega) (fun x58 tx58 => ?_) | refine w_iiU rfl (fun x58 tx58 => ?_)
                refine m_iald rfl rfl (by omega) (fun x59 ex59 => ?_)
                refine w_goto rfl ?_
                first | refine w_iadd rfl (by omega) (fun x60 tx60 => ?_) | refine w_iiU rfl (fun x60 tx60 => ?_)
                refine w_istore (lo' := [some (.inr (.inr (some 0))), some (.inl r), some (.inl s), some (.inl x3), some (.inl x6), some (.inl x60), some (.inl k), some (.inl x11), some (.inl 0)]) rfl rfl ?_
                refine w_iinc (lo' := fun z9 => [some (.inr (.inr (some 0))), some (.inl r), some (.inl s), some (.inl x3), some (.inl x6), some (.inl x60), some (.inl z9), some (.inl x11), some (.inl 0)]) rfl rfl (fun _ => rfl) (by omega) (fun x61 tx61 => ?_)
                refine w_goto rfl ?_
                exact ih21 (4 - x61.toInt).toNat (by omega) x60 x61 (some (.inl x11)) (some (.inl 0)) rfl  (by omega)
            · skip
              refine w_iload rfl rfl ?_
              refine w_iload rfl rfl ?_
              refine w_ic_ge rfl (fun c62 => ?_) (fun c62 => ?_)
              · skip
                refine w_const rfl ?_
                refine w_istore (lo' := [some (.inr (.inr (some 0))), some (.inl r), some (.inl s), some (.inl x3), some (.inl x6), some (.inl sum), some (.inl k), some (.inl x11), some (.inl 0)]) rfl rfl ?_
                refine w_iload rfl rfl ?_
                refine w_iload rfl rfl ?_
                refine w_if_eq rfl (fun c63 => ?_) (fun c63 => ?_)
                · skip
                  refine w_const rfl ?_
                  first | refine w_iadd rfl (by omega) (fun x64 tx64 => ?_) | refine w_iiU rfl (fun x64 tx64 => ?_)
                  refine w_istore (lo' := [some (.inr (.inr (some 0))), some (.inl r), some (.inl s), some (.inl x3), some (.inl x6), some (.inl x64), some (.inl k), some (.inl x11), some (.inl 0)]) rfl rfl ?_
                  refine w_iinc (lo' := fun z9 => [some (.inr (.inr (some 0))), some (.inl r), some (.inl s), some (.inl x3), some (.inl x6), some (.inl x64), some (.inl z9), some (.inl x11), some (.inl 0)]) rfl rfl (fun _ => rfl) (by omega) (fun x65 tx65 => ?_)
                  refine w_goto rfl ?_
                  exact ih21 (4 - x65.toInt).toNat (by omega) x64 x65 (some (.inl x11)) (some (.inl 0)) rfl  (by omega)
                · skip
                  refine w_aload rfl rfl ?_
                  refine w_getR (v := .inr (.inr (some 6))) rfl rfl rfl rfl rfl ?_
                  refine w_const rfl ?_
                  refine w_const rfl ?_
                  refine w_iload rfl rfl ?_
                  first | refine w_imul rfl (c := 2) rfl (by omega) (fun x66 tx66 => ?_) | refine w_iiU rfl (fun x66 tx66 => ?_)
                  first | refine w_iadd rfl (by omega) (fun x67 tx67 => ?_) | refine w_iiU rfl (fun x67 tx67 => ?_)
                  refine w_const rfl ?_
                  first | refine w_iadd rfl (by omega) (fun x68 tx68 => ?_) | refine w_iiU rfl (fun x68 tx68 => ?_)
                  refine m_iald rfl rfl (by omega) (fun x69 ex69 => ?_)
                  refine w_goto rfl ?_
                  first | refine w_iadd rfl (by omega) (fun x70 tx70 => ?_) | refine w_iiU rfl (fun x70 tx70 => ?_)
                  refine w_istore (lo' := [some (.inr (.inr (some 0))), some (.inl r), some (.inl s), some (.inl x3), some (.inl x6), some (.inl x70), some (.inl k), some (.inl x11), some (.inl 0)]) rfl rfl ?_
                  refine w_iinc (lo' := fun z9 => [some (.inr (.inr (some 0))), some (.inl r), some (.inl s), some (.inl x3), some (.inl x6), some (.inl x70), some (.inl z9), some (.inl x11), some (.inl 0)]) rfl rfl (fun _ => rfl) (by omega) (fun x71 tx71 => ?_)
                  refine w_goto rfl ?_
                  exact ih21 (4 - x71.toInt).toNat (by omega) x70 x71 (some (.inl x11)) (some (.inl 0)) rfl  (by omega)
              · skip
                refine w_const rfl ?_
                refine w_goto rfl ?_
                refine w_istore (lo' := [some (.inr (.inr (some 0))), some (.inl r), some (.inl s), some (.inl x3), some (.inl x6), some (.inl sum), some (.inl k), some (.inl x11), some (.inl 1)]) rfl rfl ?_
                refine w_iload rfl rfl ?_
                refine w_iload rfl rfl ?_
                refine w_if_eq rfl (fun c72 => ?_) (fun c72 => ?_)
                · skip
                  refine w_const rfl ?_
                  first | refine w_iadd rfl (by omega) (fun x73 tx73 => ?_) | refine w_iiU rfl (fun x73 tx73 => ?_)
                  refine w_istore (lo' := [some (.inr (.inr (some 0))), some (.inl r), some (.inl s), some (.inl x3), some (.inl x6), some (.inl x73), some (.inl k), some (.inl x11), some (.inl 1)]) rfl rfl ?_
                  refine w_iinc (lo' := fun z9 => [some (.inr (.inr (some 0))), some (.inl r), some (.inl s), some (.inl x3), some (.inl x6), some (.inl x73), some (.inl z9), some (.inl x11), some (.inl 1)]) rfl rfl (fun _ => rfl) (by omega) (fun x74 tx74 => ?_)
                  refine w_goto rfl ?_
                  exact ih21 (4 - x74.toInt).toNat (by omega) x73 x74 (some (.inl x11)) (some (.inl 1)) rfl  (by omega)
                · skip
                  refine w_aload rfl rfl ?_
                  refine w_getR (v := .inr (.inr (some 6))) rfl rfl rfl rfl rfl ?_
                  refine w_const rfl ?_
                  refine w_const rfl ?_
                  refine w_iload rfl rfl ?_
                  first | refine w_imul rfl (c := 2) rfl (by omega) (fun x75 tx75 => ?_) | refine w_iiU rfl (fun x75 tx75 => ?_)
                  first | refine w_iadd rfl (by omega) (fun x76 tx76 => ?_) | refine w_iiU rfl (fun x76 tx76 => ?_)
                  refine w_const rfl ?_
                  first | refine w_iadd rfl (by omega) (fun x77 tx77 => ?_) | refine w_iiU rfl (fun x77 tx77 => ?_)
                  refine m_iald rfl rfl (by omega) (fun x78 ex78 => ?_)
                  refine w_goto rfl ?_
                  first | refine w_iadd rfl (by omega) (fun x79 tx79 => ?_) | refine w_iiU rfl (fun x79 tx79 => ?_)
                  refine w_istore (lo' := [some (.inr (.inr (some 0))), some (.inl r), some (.inl s), some (.inl x3), some (.inl x6), some (.inl x79), some (.inl k), some (.inl x11), some (.inl 1)]) rfl rfl ?_
                  refine w_iinc (lo' := fun z9 => [some (.inr (.inr (some 0))), some (.inl r), some (.inl s), some (.inl x3), some (.inl x6), some (.inl x79), some (.inl z9), some (.inl x11), some (.inl 1)]) rfl rfl (fun _ => rfl) (by omega) (fun x80 tx80 => ?_)
                  refine w_goto rfl ?_
                  exact ih21 (4 - x80.toInt).toNat (by omega) x79 x80 (some (.inl x11)) (some (.inl 1)) rfl  (by omega)
  exact loop21 _ 0 0 none none rfl  (by omega)
set_option maxRecDepth 4000 in
theorem s_digOf {K : Nat} (a : Nat → Nat → Int32) (b : Nat → Nat → Int64) (r : Int32) (s : Int32) (hR : RM K a) (hr : 0 ≤ r.toInt ∧ r.toInt < 6) (hs : 0 ≤ s.toInt ∧ s.toInt < 6) : f_call mtM 3 65 [.inr (.inr (some 0)), .inl r, .inl s] (mH a b) (fun v9 h' => h' = mH a b ∧ ∃ x : Int32, v9 = some (.inl x) ∧ True) := by
  refine f_call_of (d0 := 2) rfl (Nat.le_of_ble_eq_true rfl) (fun d hd => ?_)
  show f_wp _ (0, [some (.inr (.inr (some 0))), some (.inl r), some (.inl s), none], [], mH a b) _
  have l3 : (3 : Int32).toInt = 3 := rfl
  refine w_aload rfl rfl ?_
  refine w_iload rfl rfl ?_
  refine w_const rfl ?_
  refine w_invV (rest := []) rfl rfl rfl rfl rfl (Nat.le_of_ble_eq_true rfl) rfl (by omega) (s_riverOf (K := K) a b  r 3  (by omega) (by omega)) (fun v1 h9 hq2 => ?_)
  obtain ⟨rfl, x3, rfl, px3⟩ := hq2
  show f_wp _ (6, [some (.inr (.inr (some 0))), some (.inl r), some (.inl s), none], [.inl x3], mH a b) _
  refine w_aload rfl rfl ?_
  refine w_iload rfl rfl ?_
  refine w_const rfl ?_
  refine w_invV (rest := [.inl x3]) rfl rfl rfl rfl rfl (Nat.le_of_ble_eq_true rfl) rfl (by omega) (s_riverOf (K := K) a b  s 3  (by omega) (by omega)) (fun v4 h9 hq5 => ?_)
  obtain ⟨rfl, x6, rfl, px6⟩ := hq5
  show f_wp _ (12, [some (.inr (.inr (some 0))), some (.inl r), some (.inl s), none], [.inl x6, .inl x3], mH a b) _
  first | refine w_isub rfl (by omega) (fun x7 tx7 => ?_) | refine w_iiU rfl (fun x7 tx7 => ?_)
  refine w_istore (lo' := [some (.inr (.inr (some 0))), some (.inl r), some (.inl s), some (.inl x7)]) rfl rfl ?_
  refine w_iload rfl rfl ?_
  refine w_if_ge rfl (fun c8 => ?_) (fun c8 => ?_)
  · skip
    refine w_iload rfl rfl ?_
    refine w_aload rfl rfl ?_
    refine w_iload rfl rfl ?_
    refine w_iload rfl rfl ?_
    refine w_invV (rest := [.inl x7]) rfl rfl rfl rfl rfl (Nat.le_of_ble_eq_true rfl) rfl (by omega) (s_between (K := K) a b  r s hR (by omega) (by omega)) (fun v9 h9 hq10 => ?_)
    obtain ⟨rfl, x11, rfl, px11⟩ := hq10
    show f_wp _ (30, [some (.inr (.inr (some 0))), some (.inl r), some (.inl s), some (.inl x7)], [.inl x11, .inl x7], mH a b) _
    first | refine w_iadd rfl (by omega) (fun x12 tx12 => ?_) | refine w_iiU rfl (fun x12 tx12 => ?_)
    exact wp_iret (z := false) rfl (fun h9 => by cases h9) ⟨rfl, ⟨_, rfl, trivial⟩⟩
  · skip
    refine w_iload rfl rfl ?_
    refine w_i1U rfl (fun x13 tx13 => ?_)
    refine w_goto rfl ?_
    refine w_aload rfl rfl ?_
    refine w_iload rfl rfl ?_
    refine w_iload rfl rfl ?_
    refine w_invV (rest := [.inl x13]) rfl rfl rfl rfl rfl (Nat.le_of_ble_eq_true rfl) rfl (by omega) (s_between (K := K) a b  r s hR (by omega) (by omega)) (fun v14 h9 hq15 => ?_)
    obtain ⟨rfl, x16, rfl, px16⟩ := hq15
    show f_wp _ (30, [some (.inr (.inr (some 0))), some (.inl r), some (.inl s), some (.inl x7)], [.inl x16, .inl x13], mH a b) _
    first | refine w_iadd rfl (by omega) (fun x17 tx17 => ?_) | refine w_iiU rfl (fun x17 tx17 => ?_)
    exact wp_iret (z := false) rfl (fun h9 => by cases h9) ⟨rfl, ⟨_, rfl, trivial⟩⟩
set_option maxRecDepth 4000 in
theorem s_nearOf {K : Nat} (a : Nat → Nat → Int32) (b : Nat → Nat → Int64) (r : Int32) (s : Int32) (hR : RM K a) (hr : 0 ≤ r.toInt ∧ r.toInt < 6) (hs : 0 ≤ s.toInt ∧ s.toInt < 6) : f_call mtM 2 62 [.inr (.inr (some 0)), .inl r, .inl s] (mH a b) (fun v9 h' => ∃ (a' : Nat → Nat → Int32), h' = mH a' b ∧ RM K a' ∧ (FR [17] a a' ∧ True) ∧ ∃ x : Int32, v9 = some (.inl x) ∧ True) := by
  refine f_call_of (d0 := 1) rfl (Nat.le_of_ble_eq_true rfl) (fun d hd => ?_)
  show f_wp _ (0, [some (.inr (.inr (some 0))), some (.inl r), some (.inl s), none, none, none, none], [], mH a b) _
  have l0 : (0 : Int32).toInt = 0 := rfl
  have l1 : (1 : Int32).toInt = 1 := rfl
  have l6 : (6 : Int32).toInt = 6 := rfl
  have l12 : (12 : Int32).toInt = 12 := rfl
  have l36 : (36 : Int32).toInt = 36 := rfl
  have l99 : (99 : Int32).toInt = 99 := rfl
  refine w_const rfl ?_
  refine w_istore (lo' := [some (.inr (.inr (some 0))), some (.inl r), some (.inl s), some (.inl 0), none, none, none]) rfl rfl ?_
  have loop2 : ∀ (ms9 : Nat) (k : Int32) (a2 : Nat → Nat → Int32) (o4_2 : Option f_V) (o5_2 : Option f_V) (o6_2 : Option f_V), (36 - k.toInt).toNat = ms9 → RM K a2 → FR [17] a a2 → (0 ≤ k.toInt ∧ k.toInt ≤ 36) → f_wp (f_code (t_X13_nearOf (f_ev mtM d))) (2, [some (.inr (.inr (some 0))), some (.inl r), some (.inl s), some (.inl k), o4_2, o5_2, o6_2], [], mH a2 b) (fun v9 h' => ∃ (a' : Nat → Nat → Int32), h' = mH a' b ∧ RM K a' ∧ (FR [17] a a' ∧ True) ∧ ∃ x : Int32, v9 = some (.inl x) ∧ True) := by
    intro ms9
    induction ms9 using Nat.strongRecOn with
    | _ ms2 ih2 =>
      intro k a2 o4_2 o5_2 o6_2 hm2 hR2 hF2 hk
      refine w_iload rfl rfl ?_
      refine w_const rfl ?_
      refine w_ic_ge rfl (fun c1 => ?_) (fun c1 => ?_)
      · skip
        refine w_const rfl ?_
        refine w_istore (lo' := [some (.inr (.inr (some 0))), some (.inl r), some (.inl s), some (.inl 0), o4_2, o5_2, o6_2]) rfl rfl ?_
        have loop107 : ∀ (ms9 : Nat) (m : Int32) (a107 : Nat → Nat → Int32) (o4_107 : Option f_V) (o5_107 : Option f_V), (6 - m.toInt).toNat = ms9 → RM K a107 → FR [17] a a107 → (0 ≤ m.toInt ∧ m.toInt ≤ 6) → f_wp (f_code (t_X13_nearOf (f_ev mtM d))) (107, [some (.inr (.inr (some 0))), some (.inl r), some (.inl s), some (.inl m), o4_107, o5_107, o6_2], [], mH a107 b) (fun v9 h' => ∃ (a' : Nat → Nat → Int32), h' = mH a' b ∧ RM K a' ∧ (FR [17] a a' ∧ True) ∧ ∃ x : Int32, v9 = some (.inl x) ∧ True) := by
          intro ms9
          induction ms9 using Nat.strongRecOn with
          | _ ms107 ih107 =>
            intro m a107 o4_107 o5_107 hm107 hR107 hF107 hm
            refine w_iload rfl rfl ?_
            refine w_const rfl ?_
            refine w_ic_ge rfl (fun c2 => ?_) (fun c2 => ?_)
            · skip
              refine w_aload rfl rfl ?_
              refine w_getR (v := .inr (.inr (some 17))) rfl rfl rfl rfl rfl ?_
              refine w_const rfl ?_
              refine w_iload rfl rfl ?_
              first | refine w_imul rfl (c := 6) rfl (by omega) (fun x3 tx3 => ?_) | refine w_iiU rfl (fun x3 tx3 => ?_)
              refine w_iload rfl rfl ?_
              first | refine w_iadd rfl (by omega) (fun x4 tx4 => ?_) | refine w_iiU rfl (fun x4 tx4 => ?_)
              refine m_iald rfl rfl (by omega) (fun x5 ex5 => ?_)
              exact wp_iret (z := false) rfl (fun h9 => by cases h9) ⟨a107, rfl, hR107, ⟨hF107, trivial⟩, ⟨_, rfl, trivial⟩⟩
            · skip
              refine w_const rfl ?_
              refine w_istore (lo' := [some (.inr (.inr (some 0))), some (.inl r), some (.inl s), some (.inl m), some (.inl 0), o5_107, o6_2]) rfl rfl ?_
              have loop116 : ∀ (ms9 : Nat) (i : Int32) (a116 : Nat → Nat → Int32) (o5_116 : Option f_V), (36 - i.toInt).toNat = ms9 → RM K a116 → FR [17] a a116 → (0 ≤ i.toInt ∧ i.toInt ≤ 36) → f_wp (f_code (t_X13_nearOf (f_ev mtM d))) (116, [some (.inr (.inr (some 0))), some (.inl r), some (.inl s), some (.inl m), some (.inl i), o5_116, o6_2], [], mH a116 b) (fun v9 h' => ∃ (a' : Nat → Nat → Int32), h' = mH a' b ∧ RM K a' ∧ (FR [17] a a' ∧ True) ∧ ∃ x : Int32, v9 = some (.inl x) ∧ True) := by
                intro ms9
                induction ms9 using Nat.strongRecOn with
                | _ ms116 ih116 =>
                  intro i a116 o5_116 hm116 hR116 hF116 hi
                  refine w_iload rfl rfl ?_
                  refine w_const rfl ?_
                  refine w_ic_ge rfl (fun c6 => ?_) (fun c6 => ?_)
                  · skip
                    refine w_iinc (lo' := fun z9 => [some (.inr (.inr (some 0))), some (.inl r), some (.inl s), some (.inl z9), some (.inl i), o5_116, o6_2]) rfl rfl (fun _ => rfl) (by omega) (fun x7 tx7 => ?_)
                    refine w_goto rfl ?_
                    exact ih107 (6 - x7.toInt).toNat (by omega) x7 a116 (some (.inl i)) o5_116 rfl hR116 (hF116) (by omega)
                  · skip
                    refine w_aload rfl rfl ?_
                    refine w_getR (v := .inr (.inr (some 17))) rfl rfl rfl rfl rfl ?_
                    refine w_iload rfl rfl ?_
                    refine w_const rfl ?_
                    refine w_idiv (c := 6) rfl rfl (by decide) (by omega) (fun x8 tx8 => ?_)
                    refine w_const rfl ?_
                    first | refine w_imulR rfl (c := 6) rfl (by omega) (fun x9 tx9 => ?_) | refine w_iiU rfl (fun x9 tx9 => ?_)
                    refine w_iload rfl rfl ?_
                    first | refine w_iadd rfl (by omega) (fun x10 tx10 => ?_) | refine w_iiU rfl (fun x10 tx10 => ?_)
                    refine m_iald rfl rfl (by omega) (fun x11 ex11 => ?_)
                    refine w_aload rfl rfl ?_
                    refine w_getR (v := .inr (.inr (some 17))) rfl rfl rfl rfl rfl ?_
                    refine w_const rfl ?_
                    refine w_iload rfl rfl ?_
                    first | refine w_imul rfl (c := 6) rfl (by omega) (fun x12 tx12 => ?_) | refine w_iiU rfl (fun x12 tx12 => ?_)
                    refine w_iload rfl rfl ?_
                    refine w_const rfl ?_
                    refine w_irem (c := 6) rfl rfl (by decide) (by omega) (fun x13 tx13 => ?_)
                    first | refine w_iadd rfl (by omega) (fun x14 tx14 => ?_) | refine w_iiU rfl (fun x14 tx14 => ?_)
                    refine m_iald rfl rfl (by omega) (fun x15 ex15 => ?_)
                    first | refine w_iadd rfl (by omega) (fun x16 tx16 => ?_) | refine w_iiU rfl (fun x16 tx16 => ?_)
                    refine w_istore (lo' := [some (.inr (.inr (some 0))), some (.inl r), some (.inl s), some (.inl m), some (.inl i), some (.inl x16), o6_2]) rfl rfl ?_
                    refine w_aload rfl rfl ?_
                    refine w_getR (v := .inr (.inr (some 17))) rfl rfl rfl rfl rfl ?_
                    refine w_iload rfl rfl ?_
                    refine w_iload rfl rfl ?_
                    refine w_aload rfl rfl ?_
                    refine w_getR (v := .inr (.inr (some 17))) rfl rfl rfl rfl rfl ?_
                    refine w_iload rfl rfl ?_
                    refine m_iald rfl rfl (by omega) (fun x17 ex17 => ?_)
                    refine w_ic_ge rfl (fun c18 => ?_) (fun c18 => ?_)
                    · skip
                      refine w_aload rfl rfl ?_
                      refine w_getR (v := .inr (.inr (some 17))) rfl rfl rfl rfl rfl ?_
                      refine w_iload rfl rfl ?_
                      refine m_iald rfl rfl (by omega) (fun x19 ex19 => ?_)
                      refine m_iast rfl rfl (by omega) (fun a20 ea20 => ?_)
                      have ha20 : RM K a20 := RM.up hR116 ea20 ⟨ti_lo _, ti_hi _⟩
                      refine w_iinc (lo' := fun z9 => [some (.inr (.inr (some 0))), some (.inl r), some (.inl s), some (.inl m), some (.inl z9), some (.inl x16), o6_2]) rfl rfl (fun _ => rfl) (by omega) (fun x21 tx21 => ?_)
                      refine w_goto rfl ?_
                      exact ih116 (36 - x21.toInt).toNat (by omega) x21 a20 (some (.inl x16)) rfl ha20 (FR.up (hF116) (by decide) ea20) (by omega)
                    · skip
                      refine w_iload rfl rfl ?_
                      refine w_goto rfl ?_
                      refine m_iast rfl rfl (by omega) (fun a22 ea22 => ?_)
                      have ha22 : RM K a22 := RM.up hR116 ea22 ⟨ti_lo _, ti_hi _⟩
                      refine w_iinc (lo' := fun z9 => [some (.inr (.inr (some 0))), some (.inl r), some (.inl s), some (.inl m), some (.inl z9), some (.inl x16), o6_2]) rfl rfl (fun _ => rfl) (by omega) (fun x23 tx23 => ?_)
                      refine w_goto rfl ?_
                      exact ih116 (36 - x23.toInt).toNat (by omega) x23 a22 (some (.inl x16)) rfl ha22 (FR.up (hF116) (by decide) ea22) (by omega)
              exact loop116 _ 0 a107 o5_107 rfl hR107 (hF107) (by omega)
        exact loop107 _ 0 a2 o4_2 o5_2 rfl hR2 (hF2) (by omega)
      · skip
        refine w_iload rfl rfl ?_
        refine w_const rfl ?_
        refine w_idiv (c := 6) rfl rfl (by decide) (by omega) (fun x24 tx24 => ?_)
        refine w_istore (lo' := [some (.inr (.inr (some 0))), some (.inl r), some (.inl s), some (.inl k), some (.inl x24), o5_2, o6_2]) rfl rfl ?_
        refine w_iload rfl rfl ?_
        refine w_const rfl ?_
        refine w_irem (c := 6) rfl rfl (by decide) (by omega) (fun x25 tx25 => ?_)
        refine w_istore (lo' := [some (.inr (.inr (some 0))), some (.inl r), some (.inl s), some (.inl k), some (.inl x24), some (.inl x25), o6_2]) rfl rfl ?_
        refine w_iload rfl rfl ?_
        refine w_aload rfl rfl ?_
        refine w_invV (rest := [.inl x24]) rfl rfl rfl rfl rfl (Nat.le_of_ble_eq_true rfl) rfl (by omega) (s_rivers (K := K) a2 b   hR2 ) (fun v26 h9 hq27 => ?_)
        obtain ⟨rfl, x28, rfl, px28⟩ := hq27
        show f_wp _ (26, [some (.inr (.inr (some 0))), some (.inl r), some (.inl s), some (.inl k), some (.inl x24), some (.inl x25), o6_2], [.inl x28, .inl x24], mH a2 b) _
        refine w_ic_ge rfl (fun c29 => ?_) (fun c29 => ?_)
        · skip
          refine w_const rfl ?_
          refine w_istore (lo' := [some (.inr (.inr (some 0))), some (.inl r), some (.inl s), some (.inl k), some (.inl x24), some (.inl x25), some (.inl 0)]) rfl rfl ?_
          refine w_aload rfl rfl ?_
          refine w_getR (v := .inr (.inr (some 17))) rfl rfl rfl rfl rfl ?_
          refine w_iload rfl rfl ?_
          refine w_iload rfl rfl ?_
          refine w_iload rfl rfl ?_
          refine w_ic_ne rfl (fun c30 => ?_) (fun c30 => ?_)
          · skip
            refine w_const rfl ?_
            refine w_goto rfl ?_
            refine m_iast rfl rfl (by omega) (fun a31 ea31 => ?_)
            have ha31 : RM K a31 := RM.up hR2 ea31 ⟨ti_lo _, ti_hi _⟩
            refine w_iinc (lo' := fun z9 => [some (.inr (.inr (some 0))), some (.inl r), some (.inl s), some (.inl z9), some (.inl x24), some (.inl x25), some (.inl 0)]) rfl rfl (fun _ => rfl) (by omega) (fun x32 tx32 => ?_)
            refine w_goto rfl ?_
            exact ih2 (36 - x32.toInt).toNat (by omega) x32 a31 (some (.inl x24)) (some (.inl x25)) (some (.inl 0)) rfl ha31 (FR.up (hF2) (by decide) ea31) (by omega)
          · skip
            refine w_iload rfl rfl ?_
            refine w_if_eq rfl (fun c33 => ?_) (fun c33 => ?_)
            · skip
              refine w_const rfl ?_
              refine m_iast rfl rfl (by omega) (fun a34 ea34 => ?_)
              have ha34 : RM K a34 := RM.up hR2 ea34 ⟨ti_lo _, ti_hi _⟩
              refine w_iinc (lo' := fun z9 => [some (.inr (.inr (some 0))), some (.inl r), some (.inl s), some (.inl z9), some (.inl x24), some (.inl x25), some (.inl 0)]) rfl rfl (fun _ => rfl) (by omega) (fun x35 tx35 => ?_)
              refine w_goto rfl ?_
              exact ih2 (36 - x35.toInt).toNat (by omega) x35 a34 (some (.inl x24)) (some (.inl x25)) (some (.inl 0)) rfl ha34 (FR.up (hF2) (by decide) ea34) (by omega)
            · skip
              refine w_const rfl ?_
              refine w_goto rfl ?_
              refine m_iast rfl rfl (by omega) (fun a36 ea36 => ?_)
              have ha36 : RM K a36 := RM.up hR2 ea36 ⟨ti_lo _, ti_hi _⟩
              refine w_iinc (lo' := fun z9 => [some (.inr (.inr (some 0))), some (.inl r), some (.inl s), some (.inl z9), some (.inl x24), some (.inl x25), some (.inl 0)]) rfl rfl (fun _ => rfl) (by omega) (fun x37 tx37 => ?_)
              refine w_goto rfl ?_
              exact ih2 (36 - x37.toInt).toNat (by omega) x37 a36 (some (.inl x24)) (some (.inl x25)) (some (.inl 0)) rfl ha36 (FR.up (hF2) (by decide) ea36) (by omega)
        · skip
          refine w_iload rfl rfl ?_
          refine w_aload rfl rfl ?_
          refine w_invV (rest := [.inl x25]) rfl rfl rfl rfl rfl (Nat.le_of_ble_eq_true rfl) rfl (by omega) (s_rivers (K := K) a2 b   hR2 ) (fun v38 h9 hq39 => ?_)
          obtain ⟨rfl, x40, rfl, px40⟩ := hq39
          show f_wp _ (35, [some (.inr (.inr (some 0))), some (.inl r), some (.inl s), some (.inl k), some (.inl x24), some (.inl x25), o6_2], [.inl x40, .inl x25], mH a2 b) _
          refine w_ic_ge rfl (fun c41 => ?_) (fun c41 => ?_)
          · skip
            refine w_const rfl ?_
            refine w_istore (lo' := [some (.inr (.inr (some 0))), some (.inl r), some (.inl s), some (.inl k), some (.inl x24), some (.inl x25), some (.inl 0)]) rfl rfl ?_
            refine w_aload rfl rfl ?_
            refine w_getR (v := .inr (.inr (some 17))) rfl rfl rfl rfl rfl ?_
            refine w_iload rfl rfl ?_
            refine w_iload rfl rfl ?_
            refine w_iload rfl rfl ?_
            refine w_ic_ne rfl (fun c42 => ?_) (fun c42 => ?_)
            · skip
              refine w_const rfl ?_
              refine w_goto rfl ?_
              refine m_iast rfl rfl (by omega) (fun a43 ea43 => ?_)
              have ha43 : RM K a43 := RM.up hR2 ea43 ⟨ti_lo _, ti_hi _⟩
              refine w_iinc (lo' := fun z9 => [some (.inr (.inr (some 0))), some (.inl r), some (.inl s), some (.inl z9), some (.inl x24), some (.inl x25), some (.inl 0)]) rfl rfl (fun _ => rfl) (by omega) (fun x44 tx44 => ?_)
              refine w_goto rfl ?_
              exact ih2 (36 - x44.toInt).toNat (by omega) x44 a43 (some (.inl x24)) (some (.inl x25)) (some (.inl 0)) rfl ha43 (FR.up (hF2) (by decide) ea43) (by omega)
            · skip
              refine w_iload rfl rfl ?_
              refine w_if_eq rfl (fun c45 => ?_) (fun c45 => ?_)
              · skip
                refine w_const rfl ?_
                refine m_iast rfl rfl (by omega) (fun a46 ea46 => ?_)
                have ha46 : RM K a46 := RM.up hR2 ea46 ⟨ti_lo _, ti_hi _⟩
                refine w_iinc (lo' := fun z9 => [some (.inr (.inr (some 0))), some (.inl r), some (.inl s), some (.inl z9), some (.inl x24), some (.inl x25), some (.inl 0)]) rfl rfl (fun _ => rfl) (by omega) (fun x47 tx47 => ?_)
                refine w_goto rfl ?_
                exact ih2 (36 - x47.toInt).toNat (by omega) x47 a46 (some (.inl x24)) (some (.inl x25)) (some (.inl 0)) rfl ha46 (FR.up (hF2) (by decide) ea46) (by omega)
              · skip
                refine w_const rfl ?_
                refine w_goto rfl ?_
                refine m_iast rfl rfl (by omega) (fun a48 ea48 => ?_)
                have ha48 : RM K a48 := RM.up hR2 ea48 ⟨ti_lo _, ti_hi _⟩
                refine w_iinc (lo' := fun z9 => [some (.inr (.inr (some 0))), some (.inl r), some (.inl s), some (.inl z9), some (.inl x24), some (.inl x25), some (.inl 0)]) rfl rfl (fun _ => rfl) (by omega) (fun x49 tx49 => ?_)
                refine w_goto rfl ?_
                exact ih2 (36 - x49.toInt).toNat (by omega) x49 a48 (some (.inl x24)) (some (.inl x25)) (some (.inl 0)) rfl ha48 (FR.up (hF2) (by decide) ea48) (by omega)
          · skip
            refine w_aload rfl rfl ?_
            refine w_iload rfl rfl ?_
            refine w_const rfl ?_
            refine w_invV (rest := []) rfl rfl rfl rfl rfl (Nat.le_of_ble_eq_true rfl) rfl (by omega) (s_riverOf (K := K) a2 b  x24 12  (by omega) (by omega)) (fun v50 h9 hq51 => ?_)
            obtain ⟨rfl, x52, rfl, px52⟩ := hq51
            show f_wp _ (46, [some (.inr (.inr (some 0))), some (.inl r), some (.inl s), some (.inl k), some (.inl x24), some (.inl x25), o6_2], [.inl x52], mH a2 b) _
            refine w_iload rfl rfl ?_
            refine w_ic_eq rfl (fun c53 => ?_) (fun c53 => ?_)
            · skip
              refine w_const rfl ?_
              refine w_goto rfl ?_
              refine w_istore (lo' := [some (.inr (.inr (some 0))), some (.inl r), some (.inl s), some (.inl k), some (.inl x24), some (.inl x25), some (.inl 1)]) rfl rfl ?_
              refine w_aload rfl rfl ?_
              refine w_getR (v := .inr (.inr (some 17))) rfl rfl rfl rfl rfl ?_
              refine w_iload rfl rfl ?_
              refine w_iload rfl rfl ?_
              refine w_iload rfl rfl ?_
              refine w_ic_ne rfl (fun c54 => ?_) (fun c54 => ?_)
              · skip
                refine w_const rfl ?_
                refine w_goto rfl ?_
                refine m_iast rfl rfl (by omega) (fun a55 ea55 => ?_)
                have ha55 : RM K a55 := RM.up hR2 ea55 ⟨ti_lo _, ti_hi _⟩
                refine w_iinc (lo' := fun z9 => [some (.inr (.inr (some 0))), some (.inl r), some (.inl s), some (.inl z9), some (.inl x24), some (.inl x25), some (.inl 1)]) rfl rfl (fun _ => rfl) (by omega) (fun x56 tx56 => ?_)
                refine w_goto rfl ?_
                exact ih2 (36 - x56.toInt).toNat (by omega) x56 a55 (some (.inl x24)) (some (.inl x25)) (some (.inl 1)) rfl ha55 (FR.up (hF2) (by decide) ea55) (by omega)
              · skip
                refine w_iload rfl rfl ?_
                refine w_if_eq rfl (fun c57 => ?_) (fun c57 => ?_)
                · skip
                  refine w_const rfl ?_
                  refine m_iast rfl rfl (by omega) (fun a58 ea58 => ?_)
                  have ha58 : RM K a58 := RM.up hR2 ea58 ⟨ti_lo _, ti_hi _⟩
                  refine w_iinc (lo' := fun z9 => [some (.inr (.inr (some 0))), some (.inl r), some (.inl s), some (.inl z9), some (.inl x24), some (.inl x25), some (.inl 1)]) rfl rfl (fun _ => rfl) (by omega) (fun x59 tx59 => ?_)
                  refine w_goto rfl ?_
                  exact ih2 (36 - x59.toInt).toNat (by omega) x59 a58 (some (.inl x24)) (some (.inl x25)) (some (.inl 1)) rfl ha58 (FR.up (hF2) (by decide) ea58) (by omega)
                · skip
                  refine w_const rfl ?_
                  refine w_goto rfl ?_
                  refine m_iast rfl rfl (by omega) (fun a60 ea60 => ?_)
                  have ha60 : RM K a60 := RM.up hR2 ea60 ⟨ti_lo _, ti_hi _⟩
                  refine w_iinc (lo' := fun z9 => [some (.inr (.inr (some 0))), some (.inl r), some (.inl s), some (.inl z9), some (.inl x24), some (.inl x25), some (.inl 1)]) rfl rfl (fun _ => rfl) (by omega) (fun x61 tx61 => ?_)
                  refine w_goto rfl ?_
                  exact ih2 (36 - x61.toInt).toNat (by omega) x61 a60 (some (.inl x24)) (some (.inl x25)) (some (.inl 1)) rfl ha60 (FR.up (hF2) (by decide) ea60) (by omega)
            · skip
              refine w_aload rfl rfl ?_
              refine w_iload rfl rfl ?_
              refine w_const rfl ?_
              refine w_invV (rest := []) rfl rfl rfl rfl rfl (Nat.le_of_ble_eq_true rfl) rfl (by omega) (s_riverOf (K := K) a2 b  x25 12  (by omega) (by omega)) (fun v62 h9 hq63 => ?_)
              obtain ⟨rfl, x64, rfl, px64⟩ := hq63
              show f_wp _ (59, [some (.inr (.inr (some 0))), some (.inl r), some (.inl s), some (.inl k), some (.inl x24), some (.inl x25), o6_2], [.inl x64], mH a2 b) _
              refine w_iload rfl rfl ?_
              refine w_ic_ne rfl (fun c65 => ?_) (fun c65 => ?_)
              · skip
                refine w_const rfl ?_
                refine w_goto rfl ?_
                refine w_istore (lo' := [some (.inr (.inr (some 0))), some (.inl r), some (.inl s), some (.inl k), some (.inl x24), some (.inl x25), some (.inl 1)]) rfl rfl ?_
                refine w_aload rfl rfl ?_
                refine w_getR (v := .inr (.inr (some 17))) rfl rfl rfl rfl rfl ?_
                refine w_iload rfl rfl ?_
                refine w_iload rfl rfl ?_
                refine w_iload rfl rfl ?_
                refine w_ic_ne rfl (fun c66 => ?_) (fun c66 => ?_)
                · skip
                  refine w_const rfl ?_
                  refine w_goto rfl ?_
                  refine m_iast rfl rfl (by omega) (fun a67 ea67 => ?_)
                  have ha67 : RM K a67 := RM.up hR2 ea67 ⟨ti_lo _, ti_hi _⟩
                  refine w_iinc (lo' := fun z9 => [some (.inr (.inr (some 0))), some (.inl r), some (.inl s), some (.inl z9), some (.inl x24), some (.inl x25), some (.inl 1)]) rfl rfl (fun _ => rfl) (by omega) (fun x68 tx68 => ?_)
                  refine w_goto rfl ?_
                  exact ih2 (36 - x68.toInt).toNat (by omega) x68 a67 (some (.inl x24)) (some (.inl x25)) (some (.inl 1)) rfl ha67 (FR.up (hF2) (by decide) ea67) (by omega)
                · skip
                  refine w_iload rfl rfl ?_
                  refine w_if_eq rfl (fun c69 => ?_) (fun c69 => ?_)
                  · skip
                    refine w_const rfl ?_
                    refine m_iast rfl rfl (by omega) (fun a70 ea70 => ?_)
                    have ha70 : RM K a70 := RM.up hR2 ea70 ⟨ti_lo _, ti_hi _⟩
                    refine w_iinc (lo' := fun z9 => [some (.inr (.inr (some 0))), some (.inl r), some (.inl s), some (.inl z9), some (.inl x24), some (.inl x25), some (.inl 1)]) rfl rfl (fun _ => rfl) (by omega) (fun x71 tx71 => ?_)
                    refine w_goto rfl ?_
                    exact ih2 (36 - x71.toInt).toNat (by omega) x71 a70 (some (.inl x24)) (some (.inl x25)) (some (.inl 1)) rfl ha70 (FR.up (hF2) (by decide) ea70) (by omega)
                  · skip
                    refine w_const rfl ?_
                    refine w_goto rfl ?_
                    refine m_iast rfl rfl (by omega) (fun a72 ea72 => ?_)
                    have ha72 : RM K a72 := RM.up hR2 ea72 ⟨ti_lo _, ti_hi _⟩
                    refine w_iinc (lo' := fun z9 => [some (.inr (.inr (some 0))), some (.inl r), some (.inl s), some (.inl z9), some (.inl x24), some (.inl x25), some (.inl 1)]) rfl rfl (fun _ => rfl) (by omega) (fun x73 tx73 => ?_)
                    refine w_goto rfl ?_
                    exact ih2 (36 - x73.toInt).toNat (by omega) x73 a72 (some (.inl x24)) (some (.inl x25)) (some (.inl 1)) rfl ha72 (FR.up (hF2) (by decide) ea72) (by omega)
              · skip
                refine w_const rfl ?_
                refine w_istore (lo' := [some (.inr (.inr (some 0))), some (.inl r), some (.inl s), some (.inl k), some (.inl x24), some (.inl x25), some (.inl 0)]) rfl rfl ?_
                refine w_aload rfl rfl ?_
                refine w_getR (v := .inr (.inr (some 17))) rfl rfl rfl rfl rfl ?_
                refine w_iload rfl rfl ?_
                refine w_iload rfl rfl ?_
                refine w_iload rfl rfl ?_
                refine w_ic_ne rfl (fun c74 => ?_) (fun c74 => ?_)
                · skip
                  refine w_const rfl ?_
                  refine w_goto rfl ?_
                  refine m_iast rfl rfl (by omega) (fun a75 ea75 => ?_)
                  have ha75 : RM K a75 := RM.up hR2 ea75 ⟨ti_lo _, ti_hi _⟩
                  refine w_iinc (lo' := fun z9 => [some (.inr (.inr (some 0))), some (.inl r), some (.inl s), some (.inl z9), some (.inl x24), some (.inl x25), some (.inl 0)]) rfl rfl (fun _ => rfl) (by omega) (fun x76 tx76 => ?_)
                  refine w_goto rfl ?_
                  exact ih2 (36 - x76.toInt).toNat (by omega) x76 a75 (some (.inl x24)) (some (.inl x25)) (some (.inl 0)) rfl ha75 (FR.up (hF2) (by decide) ea75) (by omega)
                · skip
                  refine w_iload rfl rfl ?_
                  refine w_if_eq rfl (fun c77 => ?_) (fun c77 => ?_)
                  · skip
                    refine w_const rfl ?_
                    refine m_iast rfl rfl (by omega) (fun a78 ea78 => ?_)
                    have ha78 : RM K a78 := RM.up hR2 ea78 ⟨ti_lo _, ti_hi _⟩
                    refine w_iinc (lo' := fun z9 => [some (.inr (.inr (some 0))), some (.inl r), some (.inl s), some (.inl z9), some (.inl x24), some (.inl x25), some (.inl 0)]) rfl rfl (fun _ => rfl) (by omega) (fun x79 tx79 => ?_)
                    refine w_goto rfl ?_
                    exact ih2 (36 - x79.toInt).toNat (by omega) x79 a78 (some (.inl x24)) (some (.inl x25)) (some (.inl 0)) rfl ha78 (FR.up (hF2) (by decide) ea78) (by omega)
                  · skip
                    refine w_const rfl ?_
                    refine w_goto rfl ?_
                    refine m_iast rfl rfl (by omega) (fun a80 ea80 => ?_)
                    have ha80 : RM K a80 := RM.up hR2 ea80 ⟨ti_lo _, ti_hi _⟩
                    refine w_iinc (lo' := fun z9 => [some (.inr (.inr (some 0))), some (.inl r), some (.inl s), some (.inl z9), some (.inl x24), some (.inl x25), some (.inl 0)]) rfl rfl (fun _ => rfl) (by omega) (fun x81 tx81 => ?_)
                    refine w_goto rfl ?_
                    exact ih2 (36 - x81.toInt).toNat (by omega) x81 a80 (some (.inl x24)) (some (.inl x25)) (some (.inl 0)) rfl ha80 (FR.up (hF2) (by decide) ea80) (by omega)
  exact loop2 _ 0 a none none none rfl hR (FR.rf) (by omega)
set_option maxRecDepth 4000 in
theorem s_weddings {K : Nat} (a : Nat → Nat → Int32) (b : Nat → Nat → Int64) (q : Int32) (hR : RM K a) (hb : 0 ≤ q.toInt ∧ q.toInt ≤ 1260 ∧ q.toInt % 60 = 0) : f_call mtM 2 78 [.inr (.inr (some 0)), .inl q] (mH a b) (fun v9 h' => h' = mH a b ∧ ∃ x : Int32, v9 = some (.inl x) ∧ (0 ≤ x.toInt ∧ x.toInt ≤ 6)) := by
  refine f_call_of (d0 := 1) rfl (Nat.le_of_ble_eq_true rfl) (fun d hd => ?_)
  show f_wp _ (0, [some (.inr (.inr (some 0))), some (.inl q), none, none], [], mH a b) _
  have l0 : (0 : Int32).toInt = 0 := rfl
  have l1 : (1 : Int32).toInt = 1 := rfl
  refine w_const rfl ?_
  refine w_istore (lo' := [some (.inr (.inr (some 0))), some (.inl q), some (.inl 0), none]) rfl rfl ?_
  refine w_const rfl ?_
  refine w_istore (lo' := [some (.inr (.inr (some 0))), some (.inl q), some (.inl 0), some (.inl 0)]) rfl rfl ?_
  have loop4 : ∀ (ms9 : Nat) (n : Int32) (r : Int32) , (6 - r.toInt).toNat = ms9 → (0 ≤ r.toInt ∧ r.toInt ≤ 6) → (0 ≤ n.toInt ∧ n.toInt ≤ r.toInt) → f_wp (f_code (t_X13_weddings (f_ev mtM d))) (4, [some (.inr (.inr (some 0))), some (.inl q), some (.inl n), some (.inl r)], [], mH a b) (fun v9 h' => h' = mH a b ∧ ∃ x : Int32, v9 = some (.inl x) ∧ (0 ≤ x.toInt ∧ x.toInt ≤ 6)) := by
    intro ms9
    induction ms9 using Nat.strongRecOn with
    | _ ms4 ih4 =>
      intro n r  hm4 hr hn
      refine w_iload rfl rfl ?_
      refine w_aload rfl rfl ?_
      refine w_invV (rest := [.inl r]) rfl rfl rfl rfl rfl (Nat.le_of_ble_eq_true rfl) rfl (by omega) (s_rivers (K := K) a b   hR ) (fun v1 h9 hq2 => ?_)
      obtain ⟨rfl, x3, rfl, px3⟩ := hq2
      show f_wp _ (9, [some (.inr (.inr (some 0))), some (.inl q), some (.inl n), some (.inl r)], [.inl x3, .inl r], mH a b) _
      refine w_ic_ge rfl (fun c4 => ?_) (fun c4 => ?_)
      · skip
        refine w_iload rfl rfl ?_
        exact wp_iret (z := false) rfl (fun h9 => by cases h9) ⟨rfl, ⟨_, rfl, by omega⟩⟩
      · skip
        refine w_iload rfl rfl ?_
        refine w_aload rfl rfl ?_
        refine w_iload rfl rfl ?_
        refine w_iload rfl rfl ?_
        refine w_invV (rest := [.inl n]) rfl rfl rfl rfl rfl (Nat.le_of_ble_eq_true rfl) rfl (by omega) (s_husbandOf (K := K) a b  q r hR (by omega) (by omega)) (fun v5 h9 hq6 => ?_)
        obtain ⟨rfl, x7, rfl, px7⟩ := hq6
        show f_wp _ (19, [some (.inr (.inr (some 0))), some (.inl q), some (.inl n), some (.inl r)], [.inl x7, .inl n], mH a b) _
        refine w_if_lt rfl (fun c8 => ?_) (fun c8 => ?_)
        · skip
          refine w_const rfl ?_
          first | refine w_iadd rfl (by omega) (fun x9 tx9 => ?_) | refine w_iiU rfl (fun x9 tx9 => ?_)
          refine w_istore (lo' := [some (.inr (.inr (some 0))), some (.inl q), some (.inl x9), some (.inl r)]) rfl rfl ?_
          refine w_iinc (lo' := fun z9 => [some (.inr (.inr (some 0))), some (.inl q), some (.inl x9), some (.inl z9)]) rfl rfl (fun _ => rfl) (by omega) (fun x10 tx10 => ?_)
          refine w_goto rfl ?_
          exact ih4 (6 - x10.toInt).toNat (by omega) x9 x10 rfl  (by omega) (by omega)
        · skip
          refine w_const rfl ?_
          refine w_goto rfl ?_
          first | refine w_iadd rfl (by omega) (fun x11 tx11 => ?_) | refine w_iiU rfl (fun x11 tx11 => ?_)
          refine w_istore (lo' := [some (.inr (.inr (some 0))), some (.inl q), some (.inl x11), some (.inl r)]) rfl rfl ?_
          refine w_iinc (lo' := fun z9 => [some (.inr (.inr (some 0))), some (.inl q), some (.inl x11), some (.inl z9)]) rfl rfl (fun _ => rfl) (by omega) (fun x12 tx12 => ?_)
          refine w_goto rfl ?_
          exact ih4 (6 - x12.toInt).toNat (by omega) x11 x12 rfl  (by omega) (by omega)
  exact loop4 _ 0 0 rfl  (by omega) (by omega)
