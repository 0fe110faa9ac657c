set_option maxRecDepth 4000 in
theorem s_eddies {K : Nat} (a : Nat → Nat → Int32) (b : Nat → Nat → Int64)  (hR : RM K a)  : f_call mtM 3 95 [.inr (.inr (some 0))] (mH a b) (fun v9 h' => ∃ (a' : Nat → Nat → Int32), h' = mH a' b ∧ RM K a' ∧ (FR [0] a a' ∧ True) ∧ ∃ x : Int32, v9 = some (.inl x) ∧ True) := by
  refine f_call_of (d0 := 2) rfl (Nat.le_of_ble_eq_true rfl) (fun d hd => ?_)
  show f_wp _ (0, [some (.inr (.inr (some 0))), none, none, none], [], mH a b) _
  have l0 : (0 : Int32).toInt = 0 := rfl
  have l1 : (1 : Int32).toInt = 1 := rfl
  refine w_aload rfl rfl ?_
  refine w_const rfl ?_
  refine m_putI (z := false) rfl rfl rfl rfl (by first | (intro h9; cases h9; done) | (intro _; first | exact Or.inl rfl | exact Or.inr rfl | assumption)) (fun a1 ea1 => ?_)
  have ha1 : RM K a1 := RM.up hR ea1 ⟨ti_lo _, ti_hi _⟩
  have ua1_0 : a1 0 0 = (0 : Int32) := by rw [ea1, mU_same]
  have wa1_0 := congrArg Int32.toInt ua1_0
  refine w_const rfl ?_
  refine w_istore (lo' := [some (.inr (.inr (some 0))), some (.inl 0), none, none]) rfl rfl ?_
  refine w_const rfl ?_
  refine w_istore (lo' := [some (.inr (.inr (some 0))), some (.inl 0), some (.inl 0), none]) rfl rfl ?_
  have loop9 : ∀ (ms9 : Nat) (n : Int32) (r : Int32) (o3_9 : Option f_V), (6 - r.toInt).toNat = ms9 → (0 ≤ r.toInt ∧ r.toInt ≤ 6) → f_wp (f_code (t_X13_eddies (f_ev mtM d))) (9, [some (.inr (.inr (some 0))), some (.inl n), some (.inl r), o3_9], [], mH a1 b) (fun v9 h' => ∃ (a' : Nat → Nat → Int32), h' = mH a' b ∧ RM K a' ∧ (FR [0] a a' ∧ True) ∧ ∃ x : Int32, v9 = some (.inl x) ∧ True) := by
    intro ms9
    induction ms9 using Nat.strongRecOn with
    | _ ms9 ih9 =>
      intro n r o3_9 hm9 hr
      refine w_iload rfl rfl ?_
      refine w_aload rfl rfl ?_
      refine w_invV (rest := [.inl r]) rfl rfl rfl rfl rfl (Nat.le_of_ble_eq_true rfl) rfl (by omega) (s_rivers (K := K) a1 b   ha1 ) (fun v2 h9 hq3 => ?_)
      obtain ⟨rfl, x4, rfl, px4⟩ := hq3
      show f_wp _ (14, [some (.inr (.inr (some 0))), some (.inl n), some (.inl r), o3_9], [.inl x4, .inl r], mH a1 b) _
      refine w_ic_ge rfl (fun c5 => ?_) (fun c5 => ?_)
      · skip
        refine w_iload rfl rfl ?_
        exact wp_iret (z := false) rfl (fun h9 => by cases h9) ⟨a1, rfl, ha1, ⟨FR.up (FR.rf) (by decide) ea1, trivial⟩, ⟨_, rfl, trivial⟩⟩
      · skip
        refine w_const rfl ?_
        refine w_istore (lo' := [some (.inr (.inr (some 0))), some (.inl n), some (.inl r), some (.inl 0)]) rfl rfl ?_
        have loop19 : ∀ (ms9 : Nat) (m : Int32) (s : Int32) , (6 - s.toInt).toNat = ms9 → (0 ≤ s.toInt ∧ s.toInt ≤ r.toInt) → f_wp (f_code (t_X13_eddies (f_ev mtM d))) (19, [some (.inr (.inr (some 0))), some (.inl m), some (.inl r), some (.inl s)], [], mH a1 b) (fun v9 h' => ∃ (a' : Nat → Nat → Int32), h' = mH a' b ∧ RM K a' ∧ (FR [0] a a' ∧ True) ∧ ∃ x : Int32, v9 = some (.inl x) ∧ True) := by
          intro ms9
          induction ms9 using Nat.strongRecOn with
          | _ ms19 ih19 =>
            intro m s  hm19 hs
            refine w_iload rfl rfl ?_
            refine w_iload rfl rfl ?_
            refine w_ic_ge rfl (fun c6 => ?_) (fun c6 => ?_)
            · skip
              refine w_iinc (lo' := fun z9 => [some (.inr (.inr (some 0))), some (.inl m), some (.inl z9), some (.inl s)]) rfl rfl (fun _ => rfl) (by omega) (fun x7 tx7 => ?_)
              refine w_goto rfl ?_
              exact ih9 (6 - x7.toInt).toNat (by omega) m x7 (some (.inl s)) rfl  (by omega)
            · skip
              refine w_iload rfl rfl ?_
              refine w_aload rfl rfl ?_
              refine w_const rfl ?_
              refine w_iload rfl rfl ?_
              refine w_invV (rest := [.inl m]) rfl rfl rfl rfl rfl (Nat.le_of_ble_eq_true rfl) rfl (by omega) (s_husbandOf (K := K) a1 b  0 r ha1 (by omega) (by omega)) (fun v8 h9 hq9 => ?_)
              obtain ⟨rfl, x10, rfl, px10⟩ := hq9
              show f_wp _ (31, [some (.inr (.inr (some 0))), some (.inl m), some (.inl r), some (.inl s)], [.inl x10, .inl m], mH a1 b) _
              refine w_if_lt rfl (fun c11 => ?_) (fun c11 => ?_)
              · skip
                refine w_const rfl ?_
                first | refine w_iadd rfl (by omega) (fun x12 tx12 => ?_) | refine w_iiU rfl (fun x12 tx12 => ?_)
                refine w_istore (lo' := [some (.inr (.inr (some 0))), some (.inl x12), some (.inl r), some (.inl s)]) rfl rfl ?_
                refine w_iinc (lo' := fun z9 => [some (.inr (.inr (some 0))), some (.inl x12), some (.inl r), some (.inl z9)]) rfl rfl (fun _ => rfl) (by omega) (fun x13 tx13 => ?_)
                refine w_goto rfl ?_
                exact ih19 (6 - x13.toInt).toNat (by omega) x12 x13 rfl  (by omega)
              · skip
                refine w_aload rfl rfl ?_
                refine w_const rfl ?_
                refine w_iload rfl rfl ?_
                refine w_invV (rest := [.inl m]) rfl rfl rfl rfl rfl (Nat.le_of_ble_eq_true rfl) rfl (by omega) (s_husbandOf (K := K) a1 b  0 r ha1 (by omega) (by omega)) (fun v14 h9 hq15 => ?_)
                obtain ⟨rfl, x16, rfl, px16⟩ := hq15
                show f_wp _ (40, [some (.inr (.inr (some 0))), some (.inl m), some (.inl r), some (.inl s)], [.inl x16, .inl m], mH a1 b) _
                refine w_aload rfl rfl ?_
                refine w_const rfl ?_
                refine w_iload rfl rfl ?_
                refine w_invV (rest := [.inl x16, .inl m]) rfl rfl rfl rfl rfl (Nat.le_of_ble_eq_true rfl) rfl (by omega) (s_husbandOf (K := K) a1 b  0 s ha1 (by omega) (by omega)) (fun v17 h9 hq18 => ?_)
                obtain ⟨rfl, x19, rfl, px19⟩ := hq18
                show f_wp _ (46, [some (.inr (.inr (some 0))), some (.inl m), some (.inl r), some (.inl s)], [.inl x19, .inl x16, .inl m], mH a1 b) _
                refine w_ic_ne rfl (fun c20 => ?_) (fun c20 => ?_)
                · skip
                  refine w_aload rfl rfl ?_
                  refine w_iload rfl rfl ?_
                  refine w_invV (rest := [.inl m]) rfl rfl rfl rfl rfl (Nat.le_of_ble_eq_true rfl) rfl (by omega) (s_mouthOf (K := K) a1 b  r ha1 (by omega)) (fun v21 h9 hq22 => ?_)
                  obtain ⟨rfl, x23, rfl, px23⟩ := hq22
                  show f_wp _ (54, [some (.inr (.inr (some 0))), some (.inl m), some (.inl r), some (.inl s)], [.inl x23, .inl m], mH a1 b) _
                  refine w_aload rfl rfl ?_
                  refine w_iload rfl rfl ?_
                  refine w_invV (rest := [.inl x23, .inl m]) rfl rfl rfl rfl rfl (Nat.le_of_ble_eq_true rfl) rfl (by omega) (s_mouthOf (K := K) a1 b  s ha1 (by omega)) (fun v24 h9 hq25 => ?_)
                  obtain ⟨rfl, x26, rfl, px26⟩ := hq25
                  show f_wp _ (59, [some (.inr (.inr (some 0))), some (.inl m), some (.inl r), some (.inl s)], [.inl x26, .inl x23, .inl m], mH a1 b) _
                  refine w_ic_ne rfl (fun c27 => ?_) (fun c27 => ?_)
                  · skip
                    refine w_const rfl ?_
                    refine w_goto rfl ?_
                    first | refine w_iadd rfl (by omega) (fun x28 tx28 => ?_) | refine w_iiU rfl (fun x28 tx28 => ?_)
                    refine w_istore (lo' := [some (.inr (.inr (some 0))), some (.inl x28), some (.inl r), some (.inl s)]) rfl rfl ?_
                    refine w_iinc (lo' := fun z9 => [some (.inr (.inr (some 0))), some (.inl x28), some (.inl r), some (.inl z9)]) rfl rfl (fun _ => rfl) (by omega) (fun x29 tx29 => ?_)
                    refine w_goto rfl ?_
                    exact ih19 (6 - x29.toInt).toNat (by omega) x28 x29 rfl  (by omega)
                  · skip
                    refine w_const rfl ?_
                    first | refine w_iadd rfl (by omega) (fun x30 tx30 => ?_) | refine w_iiU rfl (fun x30 tx30 => ?_)
                    refine w_istore (lo' := [some (.inr (.inr (some 0))), some (.inl x30), some (.inl r), some (.inl s)]) rfl rfl ?_
                    refine w_iinc (lo' := fun z9 => [some (.inr (.inr (some 0))), some (.inl x30), some (.inl r), some (.inl z9)]) rfl rfl (fun _ => rfl) (by omega) (fun x31 tx31 => ?_)
                    refine w_goto rfl ?_
                    exact ih19 (6 - x31.toInt).toNat (by omega) x30 x31 rfl  (by omega)
                · skip
                  refine w_const rfl ?_
                  first | refine w_iadd rfl (by omega) (fun x32 tx32 => ?_) | refine w_iiU rfl (fun x32 tx32 => ?_)
                  refine w_istore (lo' := [some (.inr (.inr (some 0))), some (.inl x32), some (.inl r), some (.inl s)]) rfl rfl ?_
                  refine w_iinc (lo' := fun z9 => [some (.inr (.inr (some 0))), some (.inl x32), some (.inl r), some (.inl z9)]) rfl rfl (fun _ => rfl) (by omega) (fun x33 tx33 => ?_)
                  refine w_goto rfl ?_
                  exact ih19 (6 - x33.toInt).toNat (by omega) x32 x33 rfl  (by omega)
        exact loop19 _ n 0 rfl  (by omega)
  exact loop9 _ 0 0 none rfl  (by omega)
set_option maxRecDepth 4000 in
theorem s_bidGets {K : Nat} (a : Nat → Nat → Int32) (b : Nat → Nat → Int64) (w : Int32) (fi : Int32) (one : Int32) (oth : Int32)  : f_call mtM 1 106 [.inl w, .inl fi, .inl one, .inl oth] (mH a b) (fun v9 h' => h' = mH a b ∧ ∃ x : Int32, v9 = some (.inl x) ∧ True) := by
  refine f_call_of (d0 := 0) rfl (Nat.le_of_ble_eq_true rfl) (fun d hd => ?_)
  show f_wp _ (0, [some (.inl w), some (.inl fi), some (.inl one), some (.inl oth)], [], mH a b) _
  have l0 : (0 : Int32).toInt = 0 := rfl
  refine w_iload rfl rfl ?_
  refine w_if_eq rfl (fun c1 => ?_) (fun c1 => ?_)
  · skip
    refine w_iload rfl rfl ?_
    refine w_iload rfl rfl ?_
    refine w_ic_le rfl (fun c2 => ?_) (fun c2 => ?_)
    · skip
      refine w_const rfl ?_
      exact wp_iret (z := false) rfl (fun h9 => by cases h9) ⟨rfl, ⟨_, rfl, trivial⟩⟩
    · skip
      refine w_iload rfl rfl ?_
      refine w_iload rfl rfl ?_
      first | refine w_isub rfl (by omega) (fun x3 tx3 => ?_) | refine w_iiU rfl (fun x3 tx3 => ?_)
      refine w_goto rfl ?_
      exact wp_iret (z := false) rfl (fun h9 => by cases h9) ⟨rfl, ⟨_, rfl, trivial⟩⟩
  · skip
    refine w_iload rfl rfl ?_
    refine w_iload rfl rfl ?_
    refine w_ic_lt rfl (fun c4 => ?_) (fun c4 => ?_)
    · skip
      refine w_const rfl ?_
      refine w_goto rfl ?_
      exact wp_iret (z := false) rfl (fun h9 => by cases h9) ⟨rfl, ⟨_, rfl, trivial⟩⟩
    · skip
      refine w_iload rfl rfl ?_
      refine w_iload rfl rfl ?_
      first | refine w_isub rfl (by omega) (fun x5 tx5 => ?_) | refine w_iiU rfl (fun x5 tx5 => ?_)
      refine w_goto rfl ?_
      exact wp_iret (z := false) rfl (fun h9 => by cases h9) ⟨rfl, ⟨_, rfl, trivial⟩⟩
set_option maxRecDepth 4000 in
theorem s_isLosing {K : Nat} (a : Nat → Nat → Int32) (b : Nat → Nat → Int64) (p : Int32) (r : Int32) (hR : RM K a) (hp : p.toInt ≤ 20 ∧ r.toInt ≤ 20) : f_call mtM 1 108 [.inr (.inr (some 0)), .inl p, .inl r] (mH a b) (fun v9 h' => h' = mH a b ∧ ∃ x : Int32, v9 = some (.inl x) ∧ (x.toInt = 0 ∨ x.toInt = 1)) := by
  refine f_call_of (d0 := 0) rfl (Nat.le_of_ble_eq_true rfl) (fun d hd => ?_)
  show f_wp _ (0, [some (.inr (.inr (some 0))), some (.inl p), some (.inl r)], [], mH a b) _
  have l0 : (0 : Int32).toInt = 0 := rfl
  have l1 : (1 : Int32).toInt = 1 := rfl
  have l21 : (21 : Int32).toInt = 21 := rfl
  refine w_iload rfl rfl ?_
  refine w_if_lt rfl (fun c1 => ?_) (fun c1 => ?_)
  · skip
    refine w_const rfl ?_
    exact wp_iret (z := true) rfl (fun _ => by first | exact Or.inl rfl | exact Or.inr rfl | (rcases (by omega : (0 : Int32).toInt = 0 ∨ (0 : Int32).toInt = 1) with h8 | h8; exact Or.inl (ti_eq h8); exact Or.inr (ti_eq h8))) ⟨rfl, ⟨_, rfl, by omega⟩⟩
  · skip
    refine w_iload rfl rfl ?_
    refine w_if_lt rfl (fun c2 => ?_) (fun c2 => ?_)
    · skip
      refine w_const rfl ?_
      exact wp_iret (z := true) rfl (fun _ => by first | exact Or.inl rfl | exact Or.inr rfl | (rcases (by omega : (0 : Int32).toInt = 0 ∨ (0 : Int32).toInt = 1) with h8 | h8; exact Or.inl (ti_eq h8); exact Or.inr (ti_eq h8))) ⟨rfl, ⟨_, rfl, by omega⟩⟩
    · skip
      refine w_aload rfl rfl ?_
      refine w_getR (v := .inr (.inr (some 25))) rfl rfl rfl rfl rfl ?_
      refine w_const rfl ?_
      refine w_iload rfl rfl ?_
      first | refine w_imul rfl (c := 21) rfl (by omega) (fun x3 tx3 => ?_) | refine w_iiU rfl (fun x3 tx3 => ?_)
      refine w_iload rfl rfl ?_
      first | refine w_iadd rfl (by omega) (fun x4 tx4 => ?_) | refine w_iiU rfl (fun x4 tx4 => ?_)
      refine m_bald rfl rfl (by omega) (fun x5 ex5 => ?_)
      have qx5 : 0 ≤ x5.toInt ∧ x5.toInt ≤ 1 := by rw [ex5]; exact hR 25 _
      refine w_if_ne rfl (fun c6 => ?_) (fun c6 => ?_)
      · skip
        refine w_const rfl ?_
        refine w_goto rfl ?_
        exact wp_iret (z := true) rfl (fun _ => by first | exact Or.inl rfl | exact Or.inr rfl | (rcases (by omega : (1 : Int32).toInt = 0 ∨ (1 : Int32).toInt = 1) with h8 | h8; exact Or.inl (ti_eq h8); exact Or.inr (ti_eq h8))) ⟨rfl, ⟨_, rfl, by omega⟩⟩
      · skip
        refine w_const rfl ?_
        exact wp_iret (z := true) rfl (fun _ => by first | exact Or.inl rfl | exact Or.inr rfl | (rcases (by omega : (0 : Int32).toInt = 0 ∨ (0 : Int32).toInt = 1) with h8 | h8; exact Or.inl (ti_eq h8); exact Or.inr (ti_eq h8))) ⟨rfl, ⟨_, rfl, by omega⟩⟩
set_option maxRecDepth 4000 in
theorem s_count {K : Nat} (a : Nat → Nat → Int32) (b : Nat → Nat → Int64) (w : Int32) (hR : RM K a)  : f_call mtM 3 113 [.inr (.inr (some 0)), .inl w] (mH a b) (fun v9 h' => ∃ (a' : Nat → Nat → Int32), h' = mH a' b ∧ RM K a' ∧ (FR [0] a a' ∧ True) ∧ ∃ x : Int32, v9 = some (.inl x) ∧ True) := by
  refine f_call_of (d0 := 2) rfl (Nat.le_of_ble_eq_true rfl) (fun d hd => ?_)
  show f_wp _ (0, [some (.inr (.inr (some 0))), some (.inl w)], [], mH a b) _
  have lm1 : (-1 : Int32).toInt = -1 := rfl
  have l0 : (0 : Int32).toInt = 0 := rfl
  have l1 : (1 : Int32).toInt = 1 := rfl
  have l2 : (2 : Int32).toInt = 2 := rfl
  have l19 : (19 : Int32).toInt = 19 := rfl
  have l26 : (26 : Int32).toInt = 26 := rfl
  refine w_aload rfl rfl ?_
  refine w_const rfl ?_
  refine m_putI (z := false) rfl rfl rfl rfl (by first | (intro h9; cases h9; done) | (intro _; first | exact Or.inl rfl | exact Or.inr rfl | assumption)) (fun a1 ea1 => ?_)
  have ha1 : RM K a1 := RM.up hR ea1 ⟨ti_lo _, ti_hi _⟩
  have ua1_0 : a1 0 0 = (0 : Int32) := by rw [ea1, mU_same]
  have wa1_0 := congrArg Int32.toInt ua1_0
  refine w_iload rfl rfl ?_
  refine w_tab rfl (fun c2 => ?_) (fun k9 t9 hk9 c2 => ?_)
  · skip
    have c2d := c2
    simp only [List.length_cons, List.length_nil] at c2d
    refine w_const rfl ?_
    exact wp_iret (z := false) rfl (fun h9 => by cases h9) ⟨a1, rfl, ha1, ⟨FR.up (FR.rf) (by decide) ea1, trivial⟩, ⟨_, rfl, trivial⟩⟩
  · skip
    match k9, hk9, c2 with
    | 0, hk9, c2 =>
      cases hk9
      refine w_aload rfl rfl ?_
      refine w_invV (rest := []) rfl rfl rfl rfl rfl (Nat.le_of_ble_eq_true rfl) rfl (by omega) (s_rivers (K := K) a1 b   ha1 ) (fun v3 h9 hq4 => ?_)
      obtain ⟨rfl, x5, rfl, px5⟩ := hq4
      show f_wp _ (64, [some (.inr (.inr (some 0))), some (.inl w)], [.inl x5], mH a1 b) _
      exact wp_iret (z := false) rfl (fun h9 => by cases h9) ⟨a1, rfl, ha1, ⟨FR.up (FR.rf) (by decide) ea1, trivial⟩, ⟨_, rfl, trivial⟩⟩
    | 1, hk9, c2 =>
      cases hk9
      refine w_aload rfl rfl ?_
      refine w_getR (v := .inr (.inr (some 6))) rfl rfl rfl rfl rfl ?_
      refine w_const rfl ?_
      refine m_iald rfl rfl (by omega) (fun x6 ex6 => ?_)
      exact wp_iret (z := false) rfl (fun h9 => by cases h9) ⟨a1, rfl, ha1, ⟨FR.up (FR.rf) (by decide) ea1, trivial⟩, ⟨_, rfl, trivial⟩⟩
    | 2, hk9, c2 =>
      cases hk9
      refine w_aload rfl rfl ?_
      refine w_getR (v := .inr (.inr (some 15))) rfl rfl rfl rfl rfl ?_
      refine w_const rfl ?_
      refine m_iald rfl rfl (by omega) (fun x7 ex7 => ?_)
      exact wp_iret (z := false) rfl (fun h9 => by cases h9) ⟨a1, rfl, ha1, ⟨FR.up (FR.rf) (by decide) ea1, trivial⟩, ⟨_, rfl, trivial⟩⟩
    | 3, hk9, c2 =>
      cases hk9
      refine w_aload rfl rfl ?_
      refine w_const rfl ?_
      refine w_invV (rest := []) rfl rfl rfl rfl rfl (Nat.le_of_ble_eq_true rfl) rfl (by omega) (s_weddings (K := K) a1 b  0 ha1 (by omega)) (fun v8 h9 hq9 => ?_)
      obtain ⟨rfl, x10, rfl, px10⟩ := hq9
      show f_wp _ (84, [some (.inr (.inr (some 0))), some (.inl w)], [.inl x10], mH a1 b) _
      exact wp_iret (z := false) rfl (fun h9 => by cases h9) ⟨a1, rfl, ha1, ⟨FR.up (FR.rf) (by decide) ea1, trivial⟩, ⟨_, rfl, trivial⟩⟩
    | 4, hk9, c2 =>
      cases hk9
      refine w_aload rfl rfl ?_
      refine w_getR (v := .inr (.inr (some 11))) rfl rfl rfl rfl rfl ?_
      refine w_const rfl ?_
      refine m_iald rfl rfl (by omega) (fun x11 ex11 => ?_)
      exact wp_iret (z := false) rfl (fun h9 => by cases h9) ⟨a1, rfl, ha1, ⟨FR.up (FR.rf) (by decide) ea1, trivial⟩, ⟨_, rfl, trivial⟩⟩
    | 5, hk9, c2 =>
      cases hk9
      refine w_aload rfl rfl ?_
      refine w_getR (v := .inr (.inr (some 15))) rfl rfl rfl rfl rfl ?_
      refine w_const rfl ?_
      refine m_iald rfl rfl (by omega) (fun x12 ex12 => ?_)
      exact wp_iret (z := false) rfl (fun h9 => by cases h9) ⟨a1, rfl, ha1, ⟨FR.up (FR.rf) (by decide) ea1, trivial⟩, ⟨_, rfl, trivial⟩⟩
    | 6, hk9, c2 =>
      cases hk9
      refine w_aload rfl rfl ?_
      refine w_getR (v := .inr (.inr (some 15))) rfl rfl rfl rfl rfl ?_
      refine w_const rfl ?_
      refine m_iald rfl rfl (by omega) (fun x13 ex13 => ?_)
      exact wp_iret (z := false) rfl (fun h9 => by cases h9) ⟨a1, rfl, ha1, ⟨FR.up (FR.rf) (by decide) ea1, trivial⟩, ⟨_, rfl, trivial⟩⟩
    | 7, hk9, c2 =>
      cases hk9
      refine w_aload rfl rfl ?_
      refine w_getR (v := .inr (.inr (some 6))) rfl rfl rfl rfl rfl ?_
      refine w_const rfl ?_
      refine m_iald rfl rfl (by omega) (fun x14 ex14 => ?_)
      exact wp_iret (z := false) rfl (fun h9 => by cases h9) ⟨a1, rfl, ha1, ⟨FR.up (FR.rf) (by decide) ea1, trivial⟩, ⟨_, rfl, trivial⟩⟩
    | 8, hk9, c2 =>
      cases hk9
      refine w_aload rfl rfl ?_
      refine w_getI (v := .inl (a1 0 23)) rfl rfl rfl rfl rfl ?_
      have q15 : 0 ≤ (a1 0 23).toInt ∧ (a1 0 23).toInt ≤ 16 := ha1 0 23
      exact wp_iret (z := false) rfl (fun h9 => by cases h9) ⟨a1, rfl, ha1, ⟨FR.up (FR.rf) (by decide) ea1, trivial⟩, ⟨_, rfl, trivial⟩⟩
    | 9, hk9, c2 =>
      cases hk9
      refine w_aload rfl rfl ?_
      refine w_getI (v := .inl (a1 0 2)) rfl rfl rfl rfl rfl ?_
      have q16 : 0 ≤ (a1 0 2).toInt ∧ (a1 0 2).toInt ≤ 1000 := ha1 0 2
      exact wp_iret (z := false) rfl (fun h9 => by cases h9) ⟨a1, rfl, ha1, ⟨FR.up (FR.rf) (by decide) ea1, trivial⟩, ⟨_, rfl, trivial⟩⟩
    | n9 + 10, hk9, c2 => simp at hk9
set_option maxRecDepth 4000 in
theorem s_digsIn {K : Nat} (a : Nat → Nat → Int32) (b : Nat → Nat → Int64) (q : Int32) (hR : RM K a) (hb : 0 ≤ q.toInt ∧ q.toInt ≤ 1260 ∧ q.toInt % 60 = 0) : f_call mtM 4 84 [.inr (.inr (some 0)), .inl q] (mH a b) (fun v9 h' => h' = mH a b ∧ ∃ x : Int32, v9 = some (.inl x) ∧ True) := by
  refine f_call_of (d0 := 3) rfl (Nat.le_of_ble_eq_true rfl) (fun d hd => ?_)
  show f_wp _ (0, [some (.inr (.inr (some 0))), some (.inl q), none, none], [], mH a b) _
  have l0 : (0 : Int32).toInt = 0 := rfl
  have l1 : (1 : Int32).toInt = 1 := rfl
  refine w_const rfl ?_
  refine w_istore (lo' := [some (.inr (.inr (some 0))), some (.inl q), some (.inl 0), none]) rfl rfl ?_
  refine w_const rfl ?_
  refine w_istore (lo' := [some (.inr (.inr (some 0))), some (.inl q), some (.inl 0), some (.inl 0)]) rfl rfl ?_
  have loop4 : ∀ (ms9 : Nat) (n : Int32) (r : Int32) , (6 - r.toInt).toNat = ms9 → (0 ≤ r.toInt ∧ r.toInt ≤ 6) → f_wp (f_code (t_X13_digsIn (f_ev mtM d))) (4, [some (.inr (.inr (some 0))), some (.inl q), some (.inl n), some (.inl r)], [], mH a b) (fun v9 h' => h' = mH a b ∧ ∃ x : Int32, v9 = some (.inl x) ∧ True) := by
    intro ms9
    induction ms9 using Nat.strongRecOn with
    | _ ms4 ih4 =>
      intro n r  hm4 hr
      refine w_iload rfl rfl ?_
      refine w_aload rfl rfl ?_
      refine w_invV (rest := [.inl r]) rfl rfl rfl rfl rfl (Nat.le_of_ble_eq_true rfl) rfl (by omega) (s_rivers (K := K) a b   hR ) (fun v1 h9 hq2 => ?_)
      obtain ⟨rfl, x3, rfl, px3⟩ := hq2
      show f_wp _ (9, [some (.inr (.inr (some 0))), some (.inl q), some (.inl n), some (.inl r)], [.inl x3, .inl r], mH a b) _
      refine w_ic_ge rfl (fun c4 => ?_) (fun c4 => ?_)
      · skip
        refine w_iload rfl rfl ?_
        exact wp_iret (z := false) rfl (fun h9 => by cases h9) ⟨rfl, ⟨_, rfl, trivial⟩⟩
      · skip
        refine w_iload rfl rfl ?_
        refine w_aload rfl rfl ?_
        refine w_iload rfl rfl ?_
        refine w_iload rfl rfl ?_
        refine w_invV (rest := [.inl n]) rfl rfl rfl rfl rfl (Nat.le_of_ble_eq_true rfl) rfl (by omega) (s_husbandOf (K := K) a b  q r hR (by omega) (by omega)) (fun v5 h9 hq6 => ?_)
        obtain ⟨rfl, x7, rfl, px7⟩ := hq6
        show f_wp _ (19, [some (.inr (.inr (some 0))), some (.inl q), some (.inl n), some (.inl r)], [.inl x7, .inl n], mH a b) _
        have e9 := congrArg Int32.toInt px7.1
        refine w_if_lt rfl (fun c8 => ?_) (fun c8 => ?_)
        · skip
          refine w_const rfl ?_
          first | refine w_iadd rfl (by omega) (fun x9 tx9 => ?_) | refine w_iiU rfl (fun x9 tx9 => ?_)
          refine w_istore (lo' := [some (.inr (.inr (some 0))), some (.inl q), some (.inl x9), some (.inl r)]) rfl rfl ?_
          refine w_iinc (lo' := fun z9 => [some (.inr (.inr (some 0))), some (.inl q), some (.inl x9), some (.inl z9)]) rfl rfl (fun _ => rfl) (by omega) (fun x10 tx10 => ?_)
          refine w_goto rfl ?_
          exact ih4 (6 - x10.toInt).toNat (by omega) x9 x10 rfl  (by omega)
        · skip
          refine w_aload rfl rfl ?_
          refine w_iload rfl rfl ?_
          refine w_aload rfl rfl ?_
          refine w_iload rfl rfl ?_
          refine w_iload rfl rfl ?_
          refine w_invV (rest := [.inl r, .inr (.inr (some 0)), .inl n]) rfl rfl rfl rfl rfl (Nat.le_of_ble_eq_true rfl) rfl (by omega) (s_husbandOf (K := K) a b  q r hR (by omega) (by omega)) (fun v11 h9 hq12 => ?_)
          obtain ⟨rfl, x13, rfl, px13⟩ := hq12
          show f_wp _ (30, [some (.inr (.inr (some 0))), some (.inl q), some (.inl n), some (.inl r)], [.inl x13, .inl r, .inr (.inr (some 0)), .inl n], mH a b) _
          have e9 := congrArg Int32.toInt px13.1
          refine w_invV (rest := [.inl n]) rfl rfl rfl rfl rfl (Nat.le_of_ble_eq_true rfl) rfl (by omega) (s_digOf (K := K) a b  r x13 hR (by omega) (by omega)) (fun v14 h9 hq15 => ?_)
          obtain ⟨rfl, x16, rfl, px16⟩ := hq15
          show f_wp _ (33, [some (.inr (.inr (some 0))), some (.inl q), some (.inl n), some (.inl r)], [.inl x16, .inl n], mH a b) _
          refine w_goto rfl ?_
          first | refine w_iadd rfl (by omega) (fun x17 tx17 => ?_) | refine w_iiU rfl (fun x17 tx17 => ?_)
          refine w_istore (lo' := [some (.inr (.inr (some 0))), some (.inl q), some (.inl x17), some (.inl r)]) rfl rfl ?_
          refine w_iinc (lo' := fun z9 => [some (.inr (.inr (some 0))), some (.inl q), some (.inl x17), some (.inl z9)]) rfl rfl (fun _ => rfl) (by omega) (fun x18 tx18 => ?_)
          refine w_goto rfl ?_
          exact ih4 (6 - x18.toInt).toNat (by omega) x17 x18 rfl  (by omega)
  exact loop4 _ 0 0 rfl  (by omega)
set_option maxRecDepth 4000 in
theorem s_isServedAlways {K : Nat} (a : Nat → Nat → Int32) (b : Nat → Nat → Int64)  (hR : RM K a) (hA : AC a 1260) : f_call mtM 13 85 [.inr (.inr (some 0))] (mH a b) (fun v9 h' => h' = mH a b ∧ ∃ x : Int32, v9 = some (.inl x) ∧ (x.toInt = 0 ∨ x.toInt = 1)) := by
  refine f_call_of (d0 := 12) rfl (Nat.le_of_ble_eq_true rfl) (fun d hd => ?_)
  show f_wp _ (0, [some (.inr (.inr (some 0))), none, none], [], mH a b) _
  have l0 : (0 : Int32).toInt = 0 := rfl
  have l1 : (1 : Int32).toInt = 1 := rfl
  have l4 : (4 : Int32).toInt = 4 := rfl
  have l1260 : (1260 : Int32).toInt = 1260 := rfl
  refine w_const rfl ?_
  refine w_istore (lo' := [some (.inr (.inr (some 0))), some (.inl 1), none]) rfl rfl ?_
  refine w_const rfl ?_
  refine w_istore (lo' := [some (.inr (.inr (some 0))), some (.inl 1), some (.inl 0)]) rfl rfl ?_
  have loop4 : ∀ (ms9 : Nat) (is : Int32) (s : Int32) , (4 - s.toInt).toNat = ms9 → (0 ≤ s.toInt ∧ s.toInt ≤ 4) → (is.toInt = 0 ∨ is.toInt = 1) → f_wp (f_code (t_X13_isServedAlways (f_ev mtM d))) (4, [some (.inr (.inr (some 0))), some (.inl is), some (.inl s)], [], mH a b) (fun v9 h' => h' = mH a b ∧ ∃ x : Int32, v9 = some (.inl x) ∧ (x.toInt = 0 ∨ x.toInt = 1)) := by
    intro ms9
    induction ms9 using Nat.strongRecOn with
    | _ ms4 ih4 =>
      intro is s  hm4 hs hi
      refine w_iload rfl rfl ?_
      refine w_const rfl ?_
      refine w_ic_ge rfl (fun c1 => ?_) (fun c1 => ?_)
      · skip
        refine w_iload rfl rfl ?_
        exact wp_iret (z := true) rfl (fun _ => by first | exact Or.inl rfl | exact Or.inr rfl | (rcases (by omega : is.toInt = 0 ∨ is.toInt = 1) with h8 | h8; exact Or.inl (ti_eq h8); exact Or.inr (ti_eq h8))) ⟨rfl, ⟨_, rfl, by omega⟩⟩
      · skip
        refine w_iload rfl rfl ?_
        refine w_if_eq rfl (fun c2 => ?_) (fun c2 => ?_)
        · skip
          refine w_iload rfl rfl ?_
          exact wp_iret (z := true) rfl (fun _ => by first | exact Or.inl rfl | exact Or.inr rfl | (rcases (by omega : is.toInt = 0 ∨ is.toInt = 1) with h8 | h8; exact Or.inl (ti_eq h8); exact Or.inr (ti_eq h8))) ⟨rfl, ⟨_, rfl, by omega⟩⟩
        · skip
          refine w_aload rfl rfl ?_
          refine w_const rfl ?_
          refine w_iload rfl rfl ?_
          refine w_invV (rest := []) rfl rfl rfl rfl rfl (Nat.le_of_ble_eq_true rfl) rfl (by omega) (s_areServed (K := K) a b  1260 s hR (by omega) (by omega) (hA)) (fun v3 h9 hq4 => ?_)
          obtain ⟨rfl, x5, rfl, px5⟩ := hq4
          show f_wp _ (21, [some (.inr (.inr (some 0))), some (.inl is), some (.inl s)], [.inl x5], mH a b) _
          refine w_istore (lo' := [some (.inr (.inr (some 0))), some (.inl x5), some (.inl s)]) rfl rfl ?_
          refine w_iinc (lo' := fun z9 => [some (.inr (.inr (some 0))), some (.inl x5), some (.inl z9)]) rfl rfl (fun _ => rfl) (by omega) (fun x6 tx6 => ?_)
          refine w_goto rfl ?_
          exact ih4 (4 - x6.toInt).toNat (by omega) x5 x6 rfl  (by omega) (by omega)
  exact loop4 _ 1 0 rfl  (by omega) (by omega)
set_option maxRecDepth 4000 in
theorem s_fitsTold {K : Nat} (a : Nat → Nat → Int32) (b : Nat → Nat → Int64)  (hR : RM K a) (hA : AC a 1260) : f_call mtM 12 86 [.inr (.inr (some 0))] (mH a b) (fun v9 h' => h' = mH a b ∧ ∃ x : Int32, v9 = some (.inl x) ∧ (x.toInt = 0 ∨ x.toInt = 1)) := by
  refine f_call_of (d0 := 11) rfl (Nat.le_of_ble_eq_true rfl) (fun d hd => ?_)
  show f_wp _ (0, [some (.inr (.inr (some 0))), none, none, none], [], mH a b) _
  have l0 : (0 : Int32).toInt = 0 := rfl
  have l1 : (1 : Int32).toInt = 1 := rfl
  have l2 : (2 : Int32).toInt = 2 := rfl
  have l3 : (3 : Int32).toInt = 3 := rfl
  have l26 : (26 : Int32).toInt = 26 := rfl
  have l27 : (27 : Int32).toInt = 27 := rfl
  have l1260 : (1260 : Int32).toInt = 1260 := rfl
  refine w_const rfl ?_
  refine w_istore (lo' := [some (.inr (.inr (some 0))), some (.inl 1), none, none]) rfl rfl ?_
  refine w_const rfl ?_
  refine w_istore (lo' := [some (.inr (.inr (some 0))), some (.inl 1), some (.inl 0), none]) rfl rfl ?_
  have loop4 : ∀ (ms9 : Nat) (is : Int32) (k : Int32) (o3_4 : Option f_V), (10 - k.toInt).toNat = ms9 → (0 ≤ k.toInt ∧ k.toInt ≤ 10) → (is.toInt = 0 ∨ is.toInt = 1) → f_wp (f_code (t_X13_fitsTold (f_ev mtM d))) (4, [some (.inr (.inr (some 0))), some (.inl is), some (.inl k), o3_4], [], mH a b) (fun v9 h' => h' = mH a b ∧ ∃ x : Int32, v9 = some (.inl x) ∧ (x.toInt = 0 ∨ x.toInt = 1)) := by
    intro ms9
    induction ms9 using Nat.strongRecOn with
    | _ ms4 ih4 =>
      intro is k o3_4 hm4 hk hi
      refine w_iload rfl rfl ?_
      refine w_aload rfl rfl ?_
      refine w_getR (v := .inr (.inr (some 15))) rfl rfl rfl rfl rfl ?_
      refine w_const rfl ?_
      refine m_iald rfl rfl (by omega) (fun x1 ex1 => ?_)
      have u9 : 0 ≤ x1.toInt ∧ x1.toInt ≤ 10 := by rw [ex1]; exact hR 15 26
      refine w_ic_ge rfl (fun c2 => ?_) (fun c2 => ?_)
      · skip
        refine w_iload rfl rfl ?_
        exact wp_iret (z := true) rfl (fun _ => by first | exact Or.inl rfl | exact Or.inr rfl | (rcases (by omega : is.toInt = 0 ∨ is.toInt = 1) with h8 | h8; exact Or.inl (ti_eq h8); exact Or.inr (ti_eq h8))) ⟨rfl, ⟨_, rfl, by omega⟩⟩
      · skip
        refine w_iload rfl rfl ?_
        refine w_if_eq rfl (fun c3 => ?_) (fun c3 => ?_)
        · skip
          refine w_iload rfl rfl ?_
          exact wp_iret (z := true) rfl (fun _ => by first | exact Or.inl rfl | exact Or.inr rfl | (rcases (by omega : is.toInt = 0 ∨ is.toInt = 1) with h8 | h8; exact Or.inl (ti_eq h8); exact Or.inr (ti_eq h8))) ⟨rfl, ⟨_, rfl, by omega⟩⟩
        · skip
          refine w_const rfl ?_
          refine w_const rfl ?_
          refine w_iload rfl rfl ?_
          first | refine w_imul rfl (c := 3) rfl (by omega) (fun x4 tx4 => ?_) | refine w_iiU rfl (fun x4 tx4 => ?_)
          first | refine w_iadd rfl (by omega) (fun x5 tx5 => ?_) | refine w_iiU rfl (fun x5 tx5 => ?_)
          refine w_istore (lo' := [some (.inr (.inr (some 0))), some (.inl is), some (.inl k), some (.inl x5)]) rfl rfl ?_
          refine w_aload rfl rfl ?_
          refine w_const rfl ?_
          refine w_aload rfl rfl ?_
          refine w_getR (v := .inr (.inr (some 15))) rfl rfl rfl rfl rfl ?_
          refine w_iload rfl rfl ?_
          refine m_iald rfl rfl (by omega) (fun x6 ex6 => ?_)
          have t9 : 0 ≤ x6.toInt ∧ x6.toInt ≤ 5 := by rw [ex6]; have := RM.told hR (j := (x5).toInt.toNat) (by omega); omega
          refine w_aload rfl rfl ?_
          refine w_getR (v := .inr (.inr (some 15))) rfl rfl rfl rfl rfl ?_
          refine w_iload rfl rfl ?_
          refine w_const rfl ?_
          first | refine w_iadd rfl (by omega) (fun x7 tx7 => ?_) | refine w_iiU rfl (fun x7 tx7 => ?_)
          refine m_iald rfl rfl (by omega) (fun x8 ex8 => ?_)
          have t9 : 0 ≤ x8.toInt ∧ x8.toInt ≤ 3 := by rw [ex8]; have := RM.told hR (j := (x7).toInt.toNat) (by omega); omega
          refine w_invV (rest := []) rfl rfl rfl rfl rfl (Nat.le_of_ble_eq_true rfl) rfl (by omega) (s_mouthFlow (K := K) a b  1260 x6 x8 hR (by omega) (by omega) (by omega) (hA)) (fun v9 h9 hq10 => ?_)
          obtain ⟨rfl, x11, rfl, px11⟩ := hq10
          show f_wp _ (47, [some (.inr (.inr (some 0))), some (.inl is), some (.inl k), some (.inl x5)], [.inl x11], mH a b) _
          refine w_aload rfl rfl ?_
          refine w_getR (v := .inr (.inr (some 15))) rfl rfl rfl rfl rfl ?_
          refine w_iload rfl rfl ?_
          refine w_const rfl ?_
          first | refine w_iadd rfl (by omega) (fun x12 tx12 => ?_) | refine w_iiU rfl (fun x12 tx12 => ?_)
          refine m_iald rfl rfl (by omega) (fun x13 ex13 => ?_)
          refine w_ic_ne rfl (fun c14 => ?_) (fun c14 => ?_)
          · skip
            refine w_const rfl ?_
            refine w_goto rfl ?_
            refine w_istore (lo' := [some (.inr (.inr (some 0))), some (.inl 1), some (.inl k), some (.inl x5)]) rfl rfl ?_
            refine w_iinc (lo' := fun z9 => [some (.inr (.inr (some 0))), some (.inl 1), some (.inl z9), some (.inl x5)]) rfl rfl (fun _ => rfl) (by omega) (fun x15 tx15 => ?_)
            refine w_goto rfl ?_
            exact ih4 (10 - x15.toInt).toNat (by omega) 1 x15 (some (.inl x5)) rfl  (by omega) (by omega)
          · skip
            refine w_const rfl ?_
            refine w_istore (lo' := [some (.inr (.inr (some 0))), some (.inl 0), some (.inl k), some (.inl x5)]) rfl rfl ?_
            refine w_iinc (lo' := fun z9 => [some (.inr (.inr (some 0))), some (.inl 0), some (.inl z9), some (.inl x5)]) rfl rfl (fun _ => rfl) (by omega) (fun x16 tx16 => ?_)
            refine w_goto rfl ?_
            exact ih4 (10 - x16.toInt).toNat (by omega) 0 x16 (some (.inl x5)) rfl  (by omega) (by omega)
  exact loop4 _ 1 0 none rfl  (by omega) (by omega)
set_option maxRecDepth 4000 in
theorem s_findShares {K : Nat} (a : Nat → Nat → Int32) (b : Nat → Nat → Int64) (al : Int32) (wa : Int32) (hR : RM K a)  : f_call mtM 1 96 [.inr (.inr (some 0)), .inl al, .inl wa] (mH a b) (fun v9 h' => ∃ (a' : Nat → Nat → Int32), h' = mH a' b ∧ RM K a' ∧ (FR [23, 24] a a' ∧ True) ∧ v9 = none) := by
  refine f_call_of (d0 := 0) rfl (Nat.le_of_ble_eq_true rfl) (fun d hd => ?_)
  show f_wp _ (0, [some (.inr (.inr (some 0))), some (.inl al), some (.inl wa), none, none, none, none], [], mH a b) _
  have lm1 : (-1 : Int32).toInt = -1 := rfl
  have l0 : (0 : Int32).toInt = 0 := rfl
  have l1 : (1 : Int32).toInt = 1 := rfl
  have l19 : (19 : Int32).toInt = 19 := rfl
  have l20 : (20 : Int32).toInt = 20 := rfl
  refine w_iload rfl rfl ?_
  refine w_istore (lo' := [some (.inr (.inr (some 0))), some (.inl al), some (.inl wa), some (.inl al), none, none, none]) rfl rfl ?_
  refine w_const rfl ?_
  refine w_istore (lo' := [some (.inr (.inr (some 0))), some (.inl al), some (.inl wa), some (.inl al), some (.inl 0), none, none]) rfl rfl ?_
  have loop5 : ∀ (ms9 : Nat) (left : Int32) (k : Int32) (a5 : Nat → Nat → Int32) , (6 - k.toInt).toNat = ms9 → RM K a5 → FR [23, 24] a a5 → (0 ≤ k.toInt ∧ k.toInt ≤ 6) → f_wp (f_code (t_X13_findShares (f_ev mtM d))) (5, [some (.inr (.inr (some 0))), some (.inl al), some (.inl wa), some (.inl left), some (.inl k), none, none], [], mH a5 b) (fun v9 h' => ∃ (a' : Nat → Nat → Int32), h' = mH a' b ∧ RM K a' ∧ (FR [23, 24] a a' ∧ True) ∧ v9 = none) := by
    intro ms9
    induction ms9 using Nat.strongRecOn with
    | _ ms5 ih5 =>
      intro left k a5  hm5 hR5 hF5 hk
      refine w_iload rfl rfl ?_
      refine w_aload rfl rfl ?_
      refine w_getR (v := .inr (.inr (some 15))) rfl rfl rfl rfl rfl ?_
      refine w_const rfl ?_
      refine m_iald rfl rfl (by omega) (fun x1 ex1 => ?_)
      have u9 : -1 ≤ x1.toInt ∧ x1.toInt ≤ 6 := by rw [ex1]; exact hR5 15 19
      refine w_ic_ge rfl (fun c2 => ?_) (fun c2 => ?_)
      · skip
        refine w_const rfl ?_
        refine w_istore (lo' := [some (.inr (.inr (some 0))), some (.inl al), some (.inl wa), some (.inl left), some (.inl 0), none, none]) rfl rfl ?_
        have loop94 : ∀ (ms9 : Nat) (n : Int32) (a94 : Nat → Nat → Int32) (o5_94 : Option f_V) (o6_94 : Option f_V), (left.toInt - n.toInt).toNat = ms9 → RM K a94 → FR [23, 24] a a94 → (0 ≤ n.toInt) → f_wp (f_code (t_X13_findShares (f_ev mtM d))) (94, [some (.inr (.inr (some 0))), some (.inl al), some (.inl wa), some (.inl left), some (.inl n), o5_94, o6_94], [], mH a94 b) (fun v9 h' => ∃ (a' : Nat → Nat → Int32), h' = mH a' b ∧ RM K a' ∧ (FR [23, 24] a a' ∧ True) ∧ v9 = none) := by
          intro ms9
          induction ms9 using Nat.strongRecOn with
          | _ ms94 ih94 =>
            intro n a94 o5_94 o6_94 hm94 hR94 hF94 hn
            have z8 := ti_hi left
            refine w_iload rfl rfl ?_
            refine w_iload rfl rfl ?_
            refine w_ic_ge rfl (fun c3 => ?_) (fun c3 => ?_)
            · skip
              exact w_ret rfl ⟨a94, rfl, hR94, ⟨hF94, trivial⟩, rfl⟩
            · skip
              refine w_iload rfl rfl ?_
              refine w_if_le rfl (fun c4 => ?_) (fun c4 => ?_)
              · skip
                exact w_ret rfl ⟨a94, rfl, hR94, ⟨hF94, trivial⟩, rfl⟩
              · skip
                refine w_const rfl ?_
                refine w_istore (lo' := [some (.inr (.inr (some 0))), some (.inl al), some (.inl wa), some (.inl left), some (.inl n), some (.inl 0), o6_94]) rfl rfl ?_
                refine w_const rfl ?_
                refine w_istore (lo' := [some (.inr (.inr (some 0))), some (.inl al), some (.inl wa), some (.inl left), some (.inl n), some (.inl 0), some (.inl 1)]) rfl rfl ?_
                have loop110 : ∀ (ms9 : Nat) (best : Int32) (m : Int32) , (6 - m.toInt).toNat = ms9 → (0 ≤ best.toInt ∧ best.toInt ≤ 5) → (1 ≤ m.toInt ∧ m.toInt ≤ 6) → f_wp (f_code (t_X13_findShares (f_ev mtM d))) (110, [some (.inr (.inr (some 0))), some (.inl al), some (.inl wa), some (.inl left), some (.inl n), some (.inl best), some (.inl m)], [], mH a94 b) (fun v9 h' => ∃ (a' : Nat → Nat → Int32), h' = mH a' b ∧ RM K a' ∧ (FR [23, 24] a a' ∧ True) ∧ v9 = none) := by
                  intro ms9
                  induction ms9 using Nat.strongRecOn with
                  | _ ms110 ih110 =>
                    intro best m  hm110 hb hm
                    refine w_iload rfl rfl ?_
                    refine w_aload rfl rfl ?_
                    refine w_getR (v := .inr (.inr (some 15))) rfl rfl rfl rfl rfl ?_
                    refine w_const rfl ?_
                    refine m_iald rfl rfl (by omega) (fun x5 ex5 => ?_)
                    have u9 : -1 ≤ x5.toInt ∧ x5.toInt ≤ 6 := by rw [ex5]; exact hR94 15 19
                    refine w_ic_ge rfl (fun c6 => ?_) (fun c6 => ?_)
                    · skip
                      refine w_aload rfl rfl ?_
                      refine w_getR (v := .inr (.inr (some 23))) rfl rfl rfl rfl rfl ?_
                      refine w_iload rfl rfl ?_
                      refine w_dup2 rfl ⟨rfl, rfl⟩ ?_
                      refine m_iald rfl rfl (by omega) (fun x7 ex7 => ?_)
                      refine w_const rfl ?_
                      first | refine w_iadd rfl (by omega) (fun x8 tx8 => ?_) | refine w_iiU rfl (fun x8 tx8 => ?_)
                      refine m_iast rfl rfl (by omega) (fun a9 ea9 => ?_)
                      have ha9 : RM K a9 := RM.up hR94 ea9 ⟨ti_lo _, ti_hi _⟩
                      refine w_aload rfl rfl ?_
                      refine w_getR (v := .inr (.inr (some 24))) rfl rfl rfl rfl rfl ?_
                      refine w_iload rfl rfl ?_
                      refine w_const rfl ?_
                      refine m_iast rfl rfl (by omega) (fun a10 ea10 => ?_)
                      have ha10 : RM K a10 := RM.up ha9 ea10 ⟨ti_lo _, ti_hi _⟩
                      refine w_iinc (lo' := fun z9 => [some (.inr (.inr (some 0))), some (.inl al), some (.inl wa), some (.inl left), some (.inl z9), some (.inl best), some (.inl m)]) rfl rfl (fun _ => rfl) (by omega) (fun x11 tx11 => ?_)
                      refine w_goto rfl ?_
                      exact ih94 (left.toInt - x11.toInt).toNat (by omega) x11 a10 (some (.inl best)) (some (.inl m)) rfl ha10 (FR.up (FR.up (hF94) (by decide) ea9) (by decide) ea10) (by omega)
                    · skip
                      refine w_aload rfl rfl ?_
                      refine w_getR (v := .inr (.inr (some 24))) rfl rfl rfl rfl rfl ?_
                      refine w_iload rfl rfl ?_
                      refine m_iald rfl rfl (by omega) (fun x12 ex12 => ?_)
                      refine w_aload rfl rfl ?_
                      refine w_getR (v := .inr (.inr (some 24))) rfl rfl rfl rfl rfl ?_
                      refine w_iload rfl rfl ?_
                      refine m_iald rfl rfl (by omega) (fun x13 ex13 => ?_)
                      refine w_ic_le rfl (fun c14 => ?_) (fun c14 => ?_)
                      · skip
                        refine w_iload rfl rfl ?_
                        refine w_istore (lo' := [some (.inr (.inr (some 0))), some (.inl al), some (.inl wa), some (.inl left), some (.inl n), some (.inl best), some (.inl m)]) rfl rfl ?_
                        refine w_iinc (lo' := fun z9 => [some (.inr (.inr (some 0))), some (.inl al), some (.inl wa), some (.inl left), some (.inl n), some (.inl best), some (.inl z9)]) rfl rfl (fun _ => rfl) (by omega) (fun x15 tx15 => ?_)
                        refine w_goto rfl ?_
                        exact ih110 (6 - x15.toInt).toNat (by omega) best x15 rfl  (by omega) (by omega)
                      · skip
                        refine w_iload rfl rfl ?_
                        refine w_goto rfl ?_
                        refine w_istore (lo' := [some (.inr (.inr (some 0))), some (.inl al), some (.inl wa), some (.inl left), some (.inl n), some (.inl m), some (.inl m)]) rfl rfl ?_
                        refine w_iinc (lo' := fun z9 => [some (.inr (.inr (some 0))), some (.inl al), some (.inl wa), some (.inl left), some (.inl n), some (.inl m), some (.inl z9)]) rfl rfl (fun _ => rfl) (by omega) (fun x16 tx16 => ?_)
                        refine w_goto rfl ?_
                        exact ih110 (6 - x16.toInt).toNat (by omega) m x16 rfl  (by omega) (by omega)
                exact loop110 _ 0 1 rfl  (by omega) (by omega)
        exact loop94 _ 0 a5 none none rfl hR5 (hF5) (by omega)
      · skip
        refine w_aload rfl rfl ?_
        refine w_getR (v := .inr (.inr (some 23))) rfl rfl rfl rfl rfl ?_
        refine w_iload rfl rfl ?_
        refine w_iload rfl rfl ?_
        refine w_if_ne rfl (fun c17 => ?_) (fun c17 => ?_)
        · skip
          refine w_const rfl ?_
          refine w_goto rfl ?_
          refine m_iast rfl rfl (by omega) (fun a18 ea18 => ?_)
          have ha18 : RM K a18 := RM.up hR5 ea18 ⟨ti_lo _, ti_hi _⟩
          refine w_aload rfl rfl ?_
          refine w_getR (v := .inr (.inr (some 24))) rfl rfl rfl rfl rfl ?_
          refine w_iload rfl rfl ?_
          refine w_iload rfl rfl ?_
          refine w_if_ne rfl (fun c19 => ?_) (fun c19 => ?_)
          · skip
            refine w_const rfl ?_
            refine w_goto rfl ?_
            refine m_iast rfl rfl (by omega) (fun a20 ea20 => ?_)
            have ha20 : RM K a20 := RM.up ha18 ea20 ⟨ti_lo _, ti_hi _⟩
            refine w_iload rfl rfl ?_
            refine w_aload rfl rfl ?_
            refine w_getR (v := .inr (.inr (some 23))) rfl rfl rfl rfl rfl ?_
            refine w_iload rfl rfl ?_
            refine m_iald rfl rfl (by omega) (fun x21 ex21 => ?_)
            first | refine w_isub rfl (by omega) (fun x22 tx22 => ?_) | refine w_iiU rfl (fun x22 tx22 => ?_)
            refine w_istore (lo' := [some (.inr (.inr (some 0))), some (.inl al), some (.inl wa), some (.inl x22), some (.inl k), none, none]) rfl rfl ?_
            refine w_iinc (lo' := fun z9 => [some (.inr (.inr (some 0))), some (.inl al), some (.inl wa), some (.inl x22), some (.inl z9), none, none]) rfl rfl (fun _ => rfl) (by omega) (fun x23 tx23 => ?_)
            refine w_goto rfl ?_
            exact ih5 (6 - x23.toInt).toNat (by omega) x22 x23 a20 rfl ha20 (FR.up (FR.up (hF5) (by decide) ea18) (by decide) ea20) (by omega)
          · skip
            refine w_iload rfl rfl ?_
            refine w_aload rfl rfl ?_
            refine w_getR (v := .inr (.inr (some 15))) rfl rfl rfl rfl rfl ?_
            refine w_const rfl ?_
            refine w_iload rfl rfl ?_
            first | refine w_iadd rfl (by omega) (fun x24 tx24 => ?_) | refine w_iiU rfl (fun x24 tx24 => ?_)
            refine m_iald rfl rfl (by omega) (fun x25 ex25 => ?_)
            refine w_iiU rfl (fun x26 tx26 => ?_)
            refine w_iload rfl rfl ?_
            refine w_iidE rfl (by omega) (fun x27 tx27 => ?_)
            refine m_iast rfl rfl (by omega) (fun a28 ea28 => ?_)
            have ha28 : RM K a28 := RM.up ha18 ea28 ⟨ti_lo _, ti_hi _⟩
            refine w_iload rfl rfl ?_
            refine w_aload rfl rfl ?_
            refine w_getR (v := .inr (.inr (some 23))) rfl rfl rfl rfl rfl ?_
            refine w_iload rfl rfl ?_
            refine m_iald rfl rfl (by omega) (fun x29 ex29 => ?_)
            first | refine w_isub rfl (by omega) (fun x30 tx30 => ?_) | refine w_iiU rfl (fun x30 tx30 => ?_)
            refine w_istore (lo' := [some (.inr (.inr (some 0))), some (.inl al), some (.inl wa), some (.inl x30), some (.inl k), none, none]) rfl rfl ?_
            refine w_iinc (lo' := fun z9 => [some (.inr (.inr (some 0))), some (.inl al), some (.inl wa), some (.inl x30), some (.inl z9), none, none]) rfl rfl (fun _ => rfl) (by omega) (fun x31 tx31 => ?_)
            refine w_goto rfl ?_
            exact ih5 (6 - x31.toInt).toNat (by omega) x30 x31 a28 rfl ha28 (FR.up (FR.up (hF5) (by decide) ea18) (by decide) ea28) (by omega)
        · skip
          refine w_iload rfl rfl ?_
          refine w_aload rfl rfl ?_
          refine w_getR (v := .inr (.inr (some 15))) rfl rfl rfl rfl rfl ?_
          refine w_const rfl ?_
          refine w_iload rfl rfl ?_
          first | refine w_iadd rfl (by omega) (fun x32 tx32 => ?_) | refine w_iiU rfl (fun x32 tx32 => ?_)
          refine m_iald rfl rfl (by omega) (fun x33 ex33 => ?_)
          refine w_iiU rfl (fun x34 tx34 => ?_)
          refine w_iload rfl rfl ?_
          refine w_iidE rfl (by omega) (fun x35 tx35 => ?_)
          refine m_iast rfl rfl (by omega) (fun a36 ea36 => ?_)
          have ha36 : RM K a36 := RM.up hR5 ea36 ⟨ti_lo _, ti_hi _⟩
          refine w_aload rfl rfl ?_
          refine w_getR (v := .inr (.inr (some 24))) rfl rfl rfl rfl rfl ?_
          refine w_iload rfl rfl ?_
          refine w_iload rfl rfl ?_
          refine w_if_ne rfl (fun c37 => ?_) (fun c37 => ?_)
          · skip
            refine w_const rfl ?_
            refine w_goto rfl ?_
            refine m_iast rfl rfl (by omega) (fun a38 ea38 => ?_)
            have ha38 : RM K a38 := RM.up ha36 ea38 ⟨ti_lo _, ti_hi _⟩
            refine w_iload rfl rfl ?_
            refine w_aload rfl rfl ?_
            refine w_getR (v := .inr (.inr (some 23))) rfl rfl rfl rfl rfl ?_
            refine w_iload rfl rfl ?_
            refine m_iald rfl rfl (by omega) (fun x39 ex39 => ?_)
            first | refine w_isub rfl (by omega) (fun x40 tx40 => ?_) | refine w_iiU rfl (fun x40 tx40 => ?_)
            refine w_istore (lo' := [some (.inr (.inr (some 0))), some (.inl al), some (.inl wa), some (.inl x40), some (.inl k), none, none]) rfl rfl ?_
            refine w_iinc (lo' := fun z9 => [some (.inr (.inr (some 0))), some (.inl al), some (.inl wa), some (.inl x40), some (.inl z9), none, none]) rfl rfl (fun _ => rfl) (by omega) (fun x41 tx41 => ?_)
            refine w_goto rfl ?_
            exact ih5 (6 - x41.toInt).toNat (by omega) x40 x41 a38 rfl ha38 (FR.up (FR.up (hF5) (by decide) ea36) (by decide) ea38) (by omega)
          · skip
            refine w_iload rfl rfl ?_
            refine w_aload rfl rfl ?_
            refine w_getR (v := .inr (.inr (some 15))) rfl rfl rfl rfl rfl ?_
            refine w_const rfl ?_
            refine w_iload rfl rfl ?_
            first | refine w_iadd rfl (by omega) (fun x42 tx42 => ?_) | refine w_iiU rfl (fun x42 tx42 => ?_)
            refine m_iald rfl rfl (by omega) (fun x43 ex43 => ?_)
            refine w_iiU rfl (fun x44 tx44 => ?_)
            refine w_iload rfl rfl ?_
            refine w_iidE rfl (by omega) (fun x45 tx45 => ?_)
            refine m_iast rfl rfl (by omega) (fun a46 ea46 => ?_)
            have ha46 : RM K a46 := RM.up ha36 ea46 ⟨ti_lo _, ti_hi _⟩
            refine w_iload rfl rfl ?_
            refine w_aload rfl rfl ?_
            refine w_getR (v := .inr (.inr (some 23))) rfl rfl rfl rfl rfl ?_
            refine w_iload rfl rfl ?_
            refine m_iald rfl rfl (by omega) (fun x47 ex47 => ?_)
            first | refine w_isub rfl (by omega) (fun x48 tx48 => ?_) | refine w_iiU rfl (fun x48 tx48 => ?_)
            refine w_istore (lo' := [some (.inr (.inr (some 0))), some (.inl al), some (.inl wa), some (.inl x48), some (.inl k), none, none]) rfl rfl ?_
            refine w_iinc (lo' := fun z9 => [some (.inr (.inr (some 0))), some (.inl al), some (.inl wa), some (.inl x48), some (.inl z9), none, none]) rfl rfl (fun _ => rfl) (by omega) (fun x49 tx49 => ?_)
            refine w_goto rfl ?_
            exact ih5 (6 - x49.toInt).toNat (by omega) x48 x49 a46 rfl ha46 (FR.up (FR.up (hF5) (by decide) ea36) (by decide) ea46) (by omega)
  exact loop5 _ al 0 a rfl hR (FR.rf) (by omega)
set_option maxRecDepth 4000 in
theorem s_share {K : Nat} (a : Nat → Nat → Int32) (b : Nat → Nat → Int64) (r : Int32) (s : Int32) (h : Int32) (hR : RM K a) (hA : AC a 0) : f_call mtM 12 97 [.inr (.inr (some 0)), .inl r, .inl s, .inl h] (mH a b) (fun v9 h' => ∃ (a' : Nat → Nat → Int32), h' = mH a' b ∧ RM K a' ∧ (FR [0, 23, 24] a a' ∧ True) ∧ ∃ x : Int32, v9 = some (.inl x) ∧ True) := by
  refine f_call_of (d0 := 11) rfl (Nat.le_of_ble_eq_true rfl) (fun d hd => ?_)
  show f_wp _ (0, [some (.inr (.inr (some 0))), some (.inl r), some (.inl s), some (.inl h), none, none], [], mH a b) _
  have lm1 : (-1 : Int32).toInt = -1 := rfl
  have l0 : (0 : Int32).toInt = 0 := rfl
  have l1 : (1 : Int32).toInt = 1 := rfl
  have l3 : (3 : Int32).toInt = 3 := rfl
  have l19 : (19 : Int32).toInt = 19 := rfl
  have l20 : (20 : Int32).toInt = 20 := rfl
  refine w_aload rfl rfl ?_
  refine w_const rfl ?_
  refine m_putI (z := false) rfl rfl rfl rfl (by first | (intro h9; cases h9; done) | (intro _; first | exact Or.inl rfl | exact Or.inr rfl | assumption)) (fun a1 ea1 => ?_)
  have ha1 : RM K a1 := RM.up hR ea1 ⟨ti_lo _, ti_hi _⟩
  have ua1_0 : a1 0 0 = (0 : Int32) := by rw [ea1, mU_same]
  have wa1_0 := congrArg Int32.toInt ua1_0
  refine w_aload rfl rfl ?_
  refine w_iload rfl rfl ?_
  refine w_invV (rest := []) rfl rfl rfl rfl rfl (Nat.le_of_ble_eq_true rfl) rfl (by omega) (s_isRiver (K := K) a1 b  r ha1 ) (fun v2 h9 hq3 => ?_)
  obtain ⟨rfl, x4, rfl, px4⟩ := hq3
  show f_wp _ (10, [some (.inr (.inr (some 0))), some (.inl r), some (.inl s), some (.inl h), none, none], [.inl x4], mH a1 b) _
  refine w_if_eq rfl (fun c5 => ?_) (fun c5 => ?_)
  · skip
    refine w_const rfl ?_
    exact wp_iret (z := false) rfl (fun h9 => by cases h9) ⟨a1, rfl, ha1, ⟨FR.up (FR.rf) (by decide) ea1, trivial⟩, ⟨_, rfl, trivial⟩⟩
  · skip
    refine w_iload rfl rfl ?_
    refine w_const rfl ?_
    refine w_const rfl ?_
    refine w_invS (rest := []) rfl (Nat.le_of_ble_eq_true rfl) rfl (Nat.le_of_ble_eq_true rfl) rfl (by omega) (s_within (K := K) a1 b  s 0 3  ) (fun v6 h9 hq7 => ?_)
    obtain ⟨rfl, x8, rfl, px8⟩ := hq7
    show f_wp _ (19, [some (.inr (.inr (some 0))), some (.inl r), some (.inl s), some (.inl h), none, none], [.inl x8], mH a1 b) _
    refine w_if_eq rfl (fun c9 => ?_) (fun c9 => ?_)
    · skip
      refine w_const rfl ?_
      exact wp_iret (z := false) rfl (fun h9 => by cases h9) ⟨a1, rfl, ha1, ⟨FR.up (FR.rf) (by decide) ea1, trivial⟩, ⟨_, rfl, trivial⟩⟩
    · skip
      refine w_iload rfl rfl ?_
      refine w_const rfl ?_
      refine w_aload rfl rfl ?_
      refine w_getR (v := .inr (.inr (some 15))) rfl rfl rfl rfl rfl ?_
      refine w_const rfl ?_
      refine m_iald rfl rfl (by omega) (fun x10 ex10 => ?_)
      have u9 : -1 ≤ x10.toInt ∧ x10.toInt ≤ 6 := by rw [ex10]; exact ha1 15 19
      refine w_const rfl ?_
      first | refine w_isub rfl (by omega) (fun x11 tx11 => ?_) | refine w_iiU rfl (fun x11 tx11 => ?_)
      refine w_invS (rest := []) rfl (Nat.le_of_ble_eq_true rfl) rfl (Nat.le_of_ble_eq_true rfl) rfl (by omega) (s_within (K := K) a1 b  h 0 x11  ) (fun v12 h9 hq13 => ?_)
      obtain ⟨rfl, x14, rfl, px14⟩ := hq13
      show f_wp _ (36, [some (.inr (.inr (some 0))), some (.inl r), some (.inl s), some (.inl h), none, none], [.inl x14], mH a1 b) _
      refine w_if_ne rfl (fun c15 => ?_) (fun c15 => ?_)
      · skip
        refine w_const rfl ?_
        exact wp_iret (z := false) rfl (fun h9 => by cases h9) ⟨a1, rfl, ha1, ⟨FR.up (FR.rf) (by decide) ea1, trivial⟩, ⟨_, rfl, trivial⟩⟩
      · skip
        refine w_const rfl ?_
        refine w_istore (lo' := [some (.inr (.inr (some 0))), some (.inl r), some (.inl s), some (.inl h), some (.inl 0), none]) rfl rfl ?_
        refine w_const rfl ?_
        refine w_istore (lo' := [some (.inr (.inr (some 0))), some (.inl r), some (.inl s), some (.inl h), some (.inl 0), some (.inl 0)]) rfl rfl ?_
        have loop47 : ∀ (ms9 : Nat) (wa : Int32) (k : Int32) , (6 - k.toInt).toNat = ms9 → (0 ≤ k.toInt ∧ k.toInt ≤ 6) → f_wp (f_code (t_X13_share (f_ev mtM d))) (47, [some (.inr (.inr (some 0))), some (.inl r), some (.inl s), some (.inl h), some (.inl wa), some (.inl k)], [], mH a1 b) (fun v9 h' => ∃ (a' : Nat → Nat → Int32), h' = mH a' b ∧ RM K a' ∧ (FR [0, 23, 24] a a' ∧ True) ∧ ∃ x : Int32, v9 = some (.inl x) ∧ True) := by
          intro ms9
          induction ms9 using Nat.strongRecOn with
          | _ ms47 ih47 =>
            intro wa k  hm47 hk
            refine w_iload rfl rfl ?_
            refine w_aload rfl rfl ?_
            refine w_getR (v := .inr (.inr (some 15))) rfl rfl rfl rfl rfl ?_
            refine w_const rfl ?_
            refine m_iald rfl rfl (by omega) (fun x16 ex16 => ?_)
            have u9 : -1 ≤ x16.toInt ∧ x16.toInt ≤ 6 := by rw [ex16]; exact ha1 15 19
            refine w_ic_ge rfl (fun c17 => ?_) (fun c17 => ?_)
            · skip
              refine w_aload rfl rfl ?_
              refine w_aload rfl rfl ?_
              refine w_const rfl ?_
              refine w_iload rfl rfl ?_
              refine w_iload rfl rfl ?_
              refine w_invV (rest := [.inr (.inr (some 0))]) rfl rfl rfl rfl rfl (Nat.le_of_ble_eq_true rfl) rfl (by omega) (s_mouthFlow (K := K) a1 b  0 r s ha1 (by omega) (by omega) (by omega) (((fun (m9 : Nat) (l9 : m9 < 22) (h7 : ACm m9 a) => ACm.up ((fun (m9 : Nat) (l9 : m9 < 22) (h7 : ACm m9 a) => h7) m9 l9 h7) ea1 (by decide)) 0 (by decide) hA))) (fun v18 h9 hq19 => ?_)
              obtain ⟨rfl, x20, rfl, px20⟩ := hq19
              show f_wp _ (88, [some (.inr (.inr (some 0))), some (.inl r), some (.inl s), some (.inl h), some (.inl wa), some (.inl k)], [.inl x20, .inr (.inr (some 0))], mH a1 b) _
              refine w_iload rfl rfl ?_
              refine w_invV (rest := []) rfl rfl rfl rfl rfl (Nat.le_of_ble_eq_true rfl) rfl (by omega) (s_findShares (K := K) a1 b  x20 wa ha1 ) (fun v21 h9 hq22 => ?_)
              obtain ⟨a23, rfl, ha23, fa23, rfl⟩ := hq22
              show f_wp _ (93, [some (.inr (.inr (some 0))), some (.inl r), some (.inl s), some (.inl h), some (.inl wa), some (.inl k)], [], mH a23 b) _
              refine w_aload rfl rfl ?_
              refine w_getR (v := .inr (.inr (some 23))) rfl rfl rfl rfl rfl ?_
              refine w_iload rfl rfl ?_
              refine m_iald rfl rfl (by omega) (fun x24 ex24 => ?_)
              exact wp_iret (z := false) rfl (fun h9 => by cases h9) ⟨a23, rfl, ha23, ⟨FR.tr (FR.up (FR.rf) (by decide) ea1) (FR.sub fa23.1 (by decide)), trivial⟩, ⟨_, rfl, trivial⟩⟩
            · skip
              refine w_iload rfl rfl ?_
              refine w_aload rfl rfl ?_
              refine w_getR (v := .inr (.inr (some 15))) rfl rfl rfl rfl rfl ?_
              refine w_const rfl ?_
              refine w_iload rfl rfl ?_
              first | refine w_iadd rfl (by omega) (fun x25 tx25 => ?_) | refine w_iiU rfl (fun x25 tx25 => ?_)
              refine m_iald rfl rfl (by omega) (fun x26 ex26 => ?_)
              first | refine w_iadd rfl (by omega) (fun x27 tx27 => ?_) | refine w_iiU rfl (fun x27 tx27 => ?_)
              refine w_istore (lo' := [some (.inr (.inr (some 0))), some (.inl r), some (.inl s), some (.inl h), some (.inl x27), some (.inl k)]) rfl rfl ?_
              refine w_iinc (lo' := fun z9 => [some (.inr (.inr (some 0))), some (.inl r), some (.inl s), some (.inl h), some (.inl x27), some (.inl z9)]) rfl rfl (fun _ => rfl) (by omega) (fun x28 tx28 => ?_)
              refine w_goto rfl ?_
              exact ih47 (6 - x28.toInt).toNat (by omega) x27 x28 rfl  (by omega)
        exact loop47 _ 0 0 rfl  (by omega)
set_option maxRecDepth 4000 in
theorem s_peace {K : Nat} (a : Nat → Nat → Int32) (b : Nat → Nat → Int64)  (hR : RM K a) (hA : AC a 0) : f_call mtM 13 93 [.inr (.inr (some 0))] (mH a b) (fun v9 h' => ∃ (a' : Nat → Nat → Int32), h' = mH a' b ∧ RM K a' ∧ (FR [0, 15] a a' ∧ (∀ m9, m9 < 21 → ACm m9 a → ACm m9 a') ∧ True) ∧ ∃ x : Int32, v9 = some (.inl x) ∧ True) := by
  refine f_call_of (d0 := 12) rfl (Nat.le_of_ble_eq_true rfl) (fun d hd => ?_)
  show f_wp _ (0, [some (.inr (.inr (some 0))), none, none, none, none], [], mH a b) _
  have lm1 : (-1 : Int32).toInt = -1 := rfl
  have l0 : (0 : Int32).toInt = 0 := rfl
  have l1 : (1 : Int32).toInt = 1 := rfl
  have l19 : (19 : Int32).toInt = 19 := rfl
  have l1260 : (1260 : Int32).toInt = 1260 := rfl
  have l1261 : (1261 : Int32).toInt = 1261 := rfl
  refine w_aload rfl rfl ?_
  refine w_const rfl ?_
  refine m_putI (z := false) rfl rfl rfl rfl (by first | (intro h9; cases h9; done) | (intro _; first | exact Or.inl rfl | exact Or.inr rfl | assumption)) (fun a1 ea1 => ?_)
  have ha1 : RM K a1 := RM.up hR ea1 ⟨ti_lo _, ti_hi _⟩
  have ua1_0 : a1 0 0 = (0 : Int32) := by rw [ea1, mU_same]
  have wa1_0 := congrArg Int32.toInt ua1_0
  refine w_const rfl ?_
  refine w_istore (lo' := [some (.inr (.inr (some 0))), some (.inl (-1)), none, none, none]) rfl rfl ?_
  refine w_const rfl ?_
  refine w_istore (lo' := [some (.inr (.inr (some 0))), some (.inl (-1)), some (.inl 0), none, none]) rfl rfl ?_
  have loop9 : ∀ (ms9 : Nat) (best : Int32) (set : Int32) (a9 : Nat → Nat → Int32) (o3_9 : Option f_V) (o4_9 : Option f_V), (64 - set.toInt).toNat = ms9 → RM K a9 → FR [0, 15] a a9 → (∀ m9, m9 < 21 → ACm m9 a → ACm m9 a9) → (0 ≤ set.toInt ∧ set.toInt ≤ 64) → f_wp (f_code (t_X13_peace (f_ev mtM d))) (9, [some (.inr (.inr (some 0))), some (.inl best), some (.inl set), o3_9, o4_9], [], mH a9 b) (fun v9 h' => ∃ (a' : Nat → Nat → Int32), h' = mH a' b ∧ RM K a' ∧ (FR [0, 15] a a' ∧ (∀ m9, m9 < 21 → ACm m9 a → ACm m9 a') ∧ True) ∧ ∃ x : Int32, v9 = some (.inl x) ∧ True) := by
    intro ms9
    induction ms9 using Nat.strongRecOn with
    | _ ms9 ih9 =>
      intro best set a9 o3_9 o4_9 hm9 hR9 hF9 hC9 hs
      refine w_iload rfl rfl ?_
      refine w_const rfl ?_
      refine w_aload rfl rfl ?_
      refine w_invV (rest := [.inl 1, .inl set]) rfl rfl rfl rfl rfl (Nat.le_of_ble_eq_true rfl) rfl (by omega) (s_rivers (K := K) a9 b   hR9 ) (fun v2 h9 hq3 => ?_)
      obtain ⟨rfl, x4, rfl, px4⟩ := hq3
      show f_wp _ (15, [some (.inr (.inr (some 0))), some (.inl best), some (.inl set), o3_9, o4_9], [.inl x4, .inl 1, .inl set], mH a9 b) _
      refine w_iiE rfl (fun x5 tx5 => ?_)
      have s9 : 1 ≤ x5.toInt ∧ x5.toInt ≤ 64 := by rw [tx5]; exact ti_shl1 (by omega)
      refine w_ic_ge rfl (fun c6 => ?_) (fun c6 => ?_)
      · skip
        refine w_iload rfl rfl ?_
        exact wp_iret (z := false) rfl (fun h9 => by cases h9) ⟨a9, rfl, hR9, ⟨hF9, hC9, trivial⟩, ⟨_, rfl, trivial⟩⟩
      · skip
        refine w_const rfl ?_
        refine w_istore (lo' := [some (.inr (.inr (some 0))), some (.inl best), some (.inl set), some (.inl 1), o4_9]) rfl rfl ?_
        refine w_aload rfl rfl ?_
        refine w_const rfl ?_
        refine w_const rfl ?_
        refine w_const rfl ?_
        refine w_invV (rest := []) rfl rfl rfl rfl rfl (Nat.le_of_ble_eq_true rfl) rfl (by omega) (s_copies (K := K) a9 b  0 1260 19 hR9 (by omega) (by omega) (by omega) (AC.at ((hC9) 0 (by decide) hA) (by decide))) (fun v7 h9 hq8 => ?_)
        obtain ⟨a9, rfl, ha9, fa9, rfl⟩ := hq8
        show f_wp _ (31, [some (.inr (.inr (some 0))), some (.inl best), some (.inl set), some (.inl 1), o4_9], [], mH a9 b) _
        refine w_const rfl ?_
        refine w_istore (lo' := [some (.inr (.inr (some 0))), some (.inl best), some (.inl set), some (.inl 1), some (.inl 0)]) rfl rfl ?_
        have loop34 : ∀ (ms9 : Nat) (may : Int32) (r : Int32) (a34 : Nat → Nat → Int32) , (6 - r.toInt).toNat = ms9 → RM K a34 → FR [0, 15] a a34 → (∀ m9, m9 < 21 → ACm m9 a → ACm m9 a34) → (0 ≤ r.toInt ∧ r.toInt ≤ 6) → (AC a34 1260) → f_wp (f_code (t_X13_peace (f_ev mtM d))) (34, [some (.inr (.inr (some 0))), some (.inl best), some (.inl set), some (.inl may), some (.inl r)], [], mH a34 b) (fun v9 h' => ∃ (a' : Nat → Nat → Int32), h' = mH a' b ∧ RM K a' ∧ (FR [0, 15] a a' ∧ (∀ m9, m9 < 21 → ACm m9 a → ACm m9 a') ∧ True) ∧ ∃ x : Int32, v9 = some (.inl x) ∧ True) := by
          intro ms9
          induction ms9 using Nat.strongRecOn with
          | _ ms34 ih34 =>
            intro may r a34  hm34 hR34 hF34 hC34 hr hD34
            refine w_iload rfl rfl ?_
            refine w_aload rfl rfl ?_
            refine w_invV (rest := [.inl r]) rfl rfl rfl rfl rfl (Nat.le_of_ble_eq_true rfl) rfl (by omega) (s_rivers (K := K) a34 b   hR34 ) (fun v10 h9 hq11 => ?_)
            obtain ⟨rfl, x12, rfl, px12⟩ := hq11
            show f_wp _ (40, [some (.inr (.inr (some 0))), some (.inl best), some (.inl set), some (.inl may), some (.inl r)], [.inl x12, .inl r], mH a34 b) _
            refine w_ic_ge rfl (fun c13 => ?_) (fun c13 => ?_)
            · skip
              refine w_iload rfl rfl ?_
              refine w_if_eq rfl (fun c14 => ?_) (fun c14 => ?_)
              · skip
                refine w_iinc (lo' := fun z9 => [some (.inr (.inr (some 0))), some (.inl best), some (.inl z9), some (.inl may), some (.inl r)]) rfl rfl (fun _ => rfl) (by omega) (fun x15 tx15 => ?_)
                refine w_goto rfl ?_
                exact ih9 (64 - x15.toInt).toNat (by omega) best x15 a34 (some (.inl may)) (some (.inl r)) rfl hR34 (hF34) (hC34) (by omega)
              · skip
                refine w_iload rfl rfl ?_
                refine w_if_lt rfl (fun c16 => ?_) (fun c16 => ?_)
                · skip
                  refine w_aload rfl rfl ?_
                  refine w_const rfl ?_
                  refine w_aload rfl rfl ?_
                  refine w_const rfl ?_
                  refine w_invV (rest := [.inl 1260, .inr (.inr (some 0))]) rfl rfl rfl rfl rfl (Nat.le_of_ble_eq_true rfl) rfl (by omega) (s_winter (K := K) a34 b  0 hR34 (by omega)) (fun v17 h9 hq18 => ?_)
                  obtain ⟨rfl, x19, rfl, px19⟩ := hq18
                  show f_wp _ (119, [some (.inr (.inr (some 0))), some (.inl best), some (.inl set), some (.inl may), some (.inl r)], [.inl x19, .inl 1260, .inr (.inr (some 0))], mH a34 b) _
                  refine w_invV (rest := []) rfl rfl rfl rfl rfl (Nat.le_of_ble_eq_true rfl) rfl (by omega) (s_areServed (K := K) a34 b  1260 x19 hR34 (by omega) (by omega) ((hD34))) (fun v20 h9 hq21 => ?_)
                  obtain ⟨rfl, x22, rfl, px22⟩ := hq21
                  show f_wp _ (122, [some (.inr (.inr (some 0))), some (.inl best), some (.inl set), some (.inl may), some (.inl r)], [.inl x22], mH a34 b) _
                  refine w_if_eq rfl (fun c23 => ?_) (fun c23 => ?_)
                  · skip
                    refine w_iinc (lo' := fun z9 => [some (.inr (.inr (some 0))), some (.inl best), some (.inl z9), some (.inl may), some (.inl r)]) rfl rfl (fun _ => rfl) (by omega) (fun x24 tx24 => ?_)
                    refine w_goto rfl ?_
                    exact ih9 (64 - x24.toInt).toNat (by omega) best x24 a34 (some (.inl may)) (some (.inl r)) rfl hR34 (hF34) (hC34) (by omega)
                  · skip
                    refine w_iload rfl rfl ?_
                    refine w_istore (lo' := [some (.inr (.inr (some 0))), some (.inl set), some (.inl set), some (.inl may), some (.inl r)]) rfl rfl ?_
                    refine w_iinc (lo' := fun z9 => [some (.inr (.inr (some 0))), some (.inl set), some (.inl z9), some (.inl may), some (.inl r)]) rfl rfl (fun _ => rfl) (by omega) (fun x25 tx25 => ?_)
                    refine w_goto rfl ?_
                    exact ih9 (64 - x25.toInt).toNat (by omega) set x25 a34 (some (.inl may)) (some (.inl r)) rfl hR34 (hF34) (hC34) (by omega)
                · skip
                  refine w_iload rfl rfl ?_
                  refine w_invS (rest := []) rfl (Nat.le_of_ble_eq_true rfl) rfl (Nat.le_of_ble_eq_true rfl) rfl (by omega) (s_bits (K := K) a34 b  set  ) (fun v26 h9 hq27 => ?_)
                  obtain ⟨rfl, x28, rfl, px28⟩ := hq27
                  show f_wp _ (103, [some (.inr (.inr (some 0))), some (.inl best), some (.inl set), some (.inl may), some (.inl r)], [.inl x28], mH a34 b) _
                  refine w_iload rfl rfl ?_
                  refine w_invS (rest := [.inl x28]) rfl (Nat.le_of_ble_eq_true rfl) rfl (Nat.le_of_ble_eq_true rfl) rfl (by omega) (s_bits (K := K) a34 b  best  ) (fun v29 h9 hq30 => ?_)
                  obtain ⟨rfl, x31, rfl, px31⟩ := hq30
                  show f_wp _ (107, [some (.inr (.inr (some 0))), some (.inl best), some (.inl set), some (.inl may), some (.inl r)], [.inl x31, .inl x28], mH a34 b) _
                  refine w_ic_ge rfl (fun c32 => ?_) (fun c32 => ?_)
                  · skip
                    refine w_iinc (lo' := fun z9 => [some (.inr (.inr (some 0))), some (.inl best), some (.inl z9), some (.inl may), some (.inl r)]) rfl rfl (fun _ => rfl) (by omega) (fun x33 tx33 => ?_)
                    refine w_goto rfl ?_
                    exact ih9 (64 - x33.toInt).toNat (by omega) best x33 a34 (some (.inl may)) (some (.inl r)) rfl hR34 (hF34) (hC34) (by omega)
                  · skip
                    refine w_aload rfl rfl ?_
                    refine w_const rfl ?_
                    refine w_aload rfl rfl ?_
                    refine w_const rfl ?_
                    refine w_invV (rest := [.inl 1260, .inr (.inr (some 0))]) rfl rfl rfl rfl rfl (Nat.le_of_ble_eq_true rfl) rfl (by omega) (s_winter (K := K) a34 b  0 hR34 (by omega)) (fun v34 h9 hq35 => ?_)
                    obtain ⟨rfl, x36, rfl, px36⟩ := hq35
                    show f_wp _ (119, [some (.inr (.inr (some 0))), some (.inl best), some (.inl set), some (.inl may), some (.inl r)], [.inl x36, .inl 1260, .inr (.inr (some 0))], mH a34 b) _
                    refine w_invV (rest := []) rfl rfl rfl rfl rfl (Nat.le_of_ble_eq_true rfl) rfl (by omega) (s_areServed (K := K) a34 b  1260 x36 hR34 (by omega) (by omega) ((hD34))) (fun v37 h9 hq38 => ?_)
                    obtain ⟨rfl, x39, rfl, px39⟩ := hq38
                    show f_wp _ (122, [some (.inr (.inr (some 0))), some (.inl best), some (.inl set), some (.inl may), some (.inl r)], [.inl x39], mH a34 b) _
                    refine w_if_eq rfl (fun c40 => ?_) (fun c40 => ?_)
                    · skip
                      refine w_iinc (lo' := fun z9 => [some (.inr (.inr (some 0))), some (.inl best), some (.inl z9), some (.inl may), some (.inl r)]) rfl rfl (fun _ => rfl) (by omega) (fun x41 tx41 => ?_)
                      refine w_goto rfl ?_
                      exact ih9 (64 - x41.toInt).toNat (by omega) best x41 a34 (some (.inl may)) (some (.inl r)) rfl hR34 (hF34) (hC34) (by omega)
                    · skip
                      refine w_iload rfl rfl ?_
                      refine w_istore (lo' := [some (.inr (.inr (some 0))), some (.inl set), some (.inl set), some (.inl may), some (.inl r)]) rfl rfl ?_
                      refine w_iinc (lo' := fun z9 => [some (.inr (.inr (some 0))), some (.inl set), some (.inl z9), some (.inl may), some (.inl r)]) rfl rfl (fun _ => rfl) (by omega) (fun x42 tx42 => ?_)
                      refine w_goto rfl ?_
                      exact ih9 (64 - x42.toInt).toNat (by omega) set x42 a34 (some (.inl may)) (some (.inl r)) rfl hR34 (hF34) (hC34) (by omega)
            · skip
              refine w_iload rfl rfl ?_
              refine w_iload rfl rfl ?_
              refine w_iiE rfl (fun x43 tx43 => ?_)
              refine w_const rfl ?_
              refine w_iiE rfl (fun x44 tx44 => ?_)
              refine w_const rfl ?_
              refine w_ic_ne rfl (fun c45 => ?_) (fun c45 => ?_)
              · skip
                refine w_iload rfl rfl ?_
                refine w_if_eq rfl (fun c46 => ?_) (fun c46 => ?_)
                · skip
                  refine w_const rfl ?_
                  refine w_istore (lo' := [some (.inr (.inr (some 0))), some (.inl best), some (.inl set), some (.inl 0), some (.inl r)]) rfl rfl ?_
                  refine w_aload rfl rfl ?_
                  refine w_getR (v := .inr (.inr (some 15))) rfl rfl rfl rfl rfl ?_
                  refine w_const rfl ?_
                  refine w_iload rfl rfl ?_
                  first | refine w_iadd rfl (by omega) (fun x47 tx47 => ?_) | refine w_iiU rfl (fun x47 tx47 => ?_)
                  refine w_const rfl ?_
                  refine m_iast rfl rfl (by omega) (fun a48 ea48 => ?_)
                  have ha48 : RM K a48 := RM.up hR34 ea48 (st_wed (by omega) (by omega))
                  refine w_iinc (lo' := fun z9 => [some (.inr (.inr (some 0))), some (.inl best), some (.inl set), some (.inl 0), some (.inl z9)]) rfl rfl (fun _ => rfl) (by omega) (fun x49 tx49 => ?_)
                  refine w_goto rfl ?_
                  exact ih34 (6 - x49.toInt).toNat (by omega) 0 x49 a48 rfl ha48 (FR.up (hF34) (by decide) ea48) (fun (m9 : Nat) (l9 : m9 < 21) (h7 : ACm m9 a) => ACm.put ((hC34) m9 l9 h7) ea48 (by omega)) (by omega) ((ACm.put (m := 21) (hD34) ea48 (by omega)))
                · skip
                  refine w_aload rfl rfl ?_
                  refine w_const rfl ?_
                  refine w_iload rfl rfl ?_
                  refine w_invV (rest := []) rfl rfl rfl rfl rfl (Nat.le_of_ble_eq_true rfl) rfl (by omega) (s_husbandOf (K := K) a34 b  0 r hR34 (by omega) (by omega)) (fun v50 h9 hq51 => ?_)
                  obtain ⟨rfl, x52, rfl, px52⟩ := hq51
                  show f_wp _ (64, [some (.inr (.inr (some 0))), some (.inl best), some (.inl set), some (.inl may), some (.inl r)], [.inl x52], mH a34 b) _
                  refine w_if_lt rfl (fun c53 => ?_) (fun c53 => ?_)
                  · skip
                    refine w_const rfl ?_
                    refine w_istore (lo' := [some (.inr (.inr (some 0))), some (.inl best), some (.inl set), some (.inl 0), some (.inl r)]) rfl rfl ?_
                    refine w_aload rfl rfl ?_
                    refine w_getR (v := .inr (.inr (some 15))) rfl rfl rfl rfl rfl ?_
                    refine w_const rfl ?_
                    refine w_iload rfl rfl ?_
                    first | refine w_iadd rfl (by omega) (fun x54 tx54 => ?_) | refine w_iiU rfl (fun x54 tx54 => ?_)
                    refine w_const rfl ?_
                    refine m_iast rfl rfl (by omega) (fun a55 ea55 => ?_)
                    have ha55 : RM K a55 := RM.up hR34 ea55 (st_wed (by omega) (by omega))
                    refine w_iinc (lo' := fun z9 => [some (.inr (.inr (some 0))), some (.inl best), some (.inl set), some (.inl 0), some (.inl z9)]) rfl rfl (fun _ => rfl) (by omega) (fun x56 tx56 => ?_)
                    refine w_goto rfl ?_
                    exact ih34 (6 - x56.toInt).toNat (by omega) 0 x56 a55 rfl ha55 (FR.up (hF34) (by decide) ea55) (fun (m9 : Nat) (l9 : m9 < 21) (h7 : ACm m9 a) => ACm.put ((hC34) m9 l9 h7) ea55 (by omega)) (by omega) ((ACm.put (m := 21) (hD34) ea55 (by omega)))
                  · skip
                    refine w_const rfl ?_
                    refine w_goto rfl ?_
                    refine w_istore (lo' := [some (.inr (.inr (some 0))), some (.inl best), some (.inl set), some (.inl 1), some (.inl r)]) rfl rfl ?_
                    refine w_aload rfl rfl ?_
                    refine w_getR (v := .inr (.inr (some 15))) rfl rfl rfl rfl rfl ?_
                    refine w_const rfl ?_
                    refine w_iload rfl rfl ?_
                    first | refine w_iadd rfl (by omega) (fun x57 tx57 => ?_) | refine w_iiU rfl (fun x57 tx57 => ?_)
                    refine w_const rfl ?_
                    refine m_iast rfl rfl (by omega) (fun a58 ea58 => ?_)
                    have ha58 : RM K a58 := RM.up hR34 ea58 (st_wed (by omega) (by omega))
                    refine w_iinc (lo' := fun z9 => [some (.inr (.inr (some 0))), some (.inl best), some (.inl set), some (.inl 1), some (.inl z9)]) rfl rfl (fun _ => rfl) (by omega) (fun x59 tx59 => ?_)
                    refine w_goto rfl ?_
                    exact ih34 (6 - x59.toInt).toNat (by omega) 1 x59 a58 rfl ha58 (FR.up (hF34) (by decide) ea58) (fun (m9 : Nat) (l9 : m9 < 21) (h7 : ACm m9 a) => ACm.put ((hC34) m9 l9 h7) ea58 (by omega)) (by omega) ((ACm.put (m := 21) (hD34) ea58 (by omega)))
              · skip
                refine w_iinc (lo' := fun z9 => [some (.inr (.inr (some 0))), some (.inl best), some (.inl set), some (.inl may), some (.inl z9)]) rfl rfl (fun _ => rfl) (by omega) (fun x60 tx60 => ?_)
                refine w_goto rfl ?_
                exact ih34 (6 - x60.toInt).toNat (by omega) may x60 a34 rfl hR34 (hF34) (hC34) (by omega) ((hD34))
        exact loop34 _ 1 0 a9 rfl ha9 (FR.tr (hF9) (FR.sub fa9.1 (by decide))) (fun (m9 : Nat) (l9 : m9 < 21) (h7 : ACm m9 a) => fa9.2.1 m9 (by omega) ((hC9) m9 l9 h7)) (by omega) ((AC.at (AC.copied (q := 0) (t := 1260) (AC.at ((hC9) 0 (by decide) hA) (by decide)) (by decide) fa9.2.2) (by decide)))
  exact loop9 _ (-1) 0 a1 none none rfl ha1 (FR.up (FR.rf) (by decide) ea1) (fun (m9 : Nat) (l9 : m9 < 21) (h7 : ACm m9 a) => ACm.up ((fun (m9 : Nat) (l9 : m9 < 21) (h7 : ACm m9 a) => h7) m9 l9 h7) ea1 (by decide)) (by omega)
