set_option maxRecDepth 4000 in
theorem s_tellsMost {K : Nat} (a : Nat → Nat → Int32) (b : Nat → Nat → Int64)  (hR : RM K a)  : f_call mtM 2 104 [.inr (.inr (some 0))] (mH a b) (fun v9 h' => h' = mH a b ∧ ∃ x : Int32, v9 = some (.inl x) ∧ True) := by
  refine f_call_of (d0 := 1) rfl (Nat.le_of_ble_eq_true rfl) (fun d hd => ?_)
  show f_wp _ (0, [some (.inr (.inr (some 0))), none, none, none, none, none], [], mH a b) _
  have lm1 : (-1 : Int32).toInt = -1 := rfl
  have l0 : (0 : Int32).toInt = 0 := rfl
  have l1 : (1 : Int32).toInt = 1 := rfl
  have l4 : (4 : Int32).toInt = 4 := rfl
  have l600 : (600 : Int32).toInt = 600 := rfl
  refine w_const rfl ?_
  refine w_istore (lo' := [some (.inr (.inr (some 0))), some (.inl (-1)), none, none, none, none]) rfl rfl ?_
  refine w_aload rfl rfl ?_
  refine w_getI (v := .inl (a 0 28)) rfl rfl rfl rfl rfl ?_
  refine w_istore (lo' := [some (.inr (.inr (some 0))), some (.inl (-1)), some (.inl (a 0 28)), none, none, none]) rfl rfl ?_
  refine w_const rfl ?_
  refine w_istore (lo' := [some (.inr (.inr (some 0))), some (.inl (-1)), some (.inl (a 0 28)), some (.inl 0), none, none]) rfl rfl ?_
  have loop9 : ∀ (ms9 : Nat) (best : Int32) (least : Int32) (k : Int32) (o4_9 : Option f_V) (o5_9 : Option f_V), (24 - k.toInt).toNat = ms9 → (0 ≤ k.toInt ∧ k.toInt ≤ 24) → f_wp (f_code (t_X13_tellsMost (f_ev mtM d))) (9, [some (.inr (.inr (some 0))), some (.inl best), some (.inl least), some (.inl k), o4_9, o5_9], [], mH a b) (fun v9 h' => h' = mH a b ∧ ∃ x : Int32, v9 = some (.inl x) ∧ True) := by
    intro ms9
    induction ms9 using Nat.strongRecOn with
    | _ ms9 ih9 =>
      intro best least k o4_9 o5_9 hm9 hk
      refine w_iload rfl rfl ?_
      refine w_const rfl ?_
      refine w_aload rfl rfl ?_
      refine w_invV (rest := [.inl 4, .inl k]) rfl rfl rfl rfl rfl (Nat.le_of_ble_eq_true rfl) rfl (by omega) (s_rivers (K := K) a b   hR ) (fun v1 h9 hq2 => ?_)
      obtain ⟨rfl, x3, rfl, px3⟩ := hq2
      show f_wp _ (15, [some (.inr (.inr (some 0))), some (.inl best), some (.inl least), some (.inl k), o4_9, o5_9], [.inl x3, .inl 4, .inl k], mH a b) _
      first | refine w_imul rfl (c := 4) rfl (by omega) (fun x4 tx4 => ?_) | refine w_iiU rfl (fun x4 tx4 => ?_)
      refine w_ic_ge rfl (fun c5 => ?_) (fun c5 => ?_)
      · skip
        refine w_iload rfl rfl ?_
        exact wp_iret (z := false) rfl (fun h9 => by cases h9) ⟨rfl, ⟨_, rfl, trivial⟩⟩
      · skip
        refine w_const rfl ?_
        refine w_istore (lo' := [some (.inr (.inr (some 0))), some (.inl best), some (.inl least), some (.inl k), some (.inl 0), o5_9]) rfl rfl ?_
        refine w_const rfl ?_
        refine w_istore (lo' := [some (.inr (.inr (some 0))), some (.inl best), some (.inl least), some (.inl k), some (.inl 0), some (.inl 0)]) rfl rfl ?_
        have loop25 : ∀ (ms9 : Nat) (most : Int32) (v : Int32) , (600 - v.toInt).toNat = ms9 → (0 ≤ v.toInt ∧ v.toInt ≤ 600) → f_wp (f_code (t_X13_tellsMost (f_ev mtM d))) (25, [some (.inr (.inr (some 0))), some (.inl best), some (.inl least), some (.inl k), some (.inl most), some (.inl v)], [], mH a b) (fun v9 h' => h' = mH a b ∧ ∃ x : Int32, v9 = some (.inl x) ∧ True) := by
          intro ms9
          induction ms9 using Nat.strongRecOn with
          | _ ms25 ih25 =>
            intro most v  hm25 hv
            refine w_iload rfl rfl ?_
            refine w_const rfl ?_
            refine w_ic_ge rfl (fun c6 => ?_) (fun c6 => ?_)
            · skip
              refine w_iload rfl rfl ?_
              refine w_iload rfl rfl ?_
              refine w_ic_ge rfl (fun c7 => ?_) (fun c7 => ?_)
              · skip
                refine w_iload rfl rfl ?_
                refine w_istore (lo' := [some (.inr (.inr (some 0))), some (.inl best), some (.inl least), some (.inl k), some (.inl most), some (.inl v)]) rfl rfl ?_
                refine w_iload rfl rfl ?_
                refine w_iload rfl rfl ?_
                refine w_ic_ge rfl (fun c8 => ?_) (fun c8 => ?_)
                · skip
                  refine w_iload rfl rfl ?_
                  refine w_istore (lo' := [some (.inr (.inr (some 0))), some (.inl best), some (.inl least), some (.inl k), some (.inl most), some (.inl v)]) rfl rfl ?_
                  refine w_iinc (lo' := fun z9 => [some (.inr (.inr (some 0))), some (.inl best), some (.inl least), some (.inl z9), some (.inl most), some (.inl v)]) rfl rfl (fun _ => rfl) (by omega) (fun x9 tx9 => ?_)
                  refine w_goto rfl ?_
                  exact ih9 (24 - x9.toInt).toNat (by omega) best least x9 (some (.inl most)) (some (.inl v)) rfl  (by omega)
                · skip
                  refine w_iload rfl rfl ?_
                  refine w_goto rfl ?_
                  refine w_istore (lo' := [some (.inr (.inr (some 0))), some (.inl best), some (.inl most), some (.inl k), some (.inl most), some (.inl v)]) rfl rfl ?_
                  refine w_iinc (lo' := fun z9 => [some (.inr (.inr (some 0))), some (.inl best), some (.inl most), some (.inl z9), some (.inl most), some (.inl v)]) rfl rfl (fun _ => rfl) (by omega) (fun x10 tx10 => ?_)
                  refine w_goto rfl ?_
                  exact ih9 (24 - x10.toInt).toNat (by omega) best most x10 (some (.inl most)) (some (.inl v)) rfl  (by omega)
              · skip
                refine w_iload rfl rfl ?_
                refine w_goto rfl ?_
                refine w_istore (lo' := [some (.inr (.inr (some 0))), some (.inl k), some (.inl least), some (.inl k), some (.inl most), some (.inl v)]) rfl rfl ?_
                refine w_iload rfl rfl ?_
                refine w_iload rfl rfl ?_
                refine w_ic_ge rfl (fun c11 => ?_) (fun c11 => ?_)
                · skip
                  refine w_iload rfl rfl ?_
                  refine w_istore (lo' := [some (.inr (.inr (some 0))), some (.inl k), some (.inl least), some (.inl k), some (.inl most), some (.inl v)]) rfl rfl ?_
                  refine w_iinc (lo' := fun z9 => [some (.inr (.inr (some 0))), some (.inl k), some (.inl least), some (.inl z9), some (.inl most), some (.inl v)]) rfl rfl (fun _ => rfl) (by omega) (fun x12 tx12 => ?_)
                  refine w_goto rfl ?_
                  exact ih9 (24 - x12.toInt).toNat (by omega) k least x12 (some (.inl most)) (some (.inl v)) rfl  (by omega)
                · skip
                  refine w_iload rfl rfl ?_
                  refine w_goto rfl ?_
                  refine w_istore (lo' := [some (.inr (.inr (some 0))), some (.inl k), some (.inl most), some (.inl k), some (.inl most), some (.inl v)]) rfl rfl ?_
                  refine w_iinc (lo' := fun z9 => [some (.inr (.inr (some 0))), some (.inl k), some (.inl most), some (.inl z9), some (.inl most), some (.inl v)]) rfl rfl (fun _ => rfl) (by omega) (fun x13 tx13 => ?_)
                  refine w_goto rfl ?_
                  exact ih9 (24 - x13.toInt).toNat (by omega) k most x13 (some (.inl most)) (some (.inl v)) rfl  (by omega)
            · skip
              refine w_aload rfl rfl ?_
              refine w_getR (v := .inr (.inr (some 20))) rfl rfl rfl rfl rfl ?_
              refine w_const rfl ?_
              refine w_iload rfl rfl ?_
              first | refine w_imul rfl (c := 600) rfl (by omega) (fun x14 tx14 => ?_) | refine w_iiU rfl (fun x14 tx14 => ?_)
              refine w_iload rfl rfl ?_
              first | refine w_iadd rfl (by omega) (fun x15 tx15 => ?_) | refine w_iiU rfl (fun x15 tx15 => ?_)
              refine m_iald rfl rfl (by omega) (fun x16 ex16 => ?_)
              refine w_iload rfl rfl ?_
              refine w_ic_le rfl (fun c17 => ?_) (fun c17 => ?_)
              · skip
                refine w_iload rfl rfl ?_
                refine w_istore (lo' := [some (.inr (.inr (some 0))), some (.inl best), some (.inl least), some (.inl k), some (.inl most), some (.inl v)]) rfl rfl ?_
                refine w_iinc (lo' := fun z9 => [some (.inr (.inr (some 0))), some (.inl best), some (.inl least), some (.inl k), some (.inl most), some (.inl z9)]) rfl rfl (fun _ => rfl) (by omega) (fun x18 tx18 => ?_)
                refine w_goto rfl ?_
                exact ih25 (600 - x18.toInt).toNat (by omega) most x18 rfl  (by omega)
              · skip
                refine w_aload rfl rfl ?_
                refine w_getR (v := .inr (.inr (some 20))) rfl rfl rfl rfl rfl ?_
                refine w_const rfl ?_
                refine w_iload rfl rfl ?_
                first | refine w_imul rfl (c := 600) rfl (by omega) (fun x19 tx19 => ?_) | refine w_iiU rfl (fun x19 tx19 => ?_)
                refine w_iload rfl rfl ?_
                first | refine w_iadd rfl (by omega) (fun x20 tx20 => ?_) | refine w_iiU rfl (fun x20 tx20 => ?_)
                refine m_iald rfl rfl (by omega) (fun x21 ex21 => ?_)
                refine w_goto rfl ?_
                refine w_istore (lo' := [some (.inr (.inr (some 0))), some (.inl best), some (.inl least), some (.inl k), some (.inl x21), some (.inl v)]) rfl rfl ?_
                refine w_iinc (lo' := fun z9 => [some (.inr (.inr (some 0))), some (.inl best), some (.inl least), some (.inl k), some (.inl x21), some (.inl z9)]) rfl rfl (fun _ => rfl) (by omega) (fun x22 tx22 => ?_)
                refine w_goto rfl ?_
                exact ih25 (600 - x22.toInt).toNat (by omega) x21 x22 rfl  (by omega)
        exact loop25 _ 0 0 rfl  (by omega)
  exact loop9 _ (-1) (a 0 28) 0 none none rfl  (by omega)
set_option maxRecDepth 4000 in
theorem s_rests {K : Nat} (a : Nat → Nat → Int32) (b : Nat → Nat → Int64) (w : Int32) (o : Int32) (p : Int32) (t : Int32) (hR : RM K a) (hA : AC a 0) : f_call mtM 12 107 [.inr (.inr (some 0)), .inl w, .inl o, .inl p, .inl t] (mH a b) (fun v9 h' => ∃ (a' : Nat → Nat → Int32), h' = mH a' b ∧ RM K a' ∧ (FR [0, 17] a a' ∧ True) ∧ ∃ x : Int32, v9 = some (.inl x) ∧ True) := by
  refine f_call_of (d0 := 11) rfl (Nat.le_of_ble_eq_true rfl) (fun d hd => ?_)
  show f_wp _ (0, [some (.inr (.inr (some 0))), some (.inl w), some (.inl o), some (.inl p), some (.inl t), none, none, none, none, none], [], mH a b) _
  have lm1 : (-1 : Int32).toInt = -1 := rfl
  have l0 : (0 : Int32).toInt = 0 := rfl
  have l1 : (1 : Int32).toInt = 1 := rfl
  have l5 : (5 : Int32).toInt = 5 := rfl
  have l10 : (10 : Int32).toInt = 10 := rfl
  have l100 : (100 : Int32).toInt = 100 := rfl
  refine w_aload rfl rfl ?_
  refine w_const rfl ?_
  refine m_putI (z := false) rfl rfl rfl rfl (by first | (intro h9; cases h9; done) | (intro _; first | exact Or.inl rfl | exact Or.inr rfl | assumption)) (fun a1 ea1 => ?_)
  have ha1 : RM K a1 := RM.up hR ea1 ⟨ti_lo _, ti_hi _⟩
  have ua1_0 : a1 0 0 = (0 : Int32) := by rw [ea1, mU_same]
  have wa1_0 := congrArg Int32.toInt ua1_0
  refine w_aload rfl rfl ?_
  refine w_iload rfl rfl ?_
  refine w_invV (rest := []) rfl rfl rfl rfl rfl (Nat.le_of_ble_eq_true rfl) rfl (by omega) (s_isRiver (K := K) a1 b  w ha1 ) (fun v2 h9 hq3 => ?_)
  obtain ⟨rfl, x4, rfl, px4⟩ := hq3
  show f_wp _ (10, [some (.inr (.inr (some 0))), some (.inl w), some (.inl o), some (.inl p), some (.inl t), none, none, none, none, none], [.inl x4], mH a1 b) _
  refine w_if_eq rfl (fun c5 => ?_) (fun c5 => ?_)
  · skip
    refine w_const rfl ?_
    exact wp_iret (z := false) rfl (fun h9 => by cases h9) ⟨a1, rfl, ha1, ⟨FR.up (FR.rf) (by decide) ea1, trivial⟩, ⟨_, rfl, trivial⟩⟩
  · skip
    refine w_aload rfl rfl ?_
    refine w_iload rfl rfl ?_
    refine w_invV (rest := []) rfl rfl rfl rfl rfl (Nat.le_of_ble_eq_true rfl) rfl (by omega) (s_isRiver (K := K) a1 b  o ha1 ) (fun v6 h9 hq7 => ?_)
    obtain ⟨rfl, x8, rfl, px8⟩ := hq7
    show f_wp _ (18, [some (.inr (.inr (some 0))), some (.inl w), some (.inl o), some (.inl p), some (.inl t), none, none, none, none, none], [.inl x8], mH a1 b) _
    refine w_if_eq rfl (fun c9 => ?_) (fun c9 => ?_)
    · skip
      refine w_const rfl ?_
      exact wp_iret (z := false) rfl (fun h9 => by cases h9) ⟨a1, rfl, ha1, ⟨FR.up (FR.rf) (by decide) ea1, trivial⟩, ⟨_, rfl, trivial⟩⟩
    · skip
      refine w_aload rfl rfl ?_
      refine w_iload rfl rfl ?_
      refine w_invV (rest := []) rfl rfl rfl rfl rfl (Nat.le_of_ble_eq_true rfl) rfl (by omega) (s_isRiver (K := K) a1 b  p ha1 ) (fun v10 h9 hq11 => ?_)
      obtain ⟨rfl, x12, rfl, px12⟩ := hq11
      show f_wp _ (26, [some (.inr (.inr (some 0))), some (.inl w), some (.inl o), some (.inl p), some (.inl t), none, none, none, none, none], [.inl x12], mH a1 b) _
      refine w_if_eq rfl (fun c13 => ?_) (fun c13 => ?_)
      · skip
        refine w_const rfl ?_
        exact wp_iret (z := false) rfl (fun h9 => by cases h9) ⟨a1, rfl, ha1, ⟨FR.up (FR.rf) (by decide) ea1, trivial⟩, ⟨_, rfl, trivial⟩⟩
      · skip
        refine w_iload rfl rfl ?_
        refine w_iload rfl rfl ?_
        refine w_ic_eq rfl (fun c14 => ?_) (fun c14 => ?_)
        · skip
          refine w_const rfl ?_
          exact wp_iret (z := false) rfl (fun h9 => by cases h9) ⟨a1, rfl, ha1, ⟨FR.up (FR.rf) (by decide) ea1, trivial⟩, ⟨_, rfl, trivial⟩⟩
        · skip
          refine w_iload rfl rfl ?_
          refine w_const rfl ?_
          refine w_ic_lt rfl (fun c15 => ?_) (fun c15 => ?_)
          · skip
            refine w_const rfl ?_
            exact wp_iret (z := false) rfl (fun h9 => by cases h9) ⟨a1, rfl, ha1, ⟨FR.up (FR.rf) (by decide) ea1, trivial⟩, ⟨_, rfl, trivial⟩⟩
          · skip
            refine w_aload rfl rfl ?_
            refine w_const rfl ?_
            refine w_iload rfl rfl ?_
            refine w_iload rfl rfl ?_
            refine w_invV (rest := []) rfl rfl rfl rfl rfl (Nat.le_of_ble_eq_true rfl) rfl (by omega) (s_mayWed (K := K) a1 b  0 w o ha1 (by omega) (by omega) (by omega) (((fun (m9 : Nat) (l9 : m9 < 22) (h7 : ACm m9 a) => ACm.up ((fun (m9 : Nat) (l9 : m9 < 22) (h7 : ACm m9 a) => h7) m9 l9 h7) ea1 (by decide)) 0 (by decide) hA))) (fun v16 h9 hq17 => ?_)
            obtain ⟨a18, rfl, ha18, fa18, x19, rfl, px19⟩ := hq17
            show f_wp _ (47, [some (.inr (.inr (some 0))), some (.inl w), some (.inl o), some (.inl p), some (.inl t), none, none, none, none, none], [.inl x19], mH a18 b) _
            refine w_if_eq rfl (fun c20 => ?_) (fun c20 => ?_)
            · skip
              refine w_const rfl ?_
              exact wp_iret (z := false) rfl (fun h9 => by cases h9) ⟨a18, rfl, ha18, ⟨FR.tr (FR.up (FR.rf) (by decide) ea1) (FR.sub fa18.1 (by decide)), trivial⟩, ⟨_, rfl, trivial⟩⟩
            · skip
              refine w_aload rfl rfl ?_
              refine w_const rfl ?_
              refine w_iload rfl rfl ?_
              refine w_iload rfl rfl ?_
              refine w_invV (rest := []) rfl rfl rfl rfl rfl (Nat.le_of_ble_eq_true rfl) rfl (by omega) (s_mayWed (K := K) a18 b  0 w p ha18 (by omega) (by omega) (by omega) (((fun (m9 : Nat) (l9 : m9 < 22) (h7 : ACm m9 a) => ACm.fr ((fun (m9 : Nat) (l9 : m9 < 22) (h7 : ACm m9 a) => ACm.up ((fun (m9 : Nat) (l9 : m9 < 22) (h7 : ACm m9 a) => h7) m9 l9 h7) ea1 (by decide)) m9 l9 h7) fa18.1 (by decide)) 0 (by decide) hA))) (fun v21 h9 hq22 => ?_)
              obtain ⟨a23, rfl, ha23, fa23, x24, rfl, px24⟩ := hq22
              show f_wp _ (57, [some (.inr (.inr (some 0))), some (.inl w), some (.inl o), some (.inl p), some (.inl t), none, none, none, none, none], [.inl x24], mH a23 b) _
              refine w_if_ne rfl (fun c25 => ?_) (fun c25 => ?_)
              · skip
                refine w_const rfl ?_
                exact wp_iret (z := false) rfl (fun h9 => by cases h9) ⟨a23, rfl, ha23, ⟨FR.tr (FR.tr (FR.up (FR.rf) (by decide) ea1) (FR.sub fa18.1 (by decide))) (FR.sub fa23.1 (by decide)), trivial⟩, ⟨_, rfl, trivial⟩⟩
              · skip
                refine w_aload rfl rfl ?_
                refine w_const rfl ?_
                refine w_iload rfl rfl ?_
                refine w_aload rfl rfl ?_
                refine w_const rfl ?_
                refine w_invV (rest := [.inl w, .inl 0, .inr (.inr (some 0))]) rfl rfl rfl rfl rfl (Nat.le_of_ble_eq_true rfl) rfl (by omega) (s_winter (K := K) a23 b  0 ha23 (by omega)) (fun v26 h9 hq27 => ?_)
                obtain ⟨rfl, x28, rfl, px28⟩ := hq27
                show f_wp _ (70, [some (.inr (.inr (some 0))), some (.inl w), some (.inl o), some (.inl p), some (.inl t), none, none, none, none, none], [.inl x28, .inl w, .inl 0, .inr (.inr (some 0))], mH a23 b) _
                refine w_invV (rest := []) rfl rfl rfl rfl rfl (Nat.le_of_ble_eq_true rfl) rfl (by omega) (s_mouthFlow (K := K) a23 b  0 w x28 ha23 (by omega) (by omega) (by omega) (((fun (m9 : Nat) (l9 : m9 < 22) (h7 : ACm m9 a) => ACm.fr ((fun (m9 : Nat) (l9 : m9 < 22) (h7 : ACm m9 a) => ACm.fr ((fun (m9 : Nat) (l9 : m9 < 22) (h7 : ACm m9 a) => ACm.up ((fun (m9 : Nat) (l9 : m9 < 22) (h7 : ACm m9 a) => h7) m9 l9 h7) ea1 (by decide)) m9 l9 h7) fa18.1 (by decide)) m9 l9 h7) fa23.1 (by decide)) 0 (by decide) hA))) (fun v29 h9 hq30 => ?_)
                obtain ⟨rfl, x31, rfl, px31⟩ := hq30
                show f_wp _ (73, [some (.inr (.inr (some 0))), some (.inl w), some (.inl o), some (.inl p), some (.inl t), none, none, none, none, none], [.inl x31], mH a23 b) _
                refine w_const rfl ?_
                refine w_idiv (c := 5) rfl rfl (by decide) (by omega) (fun x32 tx32 => ?_)
                refine w_istore (lo' := [some (.inr (.inr (some 0))), some (.inl w), some (.inl o), some (.inl p), some (.inl t), some (.inl x32), none, none, none, none]) rfl rfl ?_
                refine w_const rfl ?_
                refine w_istore (lo' := [some (.inr (.inr (some 0))), some (.inl w), some (.inl o), some (.inl p), some (.inl t), some (.inl x32), some (.inl 0), none, none, none]) rfl rfl ?_
                refine w_const rfl ?_
                refine w_istore (lo' := [some (.inr (.inr (some 0))), some (.inl w), some (.inl o), some (.inl p), some (.inl t), some (.inl x32), some (.inl 0), some (.inl 0), none, none]) rfl rfl ?_
                have loop83 : ∀ (ms9 : Nat) (n : Int32) (k : Int32) (o8_83 : Option f_V) (o9_83 : Option f_V), (100 - k.toInt).toNat = ms9 → (0 ≤ k.toInt ∧ k.toInt ≤ 100) → f_wp (f_code (t_X13_rests (f_ev mtM d))) (83, [some (.inr (.inr (some 0))), some (.inl w), some (.inl o), some (.inl p), some (.inl t), some (.inl x32), some (.inl n), some (.inl k), o8_83, o9_83], [], mH a23 b) (fun v9 h' => ∃ (a' : Nat → Nat → Int32), h' = mH a' b ∧ RM K a' ∧ (FR [0, 17] a a' ∧ True) ∧ ∃ x : Int32, v9 = some (.inl x) ∧ True) := by
                  intro ms9
                  induction ms9 using Nat.strongRecOn with
                  | _ ms83 ih83 =>
                    intro n k o8_83 o9_83 hm83 hk
                    refine w_iload rfl rfl ?_
                    refine w_const rfl ?_
                    refine w_ic_ge rfl (fun c33 => ?_) (fun c33 => ?_)
                    · skip
                      refine w_iload rfl rfl ?_
                      refine w_if_ge rfl (fun c34 => ?_) (fun c34 => ?_)
                      · skip
                        refine w_const rfl ?_
                        exact wp_iret (z := false) rfl (fun h9 => by cases h9) ⟨a23, rfl, ha23, ⟨FR.tr (FR.tr (FR.up (FR.rf) (by decide) ea1) (FR.sub fa18.1 (by decide))) (FR.sub fa23.1 (by decide)), trivial⟩, ⟨_, rfl, trivial⟩⟩
                      · skip
                        refine w_iload rfl rfl ?_
                        refine w_goto rfl ?_
                        exact wp_iret (z := false) rfl (fun h9 => by cases h9) ⟨a23, rfl, ha23, ⟨FR.tr (FR.tr (FR.up (FR.rf) (by decide) ea1) (FR.sub fa18.1 (by decide))) (FR.sub fa23.1 (by decide)), trivial⟩, ⟨_, rfl, trivial⟩⟩
                    · skip
                      refine w_const rfl ?_
                      refine w_istore (lo' := [some (.inr (.inr (some 0))), some (.inl w), some (.inl o), some (.inl p), some (.inl t), some (.inl x32), some (.inl n), some (.inl k), some (.inl 1), o9_83]) rfl rfl ?_
                      refine w_const rfl ?_
                      refine w_istore (lo' := [some (.inr (.inr (some 0))), some (.inl w), some (.inl o), some (.inl p), some (.inl t), some (.inl x32), some (.inl n), some (.inl k), some (.inl 1), some (.inl 0)]) rfl rfl ?_
                      have loop96 : ∀ (ms9 : Nat) (is : Int32) (e : Int32) , (10 - e.toInt).toNat = ms9 → (0 ≤ e.toInt ∧ e.toInt ≤ 10) → f_wp (f_code (t_X13_rests (f_ev mtM d))) (96, [some (.inr (.inr (some 0))), some (.inl w), some (.inl o), some (.inl p), some (.inl t), some (.inl x32), some (.inl n), some (.inl k), some (.inl is), some (.inl e)], [], mH a23 b) (fun v9 h' => ∃ (a' : Nat → Nat → Int32), h' = mH a' b ∧ RM K a' ∧ (FR [0, 17] a a' ∧ True) ∧ ∃ x : Int32, v9 = some (.inl x) ∧ True) := by
                        intro ms9
                        induction ms9 using Nat.strongRecOn with
                        | _ ms96 ih96 =>
                          intro is e  hm96 he
                          refine w_iload rfl rfl ?_
                          refine w_const rfl ?_
                          refine w_ic_ge rfl (fun c35 => ?_) (fun c35 => ?_)
                          · skip
                            refine w_iload rfl rfl ?_
                            refine w_if_eq rfl (fun c36 => ?_) (fun c36 => ?_)
                            · skip
                              refine w_iload rfl rfl ?_
                              refine w_iload rfl rfl ?_
                              refine w_if_eq rfl (fun c37 => ?_) (fun c37 => ?_)
                              · skip
                                refine w_const rfl ?_
                                first | refine w_iadd rfl (by omega) (fun x38 tx38 => ?_) | refine w_iiU rfl (fun x38 tx38 => ?_)
                                refine w_istore (lo' := [some (.inr (.inr (some 0))), some (.inl w), some (.inl o), some (.inl p), some (.inl t), some (.inl x32), some (.inl x38), some (.inl k), some (.inl is), some (.inl e)]) rfl rfl ?_
                                refine w_iinc (lo' := fun z9 => [some (.inr (.inr (some 0))), some (.inl w), some (.inl o), some (.inl p), some (.inl t), some (.inl x32), some (.inl x38), some (.inl z9), some (.inl is), some (.inl e)]) rfl rfl (fun _ => rfl) (by omega) (fun x39 tx39 => ?_)
                                refine w_goto rfl ?_
                                exact ih83 (100 - x39.toInt).toNat (by omega) x38 x39 (some (.inl is)) (some (.inl e)) rfl  (by omega)
                              · skip
                                refine w_const rfl ?_
                                refine w_goto rfl ?_
                                first | refine w_iadd rfl (by omega) (fun x40 tx40 => ?_) | refine w_iiU rfl (fun x40 tx40 => ?_)
                                refine w_istore (lo' := [some (.inr (.inr (some 0))), some (.inl w), some (.inl o), some (.inl p), some (.inl t), some (.inl x32), some (.inl x40), some (.inl k), some (.inl is), some (.inl e)]) rfl rfl ?_
                                refine w_iinc (lo' := fun z9 => [some (.inr (.inr (some 0))), some (.inl w), some (.inl o), some (.inl p), some (.inl t), some (.inl x32), some (.inl x40), some (.inl z9), some (.inl is), some (.inl e)]) rfl rfl (fun _ => rfl) (by omega) (fun x41 tx41 => ?_)
                                refine w_goto rfl ?_
                                exact ih83 (100 - x41.toInt).toNat (by omega) x40 x41 (some (.inl is)) (some (.inl e)) rfl  (by omega)
                            · skip
                              refine w_iload rfl rfl ?_
                              refine w_iload rfl rfl ?_
                              refine w_ic_ne rfl (fun c42 => ?_) (fun c42 => ?_)
                              · skip
                                refine w_iload rfl rfl ?_
                                exact wp_iret (z := false) rfl (fun h9 => by cases h9) ⟨a23, rfl, ha23, ⟨FR.tr (FR.tr (FR.up (FR.rf) (by decide) ea1) (FR.sub fa18.1 (by decide))) (FR.sub fa23.1 (by decide)), trivial⟩, ⟨_, rfl, trivial⟩⟩
                              · skip
                                refine w_iload rfl rfl ?_
                                refine w_iload rfl rfl ?_
                                refine w_if_eq rfl (fun c43 => ?_) (fun c43 => ?_)
                                · skip
                                  refine w_const rfl ?_
                                  first | refine w_iadd rfl (by omega) (fun x44 tx44 => ?_) | refine w_iiU rfl (fun x44 tx44 => ?_)
                                  refine w_istore (lo' := [some (.inr (.inr (some 0))), some (.inl w), some (.inl o), some (.inl p), some (.inl t), some (.inl x32), some (.inl x44), some (.inl k), some (.inl is), some (.inl e)]) rfl rfl ?_
                                  refine w_iinc (lo' := fun z9 => [some (.inr (.inr (some 0))), some (.inl w), some (.inl o), some (.inl p), some (.inl t), some (.inl x32), some (.inl x44), some (.inl z9), some (.inl is), some (.inl e)]) rfl rfl (fun _ => rfl) (by omega) (fun x45 tx45 => ?_)
                                  refine w_goto rfl ?_
                                  exact ih83 (100 - x45.toInt).toNat (by omega) x44 x45 (some (.inl is)) (some (.inl e)) rfl  (by omega)
                                · skip
                                  refine w_const rfl ?_
                                  refine w_goto rfl ?_
                                  first | refine w_iadd rfl (by omega) (fun x46 tx46 => ?_) | refine w_iiU rfl (fun x46 tx46 => ?_)
                                  refine w_istore (lo' := [some (.inr (.inr (some 0))), some (.inl w), some (.inl o), some (.inl p), some (.inl t), some (.inl x32), some (.inl x46), some (.inl k), some (.inl is), some (.inl e)]) rfl rfl ?_
                                  refine w_iinc (lo' := fun z9 => [some (.inr (.inr (some 0))), some (.inl w), some (.inl o), some (.inl p), some (.inl t), some (.inl x32), some (.inl x46), some (.inl z9), some (.inl is), some (.inl e)]) rfl rfl (fun _ => rfl) (by omega) (fun x47 tx47 => ?_)
                                  refine w_goto rfl ?_
                                  exact ih83 (100 - x47.toInt).toNat (by omega) x46 x47 (some (.inl is)) (some (.inl e)) rfl  (by omega)
                          · skip
                            refine w_iload rfl rfl ?_
                            refine w_if_eq rfl (fun c48 => ?_) (fun c48 => ?_)
                            · skip
                              refine w_const rfl ?_
                              refine w_istore (lo' := [some (.inr (.inr (some 0))), some (.inl w), some (.inl o), some (.inl p), some (.inl t), some (.inl x32), some (.inl n), some (.inl k), some (.inl 0), some (.inl e)]) rfl rfl ?_
                              refine w_iinc (lo' := fun z9 => [some (.inr (.inr (some 0))), some (.inl w), some (.inl o), some (.inl p), some (.inl t), some (.inl x32), some (.inl n), some (.inl k), some (.inl 0), some (.inl z9)]) rfl rfl (fun _ => rfl) (by omega) (fun x49 tx49 => ?_)
                              refine w_goto rfl ?_
                              exact ih96 (10 - x49.toInt).toNat (by omega) 0 x49 rfl  (by omega)
                            · skip
                              refine w_iload rfl rfl ?_
                              refine w_const rfl ?_
                              refine w_iload rfl rfl ?_
                              refine w_iload rfl rfl ?_
                              refine w_const rfl ?_
                              refine w_irem (c := 10) rfl rfl (by decide) (by omega) (fun x50 tx50 => ?_)
                              refine w_invS (rest := []) rfl (Nat.le_of_ble_eq_true rfl) rfl (Nat.le_of_ble_eq_true rfl) rfl (by omega) (s_bidGets (K := K) a23 b  x32 1 e x50  ) (fun v51 h9 hq52 => ?_)
                              obtain ⟨rfl, x53, rfl, px53⟩ := hq52
                              show f_wp _ (121, [some (.inr (.inr (some 0))), some (.inl w), some (.inl o), some (.inl p), some (.inl t), some (.inl x32), some (.inl n), some (.inl k), some (.inl is), some (.inl e)], [.inl x53], mH a23 b) _
                              refine w_iload rfl rfl ?_
                              refine w_const rfl ?_
                              refine w_iload rfl rfl ?_
                              refine w_const rfl ?_
                              refine w_idiv (c := 10) rfl rfl (by decide) (by omega) (fun x54 tx54 => ?_)
                              refine w_iload rfl rfl ?_
                              refine w_const rfl ?_
                              refine w_irem (c := 10) rfl rfl (by decide) (by omega) (fun x55 tx55 => ?_)
                              refine w_invS (rest := [.inl x53]) rfl (Nat.le_of_ble_eq_true rfl) rfl (Nat.le_of_ble_eq_true rfl) rfl (by omega) (s_bidGets (K := K) a23 b  x32 1 x54 x55  ) (fun v56 h9 hq57 => ?_)
                              obtain ⟨rfl, x58, rfl, px58⟩ := hq57
                              show f_wp _ (137, [some (.inr (.inr (some 0))), some (.inl w), some (.inl o), some (.inl p), some (.inl t), some (.inl x32), some (.inl n), some (.inl k), some (.inl is), some (.inl e)], [.inl x58, .inl x53], mH a23 b) _
                              refine w_ic_gt rfl (fun c59 => ?_) (fun c59 => ?_)
                              · skip
                                refine w_const rfl ?_
                                refine w_istore (lo' := [some (.inr (.inr (some 0))), some (.inl w), some (.inl o), some (.inl p), some (.inl t), some (.inl x32), some (.inl n), some (.inl k), some (.inl 0), some (.inl e)]) rfl rfl ?_
                                refine w_iinc (lo' := fun z9 => [some (.inr (.inr (some 0))), some (.inl w), some (.inl o), some (.inl p), some (.inl t), some (.inl x32), some (.inl n), some (.inl k), some (.inl 0), some (.inl z9)]) rfl rfl (fun _ => rfl) (by omega) (fun x60 tx60 => ?_)
                                refine w_goto rfl ?_
                                exact ih96 (10 - x60.toInt).toNat (by omega) 0 x60 rfl  (by omega)
                              · skip
                                refine w_iload rfl rfl ?_
                                refine w_const rfl ?_
                                refine w_iload rfl rfl ?_
                                refine w_const rfl ?_
                                refine w_idiv (c := 10) rfl rfl (by decide) (by omega) (fun x61 tx61 => ?_)
                                refine w_iload rfl rfl ?_
                                refine w_invS (rest := []) rfl (Nat.le_of_ble_eq_true rfl) rfl (Nat.le_of_ble_eq_true rfl) rfl (by omega) (s_bidGets (K := K) a23 b  x32 0 x61 e  ) (fun v62 h9 hq63 => ?_)
                                obtain ⟨rfl, x64, rfl, px64⟩ := hq63
                                show f_wp _ (153, [some (.inr (.inr (some 0))), some (.inl w), some (.inl o), some (.inl p), some (.inl t), some (.inl x32), some (.inl n), some (.inl k), some (.inl is), some (.inl e)], [.inl x64], mH a23 b) _
                                refine w_iload rfl rfl ?_
                                refine w_const rfl ?_
                                refine w_iload rfl rfl ?_
                                refine w_const rfl ?_
                                refine w_idiv (c := 10) rfl rfl (by decide) (by omega) (fun x65 tx65 => ?_)
                                refine w_iload rfl rfl ?_
                                refine w_const rfl ?_
                                refine w_irem (c := 10) rfl rfl (by decide) (by omega) (fun x66 tx66 => ?_)
                                refine w_invS (rest := [.inl x64]) rfl (Nat.le_of_ble_eq_true rfl) rfl (Nat.le_of_ble_eq_true rfl) rfl (by omega) (s_bidGets (K := K) a23 b  x32 0 x65 x66  ) (fun v67 h9 hq68 => ?_)
                                obtain ⟨rfl, x69, rfl, px69⟩ := hq68
                                show f_wp _ (169, [some (.inr (.inr (some 0))), some (.inl w), some (.inl o), some (.inl p), some (.inl t), some (.inl x32), some (.inl n), some (.inl k), some (.inl is), some (.inl e)], [.inl x69, .inl x64], mH a23 b) _
                                refine w_ic_gt rfl (fun c70 => ?_) (fun c70 => ?_)
                                · skip
                                  refine w_const rfl ?_
                                  refine w_istore (lo' := [some (.inr (.inr (some 0))), some (.inl w), some (.inl o), some (.inl p), some (.inl t), some (.inl x32), some (.inl n), some (.inl k), some (.inl 0), some (.inl e)]) rfl rfl ?_
                                  refine w_iinc (lo' := fun z9 => [some (.inr (.inr (some 0))), some (.inl w), some (.inl o), some (.inl p), some (.inl t), some (.inl x32), some (.inl n), some (.inl k), some (.inl 0), some (.inl z9)]) rfl rfl (fun _ => rfl) (by omega) (fun x71 tx71 => ?_)
                                  refine w_goto rfl ?_
                                  exact ih96 (10 - x71.toInt).toNat (by omega) 0 x71 rfl  (by omega)
                                · skip
                                  refine w_const rfl ?_
                                  refine w_goto rfl ?_
                                  refine w_istore (lo' := [some (.inr (.inr (some 0))), some (.inl w), some (.inl o), some (.inl p), some (.inl t), some (.inl x32), some (.inl n), some (.inl k), some (.inl 1), some (.inl e)]) rfl rfl ?_
                                  refine w_iinc (lo' := fun z9 => [some (.inr (.inr (some 0))), some (.inl w), some (.inl o), some (.inl p), some (.inl t), some (.inl x32), some (.inl n), some (.inl k), some (.inl 1), some (.inl z9)]) rfl rfl (fun _ => rfl) (by omega) (fun x72 tx72 => ?_)
                                  refine w_goto rfl ?_
                                  exact ih96 (10 - x72.toInt).toNat (by omega) 1 x72 rfl  (by omega)
                      exact loop96 _ 1 0 rfl  (by omega)
                exact loop83 _ 0 0 none none rfl  (by omega)
set_option maxRecDepth 4000 in
theorem s_dams {K : Nat} (a : Nat → Nat → Int32) (b : Nat → Nat → Int64) (r : Int32) (s : Int32) (t : Int32) (hR : RM K a)  : f_call mtM 3 109 [.inr (.inr (some 0)), .inl r, .inl s, .inl t] (mH a b) (fun v9 h' => ∃ (a' : Nat → Nat → Int32), h' = mH a' b ∧ RM K a' ∧ (FR [0, 25] a a' ∧ True) ∧ ∃ x : Int32, v9 = some (.inl x) ∧ True) := by
  refine f_call_of (d0 := 2) rfl (Nat.le_of_ble_eq_true rfl) (fun d hd => ?_)
  show f_wp _ (0, [some (.inr (.inr (some 0))), some (.inl r), some (.inl s), some (.inl t), none, none, none], [], mH a b) _
  have lm1 : (-1 : Int32).toInt = -1 := rfl
  have l0 : (0 : Int32).toInt = 0 := rfl
  have l1 : (1 : Int32).toInt = 1 := rfl
  have l3 : (3 : Int32).toInt = 3 := rfl
  have l4 : (4 : Int32).toInt = 4 := rfl
  have l7 : (7 : Int32).toInt = 7 := rfl
  have l20 : (20 : Int32).toInt = 20 := rfl
  have l21 : (21 : Int32).toInt = 21 := rfl
  have l441 : (441 : Int32).toInt = 441 := rfl
  refine w_aload rfl rfl ?_
  refine w_const rfl ?_
  refine m_putI (z := false) rfl rfl rfl rfl (by first | (intro h9; cases h9; done) | (intro _; first | exact Or.inl rfl | exact Or.inr rfl | assumption)) (fun a1 ea1 => ?_)
  have ha1 : RM K a1 := RM.up hR ea1 ⟨ti_lo _, ti_hi _⟩
  have ua1_0 : a1 0 0 = (0 : Int32) := by rw [ea1, mU_same]
  have wa1_0 := congrArg Int32.toInt ua1_0
  refine w_aload rfl rfl ?_
  refine w_iload rfl rfl ?_
  refine w_invV (rest := []) rfl rfl rfl rfl rfl (Nat.le_of_ble_eq_true rfl) rfl (by omega) (s_isRiver (K := K) a1 b  r ha1 ) (fun v2 h9 hq3 => ?_)
  obtain ⟨rfl, x4, rfl, px4⟩ := hq3
  show f_wp _ (10, [some (.inr (.inr (some 0))), some (.inl r), some (.inl s), some (.inl t), none, none, none], [.inl x4], mH a1 b) _
  refine w_if_eq rfl (fun c5 => ?_) (fun c5 => ?_)
  · skip
    refine w_const rfl ?_
    exact wp_iret (z := false) rfl (fun h9 => by cases h9) ⟨a1, rfl, ha1, ⟨FR.up (FR.rf) (by decide) ea1, trivial⟩, ⟨_, rfl, trivial⟩⟩
  · skip
    refine w_aload rfl rfl ?_
    refine w_iload rfl rfl ?_
    refine w_invV (rest := []) rfl rfl rfl rfl rfl (Nat.le_of_ble_eq_true rfl) rfl (by omega) (s_isRiver (K := K) a1 b  s ha1 ) (fun v6 h9 hq7 => ?_)
    obtain ⟨rfl, x8, rfl, px8⟩ := hq7
    show f_wp _ (18, [some (.inr (.inr (some 0))), some (.inl r), some (.inl s), some (.inl t), none, none, none], [.inl x8], mH a1 b) _
    refine w_if_eq rfl (fun c9 => ?_) (fun c9 => ?_)
    · skip
      refine w_const rfl ?_
      exact wp_iret (z := false) rfl (fun h9 => by cases h9) ⟨a1, rfl, ha1, ⟨FR.up (FR.rf) (by decide) ea1, trivial⟩, ⟨_, rfl, trivial⟩⟩
    · skip
      refine w_iload rfl rfl ?_
      refine w_iload rfl rfl ?_
      refine w_ic_eq rfl (fun c10 => ?_) (fun c10 => ?_)
      · skip
        refine w_const rfl ?_
        exact wp_iret (z := false) rfl (fun h9 => by cases h9) ⟨a1, rfl, ha1, ⟨FR.up (FR.rf) (by decide) ea1, trivial⟩, ⟨_, rfl, trivial⟩⟩
      · skip
        refine w_iload rfl rfl ?_
        refine w_const rfl ?_
        refine w_const rfl ?_
        refine w_invS (rest := []) rfl (Nat.le_of_ble_eq_true rfl) rfl (Nat.le_of_ble_eq_true rfl) rfl (by omega) (s_within (K := K) a1 b  t 0 1  ) (fun v11 h9 hq12 => ?_)
        obtain ⟨rfl, x13, rfl, px13⟩ := hq12
        show f_wp _ (32, [some (.inr (.inr (some 0))), some (.inl r), some (.inl s), some (.inl t), none, none, none], [.inl x13], mH a1 b) _
        refine w_if_ne rfl (fun c14 => ?_) (fun c14 => ?_)
        · skip
          refine w_const rfl ?_
          exact wp_iret (z := false) rfl (fun h9 => by cases h9) ⟨a1, rfl, ha1, ⟨FR.up (FR.rf) (by decide) ea1, trivial⟩, ⟨_, rfl, trivial⟩⟩
        · skip
          refine w_const rfl ?_
          refine w_istore (lo' := [some (.inr (.inr (some 0))), some (.inl r), some (.inl s), some (.inl t), some (.inl 0), none, none]) rfl rfl ?_
          have loop40 : ∀ (ms9 : Nat) (k : Int32) (a40 : Nat → Nat → Int32) (o5_40 : Option f_V) (o6_40 : Option f_V), (441 - k.toInt).toNat = ms9 → RM K a40 → FR [0, 25] a a40 → (0 ≤ k.toInt ∧ k.toInt ≤ 441) → f_wp (f_code (t_X13_dams (f_ev mtM d))) (40, [some (.inr (.inr (some 0))), some (.inl r), some (.inl s), some (.inl t), some (.inl k), o5_40, o6_40], [], mH a40 b) (fun v9 h' => ∃ (a' : Nat → Nat → Int32), h' = mH a' b ∧ RM K a' ∧ (FR [0, 25] a a' ∧ True) ∧ ∃ x : Int32, v9 = some (.inl x) ∧ True) := by
            intro ms9
            induction ms9 using Nat.strongRecOn with
            | _ ms40 ih40 =>
              intro k a40 o5_40 o6_40 hm40 hR40 hF40 hk
              refine w_iload rfl rfl ?_
              refine w_const rfl ?_
              refine w_ic_ge rfl (fun c15 => ?_) (fun c15 => ?_)
              · skip
                refine w_aload rfl rfl ?_
                refine w_iload rfl rfl ?_
                refine w_const rfl ?_
                refine w_aload rfl rfl ?_
                refine w_const rfl ?_
                refine w_invV (rest := [.inl 4, .inl r, .inr (.inr (some 0))]) rfl rfl rfl rfl rfl (Nat.le_of_ble_eq_true rfl) rfl (by omega) (s_winter (K := K) a40 b  0 hR40 (by omega)) (fun v16 h9 hq17 => ?_)
                obtain ⟨rfl, x18, rfl, px18⟩ := hq17
                show f_wp _ (141, [some (.inr (.inr (some 0))), some (.inl r), some (.inl s), some (.inl t), some (.inl k), o5_40, o6_40], [.inl x18, .inl 4, .inl r, .inr (.inr (some 0))], mH a40 b) _
                have w9 : x18.toInt = (a40 15 0).toInt % 4 := px18.2.2
                first | refine w_iadd rfl (by omega) (fun x19 tx19 => ?_) | refine w_iiU rfl (fun x19 tx19 => ?_)
                refine w_invV (rest := []) rfl rfl rfl rfl rfl (Nat.le_of_ble_eq_true rfl) rfl (by omega) (s_riverOf (K := K) a40 b  r x19  (by omega) (by omega)) (fun v20 h9 hq21 => ?_)
                obtain ⟨rfl, x22, rfl, px22⟩ := hq21
                show f_wp _ (145, [some (.inr (.inr (some 0))), some (.inl r), some (.inl s), some (.inl t), some (.inl k), o5_40, o6_40], [.inl x22], mH a40 b) _
                have d9 : x22 = a40 6 (7 + 14 * r.toInt.toNat + (4 + (a40 15 0).toInt % 4).toNat) := by rw [px22]; congr 1; omega
                have d8 := congrArg Int32.toInt d9
                have d7 : 0 ≤ x22.toInt ∧ x22.toInt ≤ 99 := by rw [px22]; exact RM.water hR40 (by omega) (by omega)
                refine w_const rfl ?_
                refine w_ic_le rfl (fun c23 => ?_) (fun c23 => ?_)
                · skip
                  refine w_aload rfl rfl ?_
                  refine w_iload rfl rfl ?_
                  refine w_const rfl ?_
                  refine w_aload rfl rfl ?_
                  refine w_const rfl ?_
                  refine w_invV (rest := [.inl 4, .inl r, .inr (.inr (some 0))]) rfl rfl rfl rfl rfl (Nat.le_of_ble_eq_true rfl) rfl (by omega) (s_winter (K := K) a40 b  0 hR40 (by omega)) (fun v24 h9 hq25 => ?_)
                  obtain ⟨rfl, x26, rfl, px26⟩ := hq25
                  show f_wp _ (163, [some (.inr (.inr (some 0))), some (.inl r), some (.inl s), some (.inl t), some (.inl k), o5_40, o6_40], [.inl x26, .inl 4, .inl r, .inr (.inr (some 0))], mH a40 b) _
                  have w9 : x26.toInt = (a40 15 0).toInt % 4 := px26.2.2
                  first | refine w_iadd rfl (by omega) (fun x27 tx27 => ?_) | refine w_iiU rfl (fun x27 tx27 => ?_)
                  refine w_invV (rest := []) rfl rfl rfl rfl rfl (Nat.le_of_ble_eq_true rfl) rfl (by omega) (s_riverOf (K := K) a40 b  r x27  (by omega) (by omega)) (fun v28 h9 hq29 => ?_)
                  obtain ⟨rfl, x30, rfl, px30⟩ := hq29
                  show f_wp _ (167, [some (.inr (.inr (some 0))), some (.inl r), some (.inl s), some (.inl t), some (.inl k), o5_40, o6_40], [.inl x30], mH a40 b) _
                  have d9 : x30 = a40 6 (7 + 14 * r.toInt.toNat + (4 + (a40 15 0).toInt % 4).toNat) := by rw [px30]; congr 1; omega
                  have d8 := congrArg Int32.toInt d9
                  have d7 : 0 ≤ x30.toInt ∧ x30.toInt ≤ 99 := by rw [px30]; exact RM.water hR40 (by omega) (by omega)
                  refine w_istore (lo' := [some (.inr (.inr (some 0))), some (.inl r), some (.inl s), some (.inl t), some (.inl x30), o5_40, o6_40]) rfl rfl ?_
                  refine w_aload rfl rfl ?_
                  refine w_iload rfl rfl ?_
                  refine w_const rfl ?_
                  refine w_aload rfl rfl ?_
                  refine w_const rfl ?_
                  refine w_invV (rest := [.inl 4, .inl s, .inr (.inr (some 0))]) rfl rfl rfl rfl rfl (Nat.le_of_ble_eq_true rfl) rfl (by omega) (s_winter (K := K) a40 b  0 hR40 (by omega)) (fun v31 h9 hq32 => ?_)
                  obtain ⟨rfl, x33, rfl, px33⟩ := hq32
                  show f_wp _ (177, [some (.inr (.inr (some 0))), some (.inl r), some (.inl s), some (.inl t), some (.inl x30), o5_40, o6_40], [.inl x33, .inl 4, .inl s, .inr (.inr (some 0))], mH a40 b) _
                  have w9 : x33.toInt = (a40 15 0).toInt % 4 := px33.2.2
                  first | refine w_iadd rfl (by omega) (fun x34 tx34 => ?_) | refine w_iiU rfl (fun x34 tx34 => ?_)
                  refine w_invV (rest := []) rfl rfl rfl rfl rfl (Nat.le_of_ble_eq_true rfl) rfl (by omega) (s_riverOf (K := K) a40 b  s x34  (by omega) (by omega)) (fun v35 h9 hq36 => ?_)
                  obtain ⟨rfl, x37, rfl, px37⟩ := hq36
                  show f_wp _ (181, [some (.inr (.inr (some 0))), some (.inl r), some (.inl s), some (.inl t), some (.inl x30), o5_40, o6_40], [.inl x37], mH a40 b) _
                  have d9 : x37 = a40 6 (7 + 14 * s.toInt.toNat + (4 + (a40 15 0).toInt % 4).toNat) := by rw [px37]; congr 1; omega
                  have d8 := congrArg Int32.toInt d9
                  have d7 : 0 ≤ x37.toInt ∧ x37.toInt ≤ 99 := by rw [px37]; exact RM.water hR40 (by omega) (by omega)
                  refine w_const rfl ?_
                  refine w_ic_le rfl (fun c38 => ?_) (fun c38 => ?_)
                  · skip
                    refine w_aload rfl rfl ?_
                    refine w_iload rfl rfl ?_
                    refine w_const rfl ?_
                    refine w_aload rfl rfl ?_
                    refine w_const rfl ?_
                    refine w_invV (rest := [.inl 4, .inl s, .inr (.inr (some 0))]) rfl rfl rfl rfl rfl (Nat.le_of_ble_eq_true rfl) rfl (by omega) (s_winter (K := K) a40 b  0 hR40 (by omega)) (fun v39 h9 hq40 => ?_)
                    obtain ⟨rfl, x41, rfl, px41⟩ := hq40
                    show f_wp _ (199, [some (.inr (.inr (some 0))), some (.inl r), some (.inl s), some (.inl t), some (.inl x30), o5_40, o6_40], [.inl x41, .inl 4, .inl s, .inr (.inr (some 0))], mH a40 b) _
                    have w9 : x41.toInt = (a40 15 0).toInt % 4 := px41.2.2
                    first | refine w_iadd rfl (by omega) (fun x42 tx42 => ?_) | refine w_iiU rfl (fun x42 tx42 => ?_)
                    refine w_invV (rest := []) rfl rfl rfl rfl rfl (Nat.le_of_ble_eq_true rfl) rfl (by omega) (s_riverOf (K := K) a40 b  s x42  (by omega) (by omega)) (fun v43 h9 hq44 => ?_)
                    obtain ⟨rfl, x45, rfl, px45⟩ := hq44
                    show f_wp _ (203, [some (.inr (.inr (some 0))), some (.inl r), some (.inl s), some (.inl t), some (.inl x30), o5_40, o6_40], [.inl x45], mH a40 b) _
                    have d9 : x45 = a40 6 (7 + 14 * s.toInt.toNat + (4 + (a40 15 0).toInt % 4).toNat) := by rw [px45]; congr 1; omega
                    have d8 := congrArg Int32.toInt d9
                    have d7 : 0 ≤ x45.toInt ∧ x45.toInt ≤ 99 := by rw [px45]; exact RM.water hR40 (by omega) (by omega)
                    refine w_istore (lo' := [some (.inr (.inr (some 0))), some (.inl r), some (.inl s), some (.inl t), some (.inl x30), some (.inl x45), o6_40]) rfl rfl ?_
                    refine w_iload rfl rfl ?_
                    refine w_if_ne rfl (fun c46 => ?_) (fun c46 => ?_)
                    · skip
                      refine w_aload rfl rfl ?_
                      refine w_getR (v := .inr (.inr (some 25))) rfl rfl rfl rfl rfl ?_
                      refine w_const rfl ?_
                      refine w_iload rfl rfl ?_
                      first | refine w_imul rfl (c := 21) rfl (by omega) (fun x47 tx47 => ?_) | refine w_iiU rfl (fun x47 tx47 => ?_)
                      refine w_iload rfl rfl ?_
                      first | refine w_iadd rfl (by omega) (fun x48 tx48 => ?_) | refine w_iiU rfl (fun x48 tx48 => ?_)
                      refine m_bald rfl rfl (by omega) (fun x49 ex49 => ?_)
                      have qx49 : 0 ≤ x49.toInt ∧ x49.toInt ≤ 1 := by rw [ex49]; exact hR40 25 _
                      refine w_if_eq rfl (fun c50 => ?_) (fun c50 => ?_)
                      · skip
                        refine w_const rfl ?_
                        exact wp_iret (z := false) rfl (fun h9 => by cases h9) ⟨a40, rfl, hR40, ⟨hF40, trivial⟩, ⟨_, rfl, trivial⟩⟩
                      · skip
                        refine w_const rfl ?_
                        refine w_goto rfl ?_
                        exact wp_iret (z := false) rfl (fun h9 => by cases h9) ⟨a40, rfl, hR40, ⟨hF40, trivial⟩, ⟨_, rfl, trivial⟩⟩
                    · skip
                      refine w_const rfl ?_
                      refine w_istore (lo' := [some (.inr (.inr (some 0))), some (.inl r), some (.inl s), some (.inl t), some (.inl x30), some (.inl x45), some (.inl 1)]) rfl rfl ?_
                      have loop234 : ∀ (ms9 : Nat) (e : Int32) , (7 - e.toInt).toNat = ms9 → (1 ≤ e.toInt ∧ e.toInt ≤ 7) → f_wp (f_code (t_X13_dams (f_ev mtM d))) (234, [some (.inr (.inr (some 0))), some (.inl r), some (.inl s), some (.inl t), some (.inl x30), some (.inl x45), some (.inl e)], [], mH a40 b) (fun v9 h' => ∃ (a' : Nat → Nat → Int32), h' = mH a' b ∧ RM K a' ∧ (FR [0, 25] a a' ∧ True) ∧ ∃ x : Int32, v9 = some (.inl x) ∧ True) := by
                        intro ms9
                        induction ms9 using Nat.strongRecOn with
                        | _ ms234 ih234 =>
                          intro e  hm234 he
                          refine w_iload rfl rfl ?_
                          refine w_const rfl ?_
                          refine w_ic_ge rfl (fun c51 => ?_) (fun c51 => ?_)
                          · skip
                            refine w_const rfl ?_
                            exact wp_iret (z := false) rfl (fun h9 => by cases h9) ⟨a40, rfl, hR40, ⟨hF40, trivial⟩, ⟨_, rfl, trivial⟩⟩
                          · skip
                            refine w_iload rfl rfl ?_
                            refine w_const rfl ?_
                            refine w_ic_ge rfl (fun c52 => ?_) (fun c52 => ?_)
                            · skip
                              refine w_aload rfl rfl ?_
                              refine w_iload rfl rfl ?_
                              refine w_iload rfl rfl ?_
                              refine w_iload rfl rfl ?_
                              first | refine w_isub rfl (by omega) (fun x53 tx53 => ?_) | refine w_iiU rfl (fun x53 tx53 => ?_)
                              refine w_const rfl ?_
                              first | refine w_iadd rfl (by omega) (fun x54 tx54 => ?_) | refine w_iiU rfl (fun x54 tx54 => ?_)
                              refine w_invV (rest := []) rfl rfl rfl rfl rfl (Nat.le_of_ble_eq_true rfl) rfl (by omega) (s_isLosing (K := K) a40 b  x30 x54 hR40 (by omega)) (fun v55 h9 hq56 => ?_)
                              obtain ⟨rfl, x57, rfl, px57⟩ := hq56
                              show f_wp _ (277, [some (.inr (.inr (some 0))), some (.inl r), some (.inl s), some (.inl t), some (.inl x30), some (.inl x45), some (.inl e)], [.inl x57], mH a40 b) _
                              refine w_if_eq rfl (fun c58 => ?_) (fun c58 => ?_)
                              · skip
                                refine w_iinc (lo' := fun z9 => [some (.inr (.inr (some 0))), some (.inl r), some (.inl s), some (.inl t), some (.inl x30), some (.inl x45), some (.inl z9)]) rfl rfl (fun _ => rfl) (by omega) (fun x59 tx59 => ?_)
                                refine w_goto rfl ?_
                                exact ih234 (7 - x59.toInt).toNat (by omega) x59 rfl  (by omega)
                              · skip
                                refine w_iload rfl rfl ?_
                                exact wp_iret (z := false) rfl (fun h9 => by cases h9) ⟨a40, rfl, hR40, ⟨hF40, trivial⟩, ⟨_, rfl, trivial⟩⟩
                            · skip
                              refine w_aload rfl rfl ?_
                              refine w_iload rfl rfl ?_
                              refine w_iload rfl rfl ?_
                              first | refine w_isub rfl (by omega) (fun x60 tx60 => ?_) | refine w_iiU rfl (fun x60 tx60 => ?_)
                              refine w_iload rfl rfl ?_
                              refine w_invV (rest := []) rfl rfl rfl rfl rfl (Nat.le_of_ble_eq_true rfl) rfl (by omega) (s_isLosing (K := K) a40 b  x60 x45 hR40 (by omega)) (fun v61 h9 hq62 => ?_)
                              obtain ⟨rfl, x63, rfl, px63⟩ := hq62
                              show f_wp _ (258, [some (.inr (.inr (some 0))), some (.inl r), some (.inl s), some (.inl t), some (.inl x30), some (.inl x45), some (.inl e)], [.inl x63], mH a40 b) _
                              refine w_if_eq rfl (fun c64 => ?_) (fun c64 => ?_)
                              · skip
                                refine w_iinc (lo' := fun z9 => [some (.inr (.inr (some 0))), some (.inl r), some (.inl s), some (.inl t), some (.inl x30), some (.inl x45), some (.inl z9)]) rfl rfl (fun _ => rfl) (by omega) (fun x65 tx65 => ?_)
                                refine w_goto rfl ?_
                                exact ih234 (7 - x65.toInt).toNat (by omega) x65 rfl  (by omega)
                              · skip
                                refine w_goto rfl ?_
                                refine w_iload rfl rfl ?_
                                exact wp_iret (z := false) rfl (fun h9 => by cases h9) ⟨a40, rfl, hR40, ⟨hF40, trivial⟩, ⟨_, rfl, trivial⟩⟩
                      exact loop234 _ 1 rfl  (by omega)
                  · skip
                    refine w_const rfl ?_
                    refine w_goto rfl ?_
                    refine w_istore (lo' := [some (.inr (.inr (some 0))), some (.inl r), some (.inl s), some (.inl t), some (.inl x30), some (.inl 20), o6_40]) rfl rfl ?_
                    refine w_iload rfl rfl ?_
                    refine w_if_ne rfl (fun c66 => ?_) (fun c66 => ?_)
                    · skip
                      refine w_aload rfl rfl ?_
                      refine w_getR (v := .inr (.inr (some 25))) rfl rfl rfl rfl rfl ?_
                      refine w_const rfl ?_
                      refine w_iload rfl rfl ?_
                      first | refine w_imul rfl (c := 21) rfl (by omega) (fun x67 tx67 => ?_) | refine w_iiU rfl (fun x67 tx67 => ?_)
                      refine w_iload rfl rfl ?_
                      first | refine w_iadd rfl (by omega) (fun x68 tx68 => ?_) | refine w_iiU rfl (fun x68 tx68 => ?_)
                      refine m_bald rfl rfl (by omega) (fun x69 ex69 => ?_)
                      have qx69 : 0 ≤ x69.toInt ∧ x69.toInt ≤ 1 := by rw [ex69]; exact hR40 25 _
                      refine w_if_eq rfl (fun c70 => ?_) (fun c70 => ?_)
                      · skip
                        refine w_const rfl ?_
                        exact wp_iret (z := false) rfl (fun h9 => by cases h9) ⟨a40, rfl, hR40, ⟨hF40, trivial⟩, ⟨_, rfl, trivial⟩⟩
                      · skip
                        refine w_const rfl ?_
                        refine w_goto rfl ?_
                        exact wp_iret (z := false) rfl (fun h9 => by cases h9) ⟨a40, rfl, hR40, ⟨hF40, trivial⟩, ⟨_, rfl, trivial⟩⟩
                    · skip
                      refine w_const rfl ?_
                      refine w_istore (lo' := [some (.inr (.inr (some 0))), some (.inl r), some (.inl s), some (.inl t), some (.inl x30), some (.inl 20), some (.inl 1)]) rfl rfl ?_
                      have loop234 : ∀ (ms9 : Nat) (e : Int32) , (7 - e.toInt).toNat = ms9 → (1 ≤ e.toInt ∧ e.toInt ≤ 7) → f_wp (f_code (t_X13_dams (f_ev mtM d))) (234, [some (.inr (.inr (some 0))), some (.inl r), some (.inl s), some (.inl t), some (.inl x30), some (.inl 20), some (.inl e)], [], mH a40 b) (fun v9 h' => ∃ (a' : Nat → Nat → Int32), h' = mH a' b ∧ RM K a' ∧ (FR [0, 25] a a' ∧ True) ∧ ∃ x : Int32, v9 = some (.inl x) ∧ True) := by
                        intro ms9
                        induction ms9 using Nat.strongRecOn with
                        | _ ms234 ih234 =>
                          intro e  hm234 he
                          refine w_iload rfl rfl ?_
                          refine w_const rfl ?_
                          refine w_ic_ge rfl (fun c71 => ?_) (fun c71 => ?_)
                          · skip
                            refine w_const rfl ?_
                            exact wp_iret (z := false) rfl (fun h9 => by cases h9) ⟨a40, rfl, hR40, ⟨hF40, trivial⟩, ⟨_, rfl, trivial⟩⟩
                          · skip
                            refine w_iload rfl rfl ?_
                            refine w_const rfl ?_
                            refine w_ic_ge rfl (fun c72 => ?_) (fun c72 => ?_)
                            · skip
                              refine w_aload rfl rfl ?_
                              refine w_iload rfl rfl ?_
                              refine w_iload rfl rfl ?_
                              refine w_iload rfl rfl ?_
                              first | refine w_isub rfl (by omega) (fun x73 tx73 => ?_) | refine w_iiU rfl (fun x73 tx73 => ?_)
                              refine w_const rfl ?_
                              first | refine w_iadd rfl (by omega) (fun x74 tx74 => ?_) | refine w_iiU rfl (fun x74 tx74 => ?_)
                              refine w_invV (rest := []) rfl rfl rfl rfl rfl (Nat.le_of_ble_eq_true rfl) rfl (by omega) (s_isLosing (K := K) a40 b  x30 x74 hR40 (by omega)) (fun v75 h9 hq76 => ?_)
                              obtain ⟨rfl, x77, rfl, px77⟩ := hq76
                              show f_wp _ (277, [some (.inr (.inr (some 0))), some (.inl r), some (.inl s), some (.inl t), some (.inl x30), some (.inl 20), some (.inl e)], [.inl x77], mH a40 b) _
                              refine w_if_eq rfl (fun c78 => ?_) (fun c78 => ?_)
                              · skip
                                refine w_iinc (lo' := fun z9 => [some (.inr (.inr (some 0))), some (.inl r), some (.inl s), some (.inl t), some (.inl x30), some (.inl 20), some (.inl z9)]) rfl rfl (fun _ => rfl) (by omega) (fun x79 tx79 => ?_)
                                refine w_goto rfl ?_
                                exact ih234 (7 - x79.toInt).toNat (by omega) x79 rfl  (by omega)
                              · skip
                                refine w_iload rfl rfl ?_
                                exact wp_iret (z := false) rfl (fun h9 => by cases h9) ⟨a40, rfl, hR40, ⟨hF40, trivial⟩, ⟨_, rfl, trivial⟩⟩
                            · skip
                              refine w_aload rfl rfl ?_
                              refine w_iload rfl rfl ?_
                              refine w_iload rfl rfl ?_
                              first | refine w_isub rfl (by omega) (fun x80 tx80 => ?_) | refine w_iiU rfl (fun x80 tx80 => ?_)
                              refine w_iload rfl rfl ?_
                              refine w_invV (rest := []) rfl rfl rfl rfl rfl (Nat.le_of_ble_eq_true rfl) rfl (by omega) (s_isLosing (K := K) a40 b  x80 20 hR40 (by omega)) (fun v81 h9 hq82 => ?_)
                              obtain ⟨rfl, x83, rfl, px83⟩ := hq82
                              show f_wp _ (258, [some (.inr (.inr (some 0))), some (.inl r), some (.inl s), some (.inl t), some (.inl x30), some (.inl 20), some (.inl e)], [.inl x83], mH a40 b) _
                              refine w_if_eq rfl (fun c84 => ?_) (fun c84 => ?_)
                              · skip
                                refine w_iinc (lo' := fun z9 => [some (.inr (.inr (some 0))), some (.inl r), some (.inl s), some (.inl t), some (.inl x30), some (.inl 20), some (.inl z9)]) rfl rfl (fun _ => rfl) (by omega) (fun x85 tx85 => ?_)
                                refine w_goto rfl ?_
                                exact ih234 (7 - x85.toInt).toNat (by omega) x85 rfl  (by omega)
                              · skip
                                refine w_goto rfl ?_
                                refine w_iload rfl rfl ?_
                                exact wp_iret (z := false) rfl (fun h9 => by cases h9) ⟨a40, rfl, hR40, ⟨hF40, trivial⟩, ⟨_, rfl, trivial⟩⟩
                      exact loop234 _ 1 rfl  (by omega)
                · skip
                  refine w_const rfl ?_
                  refine w_goto rfl ?_
                  refine w_istore (lo' := [some (.inr (.inr (some 0))), some (.inl r), some (.inl s), some (.inl t), some (.inl 20), o5_40, o6_40]) rfl rfl ?_
                  refine w_aload rfl rfl ?_
                  refine w_iload rfl rfl ?_
                  refine w_const rfl ?_
                  refine w_aload rfl rfl ?_
                  refine w_const rfl ?_
                  refine w_invV (rest := [.inl 4, .inl s, .inr (.inr (some 0))]) rfl rfl rfl rfl rfl (Nat.le_of_ble_eq_true rfl) rfl (by omega) (s_winter (K := K) a40 b  0 hR40 (by omega)) (fun v86 h9 hq87 => ?_)
                  obtain ⟨rfl, x88, rfl, px88⟩ := hq87
                  show f_wp _ (177, [some (.inr (.inr (some 0))), some (.inl r), some (.inl s), some (.inl t), some (.inl 20), o5_40, o6_40], [.inl x88, .inl 4, .inl s, .inr (.inr (some 0))], mH a40 b) _
                  have w9 : x88.toInt = (a40 15 0).toInt % 4 := px88.2.2
                  first | refine w_iadd rfl (by omega) (fun x89 tx89 => ?_) | refine w_iiU rfl (fun x89 tx89 => ?_)
                  refine w_invV (rest := []) rfl rfl rfl rfl rfl (Nat.le_of_ble_eq_true rfl) rfl (by omega) (s_riverOf (K := K) a40 b  s x89  (by omega) (by omega)) (fun v90 h9 hq91 => ?_)
                  obtain ⟨rfl, x92, rfl, px92⟩ := hq91
                  show f_wp _ (181, [some (.inr (.inr (some 0))), some (.inl r), some (.inl s), some (.inl t), some (.inl 20), o5_40, o6_40], [.inl x92], mH a40 b) _
                  have d9 : x92 = a40 6 (7 + 14 * s.toInt.toNat + (4 + (a40 15 0).toInt % 4).toNat) := by rw [px92]; congr 1; omega
                  have d8 := congrArg Int32.toInt d9
                  have d7 : 0 ≤ x92.toInt ∧ x92.toInt ≤ 99 := by rw [px92]; exact RM.water hR40 (by omega) (by omega)
                  refine w_const rfl ?_
                  refine w_ic_le rfl (fun c93 => ?_) (fun c93 => ?_)
                  · skip
                    refine w_aload rfl rfl ?_
                    refine w_iload rfl rfl ?_
                    refine w_const rfl ?_
                    refine w_aload rfl rfl ?_
                    refine w_const rfl ?_
                    refine w_invV (rest := [.inl 4, .inl s, .inr (.inr (some 0))]) rfl rfl rfl rfl rfl (Nat.le_of_ble_eq_true rfl) rfl (by omega) (s_winter (K := K) a40 b  0 hR40 (by omega)) (fun v94 h9 hq95 => ?_)
                    obtain ⟨rfl, x96, rfl, px96⟩ := hq95
                    show f_wp _ (199, [some (.inr (.inr (some 0))), some (.inl r), some (.inl s), some (.inl t), some (.inl 20), o5_40, o6_40], [.inl x96, .inl 4, .inl s, .inr (.inr (some 0))], mH a40 b) _
                    have w9 : x96.toInt = (a40 15 0).toInt % 4 := px96.2.2
                    first | refine w_iadd rfl (by omega) (fun x97 tx97 => ?_) | refine w_iiU rfl (fun x97 tx97 => ?_)
                    refine w_invV (rest := []) rfl rfl rfl rfl rfl (Nat.le_of_ble_eq_true rfl) rfl (by omega) (s_riverOf (K := K) a40 b  s x97  (by omega) (by omega)) (fun v98 h9 hq99 => ?_)
                    obtain ⟨rfl, x100, rfl, px100⟩ := hq99
                    show f_wp _ (203, [some (.inr (.inr (some 0))), some (.inl r), some (.inl s), some (.inl t), some (.inl 20), o5_40, o6_40], [.inl x100], mH a40 b) _
                    have d9 : x100 = a40 6 (7 + 14 * s.toInt.toNat + (4 + (a40 15 0).toInt % 4).toNat) := by rw [px100]; congr 1; omega
                    have d8 := congrArg Int32.toInt d9
                    have d7 : 0 ≤ x100.toInt ∧ x100.toInt ≤ 99 := by rw [px100]; exact RM.water hR40 (by omega) (by omega)
                    refine w_istore (lo' := [some (.inr (.inr (some 0))), some (.inl r), some (.inl s), some (.inl t), some (.inl 20), some (.inl x100), o6_40]) rfl rfl ?_
                    refine w_iload rfl rfl ?_
                    refine w_if_ne rfl (fun c101 => ?_) (fun c101 => ?_)
                    · skip
                      refine w_aload rfl rfl ?_
                      refine w_getR (v := .inr (.inr (some 25))) rfl rfl rfl rfl rfl ?_
                      refine w_const rfl ?_
                      refine w_iload rfl rfl ?_
                      first | refine w_imul rfl (c := 21) rfl (by omega) (fun x102 tx102 => ?_) | refine w_iiU rfl (fun x102 tx102 => ?_)
                      refine w_iload rfl rfl ?_
                      first | refine w_iadd rfl (by omega) (fun x103 tx103 => ?_) | refine w_iiU rfl (fun x103 tx103 => ?_)
                      refine m_bald rfl rfl (by omega) (fun x104 ex104 => ?_)
                      have qx104 : 0 ≤ x104.toInt ∧ x104.toInt ≤ 1 := by rw [ex104]; exact hR40 25 _
                      refine w_if_eq rfl (fun c105 => ?_) (fun c105 => ?_)
                      · skip
                        refine w_const rfl ?_
                        exact wp_iret (z := false) rfl (fun h9 => by cases h9) ⟨a40, rfl, hR40, ⟨hF40, trivial⟩, ⟨_, rfl, trivial⟩⟩
                      · skip
                        refine w_const rfl ?_
                        refine w_goto rfl ?_
                        exact wp_iret (z := false) rfl (fun h9 => by cases h9) ⟨a40, rfl, hR40, ⟨hF40, trivial⟩, ⟨_, rfl, trivial⟩⟩
                    · skip
                      refine w_const rfl ?_
                      refine w_istore (lo' := [some (.inr (.inr (some 0))), some (.inl r), some (.inl s), some (.inl t), some (.inl 20), some (.inl x100), some (.inl 1)]) rfl rfl ?_
                      have loop234 : ∀ (ms9 : Nat) (e : Int32) , (7 - e.toInt).toNat = ms9 → (1 ≤ e.toInt ∧ e.toInt ≤ 7) → f_wp (f_code (t_X13_dams (f_ev mtM d))) (234, [some (.inr (.inr (some 0))), some (.inl r), some (.inl s), some (.inl t), some (.inl 20), some (.inl x100), some (.inl e)], [], mH a40 b) (fun v9 h' => ∃ (a' : Nat → Nat → Int32), h' = mH a' b ∧ RM K a' ∧ (FR [0, 25] a a' ∧ True) ∧ ∃ x : Int32, v9 = some (.inl x) ∧ True) := by
                        intro ms9
                        induction ms9 using Nat.strongRecOn with
                        | _ ms234 ih234 =>
                          intro e  hm234 he
                          refine w_iload rfl rfl ?_
                          refine w_const rfl ?_
                          refine w_ic_ge rfl (fun c106 => ?_) (fun c106 => ?_)
                          · skip
                            refine w_const rfl ?_
                            exact wp_iret (z := false) rfl (fun h9 => by cases h9) ⟨a40, rfl, hR40, ⟨hF40, trivial⟩, ⟨_, rfl, trivial⟩⟩
                          · skip
                            refine w_iload rfl rfl ?_
                            refine w_const rfl ?_
                            refine w_ic_ge rfl (fun c107 => ?_) (fun c107 => ?_)
                            · skip
                              refine w_aload rfl rfl ?_
                              refine w_iload rfl rfl ?_
                              refine w_iload rfl rfl ?_
                              refine w_iload rfl rfl ?_
                              first | refine w_isub rfl (by omega) (fun x108 tx108 => ?_) | refine w_iiU rfl (fun x108 tx108 => ?_)
                              refine w_const rfl ?_
                              first | refine w_iadd rfl (by omega) (fun x109 tx109 => ?_) | refine w_iiU rfl (fun x109 tx109 => ?_)
                              refine w_invV (rest := []) rfl rfl rfl rfl rfl (Nat.le_of_ble_eq_true rfl) rfl (by omega) (s_isLosing (K := K) a40 b  20 x109 hR40 (by omega)) (fun v110 h9 hq111 => ?_)
                              obtain ⟨rfl, x112, rfl, px112⟩ := hq111
                              show f_wp _ (277, [some (.inr (.inr (some 0))), some (.inl r), some (.inl s), some (.inl t), some (.inl 20), some (.inl x100), some (.inl e)], [.inl x112], mH a40 b) _
                              refine w_if_eq rfl (fun c113 => ?_) (fun c113 => ?_)
                              · skip
                                refine w_iinc (lo' := fun z9 => [some (.inr (.inr (some 0))), some (.inl r), some (.inl s), some (.inl t), some (.inl 20), some (.inl x100), some (.inl z9)]) rfl rfl (fun _ => rfl) (by omega) (fun x114 tx114 => ?_)
                                refine w_goto rfl ?_
                                exact ih234 (7 - x114.toInt).toNat (by omega) x114 rfl  (by omega)
                              · skip
                                refine w_iload rfl rfl ?_
                                exact wp_iret (z := false) rfl (fun h9 => by cases h9) ⟨a40, rfl, hR40, ⟨hF40, trivial⟩, ⟨_, rfl, trivial⟩⟩
                            · skip
                              refine w_aload rfl rfl ?_
                              refine w_iload rfl rfl ?_
                              refine w_iload rfl rfl ?_
                              first | refine w_isub rfl (by omega) (fun x115 tx115 => ?_) | refine w_iiU rfl (fun x115 tx115 => ?_)
                              refine w_iload rfl rfl ?_
                              refine w_invV (rest := []) rfl rfl rfl rfl rfl (Nat.le_of_ble_eq_true rfl) rfl (by omega) (s_isLosing (K := K) a40 b  x115 x100 hR40 (by omega)) (fun v116 h9 hq117 => ?_)
                              obtain ⟨rfl, x118, rfl, px118⟩ := hq117
                              show f_wp _ (258, [some (.inr (.inr (some 0))), some (.inl r), some (.inl s), some (.inl t), some (.inl 20), some (.inl x100), some (.inl e)], [.inl x118], mH a40 b) _
                              refine w_if_eq rfl (fun c119 => ?_) (fun c119 => ?_)
                              · skip
                                refine w_iinc (lo' := fun z9 => [some (.inr (.inr (some 0))), some (.inl r), some (.inl s), some (.inl t), some (.inl 20), some (.inl x100), some (.inl z9)]) rfl rfl (fun _ => rfl) (by omega) (fun x120 tx120 => ?_)
                                refine w_goto rfl ?_
                                exact ih234 (7 - x120.toInt).toNat (by omega) x120 rfl  (by omega)
                              · skip
                                refine w_goto rfl ?_
                                refine w_iload rfl rfl ?_
                                exact wp_iret (z := false) rfl (fun h9 => by cases h9) ⟨a40, rfl, hR40, ⟨hF40, trivial⟩, ⟨_, rfl, trivial⟩⟩
                      exact loop234 _ 1 rfl  (by omega)
                  · skip
                    refine w_const rfl ?_
                    refine w_goto rfl ?_
                    refine w_istore (lo' := [some (.inr (.inr (some 0))), some (.inl r), some (.inl s), some (.inl t), some (.inl 20), some (.inl 20), o6_40]) rfl rfl ?_
                    refine w_iload rfl rfl ?_
                    refine w_if_ne rfl (fun c121 => ?_) (fun c121 => ?_)
                    · skip
                      refine w_aload rfl rfl ?_
                      refine w_getR (v := .inr (.inr (some 25))) rfl rfl rfl rfl rfl ?_
                      refine w_const rfl ?_
                      refine w_iload rfl rfl ?_
                      first | refine w_imul rfl (c := 21) rfl (by omega) (fun x122 tx122 => ?_) | refine w_iiU rfl (fun x122 tx122 => ?_)
                      refine w_iload rfl rfl ?_
                      first | refine w_iadd rfl (by omega) (fun x123 tx123 => ?_) | refine w_iiU rfl (fun x123 tx123 => ?_)
                      refine m_bald rfl rfl (by omega) (fun x124 ex124 => ?_)
                      have qx124 : 0 ≤ x124.toInt ∧ x124.toInt ≤ 1 := by rw [ex124]; exact hR40 25 _
                      refine w_if_eq rfl (fun c125 => ?_) (fun c125 => ?_)
                      · skip
                        refine w_const rfl ?_
                        exact wp_iret (z := false) rfl (fun h9 => by cases h9) ⟨a40, rfl, hR40, ⟨hF40, trivial⟩, ⟨_, rfl, trivial⟩⟩
                      · skip
                        refine w_const rfl ?_
                        refine w_goto rfl ?_
                        exact wp_iret (z := false) rfl (fun h9 => by cases h9) ⟨a40, rfl, hR40, ⟨hF40, trivial⟩, ⟨_, rfl, trivial⟩⟩
                    · skip
                      refine w_const rfl ?_
                      refine w_istore (lo' := [some (.inr (.inr (some 0))), some (.inl r), some (.inl s), some (.inl t), some (.inl 20), some (.inl 20), some (.inl 1)]) rfl rfl ?_
                      have loop234 : ∀ (ms9 : Nat) (e : Int32) , (7 - e.toInt).toNat = ms9 → (1 ≤ e.toInt ∧ e.toInt ≤ 7) → f_wp (f_code (t_X13_dams (f_ev mtM d))) (234, [some (.inr (.inr (some 0))), some (.inl r), some (.inl s), some (.inl t), some (.inl 20), some (.inl 20), some (.inl e)], [], mH a40 b) (fun v9 h' => ∃ (a' : Nat → Nat → Int32), h' = mH a' b ∧ RM K a' ∧ (FR [0, 25] a a' ∧ True) ∧ ∃ x : Int32, v9 = some (.inl x) ∧ True) := by
                        intro ms9
                        induction ms9 using Nat.strongRecOn with
                        | _ ms234 ih234 =>
                          intro e  hm234 he
                          refine w_iload rfl rfl ?_
                          refine w_const rfl ?_
                          refine w_ic_ge rfl (fun c126 => ?_) (fun c126 => ?_)
                          · skip
                            refine w_const rfl ?_
                            exact wp_iret (z := false) rfl (fun h9 => by cases h9) ⟨a40, rfl, hR40, ⟨hF40, trivial⟩, ⟨_, rfl, trivial⟩⟩
                          · skip
                            refine w_iload rfl rfl ?_
                            refine w_const rfl ?_
                            refine w_ic_ge rfl (fun c127 => ?_) (fun c127 => ?_)
                            · skip
                              refine w_aload rfl rfl ?_
                              refine w_iload rfl rfl ?_
                              refine w_iload rfl rfl ?_
                              refine w_iload rfl rfl ?_
                              first | refine w_isub rfl (by omega) (fun x128 tx128 => ?_) | refine w_iiU rfl (fun x128 tx128 => ?_)
                              refine w_const rfl ?_
                              first | refine w_iadd rfl (by omega) (fun x129 tx129 => ?_) | refine w_iiU rfl (fun x129 tx129 => ?_)
                              refine w_invV (rest := []) rfl rfl rfl rfl rfl (Nat.le_of_ble_eq_true rfl) rfl (by omega) (s_isLosing (K := K) a40 b  20 x129 hR40 (by omega)) (fun v130 h9 hq131 => ?_)
                              obtain ⟨rfl, x132, rfl, px132⟩ := hq131
                              show f_wp _ (277, [some (.inr (.inr (some 0))), some (.inl r), some (.inl s), some (.inl t), some (.inl 20), some (.inl 20), some (.inl e)], [.inl x132], mH a40 b) _
                              refine w_if_eq rfl (fun c133 => ?_) (fun c133 => ?_)
                              · skip
                                refine w_iinc (lo' := fun z9 => [some (.inr (.inr (some 0))), some (.inl r), some (.inl s), some (.inl t), some (.inl 20), some (.inl 20), some (.inl z9)]) rfl rfl (fun _ => rfl) (by omega) (fun x134 tx134 => ?_)
                                refine w_goto rfl ?_
                                exact ih234 (7 - x134.toInt).toNat (by omega) x134 rfl  (by omega)
                              · skip
                                refine w_iload rfl rfl ?_
                                exact wp_iret (z := false) rfl (fun h9 => by cases h9) ⟨a40, rfl, hR40, ⟨hF40, trivial⟩, ⟨_, rfl, trivial⟩⟩
                            · skip
                              refine w_aload rfl rfl ?_
                              refine w_iload rfl rfl ?_
                              refine w_iload rfl rfl ?_
                              first | refine w_isub rfl (by omega) (fun x135 tx135 => ?_) | refine w_iiU rfl (fun x135 tx135 => ?_)
                              refine w_iload rfl rfl ?_
                              refine w_invV (rest := []) rfl rfl rfl rfl rfl (Nat.le_of_ble_eq_true rfl) rfl (by omega) (s_isLosing (K := K) a40 b  x135 20 hR40 (by omega)) (fun v136 h9 hq137 => ?_)
                              obtain ⟨rfl, x138, rfl, px138⟩ := hq137
                              show f_wp _ (258, [some (.inr (.inr (some 0))), some (.inl r), some (.inl s), some (.inl t), some (.inl 20), some (.inl 20), some (.inl e)], [.inl x138], mH a40 b) _
                              refine w_if_eq rfl (fun c139 => ?_) (fun c139 => ?_)
                              · skip
                                refine w_iinc (lo' := fun z9 => [some (.inr (.inr (some 0))), some (.inl r), some (.inl s), some (.inl t), some (.inl 20), some (.inl 20), some (.inl z9)]) rfl rfl (fun _ => rfl) (by omega) (fun x140 tx140 => ?_)
                                refine w_goto rfl ?_
                                exact ih234 (7 - x140.toInt).toNat (by omega) x140 rfl  (by omega)
                              · skip
                                refine w_goto rfl ?_
                                refine w_iload rfl rfl ?_
                                exact wp_iret (z := false) rfl (fun h9 => by cases h9) ⟨a40, rfl, hR40, ⟨hF40, trivial⟩, ⟨_, rfl, trivial⟩⟩
                      exact loop234 _ 1 rfl  (by omega)
              · skip
                refine w_const rfl ?_
                refine w_istore (lo' := [some (.inr (.inr (some 0))), some (.inl r), some (.inl s), some (.inl t), some (.inl k), some (.inl 0), o6_40]) rfl rfl ?_
                refine w_const rfl ?_
                refine w_istore (lo' := [some (.inr (.inr (some 0))), some (.inl r), some (.inl s), some (.inl t), some (.inl k), some (.inl 0), some (.inl 1)]) rfl rfl ?_
                have loop54 : ∀ (ms9 : Nat) (is : Int32) (e : Int32) , (4 - e.toInt).toNat = ms9 → (1 ≤ e.toInt ∧ e.toInt ≤ 4) → f_wp (f_code (t_X13_dams (f_ev mtM d))) (54, [some (.inr (.inr (some 0))), some (.inl r), some (.inl s), some (.inl t), some (.inl k), some (.inl is), some (.inl e)], [], mH a40 b) (fun v9 h' => ∃ (a' : Nat → Nat → Int32), h' = mH a' b ∧ RM K a' ∧ (FR [0, 25] a a' ∧ True) ∧ ∃ x : Int32, v9 = some (.inl x) ∧ True) := by
                  intro ms9
                  induction ms9 using Nat.strongRecOn with
                  | _ ms54 ih54 =>
                    intro is e  hm54 he
                    refine w_iload rfl rfl ?_
                    refine w_const rfl ?_
                    refine w_ic_ge rfl (fun c141 => ?_) (fun c141 => ?_)
                    · skip
                      refine w_aload rfl rfl ?_
                      refine w_getR (v := .inr (.inr (some 25))) rfl rfl rfl rfl rfl ?_
                      refine w_iload rfl rfl ?_
                      refine w_iload rfl rfl ?_
                      refine m_bast rfl rfl (by omega) (fun a142 ea142 => ?_)
                      have ha142 : RM K a142 := RM.up hR40 ea142 (ti_nz _)
                      refine w_iinc (lo' := fun z9 => [some (.inr (.inr (some 0))), some (.inl r), some (.inl s), some (.inl t), some (.inl z9), some (.inl is), some (.inl e)]) rfl rfl (fun _ => rfl) (by omega) (fun x143 tx143 => ?_)
                      refine w_goto rfl ?_
                      exact ih40 (441 - x143.toInt).toNat (by omega) x143 a142 (some (.inl is)) (some (.inl e)) rfl ha142 (FR.up (hF40) (by decide) ea142) (by omega)
                    · skip
                      refine w_iload rfl rfl ?_
                      refine w_if_ne rfl (fun c144 => ?_) (fun c144 => ?_)
                      · skip
                        refine w_aload rfl rfl ?_
                        refine w_iload rfl rfl ?_
                        refine w_const rfl ?_
                        refine w_idiv (c := 21) rfl rfl (by decide) (by omega) (fun x145 tx145 => ?_)
                        refine w_iload rfl rfl ?_
                        first | refine w_isub rfl (by omega) (fun x146 tx146 => ?_) | refine w_iiU rfl (fun x146 tx146 => ?_)
                        refine w_iload rfl rfl ?_
                        refine w_const rfl ?_
                        refine w_irem (c := 21) rfl rfl (by decide) (by omega) (fun x147 tx147 => ?_)
                        refine w_invV (rest := []) rfl rfl rfl rfl rfl (Nat.le_of_ble_eq_true rfl) rfl (by omega) (s_isLosing (K := K) a40 b  x146 x147 hR40 (by omega)) (fun v148 h9 hq149 => ?_)
                        obtain ⟨rfl, x150, rfl, px150⟩ := hq149
                        show f_wp _ (82, [some (.inr (.inr (some 0))), some (.inl r), some (.inl s), some (.inl t), some (.inl k), some (.inl is), some (.inl e)], [.inl x150], mH a40 b) _
                        refine w_if_ne rfl (fun c151 => ?_) (fun c151 => ?_)
                        · skip
                          refine w_aload rfl rfl ?_
                          refine w_iload rfl rfl ?_
                          refine w_const rfl ?_
                          refine w_idiv (c := 21) rfl rfl (by decide) (by omega) (fun x152 tx152 => ?_)
                          refine w_iload rfl rfl ?_
                          refine w_const rfl ?_
                          refine w_irem (c := 21) rfl rfl (by decide) (by omega) (fun x153 tx153 => ?_)
                          refine w_iload rfl rfl ?_
                          first | refine w_isub rfl (by omega) (fun x154 tx154 => ?_) | refine w_iiU rfl (fun x154 tx154 => ?_)
                          refine w_invV (rest := []) rfl rfl rfl rfl rfl (Nat.le_of_ble_eq_true rfl) rfl (by omega) (s_isLosing (K := K) a40 b  x152 x154 hR40 (by omega)) (fun v155 h9 hq156 => ?_)
                          obtain ⟨rfl, x157, rfl, px157⟩ := hq156
                          show f_wp _ (102, [some (.inr (.inr (some 0))), some (.inl r), some (.inl s), some (.inl t), some (.inl k), some (.inl is), some (.inl e)], [.inl x157], mH a40 b) _
                          refine w_if_eq rfl (fun c158 => ?_) (fun c158 => ?_)
                          · skip
                            refine w_const rfl ?_
                            refine w_istore (lo' := [some (.inr (.inr (some 0))), some (.inl r), some (.inl s), some (.inl t), some (.inl k), some (.inl 0), some (.inl e)]) rfl rfl ?_
                            refine w_iinc (lo' := fun z9 => [some (.inr (.inr (some 0))), some (.inl r), some (.inl s), some (.inl t), some (.inl k), some (.inl 0), some (.inl z9)]) rfl rfl (fun _ => rfl) (by omega) (fun x159 tx159 => ?_)
                            refine w_goto rfl ?_
                            exact ih54 (4 - x159.toInt).toNat (by omega) 0 x159 rfl  (by omega)
                          · skip
                            refine w_const rfl ?_
                            refine w_goto rfl ?_
                            refine w_istore (lo' := [some (.inr (.inr (some 0))), some (.inl r), some (.inl s), some (.inl t), some (.inl k), some (.inl 1), some (.inl e)]) rfl rfl ?_
                            refine w_iinc (lo' := fun z9 => [some (.inr (.inr (some 0))), some (.inl r), some (.inl s), some (.inl t), some (.inl k), some (.inl 1), some (.inl z9)]) rfl rfl (fun _ => rfl) (by omega) (fun x160 tx160 => ?_)
                            refine w_goto rfl ?_
                            exact ih54 (4 - x160.toInt).toNat (by omega) 1 x160 rfl  (by omega)
                        · skip
                          refine w_const rfl ?_
                          refine w_goto rfl ?_
                          refine w_istore (lo' := [some (.inr (.inr (some 0))), some (.inl r), some (.inl s), some (.inl t), some (.inl k), some (.inl 1), some (.inl e)]) rfl rfl ?_
                          refine w_iinc (lo' := fun z9 => [some (.inr (.inr (some 0))), some (.inl r), some (.inl s), some (.inl t), some (.inl k), some (.inl 1), some (.inl z9)]) rfl rfl (fun _ => rfl) (by omega) (fun x161 tx161 => ?_)
                          refine w_goto rfl ?_
                          exact ih54 (4 - x161.toInt).toNat (by omega) 1 x161 rfl  (by omega)
                      · skip
                        refine w_const rfl ?_
                        refine w_goto rfl ?_
                        refine w_istore (lo' := [some (.inr (.inr (some 0))), some (.inl r), some (.inl s), some (.inl t), some (.inl k), some (.inl 1), some (.inl e)]) rfl rfl ?_
                        refine w_iinc (lo' := fun z9 => [some (.inr (.inr (some 0))), some (.inl r), some (.inl s), some (.inl t), some (.inl k), some (.inl 1), some (.inl z9)]) rfl rfl (fun _ => rfl) (by omega) (fun x162 tx162 => ?_)
                        refine w_goto rfl ?_
                        exact ih54 (4 - x162.toInt).toNat (by omega) 1 x162 rfl  (by omega)
                exact loop54 _ 0 1 rfl  (by omega)
          exact loop40 _ 0 a1 none none rfl ha1 (FR.up (FR.rf) (by decide) ea1) (by omega)
set_option maxRecDepth 4000 in
theorem s_looks {K : Nat} (a : Nat → Nat → Int32) (b : Nat → Nat → Int64)  (hR : RM K a) (hA : AC a 1260) : f_call mtM 14 87 [.inr (.inr (some 0))] (mH a b) (fun v9 h' => ∃ (a' : Nat → Nat → Int32), h' = mH a' b ∧ RM K a' ∧ (FR [0, 18, 19, 20] a a' ∧ True) ∧ v9 = none) := by
  refine f_call_of (d0 := 13) rfl (Nat.le_of_ble_eq_true rfl) (fun d hd => ?_)
  show f_wp _ (0, [some (.inr (.inr (some 0))), none, none, none, none, none, none], [], mH a b) _
  have lm2 : (-2 : Int32).toInt = -2 := rfl
  have l0 : (0 : Int32).toInt = 0 := rfl
  have l1 : (1 : Int32).toInt = 1 := rfl
  have l4 : (4 : Int32).toInt = 4 := rfl
  have l600 : (600 : Int32).toInt = 600 := rfl
  have l1260 : (1260 : Int32).toInt = 1260 := rfl
  have loop92 : ∀ (ms9 : Nat) (dg : Int32) (mn : Int32) (bt : Int32) (r : Int32) (a92 : Nat → Nat → Int32) (o5_92 : Option f_V) (o6_92 : Option f_V), (6 - r.toInt).toNat = ms9 → RM K a92 → FR [0, 18, 19, 20] a a92 → (0 ≤ r.toInt ∧ r.toInt ≤ 6) → f_wp (f_code (t_X13_looks (f_ev mtM d))) (92, [some (.inr (.inr (some 0))), some (.inl dg), some (.inl mn), some (.inl bt), some (.inl r), o5_92, o6_92], [], mH a92 b) (fun v9 h' => ∃ (a' : Nat → Nat → Int32), h' = mH a' b ∧ RM K a' ∧ (FR [0, 18, 19, 20] a a' ∧ True) ∧ v9 = none) := by
    intro ms9
    induction ms9 using Nat.strongRecOn with
    | _ ms92 ih92 =>
      intro dg mn bt r a92 o5_92 o6_92 hm92 hR92 hF92 hr
      refine w_iload rfl rfl ?_
      refine w_aload rfl rfl ?_
      refine w_invV (rest := [.inl r]) rfl rfl rfl rfl rfl (Nat.le_of_ble_eq_true rfl) rfl (by omega) (s_rivers (K := K) a92 b   hR92 ) (fun v1 h9 hq2 => ?_)
      obtain ⟨rfl, x3, rfl, px3⟩ := hq2
      show f_wp _ (98, [some (.inr (.inr (some 0))), some (.inl dg), some (.inl mn), some (.inl bt), some (.inl r), o5_92, o6_92], [.inl x3, .inl r], mH a92 b) _
      refine w_ic_ge rfl (fun c4 => ?_) (fun c4 => ?_)
      · skip
        refine w_aload rfl rfl ?_
        refine w_iload rfl rfl ?_
        refine w_if_eq rfl (fun c5 => ?_) (fun c5 => ?_)
        · skip
          refine w_aload rfl rfl ?_
          refine w_getI (v := .inl (a92 0 29)) rfl rfl rfl rfl rfl ?_
          refine m_putI (z := false) rfl rfl rfl rfl (by first | (intro h9; cases h9; done) | (intro _; first | exact Or.inl rfl | exact Or.inr rfl | assumption)) (fun a6 ea6 => ?_)
          have ha6 : RM K a6 := RM.up hR92 ea6 ⟨ti_lo _, ti_hi _⟩
          have ua6_29 : a6 0 29 = (a92 0 29) := by rw [ea6, mU_same]
          have wa6_29 := congrArg Int32.toInt ua6_29
          refine w_aload rfl rfl ?_
          refine w_iload rfl rfl ?_
          refine w_if_eq rfl (fun c7 => ?_) (fun c7 => ?_)
          · skip
            refine w_aload rfl rfl ?_
            refine w_getI (v := .inl (a6 0 30)) rfl rfl rfl rfl rfl ?_
            refine m_putI (z := false) rfl rfl rfl rfl (by first | (intro h9; cases h9; done) | (intro _; first | exact Or.inl rfl | exact Or.inr rfl | assumption)) (fun a8 ea8 => ?_)
            have ha8 : RM K a8 := RM.up ha6 ea8 ⟨ti_lo _, ti_hi _⟩
            have ua8_29 : (a8 0 29).toInt = (a6 0 29).toInt := by rw [ea8, mU_slot (by decide)]
            have ua8_30 : a8 0 30 = (a6 0 30) := by rw [ea8, mU_same]
            have wa8_30 := congrArg Int32.toInt ua8_30
            refine w_aload rfl rfl ?_
            refine w_dup rfl rfl ?_
            refine w_getI (v := .inl (a8 0 28)) rfl rfl rfl rfl rfl ?_
            refine w_const rfl ?_
            first | refine w_iadd rfl (by omega) (fun x9 tx9 => ?_) | refine w_iiU rfl (fun x9 tx9 => ?_)
            refine m_putI (z := false) rfl rfl rfl rfl (by first | (intro h9; cases h9; done) | (intro _; first | exact Or.inl rfl | exact Or.inr rfl | assumption)) (fun a10 ea10 => ?_)
            have ha10 : RM K a10 := RM.up ha8 ea10 ⟨ti_lo _, ti_hi _⟩
            have ua10_28 : a10 0 28 = x9 := by rw [ea10, mU_same]
            have wa10_28 := congrArg Int32.toInt ua10_28
            have ua10_29 : (a10 0 29).toInt = (a8 0 29).toInt := by rw [ea10, mU_slot (by decide)]
            have ua10_30 : (a10 0 30).toInt = (a8 0 30).toInt := by rw [ea10, mU_slot (by decide)]
            exact w_ret rfl ⟨a10, rfl, ha10, ⟨FR.up (FR.up (FR.up (hF92) (by decide) ea6) (by decide) ea8) (by decide) ea10, trivial⟩, rfl⟩
          · skip
            refine w_iload rfl rfl ?_
            refine w_goto rfl ?_
            refine m_putI (z := false) rfl rfl rfl rfl (by first | (intro h9; cases h9; done) | (intro _; first | exact Or.inl rfl | exact Or.inr rfl | assumption)) (fun a11 ea11 => ?_)
            have ha11 : RM K a11 := RM.up ha6 ea11 ⟨ti_lo _, ti_hi _⟩
            have ua11_29 : (a11 0 29).toInt = (a6 0 29).toInt := by rw [ea11, mU_slot (by decide)]
            have ua11_30 : a11 0 30 = mn := by rw [ea11, mU_same]
            have wa11_30 := congrArg Int32.toInt ua11_30
            refine w_aload rfl rfl ?_
            refine w_dup rfl rfl ?_
            refine w_getI (v := .inl (a11 0 28)) rfl rfl rfl rfl rfl ?_
            refine w_const rfl ?_
            first | refine w_iadd rfl (by omega) (fun x12 tx12 => ?_) | refine w_iiU rfl (fun x12 tx12 => ?_)
            refine m_putI (z := false) rfl rfl rfl rfl (by first | (intro h9; cases h9; done) | (intro _; first | exact Or.inl rfl | exact Or.inr rfl | assumption)) (fun a13 ea13 => ?_)
            have ha13 : RM K a13 := RM.up ha11 ea13 ⟨ti_lo _, ti_hi _⟩
            have ua13_28 : a13 0 28 = x12 := by rw [ea13, mU_same]
            have wa13_28 := congrArg Int32.toInt ua13_28
            have ua13_29 : (a13 0 29).toInt = (a11 0 29).toInt := by rw [ea13, mU_slot (by decide)]
            exact w_ret rfl ⟨a13, rfl, ha13, ⟨FR.up (FR.up (FR.up (hF92) (by decide) ea6) (by decide) ea11) (by decide) ea13, trivial⟩, rfl⟩
        · skip
          refine w_iload rfl rfl ?_
          refine w_goto rfl ?_
          refine m_putI (z := false) rfl rfl rfl rfl (by first | (intro h9; cases h9; done) | (intro _; first | exact Or.inl rfl | exact Or.inr rfl | assumption)) (fun a14 ea14 => ?_)
          have ha14 : RM K a14 := RM.up hR92 ea14 ⟨ti_lo _, ti_hi _⟩
          have ua14_29 : a14 0 29 = dg := by rw [ea14, mU_same]
          have wa14_29 := congrArg Int32.toInt ua14_29
          refine w_aload rfl rfl ?_
          refine w_iload rfl rfl ?_
          refine w_if_eq rfl (fun c15 => ?_) (fun c15 => ?_)
          · skip
            refine w_aload rfl rfl ?_
            refine w_getI (v := .inl (a14 0 30)) rfl rfl rfl rfl rfl ?_
            refine m_putI (z := false) rfl rfl rfl rfl (by first | (intro h9; cases h9; done) | (intro _; first | exact Or.inl rfl | exact Or.inr rfl | assumption)) (fun a16 ea16 => ?_)
            have ha16 : RM K a16 := RM.up ha14 ea16 ⟨ti_lo _, ti_hi _⟩
            have ua16_30 : a16 0 30 = (a14 0 30) := by rw [ea16, mU_same]
            have wa16_30 := congrArg Int32.toInt ua16_30
            refine w_aload rfl rfl ?_
            refine w_dup rfl rfl ?_
            refine w_getI (v := .inl (a16 0 28)) rfl rfl rfl rfl rfl ?_
            refine w_const rfl ?_
            first | refine w_iadd rfl (by omega) (fun x17 tx17 => ?_) | refine w_iiU rfl (fun x17 tx17 => ?_)
            refine m_putI (z := false) rfl rfl rfl rfl (by first | (intro h9; cases h9; done) | (intro _; first | exact Or.inl rfl | exact Or.inr rfl | assumption)) (fun a18 ea18 => ?_)
            have ha18 : RM K a18 := RM.up ha16 ea18 ⟨ti_lo _, ti_hi _⟩
            have ua18_28 : a18 0 28 = x17 := by rw [ea18, mU_same]
            have wa18_28 := congrArg Int32.toInt ua18_28
            have ua18_30 : (a18 0 30).toInt = (a16 0 30).toInt := by rw [ea18, mU_slot (by decide)]
            exact w_ret rfl ⟨a18, rfl, ha18, ⟨FR.up (FR.up (FR.up (hF92) (by decide) ea14) (by decide) ea16) (by decide) ea18, trivial⟩, rfl⟩
          · skip
            refine w_iload rfl rfl ?_
            refine w_goto rfl ?_
            refine m_putI (z := false) rfl rfl rfl rfl (by first | (intro h9; cases h9; done) | (intro _; first | exact Or.inl rfl | exact Or.inr rfl | assumption)) (fun a19 ea19 => ?_)
            have ha19 : RM K a19 := RM.up ha14 ea19 ⟨ti_lo _, ti_hi _⟩
            have ua19_30 : a19 0 30 = mn := by rw [ea19, mU_same]
            have wa19_30 := congrArg Int32.toInt ua19_30
            refine w_aload rfl rfl ?_
            refine w_dup rfl rfl ?_
            refine w_getI (v := .inl (a19 0 28)) rfl rfl rfl rfl rfl ?_
            refine w_const rfl ?_
            first | refine w_iadd rfl (by omega) (fun x20 tx20 => ?_) | refine w_iiU rfl (fun x20 tx20 => ?_)
            refine m_putI (z := false) rfl rfl rfl rfl (by first | (intro h9; cases h9; done) | (intro _; first | exact Or.inl rfl | exact Or.inr rfl | assumption)) (fun a21 ea21 => ?_)
            have ha21 : RM K a21 := RM.up ha19 ea21 ⟨ti_lo _, ti_hi _⟩
            have ua21_28 : a21 0 28 = x20 := by rw [ea21, mU_same]
            have wa21_28 := congrArg Int32.toInt ua21_28
            exact w_ret rfl ⟨a21, rfl, ha21, ⟨FR.up (FR.up (FR.up (hF92) (by decide) ea14) (by decide) ea19) (by decide) ea21, trivial⟩, rfl⟩
      · skip
        refine w_aload rfl rfl ?_
        refine w_const rfl ?_
        refine w_iload rfl rfl ?_
        refine w_invV (rest := []) rfl rfl rfl rfl rfl (Nat.le_of_ble_eq_true rfl) rfl (by omega) (s_husbandOf (K := K) a92 b  1260 r hR92 (by omega) (by omega)) (fun v22 h9 hq23 => ?_)
        obtain ⟨rfl, x24, rfl, px24⟩ := hq23
        show f_wp _ (110, [some (.inr (.inr (some 0))), some (.inl dg), some (.inl mn), some (.inl bt), some (.inl r), o5_92, o6_92], [.inl x24], mH a92 b) _
        refine w_istore (lo' := [some (.inr (.inr (some 0))), some (.inl dg), some (.inl mn), some (.inl bt), some (.inl r), some (.inl x24), o6_92]) rfl rfl ?_
        refine w_aload rfl rfl ?_
        refine w_getR (v := .inr (.inr (some 19))) rfl rfl rfl rfl rfl ?_
        refine w_iload rfl rfl ?_
        refine w_aload rfl rfl ?_
        refine w_getI (v := .inl (a92 0 28)) rfl rfl rfl rfl rfl ?_
        refine w_if_eq rfl (fun c25 => ?_) (fun c25 => ?_)
        · skip
          refine w_iload rfl rfl ?_
          refine w_goto rfl ?_
          refine m_iast rfl rfl (by omega) (fun a26 ea26 => ?_)
          have ha26 : RM K a26 := RM.up hR92 ea26 ⟨ti_lo _, ti_hi _⟩
          have ua26_28 : (a26 0 28).toInt = (a92 0 28).toInt := by rw [ea26, mU_cell (by decide)]
          refine w_aload rfl rfl ?_
          refine w_getR (v := .inr (.inr (some 18))) rfl rfl rfl rfl rfl ?_
          refine w_iload rfl rfl ?_
          refine w_iload rfl rfl ?_
          refine w_if_eq rfl (fun c27 => ?_) (fun c27 => ?_)
          · skip
            refine w_aload rfl rfl ?_
            refine w_getR (v := .inr (.inr (some 18))) rfl rfl rfl rfl rfl ?_
            refine w_iload rfl rfl ?_
            refine m_iald rfl rfl (by omega) (fun x28 ex28 => ?_)
            refine m_iast rfl rfl (by omega) (fun a29 ea29 => ?_)
            have ha29 : RM K a29 := RM.up ha26 ea29 ⟨ti_lo _, ti_hi _⟩
            have ua29_28 : (a29 0 28).toInt = (a26 0 28).toInt := by rw [ea29, mU_cell (by decide)]
            refine w_const rfl ?_
            refine w_istore (lo' := [some (.inr (.inr (some 0))), some (.inl dg), some (.inl mn), some (.inl bt), some (.inl r), some (.inl x24), some (.inl 0)]) rfl rfl ?_
            have loop171 : ∀ (ms9 : Nat) (s : Int32) (a171 : Nat → Nat → Int32) , (4 - s.toInt).toNat = ms9 → RM K a171 → FR [0, 18, 19, 20] a a171 → (0 ≤ s.toInt ∧ s.toInt ≤ 4) → f_wp (f_code (t_X13_looks (f_ev mtM d))) (171, [some (.inr (.inr (some 0))), some (.inl dg), some (.inl mn), some (.inl bt), some (.inl r), some (.inl x24), some (.inl s)], [], mH a171 b) (fun v9 h' => ∃ (a' : Nat → Nat → Int32), h' = mH a' b ∧ RM K a' ∧ (FR [0, 18, 19, 20] a a' ∧ True) ∧ v9 = none) := by
              intro ms9
              induction ms9 using Nat.strongRecOn with
              | _ ms171 ih171 =>
                intro s a171  hm171 hR171 hF171 hs
                refine w_iload rfl rfl ?_
                refine w_const rfl ?_
                refine w_ic_ge rfl (fun c30 => ?_) (fun c30 => ?_)
                · skip
                  refine w_iinc (lo' := fun z9 => [some (.inr (.inr (some 0))), some (.inl dg), some (.inl mn), some (.inl bt), some (.inl z9), some (.inl x24), some (.inl s)]) rfl rfl (fun _ => rfl) (by omega) (fun x31 tx31 => ?_)
                  refine w_goto rfl ?_
                  exact ih92 (6 - x31.toInt).toNat (by omega) dg mn bt x31 a171 (some (.inl x24)) (some (.inl s)) rfl hR171 (hF171) (by omega)
                · skip
                  refine w_aload rfl rfl ?_
                  refine w_getI (v := .inl (a171 0 27)) rfl rfl rfl rfl rfl ?_
                  refine w_const rfl ?_
                  refine w_ic_ne rfl (fun c32 => ?_) (fun c32 => ?_)
                  · skip
                    refine w_aload rfl rfl ?_
                    refine w_getR (v := .inr (.inr (some 20))) rfl rfl rfl rfl rfl ?_
                    refine w_const rfl ?_
                    refine w_const rfl ?_
                    refine w_iload rfl rfl ?_
                    first | refine w_imul rfl (c := 4) rfl (by omega) (fun x33 tx33 => ?_) | refine w_iiU rfl (fun x33 tx33 => ?_)
                    refine w_iload rfl rfl ?_
                    first | refine w_iadd rfl (by omega) (fun x34 tx34 => ?_) | refine w_iiU rfl (fun x34 tx34 => ?_)
                    first | refine w_imul rfl (c := 600) rfl (by omega) (fun x35 tx35 => ?_) | refine w_iiU rfl (fun x35 tx35 => ?_)
                    refine w_aload rfl rfl ?_
                    refine w_const rfl ?_
                    refine w_iload rfl rfl ?_
                    refine w_iload rfl rfl ?_
                    refine w_invV (rest := [.inl x35, .inr (.inr (some 20))]) rfl rfl rfl rfl rfl (Nat.le_of_ble_eq_true rfl) rfl (by omega) (s_mouthFlow (K := K) a171 b  1260 r s hR171 (by omega) (by omega) (by omega) (hA.same (fun r9 _ => by have f9 := (hF171 : FR [0, 18, 19, 20] a a171) 15 (by decide); rw [f9]; first | done | rfl))) (fun v36 h9 hq37 => ?_)
                    obtain ⟨rfl, x38, rfl, px38⟩ := hq37
                    show f_wp _ (211, [some (.inr (.inr (some 0))), some (.inl dg), some (.inl mn), some (.inl bt), some (.inl r), some (.inl x24), some (.inl s)], [.inl x38, .inl x35, .inr (.inr (some 20))], mH a171 b) _
                    first | refine w_iadd rfl (by omega) (fun x39 tx39 => ?_) | refine w_iiU rfl (fun x39 tx39 => ?_)
                    refine w_dup2 rfl ⟨rfl, rfl⟩ ?_
                    refine m_iald rfl rfl (by omega) (fun x40 ex40 => ?_)
                    refine w_const rfl ?_
                    first | refine w_iadd rfl (by omega) (fun x41 tx41 => ?_) | refine w_iiU rfl (fun x41 tx41 => ?_)
                    refine m_iast rfl rfl (by omega) (fun a42 ea42 => ?_)
                    have ha42 : RM K a42 := RM.up hR171 ea42 ⟨ti_lo _, ti_hi _⟩
                    have ua42_27 : (a42 0 27).toInt = (a171 0 27).toInt := by rw [ea42, mU_cell (by decide)]
                    have ua42_28 : (a42 0 28).toInt = (a171 0 28).toInt := by rw [ea42, mU_cell (by decide)]
                    refine w_iinc (lo' := fun z9 => [some (.inr (.inr (some 0))), some (.inl dg), some (.inl mn), some (.inl bt), some (.inl r), some (.inl x24), some (.inl z9)]) rfl rfl (fun _ => rfl) (by omega) (fun x43 tx43 => ?_)
                    refine w_goto rfl ?_
                    exact ih171 (4 - x43.toInt).toNat (by omega) x43 a42 rfl ha42 (FR.up (hF171) (by decide) ea42) (by omega)
                  · skip
                    refine w_iinc (lo' := fun z9 => [some (.inr (.inr (some 0))), some (.inl dg), some (.inl mn), some (.inl bt), some (.inl z9), some (.inl x24), some (.inl s)]) rfl rfl (fun _ => rfl) (by omega) (fun x44 tx44 => ?_)
                    refine w_goto rfl ?_
                    exact ih92 (6 - x44.toInt).toNat (by omega) dg mn bt x44 a171 (some (.inl x24)) (some (.inl s)) rfl hR171 (hF171) (by omega)
            exact loop171 _ 0 a29 rfl ha29 (FR.up (FR.up (hF92) (by decide) ea26) (by decide) ea29) (by omega)
          · skip
            refine w_iload rfl rfl ?_
            refine w_goto rfl ?_
            refine m_iast rfl rfl (by omega) (fun a45 ea45 => ?_)
            have ha45 : RM K a45 := RM.up ha26 ea45 ⟨ti_lo _, ti_hi _⟩
            have ua45_28 : (a45 0 28).toInt = (a26 0 28).toInt := by rw [ea45, mU_cell (by decide)]
            refine w_const rfl ?_
            refine w_istore (lo' := [some (.inr (.inr (some 0))), some (.inl dg), some (.inl mn), some (.inl bt), some (.inl r), some (.inl x24), some (.inl 0)]) rfl rfl ?_
            have loop171 : ∀ (ms9 : Nat) (s : Int32) (a171 : Nat → Nat → Int32) , (4 - s.toInt).toNat = ms9 → RM K a171 → FR [0, 18, 19, 20] a a171 → (0 ≤ s.toInt ∧ s.toInt ≤ 4) → f_wp (f_code (t_X13_looks (f_ev mtM d))) (171, [some (.inr (.inr (some 0))), some (.inl dg), some (.inl mn), some (.inl bt), some (.inl r), some (.inl x24), some (.inl s)], [], mH a171 b) (fun v9 h' => ∃ (a' : Nat → Nat → Int32), h' = mH a' b ∧ RM K a' ∧ (FR [0, 18, 19, 20] a a' ∧ True) ∧ v9 = none) := by
              intro ms9
              induction ms9 using Nat.strongRecOn with
              | _ ms171 ih171 =>
                intro s a171  hm171 hR171 hF171 hs
                refine w_iload rfl rfl ?_
                refine w_const rfl ?_
                refine w_ic_ge rfl (fun c46 => ?_) (fun c46 => ?_)
                · skip
                  refine w_iinc (lo' := fun z9 => [some (.inr (.inr (some 0))), some (.inl dg), some (.inl mn), some (.inl bt), some (.inl z9), some (.inl x24), some (.inl s)]) rfl rfl (fun _ => rfl) (by omega) (fun x47 tx47 => ?_)
                  refine w_goto rfl ?_
                  exact ih92 (6 - x47.toInt).toNat (by omega) dg mn bt x47 a171 (some (.inl x24)) (some (.inl s)) rfl hR171 (hF171) (by omega)
                · skip
                  refine w_aload rfl rfl ?_
                  refine w_getI (v := .inl (a171 0 27)) rfl rfl rfl rfl rfl ?_
                  refine w_const rfl ?_
                  refine w_ic_ne rfl (fun c48 => ?_) (fun c48 => ?_)
                  · skip
                    refine w_aload rfl rfl ?_
                    refine w_getR (v := .inr (.inr (some 20))) rfl rfl rfl rfl rfl ?_
                    refine w_const rfl ?_
                    refine w_const rfl ?_
                    refine w_iload rfl rfl ?_
                    first | refine w_imul rfl (c := 4) rfl (by omega) (fun x49 tx49 => ?_) | refine w_iiU rfl (fun x49 tx49 => ?_)
                    refine w_iload rfl rfl ?_
                    first | refine w_iadd rfl (by omega) (fun x50 tx50 => ?_) | refine w_iiU rfl (fun x50 tx50 => ?_)
                    first | refine w_imul rfl (c := 600) rfl (by omega) (fun x51 tx51 => ?_) | refine w_iiU rfl (fun x51 tx51 => ?_)
                    refine w_aload rfl rfl ?_
                    refine w_const rfl ?_
                    refine w_iload rfl rfl ?_
                    refine w_iload rfl rfl ?_
                    refine w_invV (rest := [.inl x51, .inr (.inr (some 20))]) rfl rfl rfl rfl rfl (Nat.le_of_ble_eq_true rfl) rfl (by omega) (s_mouthFlow (K := K) a171 b  1260 r s hR171 (by omega) (by omega) (by omega) (hA.same (fun r9 _ => by have f9 := (hF171 : FR [0, 18, 19, 20] a a171) 15 (by decide); rw [f9]; first | done | rfl))) (fun v52 h9 hq53 => ?_)
                    obtain ⟨rfl, x54, rfl, px54⟩ := hq53
                    show f_wp _ (211, [some (.inr (.inr (some 0))), some (.inl dg), some (.inl mn), some (.inl bt), some (.inl r), some (.inl x24), some (.inl s)], [.inl x54, .inl x51, .inr (.inr (some 20))], mH a171 b) _
                    first | refine w_iadd rfl (by omega) (fun x55 tx55 => ?_) | refine w_iiU rfl (fun x55 tx55 => ?_)
                    refine w_dup2 rfl ⟨rfl, rfl⟩ ?_
                    refine m_iald rfl rfl (by omega) (fun x56 ex56 => ?_)
                    refine w_const rfl ?_
                    first | refine w_iadd rfl (by omega) (fun x57 tx57 => ?_) | refine w_iiU rfl (fun x57 tx57 => ?_)
                    refine m_iast rfl rfl (by omega) (fun a58 ea58 => ?_)
                    have ha58 : RM K a58 := RM.up hR171 ea58 ⟨ti_lo _, ti_hi _⟩
                    have ua58_27 : (a58 0 27).toInt = (a171 0 27).toInt := by rw [ea58, mU_cell (by decide)]
                    have ua58_28 : (a58 0 28).toInt = (a171 0 28).toInt := by rw [ea58, mU_cell (by decide)]
                    refine w_iinc (lo' := fun z9 => [some (.inr (.inr (some 0))), some (.inl dg), some (.inl mn), some (.inl bt), some (.inl r), some (.inl x24), some (.inl z9)]) rfl rfl (fun _ => rfl) (by omega) (fun x59 tx59 => ?_)
                    refine w_goto rfl ?_
                    exact ih171 (4 - x59.toInt).toNat (by omega) x59 a58 rfl ha58 (FR.up (hF171) (by decide) ea58) (by omega)
                  · skip
                    refine w_iinc (lo' := fun z9 => [some (.inr (.inr (some 0))), some (.inl dg), some (.inl mn), some (.inl bt), some (.inl z9), some (.inl x24), some (.inl s)]) rfl rfl (fun _ => rfl) (by omega) (fun x60 tx60 => ?_)
                    refine w_goto rfl ?_
                    exact ih92 (6 - x60.toInt).toNat (by omega) dg mn bt x60 a171 (some (.inl x24)) (some (.inl s)) rfl hR171 (hF171) (by omega)
            exact loop171 _ 0 a45 rfl ha45 (FR.up (FR.up (hF92) (by decide) ea26) (by decide) ea45) (by omega)
        · skip
          refine w_aload rfl rfl ?_
          refine w_getR (v := .inr (.inr (some 19))) rfl rfl rfl rfl rfl ?_
          refine w_iload rfl rfl ?_
          refine m_iald rfl rfl (by omega) (fun x61 ex61 => ?_)
          refine w_iload rfl rfl ?_
          refine w_ic_ne rfl (fun c62 => ?_) (fun c62 => ?_)
          · skip
            refine w_iload rfl rfl ?_
            refine w_goto rfl ?_
            refine m_iast rfl rfl (by omega) (fun a63 ea63 => ?_)
            have ha63 : RM K a63 := RM.up hR92 ea63 ⟨ti_lo _, ti_hi _⟩
            have ua63_28 : (a63 0 28).toInt = (a92 0 28).toInt := by rw [ea63, mU_cell (by decide)]
            refine w_aload rfl rfl ?_
            refine w_getR (v := .inr (.inr (some 18))) rfl rfl rfl rfl rfl ?_
            refine w_iload rfl rfl ?_
            refine w_iload rfl rfl ?_
            refine w_if_eq rfl (fun c64 => ?_) (fun c64 => ?_)
            · skip
              refine w_aload rfl rfl ?_
              refine w_getR (v := .inr (.inr (some 18))) rfl rfl rfl rfl rfl ?_
              refine w_iload rfl rfl ?_
              refine m_iald rfl rfl (by omega) (fun x65 ex65 => ?_)
              refine m_iast rfl rfl (by omega) (fun a66 ea66 => ?_)
              have ha66 : RM K a66 := RM.up ha63 ea66 ⟨ti_lo _, ti_hi _⟩
              have ua66_28 : (a66 0 28).toInt = (a63 0 28).toInt := by rw [ea66, mU_cell (by decide)]
              refine w_const rfl ?_
              refine w_istore (lo' := [some (.inr (.inr (some 0))), some (.inl dg), some (.inl mn), some (.inl bt), some (.inl r), some (.inl x24), some (.inl 0)]) rfl rfl ?_
              have loop171 : ∀ (ms9 : Nat) (s : Int32) (a171 : Nat → Nat → Int32) , (4 - s.toInt).toNat = ms9 → RM K a171 → FR [0, 18, 19, 20] a a171 → (0 ≤ s.toInt ∧ s.toInt ≤ 4) → f_wp (f_code (t_X13_looks (f_ev mtM d))) (171, [some (.inr (.inr (some 0))), some (.inl dg), some (.inl mn), some (.inl bt), some (.inl r), some (.inl x24), some (.inl s)], [], mH a171 b) (fun v9 h' => ∃ (a' : Nat → Nat → Int32), h' = mH a' b ∧ RM K a' ∧ (FR [0, 18, 19, 20] a a' ∧ True) ∧ v9 = none) := by
                intro ms9
                induction ms9 using Nat.strongRecOn with
                | _ ms171 ih171 =>
                  intro s a171  hm171 hR171 hF171 hs
                  refine w_iload rfl rfl ?_
                  refine w_const rfl ?_
                  refine w_ic_ge rfl (fun c67 => ?_) (fun c67 => ?_)
                  · skip
                    refine w_iinc (lo' := fun z9 => [some (.inr (.inr (some 0))), some (.inl dg), some (.inl mn), some (.inl bt), some (.inl z9), some (.inl x24), some (.inl s)]) rfl rfl (fun _ => rfl) (by omega) (fun x68 tx68 => ?_)
                    refine w_goto rfl ?_
                    exact ih92 (6 - x68.toInt).toNat (by omega) dg mn bt x68 a171 (some (.inl x24)) (some (.inl s)) rfl hR171 (hF171) (by omega)
                  · skip
                    refine w_aload rfl rfl ?_
                    refine w_getI (v := .inl (a171 0 27)) rfl rfl rfl rfl rfl ?_
                    refine w_const rfl ?_
                    refine w_ic_ne rfl (fun c69 => ?_) (fun c69 => ?_)
                    · skip
                      refine w_aload rfl rfl ?_
                      refine w_getR (v := .inr (.inr (some 20))) rfl rfl rfl rfl rfl ?_
                      refine w_const rfl ?_
                      refine w_const rfl ?_
                      refine w_iload rfl rfl ?_
                      first | refine w_imul rfl (c := 4) rfl (by omega) (fun x70 tx70 => ?_) | refine w_iiU rfl (fun x70 tx70 => ?_)
                      refine w_iload rfl rfl ?_
                      first | refine w_iadd rfl (by omega) (fun x71 tx71 => ?_) | refine w_iiU rfl (fun x71 tx71 => ?_)
                      first | refine w_imul rfl (c := 600) rfl (by omega) (fun x72 tx72 => ?_) | refine w_iiU rfl (fun x72 tx72 => ?_)
                      refine w_aload rfl rfl ?_
                      refine w_const rfl ?_
                      refine w_iload rfl rfl ?_
                      refine w_iload rfl rfl ?_
                      refine w_invV (rest := [.inl x72, .inr (.inr (some 20))]) rfl rfl rfl rfl rfl (Nat.le_of_ble_eq_true rfl) rfl (by omega) (s_mouthFlow (K := K) a171 b  1260 r s hR171 (by omega) (by omega) (by omega) (hA.same (fun r9 _ => by have f9 := (hF171 : FR [0, 18, 19, 20] a a171) 15 (by decide); rw [f9]; first | done | rfl))) (fun v73 h9 hq74 => ?_)
                      obtain ⟨rfl, x75, rfl, px75⟩ := hq74
                      show f_wp _ (211, [some (.inr (.inr (some 0))), some (.inl dg), some (.inl mn), some (.inl bt), some (.inl r), some (.inl x24), some (.inl s)], [.inl x75, .inl x72, .inr (.inr (some 20))], mH a171 b) _
                      first | refine w_iadd rfl (by omega) (fun x76 tx76 => ?_) | refine w_iiU rfl (fun x76 tx76 => ?_)
                      refine w_dup2 rfl ⟨rfl, rfl⟩ ?_
                      refine m_iald rfl rfl (by omega) (fun x77 ex77 => ?_)
                      refine w_const rfl ?_
                      first | refine w_iadd rfl (by omega) (fun x78 tx78 => ?_) | refine w_iiU rfl (fun x78 tx78 => ?_)
                      refine m_iast rfl rfl (by omega) (fun a79 ea79 => ?_)
                      have ha79 : RM K a79 := RM.up hR171 ea79 ⟨ti_lo _, ti_hi _⟩
                      have ua79_27 : (a79 0 27).toInt = (a171 0 27).toInt := by rw [ea79, mU_cell (by decide)]
                      have ua79_28 : (a79 0 28).toInt = (a171 0 28).toInt := by rw [ea79, mU_cell (by decide)]
                      refine w_iinc (lo' := fun z9 => [some (.inr (.inr (some 0))), some (.inl dg), some (.inl mn), some (.inl bt), some (.inl r), some (.inl x24), some (.inl z9)]) rfl rfl (fun _ => rfl) (by omega) (fun x80 tx80 => ?_)
                      refine w_goto rfl ?_
                      exact ih171 (4 - x80.toInt).toNat (by omega) x80 a79 rfl ha79 (FR.up (hF171) (by decide) ea79) (by omega)
                    · skip
                      refine w_iinc (lo' := fun z9 => [some (.inr (.inr (some 0))), some (.inl dg), some (.inl mn), some (.inl bt), some (.inl z9), some (.inl x24), some (.inl s)]) rfl rfl (fun _ => rfl) (by omega) (fun x81 tx81 => ?_)
                      refine w_goto rfl ?_
                      exact ih92 (6 - x81.toInt).toNat (by omega) dg mn bt x81 a171 (some (.inl x24)) (some (.inl s)) rfl hR171 (hF171) (by omega)
              exact loop171 _ 0 a66 rfl ha66 (FR.up (FR.up (hF92) (by decide) ea63) (by decide) ea66) (by omega)
            · skip
              refine w_iload rfl rfl ?_
              refine w_goto rfl ?_
              refine m_iast rfl rfl (by omega) (fun a82 ea82 => ?_)
              have ha82 : RM K a82 := RM.up ha63 ea82 ⟨ti_lo _, ti_hi _⟩
              have ua82_28 : (a82 0 28).toInt = (a63 0 28).toInt := by rw [ea82, mU_cell (by decide)]
              refine w_const rfl ?_
              refine w_istore (lo' := [some (.inr (.inr (some 0))), some (.inl dg), some (.inl mn), some (.inl bt), some (.inl r), some (.inl x24), some (.inl 0)]) rfl rfl ?_
              have loop171 : ∀ (ms9 : Nat) (s : Int32) (a171 : Nat → Nat → Int32) , (4 - s.toInt).toNat = ms9 → RM K a171 → FR [0, 18, 19, 20] a a171 → (0 ≤ s.toInt ∧ s.toInt ≤ 4) → f_wp (f_code (t_X13_looks (f_ev mtM d))) (171, [some (.inr (.inr (some 0))), some (.inl dg), some (.inl mn), some (.inl bt), some (.inl r), some (.inl x24), some (.inl s)], [], mH a171 b) (fun v9 h' => ∃ (a' : Nat → Nat → Int32), h' = mH a' b ∧ RM K a' ∧ (FR [0, 18, 19, 20] a a' ∧ True) ∧ v9 = none) := by
                intro ms9
                induction ms9 using Nat.strongRecOn with
                | _ ms171 ih171 =>
                  intro s a171  hm171 hR171 hF171 hs
                  refine w_iload rfl rfl ?_
                  refine w_const rfl ?_
                  refine w_ic_ge rfl (fun c83 => ?_) (fun c83 => ?_)
                  · skip
                    refine w_iinc (lo' := fun z9 => [some (.inr (.inr (some 0))), some (.inl dg), some (.inl mn), some (.inl bt), some (.inl z9), some (.inl x24), some (.inl s)]) rfl rfl (fun _ => rfl) (by omega) (fun x84 tx84 => ?_)
                    refine w_goto rfl ?_
                    exact ih92 (6 - x84.toInt).toNat (by omega) dg mn bt x84 a171 (some (.inl x24)) (some (.inl s)) rfl hR171 (hF171) (by omega)
                  · skip
                    refine w_aload rfl rfl ?_
                    refine w_getI (v := .inl (a171 0 27)) rfl rfl rfl rfl rfl ?_
                    refine w_const rfl ?_
                    refine w_ic_ne rfl (fun c85 => ?_) (fun c85 => ?_)
                    · skip
                      refine w_aload rfl rfl ?_
                      refine w_getR (v := .inr (.inr (some 20))) rfl rfl rfl rfl rfl ?_
                      refine w_const rfl ?_
                      refine w_const rfl ?_
                      refine w_iload rfl rfl ?_
                      first | refine w_imul rfl (c := 4) rfl (by omega) (fun x86 tx86 => ?_) | refine w_iiU rfl (fun x86 tx86 => ?_)
                      refine w_iload rfl rfl ?_
                      first | refine w_iadd rfl (by omega) (fun x87 tx87 => ?_) | refine w_iiU rfl (fun x87 tx87 => ?_)
                      first | refine w_imul rfl (c := 600) rfl (by omega) (fun x88 tx88 => ?_) | refine w_iiU rfl (fun x88 tx88 => ?_)
                      refine w_aload rfl rfl ?_
                      refine w_const rfl ?_
                      refine w_iload rfl rfl ?_
                      refine w_iload rfl rfl ?_
                      refine w_invV (rest := [.inl x88, .inr (.inr (some 20))]) rfl rfl rfl rfl rfl (Nat.le_of_ble_eq_true rfl) rfl (by omega) (s_mouthFlow (K := K) a171 b  1260 r s hR171 (by omega) (by omega) (by omega) (hA.same (fun r9 _ => by have f9 := (hF171 : FR [0, 18, 19, 20] a a171) 15 (by decide); rw [f9]; first | done | rfl))) (fun v89 h9 hq90 => ?_)
                      obtain ⟨rfl, x91, rfl, px91⟩ := hq90
                      show f_wp _ (211, [some (.inr (.inr (some 0))), some (.inl dg), some (.inl mn), some (.inl bt), some (.inl r), some (.inl x24), some (.inl s)], [.inl x91, .inl x88, .inr (.inr (some 20))], mH a171 b) _
                      first | refine w_iadd rfl (by omega) (fun x92 tx92 => ?_) | refine w_iiU rfl (fun x92 tx92 => ?_)
                      refine w_dup2 rfl ⟨rfl, rfl⟩ ?_
                      refine m_iald rfl rfl (by omega) (fun x93 ex93 => ?_)
                      refine w_const rfl ?_
                      first | refine w_iadd rfl (by omega) (fun x94 tx94 => ?_) | refine w_iiU rfl (fun x94 tx94 => ?_)
                      refine m_iast rfl rfl (by omega) (fun a95 ea95 => ?_)
                      have ha95 : RM K a95 := RM.up hR171 ea95 ⟨ti_lo _, ti_hi _⟩
                      have ua95_27 : (a95 0 27).toInt = (a171 0 27).toInt := by rw [ea95, mU_cell (by decide)]
                      have ua95_28 : (a95 0 28).toInt = (a171 0 28).toInt := by rw [ea95, mU_cell (by decide)]
                      refine w_iinc (lo' := fun z9 => [some (.inr (.inr (some 0))), some (.inl dg), some (.inl mn), some (.inl bt), some (.inl r), some (.inl x24), some (.inl z9)]) rfl rfl (fun _ => rfl) (by omega) (fun x96 tx96 => ?_)
                      refine w_goto rfl ?_
                      exact ih171 (4 - x96.toInt).toNat (by omega) x96 a95 rfl ha95 (FR.up (hF171) (by decide) ea95) (by omega)
                    · skip
                      refine w_iinc (lo' := fun z9 => [some (.inr (.inr (some 0))), some (.inl dg), some (.inl mn), some (.inl bt), some (.inl z9), some (.inl x24), some (.inl s)]) rfl rfl (fun _ => rfl) (by omega) (fun x97 tx97 => ?_)
                      refine w_goto rfl ?_
                      exact ih92 (6 - x97.toInt).toNat (by omega) dg mn bt x97 a171 (some (.inl x24)) (some (.inl s)) rfl hR171 (hF171) (by omega)
              exact loop171 _ 0 a82 rfl ha82 (FR.up (FR.up (hF92) (by decide) ea63) (by decide) ea82) (by omega)
          · skip
            refine w_const rfl ?_
            refine m_iast rfl rfl (by omega) (fun a98 ea98 => ?_)
            have ha98 : RM K a98 := RM.up hR92 ea98 ⟨ti_lo _, ti_hi _⟩
            have ua98_28 : (a98 0 28).toInt = (a92 0 28).toInt := by rw [ea98, mU_cell (by decide)]
            refine w_aload rfl rfl ?_
            refine w_getR (v := .inr (.inr (some 18))) rfl rfl rfl rfl rfl ?_
            refine w_iload rfl rfl ?_
            refine w_iload rfl rfl ?_
            refine w_if_eq rfl (fun c99 => ?_) (fun c99 => ?_)
            · skip
              refine w_aload rfl rfl ?_
              refine w_getR (v := .inr (.inr (some 18))) rfl rfl rfl rfl rfl ?_
              refine w_iload rfl rfl ?_
              refine m_iald rfl rfl (by omega) (fun x100 ex100 => ?_)
              refine m_iast rfl rfl (by omega) (fun a101 ea101 => ?_)
              have ha101 : RM K a101 := RM.up ha98 ea101 ⟨ti_lo _, ti_hi _⟩
              have ua101_28 : (a101 0 28).toInt = (a98 0 28).toInt := by rw [ea101, mU_cell (by decide)]
              refine w_const rfl ?_
              refine w_istore (lo' := [some (.inr (.inr (some 0))), some (.inl dg), some (.inl mn), some (.inl bt), some (.inl r), some (.inl x24), some (.inl 0)]) rfl rfl ?_
              have loop171 : ∀ (ms9 : Nat) (s : Int32) (a171 : Nat → Nat → Int32) , (4 - s.toInt).toNat = ms9 → RM K a171 → FR [0, 18, 19, 20] a a171 → (0 ≤ s.toInt ∧ s.toInt ≤ 4) → f_wp (f_code (t_X13_looks (f_ev mtM d))) (171, [some (.inr (.inr (some 0))), some (.inl dg), some (.inl mn), some (.inl bt), some (.inl r), some (.inl x24), some (.inl s)], [], mH a171 b) (fun v9 h' => ∃ (a' : Nat → Nat → Int32), h' = mH a' b ∧ RM K a' ∧ (FR [0, 18, 19, 20] a a' ∧ True) ∧ v9 = none) := by
                intro ms9
                induction ms9 using Nat.strongRecOn with
                | _ ms171 ih171 =>
                  intro s a171  hm171 hR171 hF171 hs
                  refine w_iload rfl rfl ?_
                  refine w_const rfl ?_
                  refine w_ic_ge rfl (fun c102 => ?_) (fun c102 => ?_)
                  · skip
                    refine w_iinc (lo' := fun z9 => [some (.inr (.inr (some 0))), some (.inl dg), some (.inl mn), some (.inl bt), some (.inl z9), some (.inl x24), some (.inl s)]) rfl rfl (fun _ => rfl) (by omega) (fun x103 tx103 => ?_)
                    refine w_goto rfl ?_
                    exact ih92 (6 - x103.toInt).toNat (by omega) dg mn bt x103 a171 (some (.inl x24)) (some (.inl s)) rfl hR171 (hF171) (by omega)
                  · skip
                    refine w_aload rfl rfl ?_
                    refine w_getI (v := .inl (a171 0 27)) rfl rfl rfl rfl rfl ?_
                    refine w_const rfl ?_
                    refine w_ic_ne rfl (fun c104 => ?_) (fun c104 => ?_)
                    · skip
                      refine w_aload rfl rfl ?_
                      refine w_getR (v := .inr (.inr (some 20))) rfl rfl rfl rfl rfl ?_
                      refine w_const rfl ?_
                      refine w_const rfl ?_
                      refine w_iload rfl rfl ?_
                      first | refine w_imul rfl (c := 4) rfl (by omega) (fun x105 tx105 => ?_) | refine w_iiU rfl (fun x105 tx105 => ?_)
                      refine w_iload rfl rfl ?_
                      first | refine w_iadd rfl (by omega) (fun x106 tx106 => ?_) | refine w_iiU rfl (fun x106 tx106 => ?_)
                      first | refine w_imul rfl (c := 600) rfl (by omega) (fun x107 tx107 => ?_) | refine w_iiU rfl (fun x107 tx107 => ?_)
                      refine w_aload rfl rfl ?_
                      refine w_const rfl ?_
                      refine w_iload rfl rfl ?_
                      refine w_iload rfl rfl ?_
                      refine w_invV (rest := [.inl x107, .inr (.inr (some 20))]) rfl rfl rfl rfl rfl (Nat.le_of_ble_eq_true rfl) rfl (by omega) (s_mouthFlow (K := K) a171 b  1260 r s hR171 (by omega) (by omega) (by omega) (hA.same (fun r9 _ => by have f9 := (hF171 : FR [0, 18, 19, 20] a a171) 15 (by decide); rw [f9]; first | done | rfl))) (fun v108 h9 hq109 => ?_)
                      obtain ⟨rfl, x110, rfl, px110⟩ := hq109
                      show f_wp _ (211, [some (.inr (.inr (some 0))), some (.inl dg), some (.inl mn), some (.inl bt), some (.inl r), some (.inl x24), some (.inl s)], [.inl x110, .inl x107, .inr (.inr (some 20))], mH a171 b) _
                      first | refine w_iadd rfl (by omega) (fun x111 tx111 => ?_) | refine w_iiU rfl (fun x111 tx111 => ?_)
                      refine w_dup2 rfl ⟨rfl, rfl⟩ ?_
                      refine m_iald rfl rfl (by omega) (fun x112 ex112 => ?_)
                      refine w_const rfl ?_
                      first | refine w_iadd rfl (by omega) (fun x113 tx113 => ?_) | refine w_iiU rfl (fun x113 tx113 => ?_)
                      refine m_iast rfl rfl (by omega) (fun a114 ea114 => ?_)
                      have ha114 : RM K a114 := RM.up hR171 ea114 ⟨ti_lo _, ti_hi _⟩
                      have ua114_27 : (a114 0 27).toInt = (a171 0 27).toInt := by rw [ea114, mU_cell (by decide)]
                      have ua114_28 : (a114 0 28).toInt = (a171 0 28).toInt := by rw [ea114, mU_cell (by decide)]
                      refine w_iinc (lo' := fun z9 => [some (.inr (.inr (some 0))), some (.inl dg), some (.inl mn), some (.inl bt), some (.inl r), some (.inl x24), some (.inl z9)]) rfl rfl (fun _ => rfl) (by omega) (fun x115 tx115 => ?_)
                      refine w_goto rfl ?_
                      exact ih171 (4 - x115.toInt).toNat (by omega) x115 a114 rfl ha114 (FR.up (hF171) (by decide) ea114) (by omega)
                    · skip
                      refine w_iinc (lo' := fun z9 => [some (.inr (.inr (some 0))), some (.inl dg), some (.inl mn), some (.inl bt), some (.inl z9), some (.inl x24), some (.inl s)]) rfl rfl (fun _ => rfl) (by omega) (fun x116 tx116 => ?_)
                      refine w_goto rfl ?_
                      exact ih92 (6 - x116.toInt).toNat (by omega) dg mn bt x116 a171 (some (.inl x24)) (some (.inl s)) rfl hR171 (hF171) (by omega)
              exact loop171 _ 0 a101 rfl ha101 (FR.up (FR.up (hF92) (by decide) ea98) (by decide) ea101) (by omega)
            · skip
              refine w_iload rfl rfl ?_
              refine w_goto rfl ?_
              refine m_iast rfl rfl (by omega) (fun a117 ea117 => ?_)
              have ha117 : RM K a117 := RM.up ha98 ea117 ⟨ti_lo _, ti_hi _⟩
              have ua117_28 : (a117 0 28).toInt = (a98 0 28).toInt := by rw [ea117, mU_cell (by decide)]
              refine w_const rfl ?_
              refine w_istore (lo' := [some (.inr (.inr (some 0))), some (.inl dg), some (.inl mn), some (.inl bt), some (.inl r), some (.inl x24), some (.inl 0)]) rfl rfl ?_
              have loop171 : ∀ (ms9 : Nat) (s : Int32) (a171 : Nat → Nat → Int32) , (4 - s.toInt).toNat = ms9 → RM K a171 → FR [0, 18, 19, 20] a a171 → (0 ≤ s.toInt ∧ s.toInt ≤ 4) → f_wp (f_code (t_X13_looks (f_ev mtM d))) (171, [some (.inr (.inr (some 0))), some (.inl dg), some (.inl mn), some (.inl bt), some (.inl r), some (.inl x24), some (.inl s)], [], mH a171 b) (fun v9 h' => ∃ (a' : Nat → Nat → Int32), h' = mH a' b ∧ RM K a' ∧ (FR [0, 18, 19, 20] a a' ∧ True) ∧ v9 = none) := by
                intro ms9
                induction ms9 using Nat.strongRecOn with
                | _ ms171 ih171 =>
                  intro s a171  hm171 hR171 hF171 hs
                  refine w_iload rfl rfl ?_
                  refine w_const rfl ?_
                  refine w_ic_ge rfl (fun c118 => ?_) (fun c118 => ?_)
                  · skip
                    refine w_iinc (lo' := fun z9 => [some (.inr (.inr (some 0))), some (.inl dg), some (.inl mn), some (.inl bt), some (.inl z9), some (.inl x24), some (.inl s)]) rfl rfl (fun _ => rfl) (by omega) (fun x119 tx119 => ?_)
                    refine w_goto rfl ?_
                    exact ih92 (6 - x119.toInt).toNat (by omega) dg mn bt x119 a171 (some (.inl x24)) (some (.inl s)) rfl hR171 (hF171) (by omega)
                  · skip
                    refine w_aload rfl rfl ?_
                    refine w_getI (v := .inl (a171 0 27)) rfl rfl rfl rfl rfl ?_
                    refine w_const rfl ?_
                    refine w_ic_ne rfl (fun c120 => ?_) (fun c120 => ?_)
                    · skip
                      refine w_aload rfl rfl ?_
                      refine w_getR (v := .inr (.inr (some 20))) rfl rfl rfl rfl rfl ?_
                      refine w_const rfl ?_
                      refine w_const rfl ?_
                      refine w_iload rfl rfl ?_
                      first | refine w_imul rfl (c := 4) rfl (by omega) (fun x121 tx121 => ?_) | refine w_iiU rfl (fun x121 tx121 => ?_)
                      refine w_iload rfl rfl ?_
                      first | refine w_iadd rfl (by omega) (fun x122 tx122 => ?_) | refine w_iiU rfl (fun x122 tx122 => ?_)
                      first | refine w_imul rfl (c := 600) rfl (by omega) (fun x123 tx123 => ?_) | refine w_iiU rfl (fun x123 tx123 => ?_)
                      refine w_aload rfl rfl ?_
                      refine w_const rfl ?_
                      refine w_iload rfl rfl ?_
                      refine w_iload rfl rfl ?_
                      refine w_invV (rest := [.inl x123, .inr (.inr (some 20))]) rfl rfl rfl rfl rfl (Nat.le_of_ble_eq_true rfl) rfl (by omega) (s_mouthFlow (K := K) a171 b  1260 r s hR171 (by omega) (by omega) (by omega) (hA.same (fun r9 _ => by have f9 := (hF171 : FR [0, 18, 19, 20] a a171) 15 (by decide); rw [f9]; first | done | rfl))) (fun v124 h9 hq125 => ?_)
                      obtain ⟨rfl, x126, rfl, px126⟩ := hq125
                      show f_wp _ (211, [some (.inr (.inr (some 0))), some (.inl dg), some (.inl mn), some (.inl bt), some (.inl r), some (.inl x24), some (.inl s)], [.inl x126, .inl x123, .inr (.inr (some 20))], mH a171 b) _
                      first | refine w_iadd rfl (by omega) (fun x127 tx127 => ?_) | refine w_iiU rfl (fun x127 tx127 => ?_)
                      refine w_dup2 rfl ⟨rfl, rfl⟩ ?_
                      refine m_iald rfl rfl (by omega) (fun x128 ex128 => ?_)
                      refine w_const rfl ?_
                      first | refine w_iadd rfl (by omega) (fun x129 tx129 => ?_) | refine w_iiU rfl (fun x129 tx129 => ?_)
                      refine m_iast rfl rfl (by omega) (fun a130 ea130 => ?_)
                      have ha130 : RM K a130 := RM.up hR171 ea130 ⟨ti_lo _, ti_hi _⟩
                      have ua130_27 : (a130 0 27).toInt = (a171 0 27).toInt := by rw [ea130, mU_cell (by decide)]
                      have ua130_28 : (a130 0 28).toInt = (a171 0 28).toInt := by rw [ea130, mU_cell (by decide)]
                      refine w_iinc (lo' := fun z9 => [some (.inr (.inr (some 0))), some (.inl dg), some (.inl mn), some (.inl bt), some (.inl r), some (.inl x24), some (.inl z9)]) rfl rfl (fun _ => rfl) (by omega) (fun x131 tx131 => ?_)
                      refine w_goto rfl ?_
                      exact ih171 (4 - x131.toInt).toNat (by omega) x131 a130 rfl ha130 (FR.up (hF171) (by decide) ea130) (by omega)
                    · skip
                      refine w_iinc (lo' := fun z9 => [some (.inr (.inr (some 0))), some (.inl dg), some (.inl mn), some (.inl bt), some (.inl z9), some (.inl x24), some (.inl s)]) rfl rfl (fun _ => rfl) (by omega) (fun x132 tx132 => ?_)
                      refine w_goto rfl ?_
                      exact ih92 (6 - x132.toInt).toNat (by omega) dg mn bt x132 a171 (some (.inl x24)) (some (.inl s)) rfl hR171 (hF171) (by omega)
              exact loop171 _ 0 a117 rfl ha117 (FR.up (FR.up (hF92) (by decide) ea98) (by decide) ea117) (by omega)
  refine w_aload rfl rfl ?_
  refine w_getI (v := .inl (a 0 27)) rfl rfl rfl rfl rfl ?_
  refine w_if_ne rfl (fun c133 => ?_) (fun c133 => ?_)
  · skip
    refine w_aload rfl rfl ?_
    refine w_invV (rest := []) rfl rfl rfl rfl rfl (Nat.le_of_ble_eq_true rfl) rfl (by omega) (s_isServedAlways (K := K) a b   hR (hA.same (fun r9 _ => by have f9 := (FR.rf : FR [0, 18, 19, 20] a a) 15 (by decide); rw [f9]; first | done | rfl))) (fun v134 h9 hq135 => ?_)
    obtain ⟨rfl, x136, rfl, px136⟩ := hq135
    show f_wp _ (11, [some (.inr (.inr (some 0))), none, none, none, none, none, none], [.inl x136], mH a b) _
    refine w_if_ne rfl (fun c137 => ?_) (fun c137 => ?_)
    · skip
      refine w_goto rfl ?_
      exact w_ret rfl ⟨a, rfl, hR, ⟨FR.rf, trivial⟩, rfl⟩
    · skip
      refine w_aload rfl rfl ?_
      refine w_getI (v := .inl (a 0 27)) rfl rfl rfl rfl rfl ?_
      refine w_if_ne rfl (fun c138 => ?_) (fun c138 => ?_)
      · skip
        refine w_aload rfl rfl ?_
        refine w_const rfl ?_
        refine w_invV (rest := []) rfl rfl rfl rfl rfl (Nat.le_of_ble_eq_true rfl) rfl (by omega) (s_digsIn (K := K) a b  1260 hR (by omega)) (fun v139 h9 hq140 => ?_)
        obtain ⟨rfl, x141, rfl, px141⟩ := hq140
        show f_wp _ (39, [some (.inr (.inr (some 0))), none, none, none, none, none, none], [.inl x141], mH a b) _
        refine w_goto rfl ?_
        refine w_istore (lo' := [some (.inr (.inr (some 0))), some (.inl x141), none, none, none, none, none]) rfl rfl ?_
        refine w_aload rfl rfl ?_
        refine w_const rfl ?_
        refine w_invV (rest := []) rfl rfl rfl rfl rfl (Nat.le_of_ble_eq_true rfl) rfl (by omega) (s_weddings (K := K) a b  1260 hR (by omega)) (fun v142 h9 hq143 => ?_)
        obtain ⟨rfl, x144, rfl, px144⟩ := hq143
        show f_wp _ (51, [some (.inr (.inr (some 0))), some (.inl x141), none, none, none, none, none], [.inl x144], mH a b) _
        refine w_istore (lo' := [some (.inr (.inr (some 0))), some (.inl x141), some (.inl x144), none, none, none, none]) rfl rfl ?_
        refine w_aload rfl rfl ?_
        refine w_getI (v := .inl (a 0 28)) rfl rfl rfl rfl rfl ?_
        refine w_if_eq rfl (fun c145 => ?_) (fun c145 => ?_)
        · skip
          refine w_const rfl ?_
          refine w_goto rfl ?_
          refine w_istore (lo' := [some (.inr (.inr (some 0))), some (.inl x141), some (.inl x144), some (.inl 1), none, none, none]) rfl rfl ?_
          refine w_const rfl ?_
          refine w_istore (lo' := [some (.inr (.inr (some 0))), some (.inl x141), some (.inl x144), some (.inl 1), some (.inl 0), none, none]) rfl rfl ?_
          exact loop92 _ x141 x144 1 0 a none none rfl hR (FR.rf) (by omega)
        · skip
          refine w_iload rfl rfl ?_
          refine w_aload rfl rfl ?_
          refine w_getI (v := .inl (a 0 29)) rfl rfl rfl rfl rfl ?_
          refine w_ic_lt rfl (fun c146 => ?_) (fun c146 => ?_)
          · skip
            refine w_const rfl ?_
            refine w_goto rfl ?_
            refine w_istore (lo' := [some (.inr (.inr (some 0))), some (.inl x141), some (.inl x144), some (.inl 1), none, none, none]) rfl rfl ?_
            refine w_const rfl ?_
            refine w_istore (lo' := [some (.inr (.inr (some 0))), some (.inl x141), some (.inl x144), some (.inl 1), some (.inl 0), none, none]) rfl rfl ?_
            exact loop92 _ x141 x144 1 0 a none none rfl hR (FR.rf) (by omega)
          · skip
            refine w_iload rfl rfl ?_
            refine w_aload rfl rfl ?_
            refine w_getI (v := .inl (a 0 29)) rfl rfl rfl rfl rfl ?_
            refine w_ic_ne rfl (fun c147 => ?_) (fun c147 => ?_)
            · skip
              refine w_iload rfl rfl ?_
              refine w_aload rfl rfl ?_
              refine w_getI (v := .inl (a 0 30)) rfl rfl rfl rfl rfl ?_
              refine w_ic_ge rfl (fun c148 => ?_) (fun c148 => ?_)
              · skip
                refine w_const rfl ?_
                refine w_istore (lo' := [some (.inr (.inr (some 0))), some (.inl x141), some (.inl x144), some (.inl 0), none, none, none]) rfl rfl ?_
                refine w_const rfl ?_
                refine w_istore (lo' := [some (.inr (.inr (some 0))), some (.inl x141), some (.inl x144), some (.inl 0), some (.inl 0), none, none]) rfl rfl ?_
                exact loop92 _ x141 x144 0 0 a none none rfl hR (FR.rf) (by omega)
              · skip
                refine w_const rfl ?_
                refine w_goto rfl ?_
                refine w_istore (lo' := [some (.inr (.inr (some 0))), some (.inl x141), some (.inl x144), some (.inl 1), none, none, none]) rfl rfl ?_
                refine w_const rfl ?_
                refine w_istore (lo' := [some (.inr (.inr (some 0))), some (.inl x141), some (.inl x144), some (.inl 1), some (.inl 0), none, none]) rfl rfl ?_
                exact loop92 _ x141 x144 1 0 a none none rfl hR (FR.rf) (by omega)
            · skip
              refine w_const rfl ?_
              refine w_istore (lo' := [some (.inr (.inr (some 0))), some (.inl x141), some (.inl x144), some (.inl 0), none, none, none]) rfl rfl ?_
              refine w_const rfl ?_
              refine w_istore (lo' := [some (.inr (.inr (some 0))), some (.inl x141), some (.inl x144), some (.inl 0), some (.inl 0), none, none]) rfl rfl ?_
              exact loop92 _ x141 x144 0 0 a none none rfl hR (FR.rf) (by omega)
      · skip
        refine w_const rfl ?_
        refine w_istore (lo' := [some (.inr (.inr (some 0))), some (.inl 0), none, none, none, none, none]) rfl rfl ?_
        refine w_aload rfl rfl ?_
        refine w_const rfl ?_
        refine w_invV (rest := []) rfl rfl rfl rfl rfl (Nat.le_of_ble_eq_true rfl) rfl (by omega) (s_weddings (K := K) a b  1260 hR (by omega)) (fun v149 h9 hq150 => ?_)
        obtain ⟨rfl, x151, rfl, px151⟩ := hq150
        show f_wp _ (51, [some (.inr (.inr (some 0))), some (.inl 0), none, none, none, none, none], [.inl x151], mH a b) _
        refine w_istore (lo' := [some (.inr (.inr (some 0))), some (.inl 0), some (.inl x151), none, none, none, none]) rfl rfl ?_
        refine w_aload rfl rfl ?_
        refine w_getI (v := .inl (a 0 28)) rfl rfl rfl rfl rfl ?_
        refine w_if_eq rfl (fun c152 => ?_) (fun c152 => ?_)
        · skip
          refine w_const rfl ?_
          refine w_goto rfl ?_
          refine w_istore (lo' := [some (.inr (.inr (some 0))), some (.inl 0), some (.inl x151), some (.inl 1), none, none, none]) rfl rfl ?_
          refine w_const rfl ?_
          refine w_istore (lo' := [some (.inr (.inr (some 0))), some (.inl 0), some (.inl x151), some (.inl 1), some (.inl 0), none, none]) rfl rfl ?_
          exact loop92 _ 0 x151 1 0 a none none rfl hR (FR.rf) (by omega)
        · skip
          refine w_iload rfl rfl ?_
          refine w_aload rfl rfl ?_
          refine w_getI (v := .inl (a 0 29)) rfl rfl rfl rfl rfl ?_
          refine w_ic_lt rfl (fun c153 => ?_) (fun c153 => ?_)
          · skip
            refine w_const rfl ?_
            refine w_goto rfl ?_
            refine w_istore (lo' := [some (.inr (.inr (some 0))), some (.inl 0), some (.inl x151), some (.inl 1), none, none, none]) rfl rfl ?_
            refine w_const rfl ?_
            refine w_istore (lo' := [some (.inr (.inr (some 0))), some (.inl 0), some (.inl x151), some (.inl 1), some (.inl 0), none, none]) rfl rfl ?_
            exact loop92 _ 0 x151 1 0 a none none rfl hR (FR.rf) (by omega)
          · skip
            refine w_iload rfl rfl ?_
            refine w_aload rfl rfl ?_
            refine w_getI (v := .inl (a 0 29)) rfl rfl rfl rfl rfl ?_
            refine w_ic_ne rfl (fun c154 => ?_) (fun c154 => ?_)
            · skip
              refine w_iload rfl rfl ?_
              refine w_aload rfl rfl ?_
              refine w_getI (v := .inl (a 0 30)) rfl rfl rfl rfl rfl ?_
              refine w_ic_ge rfl (fun c155 => ?_) (fun c155 => ?_)
              · skip
                refine w_const rfl ?_
                refine w_istore (lo' := [some (.inr (.inr (some 0))), some (.inl 0), some (.inl x151), some (.inl 0), none, none, none]) rfl rfl ?_
                refine w_const rfl ?_
                refine w_istore (lo' := [some (.inr (.inr (some 0))), some (.inl 0), some (.inl x151), some (.inl 0), some (.inl 0), none, none]) rfl rfl ?_
                exact loop92 _ 0 x151 0 0 a none none rfl hR (FR.rf) (by omega)
              · skip
                refine w_const rfl ?_
                refine w_goto rfl ?_
                refine w_istore (lo' := [some (.inr (.inr (some 0))), some (.inl 0), some (.inl x151), some (.inl 1), none, none, none]) rfl rfl ?_
                refine w_const rfl ?_
                refine w_istore (lo' := [some (.inr (.inr (some 0))), some (.inl 0), some (.inl x151), some (.inl 1), some (.inl 0), none, none]) rfl rfl ?_
                exact loop92 _ 0 x151 1 0 a none none rfl hR (FR.rf) (by omega)
            · skip
              refine w_const rfl ?_
              refine w_istore (lo' := [some (.inr (.inr (some 0))), some (.inl 0), some (.inl x151), some (.inl 0), none, none, none]) rfl rfl ?_
              refine w_const rfl ?_
              refine w_istore (lo' := [some (.inr (.inr (some 0))), some (.inl 0), some (.inl x151), some (.inl 0), some (.inl 0), none, none]) rfl rfl ?_
              exact loop92 _ 0 x151 0 0 a none none rfl hR (FR.rf) (by omega)
  · skip
    refine w_aload rfl rfl ?_
    refine w_invV (rest := []) rfl rfl rfl rfl rfl (Nat.le_of_ble_eq_true rfl) rfl (by omega) (s_fitsTold (K := K) a b   hR (hA.same (fun r9 _ => by have f9 := (FR.rf : FR [0, 18, 19, 20] a a) 15 (by decide); rw [f9]; first | done | rfl))) (fun v156 h9 hq157 => ?_)
    obtain ⟨rfl, x158, rfl, px158⟩ := hq157
    show f_wp _ (21, [some (.inr (.inr (some 0))), none, none, none, none, none, none], [.inl x158], mH a b) _
    refine w_if_ne rfl (fun c159 => ?_) (fun c159 => ?_)
    · skip
      exact w_ret rfl ⟨a, rfl, hR, ⟨FR.rf, trivial⟩, rfl⟩
    · skip
      refine w_aload rfl rfl ?_
      refine w_getI (v := .inl (a 0 27)) rfl rfl rfl rfl rfl ?_
      refine w_if_ne rfl (fun c160 => ?_) (fun c160 => ?_)
      · skip
        refine w_aload rfl rfl ?_
        refine w_const rfl ?_
        refine w_invV (rest := []) rfl rfl rfl rfl rfl (Nat.le_of_ble_eq_true rfl) rfl (by omega) (s_digsIn (K := K) a b  1260 hR (by omega)) (fun v161 h9 hq162 => ?_)
        obtain ⟨rfl, x163, rfl, px163⟩ := hq162
        show f_wp _ (39, [some (.inr (.inr (some 0))), none, none, none, none, none, none], [.inl x163], mH a b) _
        refine w_goto rfl ?_
        refine w_istore (lo' := [some (.inr (.inr (some 0))), some (.inl x163), none, none, none, none, none]) rfl rfl ?_
        refine w_aload rfl rfl ?_
        refine w_const rfl ?_
        refine w_invV (rest := []) rfl rfl rfl rfl rfl (Nat.le_of_ble_eq_true rfl) rfl (by omega) (s_weddings (K := K) a b  1260 hR (by omega)) (fun v164 h9 hq165 => ?_)
        obtain ⟨rfl, x166, rfl, px166⟩ := hq165
        show f_wp _ (51, [some (.inr (.inr (some 0))), some (.inl x163), none, none, none, none, none], [.inl x166], mH a b) _
        refine w_istore (lo' := [some (.inr (.inr (some 0))), some (.inl x163), some (.inl x166), none, none, none, none]) rfl rfl ?_
        refine w_aload rfl rfl ?_
        refine w_getI (v := .inl (a 0 28)) rfl rfl rfl rfl rfl ?_
        refine w_if_eq rfl (fun c167 => ?_) (fun c167 => ?_)
        · skip
          refine w_const rfl ?_
          refine w_goto rfl ?_
          refine w_istore (lo' := [some (.inr (.inr (some 0))), some (.inl x163), some (.inl x166), some (.inl 1), none, none, none]) rfl rfl ?_
          refine w_const rfl ?_
          refine w_istore (lo' := [some (.inr (.inr (some 0))), some (.inl x163), some (.inl x166), some (.inl 1), some (.inl 0), none, none]) rfl rfl ?_
          exact loop92 _ x163 x166 1 0 a none none rfl hR (FR.rf) (by omega)
        · skip
          refine w_iload rfl rfl ?_
          refine w_aload rfl rfl ?_
          refine w_getI (v := .inl (a 0 29)) rfl rfl rfl rfl rfl ?_
          refine w_ic_lt rfl (fun c168 => ?_) (fun c168 => ?_)
          · skip
            refine w_const rfl ?_
            refine w_goto rfl ?_
            refine w_istore (lo' := [some (.inr (.inr (some 0))), some (.inl x163), some (.inl x166), some (.inl 1), none, none, none]) rfl rfl ?_
            refine w_const rfl ?_
            refine w_istore (lo' := [some (.inr (.inr (some 0))), some (.inl x163), some (.inl x166), some (.inl 1), some (.inl 0), none, none]) rfl rfl ?_
            exact loop92 _ x163 x166 1 0 a none none rfl hR (FR.rf) (by omega)
          · skip
            refine w_iload rfl rfl ?_
            refine w_aload rfl rfl ?_
            refine w_getI (v := .inl (a 0 29)) rfl rfl rfl rfl rfl ?_
            refine w_ic_ne rfl (fun c169 => ?_) (fun c169 => ?_)
            · skip
              refine w_iload rfl rfl ?_
              refine w_aload rfl rfl ?_
              refine w_getI (v := .inl (a 0 30)) rfl rfl rfl rfl rfl ?_
              refine w_ic_ge rfl (fun c170 => ?_) (fun c170 => ?_)
              · skip
                refine w_const rfl ?_
                refine w_istore (lo' := [some (.inr (.inr (some 0))), some (.inl x163), some (.inl x166), some (.inl 0), none, none, none]) rfl rfl ?_
                refine w_const rfl ?_
                refine w_istore (lo' := [some (.inr (.inr (some 0))), some (.inl x163), some (.inl x166), some (.inl 0), some (.inl 0), none, none]) rfl rfl ?_
                exact loop92 _ x163 x166 0 0 a none none rfl hR (FR.rf) (by omega)
              · skip
                refine w_const rfl ?_
                refine w_goto rfl ?_
                refine w_istore (lo' := [some (.inr (.inr (some 0))), some (.inl x163), some (.inl x166), some (.inl 1), none, none, none]) rfl rfl ?_
                refine w_const rfl ?_
                refine w_istore (lo' := [some (.inr (.inr (some 0))), some (.inl x163), some (.inl x166), some (.inl 1), some (.inl 0), none, none]) rfl rfl ?_
                exact loop92 _ x163 x166 1 0 a none none rfl hR (FR.rf) (by omega)
            · skip
              refine w_const rfl ?_
              refine w_istore (lo' := [some (.inr (.inr (some 0))), some (.inl x163), some (.inl x166), some (.inl 0), none, none, none]) rfl rfl ?_
              refine w_const rfl ?_
              refine w_istore (lo' := [some (.inr (.inr (some 0))), some (.inl x163), some (.inl x166), some (.inl 0), some (.inl 0), none, none]) rfl rfl ?_
              exact loop92 _ x163 x166 0 0 a none none rfl hR (FR.rf) (by omega)
      · skip
        refine w_const rfl ?_
        refine w_istore (lo' := [some (.inr (.inr (some 0))), some (.inl 0), none, none, none, none, none]) rfl rfl ?_
        refine w_aload rfl rfl ?_
        refine w_const rfl ?_
        refine w_invV (rest := []) rfl rfl rfl rfl rfl (Nat.le_of_ble_eq_true rfl) rfl (by omega) (s_weddings (K := K) a b  1260 hR (by omega)) (fun v171 h9 hq172 => ?_)
        obtain ⟨rfl, x173, rfl, px173⟩ := hq172
        show f_wp _ (51, [some (.inr (.inr (some 0))), some (.inl 0), none, none, none, none, none], [.inl x173], mH a b) _
        refine w_istore (lo' := [some (.inr (.inr (some 0))), some (.inl 0), some (.inl x173), none, none, none, none]) rfl rfl ?_
        refine w_aload rfl rfl ?_
        refine w_getI (v := .inl (a 0 28)) rfl rfl rfl rfl rfl ?_
        refine w_if_eq rfl (fun c174 => ?_) (fun c174 => ?_)
        · skip
          refine w_const rfl ?_
          refine w_goto rfl ?_
          refine w_istore (lo' := [some (.inr (.inr (some 0))), some (.inl 0), some (.inl x173), some (.inl 1), none, none, none]) rfl rfl ?_
          refine w_const rfl ?_
          refine w_istore (lo' := [some (.inr (.inr (some 0))), some (.inl 0), some (.inl x173), some (.inl 1), some (.inl 0), none, none]) rfl rfl ?_
          exact loop92 _ 0 x173 1 0 a none none rfl hR (FR.rf) (by omega)
        · skip
          refine w_iload rfl rfl ?_
          refine w_aload rfl rfl ?_
          refine w_getI (v := .inl (a 0 29)) rfl rfl rfl rfl rfl ?_
          refine w_ic_lt rfl (fun c175 => ?_) (fun c175 => ?_)
          · skip
            refine w_const rfl ?_
            refine w_goto rfl ?_
            refine w_istore (lo' := [some (.inr (.inr (some 0))), some (.inl 0), some (.inl x173), some (.inl 1), none, none, none]) rfl rfl ?_
            refine w_const rfl ?_
            refine w_istore (lo' := [some (.inr (.inr (some 0))), some (.inl 0), some (.inl x173), some (.inl 1), some (.inl 0), none, none]) rfl rfl ?_
            exact loop92 _ 0 x173 1 0 a none none rfl hR (FR.rf) (by omega)
          · skip
            refine w_iload rfl rfl ?_
            refine w_aload rfl rfl ?_
            refine w_getI (v := .inl (a 0 29)) rfl rfl rfl rfl rfl ?_
            refine w_ic_ne rfl (fun c176 => ?_) (fun c176 => ?_)
            · skip
              refine w_iload rfl rfl ?_
              refine w_aload rfl rfl ?_
              refine w_getI (v := .inl (a 0 30)) rfl rfl rfl rfl rfl ?_
              refine w_ic_ge rfl (fun c177 => ?_) (fun c177 => ?_)
              · skip
                refine w_const rfl ?_
                refine w_istore (lo' := [some (.inr (.inr (some 0))), some (.inl 0), some (.inl x173), some (.inl 0), none, none, none]) rfl rfl ?_
                refine w_const rfl ?_
                refine w_istore (lo' := [some (.inr (.inr (some 0))), some (.inl 0), some (.inl x173), some (.inl 0), some (.inl 0), none, none]) rfl rfl ?_
                exact loop92 _ 0 x173 0 0 a none none rfl hR (FR.rf) (by omega)
              · skip
                refine w_const rfl ?_
                refine w_goto rfl ?_
                refine w_istore (lo' := [some (.inr (.inr (some 0))), some (.inl 0), some (.inl x173), some (.inl 1), none, none, none]) rfl rfl ?_
                refine w_const rfl ?_
                refine w_istore (lo' := [some (.inr (.inr (some 0))), some (.inl 0), some (.inl x173), some (.inl 1), some (.inl 0), none, none]) rfl rfl ?_
                exact loop92 _ 0 x173 1 0 a none none rfl hR (FR.rf) (by omega)
            · skip
              refine w_const rfl ?_
              refine w_istore (lo' := [some (.inr (.inr (some 0))), some (.inl 0), some (.inl x173), some (.inl 0), none, none, none]) rfl rfl ?_
              refine w_const rfl ?_
              refine w_istore (lo' := [some (.inr (.inr (some 0))), some (.inl 0), some (.inl x173), some (.inl 0), some (.inl 0), none, none]) rfl rfl ?_
              exact loop92 _ 0 x173 0 0 a none none rfl hR (FR.rf) (by omega)
