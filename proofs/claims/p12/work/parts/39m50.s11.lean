set_option maxRecDepth 4000 in
theorem s_goesThrough_n {K : Nat} : ∀ (n : Nat) (a : Nat → Nat → Int32) (b : Nat → Nat → Int64) (r : Int32), RM K a → AC a 1260 → 0 ≤ r.toInt ∧ r.toInt ≤ (a 6 0).toInt → (6 - r.toInt).toNat = n → f_call mtM (n + 15) 88 [.inr (.inr (some 0)), .inl r] (mH a b) (fun v9 h' => ∃ (a' : Nat → Nat → Int32), h' = mH a' b ∧ RM K a' ∧ (FR [0, 15, 17, 18, 19, 20] a a' ∧ (∀ m9, m9 < 22 → ACm m9 a → ACm m9 a') ∧ (∀ j, a' 15 j = a 15 j)) ∧ v9 = none) := by
  intro n
  induction n using Nat.strongRecOn with
  | _ n ih =>
  intro a b r hR hA hr hn
  refine f_call_of (d0 := n + 14) rfl (Nat.le_of_ble_eq_true rfl) (fun d hd => ?_)
  show f_wp _ (0, [some (.inr (.inr (some 0))), some (.inl r), none], [], mH a b) _
  have lm1 : (-1 : Int32).toInt = -1 := rfl
  have l0 : (0 : Int32).toInt = 0 := rfl
  have l1 : (1 : Int32).toInt = 1 := rfl
  have l1260 : (1260 : Int32).toInt = 1260 := rfl
  have l1261 : (1261 : Int32).toInt = 1261 := rfl
  refine w_iload rfl rfl ?_
  refine w_aload rfl rfl ?_
  refine w_invV (rest := [.inl r]) rfl rfl rfl rfl rfl (Nat.le_of_ble_eq_true rfl) rfl (by omega) (s_rivers (K := K) a b   hR ) (fun v1 h9 hq2 => ?_)
  obtain ⟨rfl, x3, rfl, px3⟩ := hq2
  show f_wp _ (5, [some (.inr (.inr (some 0))), some (.inl r), none], [.inl x3, .inl r], mH a b) _
  have z0 := congrArg Int32.toInt px3.1
  refine w_ic_ne rfl (fun c4 => ?_) (fun c4 => ?_)
  · skip
    refine w_aload rfl rfl ?_
    refine w_invV (rest := []) rfl rfl rfl rfl rfl (Nat.le_of_ble_eq_true rfl) rfl (by omega) (s_looks (K := K) a b   hR (hA)) (fun v5 h9 hq6 => ?_)
    obtain ⟨a7, rfl, ha7, fa7, rfl⟩ := hq6
    show f_wp _ (12, [some (.inr (.inr (some 0))), some (.inl r), none], [], mH a7 b) _
    exact w_ret rfl ⟨a7, rfl, ha7, ⟨FR.tr (FR.rf) (FR.sub fa7.1 (by decide)), fun m9 hm9 h7 => AC.same h7 (fun r9 _ => by rw [fa7.1 15 (by decide)]), fun j => by rw [fa7.1 15 (by decide)]⟩, rfl⟩
  · skip
    refine w_aload rfl rfl ?_
    refine w_iload rfl rfl ?_
    refine w_const rfl ?_
    first | refine w_iadd rfl (by omega) (fun x8 tx8 => ?_) | refine w_iiU rfl (fun x8 tx8 => ?_)
    refine w_invV (rest := []) rfl rfl rfl rfl rfl (Nat.le_of_ble_eq_true rfl) rfl (by omega) (ih (6 - x8.toInt).toNat (by omega) a b x8 hR hA (by omega) rfl) (fun v9 h9 hq10 => ?_)
    obtain ⟨a11, rfl, ha11, fa11, rfl⟩ := hq10
    show f_wp _ (20, [some (.inr (.inr (some 0))), some (.inl r), none], [], mH a11 b) _
    refine w_const rfl ?_
    refine w_istore (lo' := [some (.inr (.inr (some 0))), some (.inl r), some (.inl 0)]) rfl rfl ?_
    have loop22 : ∀ (ms9 : Nat) (h : Int32) (a22 : Nat → Nat → Int32) , (6 - h.toInt).toNat = ms9 → RM K a22 → FR [0, 15, 17, 18, 19, 20] a a22 → (0 ≤ h.toInt ∧ h.toInt ≤ 6) → (∀ j, a22 15 j = a 15 j) → f_wp (f_code (t_X13_goesThrough (f_ev mtM d))) (22, [some (.inr (.inr (some 0))), some (.inl r), some (.inl h)], [], mH a22 b) (fun v9 h' => ∃ (a' : Nat → Nat → Int32), h' = mH a' b ∧ RM K a' ∧ (FR [0, 15, 17, 18, 19, 20] a a' ∧ (∀ m9, m9 < 22 → ACm m9 a → ACm m9 a') ∧ (∀ j, a' 15 j = a 15 j)) ∧ v9 = none) := by
      intro ms9
      induction ms9 using Nat.strongRecOn with
      | _ ms22 ih22 =>
        intro h a22  hm22 hR22 hF22 hh hS
        refine w_iload rfl rfl ?_
        refine w_aload rfl rfl ?_
        refine w_invV (rest := [.inl h]) rfl rfl rfl rfl rfl (Nat.le_of_ble_eq_true rfl) rfl (by omega) (s_rivers (K := K) a22 b   hR22 ) (fun v12 h9 hq13 => ?_)
        obtain ⟨rfl, x14, rfl, px14⟩ := hq13
        show f_wp _ (27, [some (.inr (.inr (some 0))), some (.inl r), some (.inl h)], [.inl x14, .inl h], mH a22 b) _
        refine w_ic_ge rfl (fun c15 => ?_) (fun c15 => ?_)
        · skip
          exact w_ret rfl ⟨a22, rfl, hR22, ⟨hF22, fun m9 hm9 h7 => AC.same h7 (fun r9 _ => by rw [hS]), hS⟩, rfl⟩
        · skip
          refine w_aload rfl rfl ?_
          refine w_const rfl ?_
          refine w_iload rfl rfl ?_
          refine w_iload rfl rfl ?_
          refine w_invV (rest := []) rfl rfl rfl rfl rfl (Nat.le_of_ble_eq_true rfl) rfl (by omega) (s_mayWed (K := K) a22 b  1260 r h hR22 (by omega) (by omega) (by omega) (hA.same (fun r9 _ => by rw [hS]; first | done | rfl))) (fun v16 h9 hq17 => ?_)
          obtain ⟨a18, rfl, ha18, fa18, x19, rfl, px19⟩ := hq17
          show f_wp _ (39, [some (.inr (.inr (some 0))), some (.inl r), some (.inl h)], [.inl x19], mH a18 b) _
          have pw := px19
          refine w_if_eq rfl (fun c20 => ?_) (fun c20 => ?_)
          · skip
            refine w_iinc (lo' := fun z9 => [some (.inr (.inr (some 0))), some (.inl r), some (.inl z9)]) rfl rfl (fun _ => rfl) (by omega) (fun x21 tx21 => ?_)
            refine w_goto rfl ?_
            exact ih22 (6 - x21.toInt).toNat (by omega) x21 a18 rfl ha18 (FR.tr (hF22) (FR.sub fa18.1 (by decide))) (by omega) (fun j => by rw [fa18.1 15 (by decide)]; exact hS j)
          · skip
            obtain ⟨-, m8, -, m7⟩ := pw.resolve_right (by omega)
            have m6 := RM.wed hR22 (j := 1260 + 1 + r.toInt.toNat) (by omega)
            have m8 : (a22 15 (1260 + 1 + r.toInt.toNat)).toInt < 0 := m8
            have m9 : (a22 15 (1260 + 1 + r.toInt.toNat)).toInt = -1 := by omega
            refine w_aload rfl rfl ?_
            refine w_getR (v := .inr (.inr (some 15))) rfl rfl rfl rfl rfl ?_
            refine w_const rfl ?_
            refine w_iload rfl rfl ?_
            first | refine w_iadd rfl (by omega) (fun x22 tx22 => ?_) | refine w_iiU rfl (fun x22 tx22 => ?_)
            refine w_iload rfl rfl ?_
            refine m_iast rfl rfl (by omega) (fun a23 ea23 => ?_)
            have ha23 : RM K a23 := RM.up ha18 ea23 (st_wed (by omega) (by omega))
            have A9 : AC a23 1260 := AC.wed (a := a22) (w := r.toInt.toNat) (h := h.toInt.toNat) (hA.same (fun r9 _ => by rw [hS])) (by omega) (by omega) (fun x9 _ => RM.wed hR22 (by omega)) m7 (by rw [show 1260 + 1 + r.toInt.toNat = (x22).toInt.toNat from by omega, ea23, mU_same]; omega) (fun x9 h8 h9 => by rw [ea23, mU_slot (by omega), fa18.1 15 (by decide)])
            have z9 : (a23 6 0).toInt = (a 6 0).toInt := by have f9 := ((FR.up (FR.tr (hF22) (FR.sub fa18.1 (by decide))) (by decide) ea23) : FR [0, 15, 17, 18, 19, 20] a a23) 6 (by decide); rw [f9]
            refine w_aload rfl rfl ?_
            refine w_iload rfl rfl ?_
            refine w_const rfl ?_
            first | refine w_iadd rfl (by omega) (fun x24 tx24 => ?_) | refine w_iiU rfl (fun x24 tx24 => ?_)
            refine w_invV (rest := []) rfl rfl rfl rfl rfl (Nat.le_of_ble_eq_true rfl) rfl (by omega) (ih (6 - x24.toInt).toNat (by omega) a23 b x24 ha23 A9 (by omega) rfl) (fun v25 h9 hq26 => ?_)
            obtain ⟨a27, rfl, ha27, fa27, rfl⟩ := hq26
            show f_wp _ (60, [some (.inr (.inr (some 0))), some (.inl r), some (.inl h)], [], mH a27 b) _
            refine w_aload rfl rfl ?_
            refine w_getR (v := .inr (.inr (some 15))) rfl rfl rfl rfl rfl ?_
            refine w_const rfl ?_
            refine w_iload rfl rfl ?_
            first | refine w_iadd rfl (by omega) (fun x28 tx28 => ?_) | refine w_iiU rfl (fun x28 tx28 => ?_)
            refine w_const rfl ?_
            refine m_iast rfl rfl (by omega) (fun a29 ea29 => ?_)
            have ha29 : RM K a29 := RM.up ha27 ea29 (st_wed (by omega) (by omega))
            refine w_iinc (lo' := fun z9 => [some (.inr (.inr (some 0))), some (.inl r), some (.inl z9)]) rfl rfl (fun _ => rfl) (by omega) (fun x30 tx30 => ?_)
            refine w_goto rfl ?_
            exact ih22 (6 - x30.toInt).toNat (by omega) x30 a29 rfl ha29 (FR.up (FR.tr (FR.up (FR.tr (hF22) (FR.sub fa18.1 (by decide))) (by decide) ea23) (FR.sub fa27.1 (by decide))) (by decide) ea29) (by omega) (fun j => by rw [ea29, mU_get]; split; (rename_i h5; rw [← hS j]; apply ti_eq; rw [h5.2, show (x28).toInt.toNat = 1260 + 1 + r.toInt.toNat from by omega, m9]; rfl); (rename_i h5; rw [fa27.2.2 j, ea23, mU_slot (by omega), fa18.1 15 (by decide)]; exact hS j))
    exact loop22 _ 0 a11 rfl ha11 (FR.tr (FR.rf) (FR.sub fa11.1 (by decide))) (by omega) (fun j => fa11.2.2 j)
theorem s_goesThrough {K : Nat} (a : Nat → Nat → Int32) (b : Nat → Nat → Int64) (r : Int32) (hR : RM K a) (hA : AC a 1260) (hr : 0 ≤ r.toInt ∧ r.toInt ≤ (a 6 0).toInt) : f_call mtM 21 88 [.inr (.inr (some 0)), .inl r] (mH a b) (fun v9 h' => ∃ (a' : Nat → Nat → Int32), h' = mH a' b ∧ RM K a' ∧ (FR [0, 15, 17, 18, 19, 20] a a' ∧ (∀ m9, m9 < 22 → ACm m9 a → ACm m9 a') ∧ (∀ j, a' 15 j = a 15 j)) ∧ v9 = none) := by
  have h := s_goesThrough_n (K := K) _ a b r hR hA hr rfl
  exact fun d hd => h d (by omega)
