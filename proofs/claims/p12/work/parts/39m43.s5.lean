set_option maxRecDepth 4000 in
theorem s_mayWed {K : Nat} (a : Nat → Nat → Int32) (b : Nat → Nat → Int64) (q : Int32) (w : Int32) (h : Int32) (hR : RM K a) (hb : 0 ≤ q.toInt ∧ q.toInt ≤ 1260 ∧ q.toInt % 60 = 0) (hw : 0 ≤ w.toInt ∧ w.toInt < 6) (hh : 0 ≤ h.toInt ∧ h.toInt < 6) (hA : AC a q.toInt.toNat) : f_call mtM 3 67 [.inr (.inr (some 0)), .inl q, .inl w, .inl h] (mH a b) (fun v9 h' => ∃ (a' : Nat → Nat → Int32), h' = mH a' b ∧ RM K a' ∧ (FR [17] a a' ∧ True) ∧ ∃ x : Int32, v9 = some (.inl x) ∧ ((x.toInt = 1 ∧ (a 15 (q.toInt.toNat + 1 + w.toInt.toNat)).toInt < 0 ∧ w.toInt ≠ h.toInt ∧ (∀ k, itr a q.toInt.toNat k h.toInt.toNat ≠ some w.toInt.toNat)) ∨ x.toInt = 0)) := by
  refine f_call_of (d0 := 2) rfl (Nat.le_of_ble_eq_true rfl) (fun d hd => ?_)
  show f_wp _ (0, [some (.inr (.inr (some 0))), some (.inl q), some (.inl w), some (.inl h), none, none], [], mH a b) _
  have l0 : (0 : Int32).toInt = 0 := rfl
  have l1 : (1 : Int32).toInt = 1 := rfl
  have l2 : (2 : Int32).toInt = 2 := rfl
  have l3 : (3 : Int32).toInt = 3 := rfl
  obtain ⟨g, g6, gm⟩ := hA
  have loop83 : ∀ (ms9 : Nat) (may : Int32) (on : Int32) (a83 : Nat → Nat → Int32) , (if 0 ≤ on.toInt then 7 - (g on.toInt.toNat : Int) else 0).toNat = ms9 → RM K a83 → FR [17] a a83 → (may.toInt = 0 ∨ (may.toInt = 1 ∧ (a 15 (q.toInt.toNat + 1 + w.toInt.toNat)).toInt < 0 ∧ w.toInt ≠ h.toInt)) → (-1 ≤ on.toInt ∧ on.toInt ≤ 5) → (CH a q.toInt.toNat w.toInt.toNat h.toInt.toNat on.toInt may.toInt) → f_wp (f_code (t_X13_mayWed (f_ev mtM d))) (83, [some (.inr (.inr (some 0))), some (.inl q), some (.inl w), some (.inl h), some (.inl may), some (.inl on)], [], mH a83 b) (fun v9 h' => ∃ (a' : Nat → Nat → Int32), h' = mH a' b ∧ RM K a' ∧ (FR [17] a a' ∧ True) ∧ ∃ x : Int32, v9 = some (.inl x) ∧ ((x.toInt = 1 ∧ (a 15 (q.toInt.toNat + 1 + w.toInt.toNat)).toInt < 0 ∧ w.toInt ≠ h.toInt ∧ (∀ k, itr a q.toInt.toNat k h.toInt.toNat ≠ some w.toInt.toNat)) ∨ x.toInt = 0)) := by
    intro ms9
    induction ms9 using Nat.strongRecOn with
    | _ ms83 ih83 =>
      intro may on a83  hm83 hR83 hF83 hmay hon hch
      refine w_iload rfl rfl ?_
      refine w_if_lt rfl (fun c1 => ?_) (fun c1 => ?_)
      · skip
        refine w_iload rfl rfl ?_
        refine w_if_eq rfl (fun c2 => ?_) (fun c2 => ?_)
        · skip
          refine w_const rfl ?_
          exact wp_iret (z := true) rfl (fun _ => by first | exact Or.inl rfl | exact Or.inr rfl | (rcases (by omega : (0 : Int32).toInt = 0 ∨ (0 : Int32).toInt = 1) with h8 | h8; exact Or.inl (ti_eq h8); exact Or.inr (ti_eq h8))) ⟨a83, rfl, hR83, ⟨hF83, trivial⟩, ⟨_, rfl, by first | (right; omega) | (exfalso; omega) | (left; exact ⟨by omega, by omega, by omega, CH.done hch (by omega) (by omega)⟩)⟩⟩
        · skip
          refine w_aload rfl rfl ?_
          refine w_iload rfl rfl ?_
          refine w_invV (rest := []) rfl rfl rfl rfl rfl (Nat.le_of_ble_eq_true rfl) rfl (by omega) (s_kindOf (K := K) a83 b  h hR83 (by omega)) (fun v3 h9 hq4 => ?_)
          obtain ⟨rfl, x5, rfl, px5⟩ := hq4
          show f_wp _ (128, [some (.inr (.inr (some 0))), some (.inl q), some (.inl w), some (.inl h), some (.inl may), some (.inl on)], [.inl x5], mH a83 b) _
          refine w_const rfl ?_
          refine w_ic_ne rfl (fun c6 => ?_) (fun c6 => ?_)
          · skip
            refine w_aload rfl rfl ?_
            refine w_iload rfl rfl ?_
            refine w_iload rfl rfl ?_
            refine w_invV (rest := []) rfl rfl rfl rfl rfl (Nat.le_of_ble_eq_true rfl) rfl (by omega) (s_wivesOf (K := K) a83 b  q h hR83 (by omega)) (fun v7 h9 hq8 => ?_)
            obtain ⟨rfl, x9, rfl, px9⟩ := hq8
            show f_wp _ (138, [some (.inr (.inr (some 0))), some (.inl q), some (.inl w), some (.inl h), some (.inl may), some (.inl on)], [.inl x9], mH a83 b) _
            refine w_if_ne rfl (fun c10 => ?_) (fun c10 => ?_)
            · skip
              refine w_const rfl ?_
              refine w_goto rfl ?_
              exact wp_iret (z := true) rfl (fun _ => by first | exact Or.inl rfl | exact Or.inr rfl | (rcases (by omega : (1 : Int32).toInt = 0 ∨ (1 : Int32).toInt = 1) with h8 | h8; exact Or.inl (ti_eq h8); exact Or.inr (ti_eq h8))) ⟨a83, rfl, hR83, ⟨hF83, trivial⟩, ⟨_, rfl, by first | (right; omega) | (exfalso; omega) | (left; exact ⟨by omega, by omega, by omega, CH.done hch (by omega) (by omega)⟩)⟩⟩
            · skip
              refine w_const rfl ?_
              exact wp_iret (z := true) rfl (fun _ => by first | exact Or.inl rfl | exact Or.inr rfl | (rcases (by omega : (0 : Int32).toInt = 0 ∨ (0 : Int32).toInt = 1) with h8 | h8; exact Or.inl (ti_eq h8); exact Or.inr (ti_eq h8))) ⟨a83, rfl, hR83, ⟨hF83, trivial⟩, ⟨_, rfl, by first | (right; omega) | (exfalso; omega) | (left; exact ⟨by omega, by omega, by omega, CH.done hch (by omega) (by omega)⟩)⟩⟩
          · skip
            refine w_const rfl ?_
            refine w_goto rfl ?_
            exact wp_iret (z := true) rfl (fun _ => by first | exact Or.inl rfl | exact Or.inr rfl | (rcases (by omega : (1 : Int32).toInt = 0 ∨ (1 : Int32).toInt = 1) with h8 | h8; exact Or.inl (ti_eq h8); exact Or.inr (ti_eq h8))) ⟨a83, rfl, hR83, ⟨hF83, trivial⟩, ⟨_, rfl, by first | (right; omega) | (exfalso; omega) | (left; exact ⟨by omega, by omega, by omega, CH.done hch (by omega) (by omega)⟩)⟩⟩
      · skip
        refine w_iload rfl rfl ?_
        refine w_if_eq rfl (fun c11 => ?_) (fun c11 => ?_)
        · skip
          refine w_iload rfl rfl ?_
          refine w_if_eq rfl (fun c12 => ?_) (fun c12 => ?_)
          · skip
            refine w_const rfl ?_
            exact wp_iret (z := true) rfl (fun _ => by first | exact Or.inl rfl | exact Or.inr rfl | (rcases (by omega : (0 : Int32).toInt = 0 ∨ (0 : Int32).toInt = 1) with h8 | h8; exact Or.inl (ti_eq h8); exact Or.inr (ti_eq h8))) ⟨a83, rfl, hR83, ⟨hF83, trivial⟩, ⟨_, rfl, by first | (right; omega) | (exfalso; omega) | (left; exact ⟨by omega, by omega, by omega, CH.done hch (by omega) (by omega)⟩)⟩⟩
          · skip
            refine w_aload rfl rfl ?_
            refine w_iload rfl rfl ?_
            refine w_invV (rest := []) rfl rfl rfl rfl rfl (Nat.le_of_ble_eq_true rfl) rfl (by omega) (s_kindOf (K := K) a83 b  h hR83 (by omega)) (fun v13 h9 hq14 => ?_)
            obtain ⟨rfl, x15, rfl, px15⟩ := hq14
            show f_wp _ (128, [some (.inr (.inr (some 0))), some (.inl q), some (.inl w), some (.inl h), some (.inl may), some (.inl on)], [.inl x15], mH a83 b) _
            refine w_const rfl ?_
            refine w_ic_ne rfl (fun c16 => ?_) (fun c16 => ?_)
            · skip
              refine w_aload rfl rfl ?_
              refine w_iload rfl rfl ?_
              refine w_iload rfl rfl ?_
              refine w_invV (rest := []) rfl rfl rfl rfl rfl (Nat.le_of_ble_eq_true rfl) rfl (by omega) (s_wivesOf (K := K) a83 b  q h hR83 (by omega)) (fun v17 h9 hq18 => ?_)
              obtain ⟨rfl, x19, rfl, px19⟩ := hq18
              show f_wp _ (138, [some (.inr (.inr (some 0))), some (.inl q), some (.inl w), some (.inl h), some (.inl may), some (.inl on)], [.inl x19], mH a83 b) _
              refine w_if_ne rfl (fun c20 => ?_) (fun c20 => ?_)
              · skip
                refine w_const rfl ?_
                refine w_goto rfl ?_
                exact wp_iret (z := true) rfl (fun _ => by first | exact Or.inl rfl | exact Or.inr rfl | (rcases (by omega : (1 : Int32).toInt = 0 ∨ (1 : Int32).toInt = 1) with h8 | h8; exact Or.inl (ti_eq h8); exact Or.inr (ti_eq h8))) ⟨a83, rfl, hR83, ⟨hF83, trivial⟩, ⟨_, rfl, by first | (right; omega) | (exfalso; omega) | (left; exact ⟨by omega, by omega, by omega, CH.done hch (by omega) (by omega)⟩)⟩⟩
              · skip
                refine w_const rfl ?_
                exact wp_iret (z := true) rfl (fun _ => by first | exact Or.inl rfl | exact Or.inr rfl | (rcases (by omega : (0 : Int32).toInt = 0 ∨ (0 : Int32).toInt = 1) with h8 | h8; exact Or.inl (ti_eq h8); exact Or.inr (ti_eq h8))) ⟨a83, rfl, hR83, ⟨hF83, trivial⟩, ⟨_, rfl, by first | (right; omega) | (exfalso; omega) | (left; exact ⟨by omega, by omega, by omega, CH.done hch (by omega) (by omega)⟩)⟩⟩
            · skip
              refine w_const rfl ?_
              refine w_goto rfl ?_
              exact wp_iret (z := true) rfl (fun _ => by first | exact Or.inl rfl | exact Or.inr rfl | (rcases (by omega : (1 : Int32).toInt = 0 ∨ (1 : Int32).toInt = 1) with h8 | h8; exact Or.inl (ti_eq h8); exact Or.inr (ti_eq h8))) ⟨a83, rfl, hR83, ⟨hF83, trivial⟩, ⟨_, rfl, by first | (right; omega) | (exfalso; omega) | (left; exact ⟨by omega, by omega, by omega, CH.done hch (by omega) (by omega)⟩)⟩⟩
        · skip
          refine w_iload rfl rfl ?_
          refine w_iload rfl rfl ?_
          refine w_ic_eq rfl (fun c21 => ?_) (fun c21 => ?_)
          · skip
            refine w_const rfl ?_
            refine w_istore (lo' := [some (.inr (.inr (some 0))), some (.inl q), some (.inl w), some (.inl h), some (.inl 0), some (.inl on)]) rfl rfl ?_
            refine w_aload rfl rfl ?_
            refine w_iload rfl rfl ?_
            refine w_iload rfl rfl ?_
            refine w_invV (rest := []) rfl rfl rfl rfl rfl (Nat.le_of_ble_eq_true rfl) rfl (by omega) (s_husbandOf (K := K) a83 b  q on hR83 (by omega) (by omega)) (fun v22 h9 hq23 => ?_)
            obtain ⟨rfl, x24, rfl, px24⟩ := hq23
            show f_wp _ (113, [some (.inr (.inr (some 0))), some (.inl q), some (.inl w), some (.inl h), some (.inl 0), some (.inl on)], [.inl x24], mH a83 b) _
            have e9 : (a 15 (q.toInt.toNat + 1 + on.toInt.toNat)).toInt = x24.toInt := by rw [px24.1, hF83 15 (by decide)]
            refine w_istore (lo' := [some (.inr (.inr (some 0))), some (.inl q), some (.inl w), some (.inl h), some (.inl 0), some (.inl x24)]) rfl rfl ?_
            refine w_goto rfl ?_
            exact ih83 (if 0 ≤ x24.toInt then 7 - (g x24.toInt.toNat : Int) else 0).toNat (by have h6 := g6 on.toInt.toNat (by omega); rw [if_pos (by omega)] at hm83; split; (have h5 := gm on.toInt.toNat (by omega) (by omega); rw [e9] at h5; omega); omega) 0 x24 a83 rfl hR83 (hF83) (by omega) (by omega) (CH.step hch (by omega) (by omega) (by omega) e9)
          · skip
            refine w_const rfl ?_
            refine w_goto rfl ?_
            refine w_istore (lo' := [some (.inr (.inr (some 0))), some (.inl q), some (.inl w), some (.inl h), some (.inl 1), some (.inl on)]) rfl rfl ?_
            refine w_aload rfl rfl ?_
            refine w_iload rfl rfl ?_
            refine w_iload rfl rfl ?_
            refine w_invV (rest := []) rfl rfl rfl rfl rfl (Nat.le_of_ble_eq_true rfl) rfl (by omega) (s_husbandOf (K := K) a83 b  q on hR83 (by omega) (by omega)) (fun v25 h9 hq26 => ?_)
            obtain ⟨rfl, x27, rfl, px27⟩ := hq26
            show f_wp _ (113, [some (.inr (.inr (some 0))), some (.inl q), some (.inl w), some (.inl h), some (.inl 1), some (.inl on)], [.inl x27], mH a83 b) _
            have e9 : (a 15 (q.toInt.toNat + 1 + on.toInt.toNat)).toInt = x27.toInt := by rw [px27.1, hF83 15 (by decide)]
            refine w_istore (lo' := [some (.inr (.inr (some 0))), some (.inl q), some (.inl w), some (.inl h), some (.inl 1), some (.inl x27)]) rfl rfl ?_
            refine w_goto rfl ?_
            exact ih83 (if 0 ≤ x27.toInt then 7 - (g x27.toInt.toNat : Int) else 0).toNat (by have h6 := g6 on.toInt.toNat (by omega); rw [if_pos (by omega)] at hm83; split; (have h5 := gm on.toInt.toNat (by omega) (by omega); rw [e9] at h5; omega); omega) 1 x27 a83 rfl hR83 (hF83) (by omega) (by omega) (CH.step hch (by omega) (by omega) (by omega) e9)
  refine w_iload rfl rfl ?_
  refine w_iload rfl rfl ?_
  refine w_ic_eq rfl (fun c28 => ?_) (fun c28 => ?_)
  · skip
    refine w_const rfl ?_
    refine w_istore (lo' := [some (.inr (.inr (some 0))), some (.inl q), some (.inl w), some (.inl h), some (.inl 0), none]) rfl rfl ?_
    refine w_iload rfl rfl ?_
    refine w_istore (lo' := [some (.inr (.inr (some 0))), some (.inl q), some (.inl w), some (.inl h), some (.inl 0), some (.inl h)]) rfl rfl ?_
    exact loop83 _ 0 h a rfl hR (FR.rf) (by omega) (by omega) (CH.init (by omega) rfl)
  · skip
    refine w_aload rfl rfl ?_
    refine w_iload rfl rfl ?_
    refine w_invV (rest := []) rfl rfl rfl rfl rfl (Nat.le_of_ble_eq_true rfl) rfl (by omega) (s_kindOf (K := K) a b  w hR (by omega)) (fun v29 h9 hq30 => ?_)
    obtain ⟨rfl, x31, rfl, px31⟩ := hq30
    show f_wp _ (10, [some (.inr (.inr (some 0))), some (.inl q), some (.inl w), some (.inl h), none, none], [.inl x31], mH a b) _
    refine w_const rfl ?_
    refine w_ic_eq rfl (fun c32 => ?_) (fun c32 => ?_)
    · skip
      refine w_const rfl ?_
      refine w_istore (lo' := [some (.inr (.inr (some 0))), some (.inl q), some (.inl w), some (.inl h), some (.inl 0), none]) rfl rfl ?_
      refine w_iload rfl rfl ?_
      refine w_istore (lo' := [some (.inr (.inr (some 0))), some (.inl q), some (.inl w), some (.inl h), some (.inl 0), some (.inl h)]) rfl rfl ?_
      exact loop83 _ 0 h a rfl hR (FR.rf) (by omega) (by omega) (CH.init (by omega) rfl)
    · skip
      refine w_aload rfl rfl ?_
      refine w_iload rfl rfl ?_
      refine w_invV (rest := []) rfl rfl rfl rfl rfl (Nat.le_of_ble_eq_true rfl) rfl (by omega) (s_kindOf (K := K) a b  h hR (by omega)) (fun v33 h9 hq34 => ?_)
      obtain ⟨rfl, x35, rfl, px35⟩ := hq34
      show f_wp _ (19, [some (.inr (.inr (some 0))), some (.inl q), some (.inl w), some (.inl h), none, none], [.inl x35], mH a b) _
      refine w_const rfl ?_
      refine w_ic_eq rfl (fun c36 => ?_) (fun c36 => ?_)
      · skip
        refine w_const rfl ?_
        refine w_istore (lo' := [some (.inr (.inr (some 0))), some (.inl q), some (.inl w), some (.inl h), some (.inl 0), none]) rfl rfl ?_
        refine w_iload rfl rfl ?_
        refine w_istore (lo' := [some (.inr (.inr (some 0))), some (.inl q), some (.inl w), some (.inl h), some (.inl 0), some (.inl h)]) rfl rfl ?_
        exact loop83 _ 0 h a rfl hR (FR.rf) (by omega) (by omega) (CH.init (by omega) rfl)
      · skip
        refine w_aload rfl rfl ?_
        refine w_iload rfl rfl ?_
        refine w_iload rfl rfl ?_
        refine w_invV (rest := []) rfl rfl rfl rfl rfl (Nat.le_of_ble_eq_true rfl) rfl (by omega) (s_husbandOf (K := K) a b  q w hR (by omega) (by omega)) (fun v37 h9 hq38 => ?_)
        obtain ⟨rfl, x39, rfl, px39⟩ := hq38
        show f_wp _ (29, [some (.inr (.inr (some 0))), some (.inl q), some (.inl w), some (.inl h), none, none], [.inl x39], mH a b) _
        have e8 := congrArg Int32.toInt px39.1
        refine w_if_ge rfl (fun c40 => ?_) (fun c40 => ?_)
        · skip
          refine w_const rfl ?_
          refine w_istore (lo' := [some (.inr (.inr (some 0))), some (.inl q), some (.inl w), some (.inl h), some (.inl 0), none]) rfl rfl ?_
          refine w_iload rfl rfl ?_
          refine w_istore (lo' := [some (.inr (.inr (some 0))), some (.inl q), some (.inl w), some (.inl h), some (.inl 0), some (.inl h)]) rfl rfl ?_
          exact loop83 _ 0 h a rfl hR (FR.rf) (by omega) (by omega) (CH.init (by omega) rfl)
        · skip
          refine w_aload rfl rfl ?_
          refine w_iload rfl rfl ?_
          refine w_invV (rest := []) rfl rfl rfl rfl rfl (Nat.le_of_ble_eq_true rfl) rfl (by omega) (s_mouthOf (K := K) a b  w hR (by omega)) (fun v41 h9 hq42 => ?_)
          obtain ⟨rfl, x43, rfl, px43⟩ := hq42
          show f_wp _ (37, [some (.inr (.inr (some 0))), some (.inl q), some (.inl w), some (.inl h), none, none], [.inl x43], mH a b) _
          refine w_aload rfl rfl ?_
          refine w_iload rfl rfl ?_
          refine w_invV (rest := [.inl x43]) rfl rfl rfl rfl rfl (Nat.le_of_ble_eq_true rfl) rfl (by omega) (s_mouthOf (K := K) a b  h hR (by omega)) (fun v44 h9 hq45 => ?_)
          obtain ⟨rfl, x46, rfl, px46⟩ := hq45
          show f_wp _ (42, [some (.inr (.inr (some 0))), some (.inl q), some (.inl w), some (.inl h), none, none], [.inl x46, .inl x43], mH a b) _
          refine w_ic_lt rfl (fun c47 => ?_) (fun c47 => ?_)
          · skip
            refine w_const rfl ?_
            refine w_istore (lo' := [some (.inr (.inr (some 0))), some (.inl q), some (.inl w), some (.inl h), some (.inl 0), none]) rfl rfl ?_
            refine w_iload rfl rfl ?_
            refine w_istore (lo' := [some (.inr (.inr (some 0))), some (.inl q), some (.inl w), some (.inl h), some (.inl 0), some (.inl h)]) rfl rfl ?_
            exact loop83 _ 0 h a rfl hR (FR.rf) (by omega) (by omega) (CH.init (by omega) rfl)
          · skip
            refine w_aload rfl rfl ?_
            refine w_iload rfl rfl ?_
            refine w_invV (rest := []) rfl rfl rfl rfl rfl (Nat.le_of_ble_eq_true rfl) rfl (by omega) (s_springOf (K := K) a b  h hR (by omega)) (fun v48 h9 hq49 => ?_)
            obtain ⟨rfl, x50, rfl, px50⟩ := hq49
            show f_wp _ (50, [some (.inr (.inr (some 0))), some (.inl q), some (.inl w), some (.inl h), none, none], [.inl x50], mH a b) _
            refine w_aload rfl rfl ?_
            refine w_iload rfl rfl ?_
            refine w_invV (rest := [.inl x50]) rfl rfl rfl rfl rfl (Nat.le_of_ble_eq_true rfl) rfl (by omega) (s_mouthOf (K := K) a b  w hR (by omega)) (fun v51 h9 hq52 => ?_)
            obtain ⟨rfl, x53, rfl, px53⟩ := hq52
            show f_wp _ (55, [some (.inr (.inr (some 0))), some (.inl q), some (.inl w), some (.inl h), none, none], [.inl x53, .inl x50], mH a b) _
            refine w_ic_le rfl (fun c54 => ?_) (fun c54 => ?_)
            · skip
              refine w_const rfl ?_
              refine w_istore (lo' := [some (.inr (.inr (some 0))), some (.inl q), some (.inl w), some (.inl h), some (.inl 0), none]) rfl rfl ?_
              refine w_iload rfl rfl ?_
              refine w_istore (lo' := [some (.inr (.inr (some 0))), some (.inl q), some (.inl w), some (.inl h), some (.inl 0), some (.inl h)]) rfl rfl ?_
              exact loop83 _ 0 h a rfl hR (FR.rf) (by omega) (by omega) (CH.init (by omega) rfl)
            · skip
              refine w_aload rfl rfl ?_
              refine w_iload rfl rfl ?_
              refine w_iload rfl rfl ?_
              refine w_invV (rest := []) rfl rfl rfl rfl rfl (Nat.le_of_ble_eq_true rfl) rfl (by omega) (s_nearOf (K := K) a b  w h hR (by omega) (by omega)) (fun v55 h9 hq56 => ?_)
              obtain ⟨a57, rfl, ha57, fa57, x58, rfl, px58⟩ := hq56
              show f_wp _ (64, [some (.inr (.inr (some 0))), some (.inl q), some (.inl w), some (.inl h), none, none], [.inl x58], mH a57 b) _
              refine w_aload rfl rfl ?_
              refine w_getR (v := .inr (.inr (some 6))) rfl rfl rfl rfl rfl ?_
              refine w_const rfl ?_
              refine m_iald rfl rfl (by omega) (fun x59 ex59 => ?_)
              refine w_ic_le rfl (fun c60 => ?_) (fun c60 => ?_)
              · skip
                refine w_const rfl ?_
                refine w_istore (lo' := [some (.inr (.inr (some 0))), some (.inl q), some (.inl w), some (.inl h), some (.inl 0), none]) rfl rfl ?_
                refine w_iload rfl rfl ?_
                refine w_istore (lo' := [some (.inr (.inr (some 0))), some (.inl q), some (.inl w), some (.inl h), some (.inl 0), some (.inl h)]) rfl rfl ?_
                exact loop83 _ 0 h a57 rfl ha57 (FR.tr (FR.rf) (FR.sub fa57.1 (by decide))) (by omega) (by omega) (CH.init (by omega) rfl)
              · skip
                refine w_const rfl ?_
                refine w_goto rfl ?_
                refine w_istore (lo' := [some (.inr (.inr (some 0))), some (.inl q), some (.inl w), some (.inl h), some (.inl 1), none]) rfl rfl ?_
                refine w_iload rfl rfl ?_
                refine w_istore (lo' := [some (.inr (.inr (some 0))), some (.inl q), some (.inl w), some (.inl h), some (.inl 1), some (.inl h)]) rfl rfl ?_
                exact loop83 _ 1 h a57 rfl ha57 (FR.tr (FR.rf) (FR.sub fa57.1 (by decide))) (by omega) (by omega) (CH.init (by omega) rfl)
