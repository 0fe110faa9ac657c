theorem RM.laR {K : Nat} {a : Nat → Nat → Int32} {j : Nat} (h : RM K a) (hj : j = 110 ∨ j = 0) : 0 ≤ (a 6 j).toInt ∧ (a 6 j).toInt ≤ 6 := by
  rcases hj with rfl | rfl
  · exact h 6 110
  · exact h 6 0
set_option maxRecDepth 4000 in
theorem s_isName {K : Nat} (a : Nat → Nat → Int32) (b : Nat → Nat → Int64)  (hR : RM K a)  : f_call mtM 3 19 [.inr (.inr (some 0))] (mH a b) (fun v9 h' => h' = mH a b ∧ ∃ x : Int32, v9 = some (.inl x) ∧ ((x.toInt = 1 ∧ (a 0 8).toInt = 0 ∧ (a 2 (a 0 7).toInt.toNat).toInt = 1) ∨ x.toInt = 0)) := by
  refine f_call_of (d0 := 2) rfl (Nat.le_of_ble_eq_true rfl) (fun d hd => ?_)
  show f_wp _ (0, [some (.inr (.inr (some 0)))], [], mH a b) _
  have l0 : (0 : Int32).toInt = 0 := rfl
  have l1 : (1 : Int32).toInt = 1 := rfl
  have l27 : (27 : Int32).toInt = 27 := rfl
  refine w_aload rfl rfl ?_
  refine w_getI (v := .inl (a 0 8)) rfl rfl rfl rfl rfl ?_
  have q1 : 0 ≤ (a 0 8).toInt ∧ (a 0 8).toInt ≤ 2147483647 := hR 0 8
  refine w_if_ne rfl (fun c2 => ?_) (fun c2 => ?_)
  · skip
    refine w_aload rfl rfl ?_
    refine w_getR (v := .inr (.inr (some 2))) rfl rfl rfl rfl rfl ?_
    refine w_aload rfl rfl ?_
    refine w_getI (v := .inl (a 0 7)) rfl rfl rfl rfl rfl ?_
    have q3 : 0 ≤ (a 0 7).toInt ∧ (a 0 7).toInt ≤ 1000 := hR 0 7
    refine m_iald rfl rfl (by omega) (fun x4 ex4 => ?_)
    have qx4 : 0 ≤ x4.toInt ∧ x4.toInt ≤ 4 := by rw [ex4]; exact hR 2 _
    have e9 := congrArg Int32.toInt ex4
    refine w_const rfl ?_
    refine w_ic_ne rfl (fun c5 => ?_) (fun c5 => ?_)
    · skip
      refine w_aload rfl rfl ?_
      refine w_const rfl ?_
      refine w_const rfl ?_
      refine w_invV (rest := []) rfl rfl rfl rfl rfl (Nat.le_of_ble_eq_true rfl) rfl (by omega) (s_wordHere (K := K) a b  0 27 hR (by omega)) (fun v6 h9 hq7 => ?_)
      obtain ⟨rfl, x8, rfl, px8⟩ := hq7
      show f_wp _ (27, [some (.inr (.inr (some 0)))], [.inl x8], mH a b) _
      refine w_if_ge rfl (fun c9 => ?_) (fun c9 => ?_)
      · skip
        refine w_const rfl ?_
        exact wp_iret (z := true) rfl (fun _ => by first | exact Or.inl rfl | exact Or.inr rfl | (rcases (by omega : (0 : Int32).toInt = 0 ∨ (0 : Int32).toInt = 1) with h8 | h8; exact Or.inl (ti_eq h8); exact Or.inr (ti_eq h8))) ⟨rfl, ⟨_, rfl, by omega⟩⟩
      · skip
        refine w_const rfl ?_
        refine w_goto rfl ?_
        exact wp_iret (z := true) rfl (fun _ => by first | exact Or.inl rfl | exact Or.inr rfl | (rcases (by omega : (1 : Int32).toInt = 0 ∨ (1 : Int32).toInt = 1) with h8 | h8; exact Or.inl (ti_eq h8); exact Or.inr (ti_eq h8))) ⟨rfl, ⟨_, rfl, by omega⟩⟩
    · skip
      refine w_const rfl ?_
      exact wp_iret (z := true) rfl (fun _ => by first | exact Or.inl rfl | exact Or.inr rfl | (rcases (by omega : (0 : Int32).toInt = 0 ∨ (0 : Int32).toInt = 1) with h8 | h8; exact Or.inl (ti_eq h8); exact Or.inr (ti_eq h8))) ⟨rfl, ⟨_, rfl, by omega⟩⟩
  · skip
    refine w_const rfl ?_
    exact wp_iret (z := true) rfl (fun _ => by first | exact Or.inl rfl | exact Or.inr rfl | (rcases (by omega : (0 : Int32).toInt = 0 ∨ (0 : Int32).toInt = 1) with h8 | h8; exact Or.inl (ti_eq h8); exact Or.inr (ti_eq h8))) ⟨rfl, ⟨_, rfl, by omega⟩⟩
set_option maxRecDepth 4000 in
theorem s_find {K : Nat} (a : Nat → Nat → Int32) (b : Nat → Nat → Int64) (rd : Int32) (hR : RM K a) (hrd : rd.toInt = 0 ∨ rd.toInt = 1) : f_call mtM 1 20 [.inr (.inr (some 0)), .inl rd] (mH a b) (fun v9 h' => h' = mH a b ∧ ∃ x : Int32, v9 = some (.inl x) ∧ (-1 ≤ x.toInt ∧ x.toInt ≤ 5)) := by
  refine f_call_of (d0 := 0) rfl (Nat.le_of_ble_eq_true rfl) (fun d hd => ?_)
  show f_wp _ (0, [some (.inr (.inr (some 0))), some (.inl rd), none], [], mH a b) _
  have lm1 : (-1 : Int32).toInt = -1 := rfl
  have l0 : (0 : Int32).toInt = 0 := rfl
  have l1 : (1 : Int32).toInt = 1 := rfl
  have l110 : (110 : Int32).toInt = 110 := rfl
  refine w_const rfl ?_
  refine w_istore (lo' := [some (.inr (.inr (some 0))), some (.inl rd), some (.inl 0)]) rfl rfl ?_
  have loop2 : ∀ (ms9 : Nat) (k : Int32) , (6 - k.toInt).toNat = ms9 → (0 ≤ k.toInt ∧ k.toInt ≤ 6) → f_wp (f_code (t_X13_find (f_ev mtM d))) (2, [some (.inr (.inr (some 0))), some (.inl rd), some (.inl k)], [], mH a b) (fun v9 h' => h' = mH a b ∧ ∃ x : Int32, v9 = some (.inl x) ∧ (-1 ≤ x.toInt ∧ x.toInt ≤ 5)) := by
    intro ms9
    induction ms9 using Nat.strongRecOn with
    | _ ms2 ih2 =>
      intro k  hm2 hk
      refine w_iload rfl rfl ?_
      refine w_aload rfl rfl ?_
      refine w_getR (v := .inr (.inr (some 6))) rfl rfl rfl rfl rfl ?_
      refine w_iload rfl rfl ?_
      refine w_if_eq rfl (fun c1 => ?_) (fun c1 => ?_)
      · skip
        refine w_const rfl ?_
        refine w_const rfl ?_
        first | refine w_iadd rfl (by omega) (fun x2 tx2 => ?_) | refine w_iiU rfl (fun x2 tx2 => ?_)
        refine m_iald rfl rfl (by omega) (fun x3 ex3 => ?_)
        have u9 : 0 ≤ x3.toInt ∧ x3.toInt ≤ 6 := by rw [ex3]; exact RM.laR hR (by omega)
        refine w_ic_ge rfl (fun c4 => ?_) (fun c4 => ?_)
        · skip
          refine w_const rfl ?_
          exact wp_iret (z := false) rfl (fun h9 => by cases h9) ⟨rfl, ⟨_, rfl, by omega⟩⟩
        · skip
          refine w_iload rfl rfl ?_
          refine w_if_eq rfl (fun c5 => ?_) (fun c5 => ?_)
          · skip
            refine w_aload rfl rfl ?_
            refine w_getR (v := .inr (.inr (some 9))) rfl rfl rfl rfl rfl ?_
            refine w_iload rfl rfl ?_
            refine m_lald rfl rfl (by omega) (fun y6 ey6 => ?_)
            refine w_aload rfl rfl ?_
            refine w_getR (v := .inr (.inr (some 4))) rfl rfl rfl rfl rfl ?_
            refine w_aload rfl rfl ?_
            refine w_getI (v := .inl (a 0 7)) rfl rfl rfl rfl rfl ?_
            have q7 : 0 ≤ (a 0 7).toInt ∧ (a 0 7).toInt ≤ 1000 := hR 0 7
            refine m_lald rfl rfl (by omega) (fun y8 ey8 => ?_)
            refine w_lcmpE rfl (fun x9 tx9 => ?_)
            refine w_if_ne rfl (fun c10 => ?_) (fun c10 => ?_)
            · skip
              refine w_iload rfl rfl ?_
              exact wp_iret (z := false) rfl (fun h9 => by cases h9) ⟨rfl, ⟨_, rfl, by omega⟩⟩
            · skip
              refine w_iinc (lo' := fun z9 => [some (.inr (.inr (some 0))), some (.inl rd), some (.inl z9)]) rfl rfl (fun _ => rfl) (by omega) (fun x11 tx11 => ?_)
              refine w_goto rfl ?_
              exact ih2 (6 - x11.toInt).toNat (by omega) x11 rfl  (by omega)
          · skip
            refine w_aload rfl rfl ?_
            refine w_getR (v := .inr (.inr (some 10))) rfl rfl rfl rfl rfl ?_
            refine w_iload rfl rfl ?_
            refine m_lald rfl rfl (by omega) (fun y12 ey12 => ?_)
            refine w_goto rfl ?_
            refine w_aload rfl rfl ?_
            refine w_getR (v := .inr (.inr (some 4))) rfl rfl rfl rfl rfl ?_
            refine w_aload rfl rfl ?_
            refine w_getI (v := .inl (a 0 7)) rfl rfl rfl rfl rfl ?_
            have q13 : 0 ≤ (a 0 7).toInt ∧ (a 0 7).toInt ≤ 1000 := hR 0 7
            refine m_lald rfl rfl (by omega) (fun y14 ey14 => ?_)
            refine w_lcmpE rfl (fun x15 tx15 => ?_)
            refine w_if_ne rfl (fun c16 => ?_) (fun c16 => ?_)
            · skip
              refine w_iload rfl rfl ?_
              exact wp_iret (z := false) rfl (fun h9 => by cases h9) ⟨rfl, ⟨_, rfl, by omega⟩⟩
            · skip
              refine w_iinc (lo' := fun z9 => [some (.inr (.inr (some 0))), some (.inl rd), some (.inl z9)]) rfl rfl (fun _ => rfl) (by omega) (fun x17 tx17 => ?_)
              refine w_goto rfl ?_
              exact ih2 (6 - x17.toInt).toNat (by omega) x17 rfl  (by omega)
      · skip
        refine w_const rfl ?_
        refine w_goto rfl ?_
        refine w_const rfl ?_
        first | refine w_iadd rfl (by omega) (fun x18 tx18 => ?_) | refine w_iiU rfl (fun x18 tx18 => ?_)
        refine m_iald rfl rfl (by omega) (fun x19 ex19 => ?_)
        have u9 : 0 ≤ x19.toInt ∧ x19.toInt ≤ 6 := by rw [ex19]; exact RM.laR hR (by omega)
        refine w_ic_ge rfl (fun c20 => ?_) (fun c20 => ?_)
        · skip
          refine w_const rfl ?_
          exact wp_iret (z := false) rfl (fun h9 => by cases h9) ⟨rfl, ⟨_, rfl, by omega⟩⟩
        · skip
          refine w_iload rfl rfl ?_
          refine w_if_eq rfl (fun c21 => ?_) (fun c21 => ?_)
          · skip
            refine w_aload rfl rfl ?_
            refine w_getR (v := .inr (.inr (some 9))) rfl rfl rfl rfl rfl ?_
            refine w_iload rfl rfl ?_
            refine m_lald rfl rfl (by omega) (fun y22 ey22 => ?_)
            refine w_aload rfl rfl ?_
            refine w_getR (v := .inr (.inr (some 4))) rfl rfl rfl rfl rfl ?_
            refine w_aload rfl rfl ?_
            refine w_getI (v := .inl (a 0 7)) rfl rfl rfl rfl rfl ?_
            have q23 : 0 ≤ (a 0 7).toInt ∧ (a 0 7).toInt ≤ 1000 := hR 0 7
            refine m_lald rfl rfl (by omega) (fun y24 ey24 => ?_)
            refine w_lcmpE rfl (fun x25 tx25 => ?_)
            refine w_if_ne rfl (fun c26 => ?_) (fun c26 => ?_)
            · skip
              refine w_iload rfl rfl ?_
              exact wp_iret (z := false) rfl (fun h9 => by cases h9) ⟨rfl, ⟨_, rfl, by omega⟩⟩
            · skip
              refine w_iinc (lo' := fun z9 => [some (.inr (.inr (some 0))), some (.inl rd), some (.inl z9)]) rfl rfl (fun _ => rfl) (by omega) (fun x27 tx27 => ?_)
              refine w_goto rfl ?_
              exact ih2 (6 - x27.toInt).toNat (by omega) x27 rfl  (by omega)
          · skip
            refine w_aload rfl rfl ?_
            refine w_getR (v := .inr (.inr (some 10))) rfl rfl rfl rfl rfl ?_
            refine w_iload rfl rfl ?_
            refine m_lald rfl rfl (by omega) (fun y28 ey28 => ?_)
            refine w_goto rfl ?_
            refine w_aload rfl rfl ?_
            refine w_getR (v := .inr (.inr (some 4))) rfl rfl rfl rfl rfl ?_
            refine w_aload rfl rfl ?_
            refine w_getI (v := .inl (a 0 7)) rfl rfl rfl rfl rfl ?_
            have q29 : 0 ≤ (a 0 7).toInt ∧ (a 0 7).toInt ≤ 1000 := hR 0 7
            refine m_lald rfl rfl (by omega) (fun y30 ey30 => ?_)
            refine w_lcmpE rfl (fun x31 tx31 => ?_)
            refine w_if_ne rfl (fun c32 => ?_) (fun c32 => ?_)
            · skip
              refine w_iload rfl rfl ?_
              exact wp_iret (z := false) rfl (fun h9 => by cases h9) ⟨rfl, ⟨_, rfl, by omega⟩⟩
            · skip
              refine w_iinc (lo' := fun z9 => [some (.inr (.inr (some 0))), some (.inl rd), some (.inl z9)]) rfl rfl (fun _ => rfl) (by omega) (fun x33 tx33 => ?_)
              refine w_goto rfl ?_
              exact ih2 (6 - x33.toInt).toNat (by omega) x33 rfl  (by omega)
  exact loop2 _ 0 rfl  (by omega)
set_option maxRecDepth 4000 in
theorem s_riverHere {K : Nat} (a : Nat → Nat → Int32) (b : Nat → Nat → Int64) (rd : Int32) (hR : RM K a) (hrd : rd.toInt = 0 ∨ rd.toInt = 1) : f_call mtM 4 21 [.inr (.inr (some 0)), .inl rd] (mH a b) (fun v9 h' => ∃ (a' : Nat → Nat → Int32), h' = mH a' b ∧ RM K a' ∧ (FR [0] a a' ∧ (∀ j, j ≠ 8 → a' 0 j = a 0 j)) ∧ ∃ x : Int32, v9 = some (.inl x) ∧ ((0 ≤ x.toInt ∧ x.toInt ≤ 5 ∧ (a' 0 8).toInt = 0 ∧ (a 0 8).toInt = 0 ∧ (a 2 (a 0 7).toInt.toNat).toInt = 1) ∨ (0 < (a' 0 8).toInt ∧ -1 ≤ x.toInt ∧ x.toInt ≤ 5))) := by
  refine f_call_of (d0 := 3) rfl (Nat.le_of_ble_eq_true rfl) (fun d hd => ?_)
  show f_wp _ (0, [some (.inr (.inr (some 0))), some (.inl rd), none], [], mH a b) _
  have lm1 : (-1 : Int32).toInt = -1 := rfl
  have l1 : (1 : Int32).toInt = 1 := rfl
  have l2 : (2 : Int32).toInt = 2 := rfl
  refine w_aload rfl rfl ?_
  refine w_getI (v := .inl (a 0 8)) rfl rfl rfl rfl rfl ?_
  have q1 : 0 ≤ (a 0 8).toInt ∧ (a 0 8).toInt ≤ 2147483647 := hR 0 8
  refine w_if_ne rfl (fun c2 => ?_) (fun c2 => ?_)
  · skip
    refine w_aload rfl rfl ?_
    refine w_invV (rest := []) rfl rfl rfl rfl rfl (Nat.le_of_ble_eq_true rfl) rfl (by omega) (s_isName (K := K) a b   hR ) (fun v3 h9 hq4 => ?_)
    obtain ⟨rfl, x5, rfl, px5⟩ := hq4
    show f_wp _ (11, [some (.inr (.inr (some 0))), some (.inl rd), none], [.inl x5], mH a b) _
    refine w_if_ne rfl (fun c6 => ?_) (fun c6 => ?_)
    · skip
      refine w_aload rfl rfl ?_
      refine w_const rfl ?_
      refine w_invV (rest := []) rfl rfl rfl rfl rfl (Nat.le_of_ble_eq_true rfl) rfl (by omega) (s_wrong (K := K) a b  1 hR (by omega)) (fun v7 h9 hq8 => ?_)
      obtain ⟨a9, rfl, ha9, fa9, rfl⟩ := hq8
      show f_wp _ (19, [some (.inr (.inr (some 0))), some (.inl rd), none], [], mH a9 b) _
      refine w_aload rfl rfl ?_
      refine w_getI (v := .inl (a9 0 8)) rfl rfl rfl rfl rfl ?_
      have q10 : 0 ≤ (a9 0 8).toInt ∧ (a9 0 8).toInt ≤ 2147483647 := ha9 0 8
      refine w_if_le rfl (fun c11 => ?_) (fun c11 => ?_)
      · skip
        refine w_aload rfl rfl ?_
        refine w_iload rfl rfl ?_
        refine w_invV (rest := []) rfl rfl rfl rfl rfl (Nat.le_of_ble_eq_true rfl) rfl (by omega) (s_find (K := K) a9 b  rd ha9 (by omega)) (fun v12 h9 hq13 => ?_)
        obtain ⟨rfl, x14, rfl, px14⟩ := hq13
        show f_wp _ (35, [some (.inr (.inr (some 0))), some (.inl rd), none], [.inl x14], mH a9 b) _
        refine w_istore (lo' := [some (.inr (.inr (some 0))), some (.inl rd), some (.inl x14)]) rfl rfl ?_
        refine w_aload rfl rfl ?_
        refine w_getI (v := .inl (a9 0 8)) rfl rfl rfl rfl rfl ?_
        have q15 : 0 ≤ (a9 0 8).toInt ∧ (a9 0 8).toInt ≤ 2147483647 := ha9 0 8
        refine w_if_ne rfl (fun c16 => ?_) (fun c16 => ?_)
        · skip
          refine w_iload rfl rfl ?_
          refine w_if_ge rfl (fun c17 => ?_) (fun c17 => ?_)
          · skip
            refine w_iload rfl rfl ?_
            exact wp_iret (z := false) rfl (fun h9 => by cases h9) ⟨a9, rfl, ha9, ⟨FR.tr (FR.rf) (FR.sub fa9.1 (by decide)), fa9.2.1⟩, ⟨_, rfl, by omega⟩⟩
          · skip
            refine w_aload rfl rfl ?_
            refine w_const rfl ?_
            refine w_invV (rest := []) rfl rfl rfl rfl rfl (Nat.le_of_ble_eq_true rfl) rfl (by omega) (s_wrong (K := K) a9 b  2 ha9 (by omega)) (fun v18 h9 hq19 => ?_)
            obtain ⟨a20, rfl, ha20, fa20, rfl⟩ := hq19
            show f_wp _ (52, [some (.inr (.inr (some 0))), some (.inl rd), some (.inl x14)], [], mH a20 b) _
            refine w_iload rfl rfl ?_
            exact wp_iret (z := false) rfl (fun h9 => by cases h9) ⟨a20, rfl, ha20, ⟨FR.tr (FR.tr (FR.rf) (FR.sub fa9.1 (by decide))) (FR.sub fa20.1 (by decide)), fun j h8 => by rw [fa20.2.1 j h8]; exact fa9.2.1 j h8⟩, ⟨_, rfl, by omega⟩⟩
        · skip
          refine w_iload rfl rfl ?_
          exact wp_iret (z := false) rfl (fun h9 => by cases h9) ⟨a9, rfl, ha9, ⟨FR.tr (FR.rf) (FR.sub fa9.1 (by decide)), fa9.2.1⟩, ⟨_, rfl, by omega⟩⟩
      · skip
        refine w_const rfl ?_
        refine w_goto rfl ?_
        refine w_istore (lo' := [some (.inr (.inr (some 0))), some (.inl rd), some (.inl (-1))]) rfl rfl ?_
        refine w_aload rfl rfl ?_
        refine w_getI (v := .inl (a9 0 8)) rfl rfl rfl rfl rfl ?_
        have q21 : 0 ≤ (a9 0 8).toInt ∧ (a9 0 8).toInt ≤ 2147483647 := ha9 0 8
        refine w_if_ne rfl (fun c22 => ?_) (fun c22 => ?_)
        · skip
          refine w_iload rfl rfl ?_
          refine w_if_ge rfl (fun c23 => ?_) (fun c23 => ?_)
          · skip
            refine w_iload rfl rfl ?_
            exact wp_iret (z := false) rfl (fun h9 => by cases h9) ⟨a9, rfl, ha9, ⟨FR.tr (FR.rf) (FR.sub fa9.1 (by decide)), fa9.2.1⟩, ⟨_, rfl, by omega⟩⟩
          · skip
            refine w_aload rfl rfl ?_
            refine w_const rfl ?_
            refine w_invV (rest := []) rfl rfl rfl rfl rfl (Nat.le_of_ble_eq_true rfl) rfl (by omega) (s_wrong (K := K) a9 b  2 ha9 (by omega)) (fun v24 h9 hq25 => ?_)
            obtain ⟨a26, rfl, ha26, fa26, rfl⟩ := hq25
            show f_wp _ (52, [some (.inr (.inr (some 0))), some (.inl rd), some (.inl (-1))], [], mH a26 b) _
            refine w_iload rfl rfl ?_
            exact wp_iret (z := false) rfl (fun h9 => by cases h9) ⟨a26, rfl, ha26, ⟨FR.tr (FR.tr (FR.rf) (FR.sub fa9.1 (by decide))) (FR.sub fa26.1 (by decide)), fun j h8 => by rw [fa26.2.1 j h8]; exact fa9.2.1 j h8⟩, ⟨_, rfl, by omega⟩⟩
        · skip
          refine w_iload rfl rfl ?_
          exact wp_iret (z := false) rfl (fun h9 => by cases h9) ⟨a9, rfl, ha9, ⟨FR.tr (FR.rf) (FR.sub fa9.1 (by decide)), fa9.2.1⟩, ⟨_, rfl, by omega⟩⟩
    · skip
      refine w_aload rfl rfl ?_
      refine w_getI (v := .inl (a 0 8)) rfl rfl rfl rfl rfl ?_
      have q27 : 0 ≤ (a 0 8).toInt ∧ (a 0 8).toInt ≤ 2147483647 := hR 0 8
      refine w_if_le rfl (fun c28 => ?_) (fun c28 => ?_)
      · skip
        refine w_aload rfl rfl ?_
        refine w_iload rfl rfl ?_
        refine w_invV (rest := []) rfl rfl rfl rfl rfl (Nat.le_of_ble_eq_true rfl) rfl (by omega) (s_find (K := K) a b  rd hR (by omega)) (fun v29 h9 hq30 => ?_)
        obtain ⟨rfl, x31, rfl, px31⟩ := hq30
        show f_wp _ (35, [some (.inr (.inr (some 0))), some (.inl rd), none], [.inl x31], mH a b) _
        refine w_istore (lo' := [some (.inr (.inr (some 0))), some (.inl rd), some (.inl x31)]) rfl rfl ?_
        refine w_aload rfl rfl ?_
        refine w_getI (v := .inl (a 0 8)) rfl rfl rfl rfl rfl ?_
        have q32 : 0 ≤ (a 0 8).toInt ∧ (a 0 8).toInt ≤ 2147483647 := hR 0 8
        refine w_if_ne rfl (fun c33 => ?_) (fun c33 => ?_)
        · skip
          refine w_iload rfl rfl ?_
          refine w_if_ge rfl (fun c34 => ?_) (fun c34 => ?_)
          · skip
            refine w_iload rfl rfl ?_
            exact wp_iret (z := false) rfl (fun h9 => by cases h9) ⟨a, rfl, hR, ⟨FR.rf, fun _ _ => rfl⟩, ⟨_, rfl, by omega⟩⟩
          · skip
            refine w_aload rfl rfl ?_
            refine w_const rfl ?_
            refine w_invV (rest := []) rfl rfl rfl rfl rfl (Nat.le_of_ble_eq_true rfl) rfl (by omega) (s_wrong (K := K) a b  2 hR (by omega)) (fun v35 h9 hq36 => ?_)
            obtain ⟨a37, rfl, ha37, fa37, rfl⟩ := hq36
            show f_wp _ (52, [some (.inr (.inr (some 0))), some (.inl rd), some (.inl x31)], [], mH a37 b) _
            refine w_iload rfl rfl ?_
            exact wp_iret (z := false) rfl (fun h9 => by cases h9) ⟨a37, rfl, ha37, ⟨FR.tr (FR.rf) (FR.sub fa37.1 (by decide)), fa37.2.1⟩, ⟨_, rfl, by omega⟩⟩
        · skip
          refine w_iload rfl rfl ?_
          exact wp_iret (z := false) rfl (fun h9 => by cases h9) ⟨a, rfl, hR, ⟨FR.rf, fun _ _ => rfl⟩, ⟨_, rfl, by omega⟩⟩
      · skip
        refine w_const rfl ?_
        refine w_goto rfl ?_
        refine w_istore (lo' := [some (.inr (.inr (some 0))), some (.inl rd), some (.inl (-1))]) rfl rfl ?_
        refine w_aload rfl rfl ?_
        refine w_getI (v := .inl (a 0 8)) rfl rfl rfl rfl rfl ?_
        have q38 : 0 ≤ (a 0 8).toInt ∧ (a 0 8).toInt ≤ 2147483647 := hR 0 8
        refine w_if_ne rfl (fun c39 => ?_) (fun c39 => ?_)
        · skip
          refine w_iload rfl rfl ?_
          refine w_if_ge rfl (fun c40 => ?_) (fun c40 => ?_)
          · skip
            refine w_iload rfl rfl ?_
            exact wp_iret (z := false) rfl (fun h9 => by cases h9) ⟨a, rfl, hR, ⟨FR.rf, fun _ _ => rfl⟩, ⟨_, rfl, by omega⟩⟩
          · skip
            refine w_aload rfl rfl ?_
            refine w_const rfl ?_
            refine w_invV (rest := []) rfl rfl rfl rfl rfl (Nat.le_of_ble_eq_true rfl) rfl (by omega) (s_wrong (K := K) a b  2 hR (by omega)) (fun v41 h9 hq42 => ?_)
            obtain ⟨a43, rfl, ha43, fa43, rfl⟩ := hq42
            show f_wp _ (52, [some (.inr (.inr (some 0))), some (.inl rd), some (.inl (-1))], [], mH a43 b) _
            refine w_iload rfl rfl ?_
            exact wp_iret (z := false) rfl (fun h9 => by cases h9) ⟨a43, rfl, ha43, ⟨FR.tr (FR.rf) (FR.sub fa43.1 (by decide)), fa43.2.1⟩, ⟨_, rfl, by omega⟩⟩
        · skip
          refine w_iload rfl rfl ?_
          exact wp_iret (z := false) rfl (fun h9 => by cases h9) ⟨a, rfl, hR, ⟨FR.rf, fun _ _ => rfl⟩, ⟨_, rfl, by omega⟩⟩
  · skip
    refine w_aload rfl rfl ?_
    refine w_getI (v := .inl (a 0 8)) rfl rfl rfl rfl rfl ?_
    have q44 : 0 ≤ (a 0 8).toInt ∧ (a 0 8).toInt ≤ 2147483647 := hR 0 8
    refine w_if_le rfl (fun c45 => ?_) (fun c45 => ?_)
    · skip
      refine w_aload rfl rfl ?_
      refine w_iload rfl rfl ?_
      refine w_invV (rest := []) rfl rfl rfl rfl rfl (Nat.le_of_ble_eq_true rfl) rfl (by omega) (s_find (K := K) a b  rd hR (by omega)) (fun v46 h9 hq47 => ?_)
      obtain ⟨rfl, x48, rfl, px48⟩ := hq47
      show f_wp _ (35, [some (.inr (.inr (some 0))), some (.inl rd), none], [.inl x48], mH a b) _
      refine w_istore (lo' := [some (.inr (.inr (some 0))), some (.inl rd), some (.inl x48)]) rfl rfl ?_
      refine w_aload rfl rfl ?_
      refine w_getI (v := .inl (a 0 8)) rfl rfl rfl rfl rfl ?_
      have q49 : 0 ≤ (a 0 8).toInt ∧ (a 0 8).toInt ≤ 2147483647 := hR 0 8
      refine w_if_ne rfl (fun c50 => ?_) (fun c50 => ?_)
      · skip
        refine w_iload rfl rfl ?_
        refine w_if_ge rfl (fun c51 => ?_) (fun c51 => ?_)
        · skip
          refine w_iload rfl rfl ?_
          exact wp_iret (z := false) rfl (fun h9 => by cases h9) ⟨a, rfl, hR, ⟨FR.rf, fun _ _ => rfl⟩, ⟨_, rfl, by omega⟩⟩
        · skip
          refine w_aload rfl rfl ?_
          refine w_const rfl ?_
          refine w_invV (rest := []) rfl rfl rfl rfl rfl (Nat.le_of_ble_eq_true rfl) rfl (by omega) (s_wrong (K := K) a b  2 hR (by omega)) (fun v52 h9 hq53 => ?_)
          obtain ⟨a54, rfl, ha54, fa54, rfl⟩ := hq53
          show f_wp _ (52, [some (.inr (.inr (some 0))), some (.inl rd), some (.inl x48)], [], mH a54 b) _
          refine w_iload rfl rfl ?_
          exact wp_iret (z := false) rfl (fun h9 => by cases h9) ⟨a54, rfl, ha54, ⟨FR.tr (FR.rf) (FR.sub fa54.1 (by decide)), fa54.2.1⟩, ⟨_, rfl, by omega⟩⟩
      · skip
        refine w_iload rfl rfl ?_
        exact wp_iret (z := false) rfl (fun h9 => by cases h9) ⟨a, rfl, hR, ⟨FR.rf, fun _ _ => rfl⟩, ⟨_, rfl, by omega⟩⟩
    · skip
      refine w_const rfl ?_
      refine w_goto rfl ?_
      refine w_istore (lo' := [some (.inr (.inr (some 0))), some (.inl rd), some (.inl (-1))]) rfl rfl ?_
      refine w_aload rfl rfl ?_
      refine w_getI (v := .inl (a 0 8)) rfl rfl rfl rfl rfl ?_
      have q55 : 0 ≤ (a 0 8).toInt ∧ (a 0 8).toInt ≤ 2147483647 := hR 0 8
      refine w_if_ne rfl (fun c56 => ?_) (fun c56 => ?_)
      · skip
        refine w_iload rfl rfl ?_
        refine w_if_ge rfl (fun c57 => ?_) (fun c57 => ?_)
        · skip
          refine w_iload rfl rfl ?_
          exact wp_iret (z := false) rfl (fun h9 => by cases h9) ⟨a, rfl, hR, ⟨FR.rf, fun _ _ => rfl⟩, ⟨_, rfl, by omega⟩⟩
        · skip
          refine w_aload rfl rfl ?_
          refine w_const rfl ?_
          refine w_invV (rest := []) rfl rfl rfl rfl rfl (Nat.le_of_ble_eq_true rfl) rfl (by omega) (s_wrong (K := K) a b  2 hR (by omega)) (fun v58 h9 hq59 => ?_)
          obtain ⟨a60, rfl, ha60, fa60, rfl⟩ := hq59
          show f_wp _ (52, [some (.inr (.inr (some 0))), some (.inl rd), some (.inl (-1))], [], mH a60 b) _
          refine w_iload rfl rfl ?_
          exact wp_iret (z := false) rfl (fun h9 => by cases h9) ⟨a60, rfl, ha60, ⟨FR.tr (FR.rf) (FR.sub fa60.1 (by decide)), fa60.2.1⟩, ⟨_, rfl, by omega⟩⟩
      · skip
        refine w_iload rfl rfl ?_
        exact wp_iret (z := false) rfl (fun h9 => by cases h9) ⟨a, rfl, hR, ⟨FR.rf, fun _ _ => rfl⟩, ⟨_, rfl, by omega⟩⟩
