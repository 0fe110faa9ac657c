set_option maxRecDepth 4000 in
theorem s_wrong_9 {K : Nat} (a : Nat → Nat → Int32) (b : Nat → Nat → Int64) (w : Int32) (hR : RM K a) (hw : 1 ≤ w.toInt ∧ w.toInt ≤ 5) : f_call mtM 1 7 [.inr (.inr (some 0)), .inl w] (mH a b) (fun v9 h' => ∃ (a' : Nat → Nat → Int32), h' = mH a' b ∧ RM K a' ∧ (FR [0] a a' ∧ ((∀ j, j ≠ 8 → a' 0 j = a 0 j) ∧ (((a 0 8).toInt = 0 ∧ (a' 0 8).toInt = w.toInt + 16 * (a 3 (a 0 7).toInt.toNat).toInt) ∨ (0 < (a 0 8).toInt ∧ a' 0 8 = a 0 8)))) ∧ v9 = none) := by
  refine f_call_of (d0 := 0) rfl (Nat.le_of_ble_eq_true rfl) (fun d hd => ?_)
  show f_wp _ (0, [some (.inr (.inr (some 0))), some (.inl w)], [], mH a b) _
  have l16 : (16 : Int32).toInt = 16 := rfl
  have z7 : 0 ≤ (a 0 7).toInt ∧ (a 0 7).toInt ≤ 1000 := hR 0 7
  have z8 : 0 ≤ (a 0 8).toInt ∧ (a 0 8).toInt ≤ 2147483647 := hR 0 8
  refine w_aload rfl rfl ?_
  refine w_getI (v := .inl (a 0 8)) rfl rfl rfl rfl rfl ?_
  have q1 : 0 ≤ (a 0 8).toInt ∧ (a 0 8).toInt ≤ 2147483647 := hR 0 8
  refine w_if_ne rfl (fun c2 => ?_) (fun c2 => ?_)
  · skip
    refine w_aload rfl rfl ?_
    refine w_iload rfl rfl ?_
    refine w_const rfl ?_
    refine w_aload rfl rfl ?_
    refine w_getR (v := .inr (.inr (some 3))) rfl rfl rfl rfl rfl ?_
    refine w_aload rfl rfl ?_
    refine w_getI (v := .inl (a 0 7)) rfl rfl rfl rfl rfl ?_
    have q3 : 0 ≤ (a 0 7).toInt ∧ (a 0 7).toInt ≤ 1000 := hR 0 7
    refine m_iald rfl rfl (by omega) (fun x4 ex4 => ?_)
    have qx4 : 0 ≤ x4.toInt ∧ x4.toInt ≤ 1000 := by rw [ex4]; exact hR 3 _
    have e9 := congrArg Int32.toInt ex4
    first | refine w_imul rfl (c := 16) rfl (by omega) (fun x5 tx5 => ?_) | refine w_iiU rfl (fun x5 tx5 => ?_)
    first | refine w_iadd rfl (by omega) (fun x6 tx6 => ?_) | refine w_iiU rfl (fun x6 tx6 => ?_)
    refine m_putI (z := false) rfl rfl rfl rfl (by first | (intro h9; cases h9; done) | (intro _; first | exact Or.inl rfl | exact Or.inr rfl | assumption)) (fun a7 ea7 => ?_)
    have ha7 : RM K a7 := RM.up hR ea7 (show (0 : Int) ≤ _ ∧ _ ≤ (2147483647 : Int) from by omega)
    have ua7_7 : (a7 0 7).toInt = (a 0 7).toInt := by rw [ea7, mU_slot (by decide)]
    have ua7_8 : a7 0 8 = x6 := by rw [ea7, mU_same]
    have wa7_8 := congrArg Int32.toInt ua7_8
    exact w_ret rfl ⟨a7, rfl, ha7, ⟨FR.up (FR.rf) (by decide) ea7, by first | exact ⟨fun j hj => rfl, Or.inr ⟨by omega, rfl⟩⟩ | exact ⟨fun j hj => by rw [ea7, mU_slot hj], Or.inl ⟨by omega, by rw [ea7, mU_same]; omega⟩⟩⟩, rfl⟩
  · skip
    exact w_ret rfl ⟨a, rfl, hR, ⟨FR.rf, by first | exact ⟨fun j hj => rfl, Or.inr ⟨by omega, rfl⟩⟩ | exact ⟨fun j hj => by rw [@e, mU_slot hj], Or.inl ⟨by omega, by rw [@e, mU_same]; omega⟩⟩⟩, rfl⟩
set_option maxRecDepth 4000 in
theorem s_isSign_9 {K : Nat} (a : Nat → Nat → Int32) (b : Nat → Nat → Int64) (c : Int32) (hR : RM K a)  : f_call mtM 1 8 [.inr (.inr (some 0)), .inl c] (mH a b) (fun v9 h' => h' = mH a b ∧ ∃ x : Int32, v9 = some (.inl x) ∧ ((x.toInt = 1 ∧ ((a 0 8).toInt = 0 ∧ (a 2 (a 0 7).toInt.toNat).toInt = 3 ∧ (b 4 (a 0 7).toInt.toNat).toInt = c.toInt)) ∨ (x.toInt = 0 ∧ ¬ ((a 0 8).toInt = 0 ∧ (a 2 (a 0 7).toInt.toNat).toInt = 3 ∧ (b 4 (a 0 7).toInt.toNat).toInt = c.toInt)))) := by
  refine f_call_of (d0 := 0) rfl (Nat.le_of_ble_eq_true rfl) (fun d hd => ?_)
  show f_wp _ (0, [some (.inr (.inr (some 0))), some (.inl c)], [], mH a b) _
  have l0 : (0 : Int32).toInt = 0 := rfl
  have l1 : (1 : Int32).toInt = 1 := rfl
  have l3 : (3 : Int32).toInt = 3 := rfl
  refine w_aload rfl rfl ?_
  refine w_getI (v := .inl (a 0 8)) rfl rfl rfl rfl rfl ?_
  have q1 : 0 ≤ (a 0 8).toInt ∧ (a 0 8).toInt ≤ 2147483647 := hR 0 8
  refine w_if_ne rfl (fun c2 => ?_) (fun c2 => ?_)
  · skip
    refine w_aload rfl rfl ?_
    refine w_getR (v := .inr (.inr (some 2))) rfl rfl rfl rfl rfl ?_
    refine w_aload rfl rfl ?_
    refine w_getI (v := .inl (a 0 7)) rfl rfl rfl rfl rfl ?_
    have q3 : 0 ≤ (a 0 7).toInt ∧ (a 0 7).toInt ≤ 1000 := hR 0 7
    refine m_iald rfl rfl (by omega) (fun x4 ex4 => ?_)
    have qx4 : 0 ≤ x4.toInt ∧ x4.toInt ≤ 4 := by rw [ex4]; exact hR 2 _
    have e9 := congrArg Int32.toInt ex4
    refine w_const rfl ?_
    refine w_ic_ne rfl (fun c5 => ?_) (fun c5 => ?_)
    · skip
      refine w_aload rfl rfl ?_
      refine w_getR (v := .inr (.inr (some 4))) rfl rfl rfl rfl rfl ?_
      refine w_aload rfl rfl ?_
      refine w_getI (v := .inl (a 0 7)) rfl rfl rfl rfl rfl ?_
      have q6 : 0 ≤ (a 0 7).toInt ∧ (a 0 7).toInt ≤ 1000 := hR 0 7
      refine m_lald rfl rfl (by omega) (fun y7 ey7 => ?_)
      have e8 := congrArg Int64.toInt ey7
      refine w_iload rfl rfl ?_
      refine w_i2lE rfl (fun y8 ty8 => ?_)
      have c8 := i2l_ti (x := c) ty8
      refine w_lcmpE rfl (fun x9 tx9 => ?_)
      have c9 := cmp_ti tx9
      refine w_if_ne rfl (fun c10 => ?_) (fun c10 => ?_)
      · skip
        refine w_const rfl ?_
        refine w_goto rfl ?_
        exact wp_iret (z := true) rfl (fun _ => by first | exact Or.inl rfl | exact Or.inr rfl | (rcases (by omega : (1 : Int32).toInt = 0 ∨ (1 : Int32).toInt = 1) with h8 | h8; exact Or.inl (ti_eq h8); exact Or.inr (ti_eq h8))) ⟨rfl, ⟨_, rfl, by omega⟩⟩
      · skip
        refine w_const rfl ?_
        exact wp_iret (z := true) rfl (fun _ => by first | exact Or.inl rfl | exact Or.inr rfl | (rcases (by omega : (0 : Int32).toInt = 0 ∨ (0 : Int32).toInt = 1) with h8 | h8; exact Or.inl (ti_eq h8); exact Or.inr (ti_eq h8))) ⟨rfl, ⟨_, rfl, by omega⟩⟩
    · skip
      refine w_const rfl ?_
      exact wp_iret (z := true) rfl (fun _ => by first | exact Or.inl rfl | exact Or.inr rfl | (rcases (by omega : (0 : Int32).toInt = 0 ∨ (0 : Int32).toInt = 1) with h8 | h8; exact Or.inl (ti_eq h8); exact Or.inr (ti_eq h8))) ⟨rfl, ⟨_, rfl, by omega⟩⟩
  · skip
    refine w_const rfl ?_
    exact wp_iret (z := true) rfl (fun _ => by first | exact Or.inl rfl | exact Or.inr rfl | (rcases (by omega : (0 : Int32).toInt = 0 ∨ (0 : Int32).toInt = 1) with h8 | h8; exact Or.inl (ti_eq h8); exact Or.inr (ti_eq h8))) ⟨rfl, ⟨_, rfl, by omega⟩⟩
set_option maxRecDepth 4000 in
theorem s_isWord_9 {K : Nat} (a : Nat → Nat → Int32) (b : Nat → Nat → Int64) (c : Int32) (hR : RM K a) (hc : 0 ≤ c.toInt ∧ c.toInt ≤ 30) : f_call mtM 1 9 [.inr (.inr (some 0)), .inl c] (mH a b) (fun v9 h' => h' = mH a b ∧ ∃ x : Int32, v9 = some (.inl x) ∧ ((x.toInt = 1 ∧ ((a 0 8).toInt = 0 ∧ (a 2 (a 0 7).toInt.toNat).toInt = 1 ∧ (b 4 (a 0 7).toInt.toNat).toInt = (b 5 c.toInt.toNat).toInt)) ∨ (x.toInt = 0 ∧ ¬ ((a 0 8).toInt = 0 ∧ (a 2 (a 0 7).toInt.toNat).toInt = 1 ∧ (b 4 (a 0 7).toInt.toNat).toInt = (b 5 c.toInt.toNat).toInt)))) := by
  refine f_call_of (d0 := 0) rfl (Nat.le_of_ble_eq_true rfl) (fun d hd => ?_)
  show f_wp _ (0, [some (.inr (.inr (some 0))), some (.inl c)], [], mH a b) _
  have l0 : (0 : Int32).toInt = 0 := rfl
  have l1 : (1 : Int32).toInt = 1 := rfl
  refine w_aload rfl rfl ?_
  refine w_getI (v := .inl (a 0 8)) rfl rfl rfl rfl rfl ?_
  have q1 : 0 ≤ (a 0 8).toInt ∧ (a 0 8).toInt ≤ 2147483647 := hR 0 8
  refine w_if_ne rfl (fun c2 => ?_) (fun c2 => ?_)
  · skip
    refine w_aload rfl rfl ?_
    refine w_getR (v := .inr (.inr (some 2))) rfl rfl rfl rfl rfl ?_
    refine w_aload rfl rfl ?_
    refine w_getI (v := .inl (a 0 7)) rfl rfl rfl rfl rfl ?_
    have q3 : 0 ≤ (a 0 7).toInt ∧ (a 0 7).toInt ≤ 1000 := hR 0 7
    refine m_iald rfl rfl (by omega) (fun x4 ex4 => ?_)
    have qx4 : 0 ≤ x4.toInt ∧ x4.toInt ≤ 4 := by rw [ex4]; exact hR 2 _
    have e9 := congrArg Int32.toInt ex4
    refine w_const rfl ?_
    refine w_ic_ne rfl (fun c5 => ?_) (fun c5 => ?_)
    · skip
      refine w_aload rfl rfl ?_
      refine w_getR (v := .inr (.inr (some 4))) rfl rfl rfl rfl rfl ?_
      refine w_aload rfl rfl ?_
      refine w_getI (v := .inl (a 0 7)) rfl rfl rfl rfl rfl ?_
      have q6 : 0 ≤ (a 0 7).toInt ∧ (a 0 7).toInt ≤ 1000 := hR 0 7
      refine m_lald rfl rfl (by omega) (fun y7 ey7 => ?_)
      have e8 := congrArg Int64.toInt ey7
      refine w_aload rfl rfl ?_
      refine w_getR (v := .inr (.inr (some 5))) rfl rfl rfl rfl rfl ?_
      refine w_iload rfl rfl ?_
      refine m_lald rfl rfl (by omega) (fun y8 ey8 => ?_)
      have e7 := congrArg Int64.toInt ey8
      refine w_lcmpE rfl (fun x9 tx9 => ?_)
      have c9 := cmp_ti tx9
      refine w_if_ne rfl (fun c10 => ?_) (fun c10 => ?_)
      · skip
        refine w_const rfl ?_
        refine w_goto rfl ?_
        exact wp_iret (z := true) rfl (fun _ => by first | exact Or.inl rfl | exact Or.inr rfl | (rcases (by omega : (1 : Int32).toInt = 0 ∨ (1 : Int32).toInt = 1) with h8 | h8; exact Or.inl (ti_eq h8); exact Or.inr (ti_eq h8))) ⟨rfl, ⟨_, rfl, by omega⟩⟩
      · skip
        refine w_const rfl ?_
        exact wp_iret (z := true) rfl (fun _ => by first | exact Or.inl rfl | exact Or.inr rfl | (rcases (by omega : (0 : Int32).toInt = 0 ∨ (0 : Int32).toInt = 1) with h8 | h8; exact Or.inl (ti_eq h8); exact Or.inr (ti_eq h8))) ⟨rfl, ⟨_, rfl, by omega⟩⟩
    · skip
      refine w_const rfl ?_
      exact wp_iret (z := true) rfl (fun _ => by first | exact Or.inl rfl | exact Or.inr rfl | (rcases (by omega : (0 : Int32).toInt = 0 ∨ (0 : Int32).toInt = 1) with h8 | h8; exact Or.inl (ti_eq h8); exact Or.inr (ti_eq h8))) ⟨rfl, ⟨_, rfl, by omega⟩⟩
  · skip
    refine w_const rfl ?_
    exact wp_iret (z := true) rfl (fun _ => by first | exact Or.inl rfl | exact Or.inr rfl | (rcases (by omega : (0 : Int32).toInt = 0 ∨ (0 : Int32).toInt = 1) with h8 | h8; exact Or.inl (ti_eq h8); exact Or.inr (ti_eq h8))) ⟨rfl, ⟨_, rfl, by omega⟩⟩
set_option maxRecDepth 4000 in
theorem s_takeSign_9 {K : Nat} (a : Nat → Nat → Int32) (b : Nat → Nat → Int64) (N : Nat) (z : Nat) (t : Nat → Int32)(c : Int32) (hR : RM K a) (hT : PA t z N a b) (hz : z ≤ 1000) : f_call mtM 2 10 [.inr (.inr (some 0)), .inl c] (mH a b) (fun v9 h' => ∃ (a' : Nat → Nat → Int32), h' = mH a' b ∧ RM K a' ∧ (FR [0] a a' ∧ (PF a a' (tkG t z (a 0 7).toInt.toNat c.toInt) 1 ∧ (0 ≤ (a' 0 7).toInt ∧ (a' 0 7).toInt ≤ N))) ∧ v9 = none) := by
  refine f_call_of (d0 := 1) rfl (Nat.le_of_ble_eq_true rfl) (fun d hd => ?_)
  show f_wp _ (0, [some (.inr (.inr (some 0))), some (.inl c)], [], mH a b) _
  have l1 : (1 : Int32).toInt = 1 := rfl
  have z7 : 0 ≤ (a 0 7).toInt ∧ (a 0 7).toInt ≤ 1000 := hR 0 7
  have z8 : 0 ≤ (a 0 8).toInt ∧ (a 0 8).toInt ≤ 2147483647 := hR 0 8
  obtain ⟨k1, k2, k3, k4⟩ := hT.tok
  have k7 := hT.2.2.1
  have k8 := hT.1.1
  have g9 := hT.sg c.toInt
  refine w_aload rfl rfl ?_
  refine w_iload rfl rfl ?_
  refine w_invV (rest := []) rfl rfl rfl rfl rfl (Nat.le_of_ble_eq_true rfl) rfl (by omega) (s_isSign_9 (K := K) a b  c hR ) (fun v1 h9 hq2 => ?_)
  obtain ⟨rfl, x3, rfl, px3⟩ := hq2
  show f_wp _ (5, [some (.inr (.inr (some 0))), some (.inl c)], [.inl x3], mH a b) _
  have p9 := px3
  refine w_if_eq rfl (fun c4 => ?_) (fun c4 => ?_)
  · skip
    refine w_aload rfl rfl ?_
    refine w_const rfl ?_
    refine w_invV (rest := []) rfl rfl rfl rfl rfl (Nat.le_of_ble_eq_true rfl) rfl (by omega) (s_wrong_9 (K := K) a b  1 hR (by omega)) (fun v5 h9 hq6 => ?_)
    obtain ⟨a7, rfl, ha7, fa7, rfl⟩ := hq6
    show f_wp _ (26, [some (.inr (.inr (some 0))), some (.inl c)], [], mH a7 b) _
    exact w_ret rfl ⟨a7, rfl, ha7, ⟨FR.tr (FR.rf) (FR.sub fa7.1 (by decide)), PF.bad fa7.2.1 fa7.2.2 (fun h0 => by rw [g9, if_neg (fun h => by omega)]; exact ⟨by omega, by omega⟩) (by omega) (by omega)⟩, rfl⟩
  · skip
    have y9 : (a 0 7).toInt < N := k3 (by omega)
    refine w_aload rfl rfl ?_
    refine w_dup rfl rfl ?_
    refine w_getI (v := .inl (a 0 7)) rfl rfl rfl rfl rfl ?_
    have q8 : 0 ≤ (a 0 7).toInt ∧ (a 0 7).toInt ≤ 1000 := hR 0 7
    refine w_const rfl ?_
    first | refine w_iadd rfl (by omega) (fun x9 tx9 => ?_) | refine w_iiU rfl (fun x9 tx9 => ?_)
    refine m_putI (z := false) rfl rfl rfl rfl (by first | (intro h9; cases h9; done) | (intro _; first | exact Or.inl rfl | exact Or.inr rfl | assumption)) (fun a10 ea10 => ?_)
    have ha10 : RM K a10 := RM.up hR ea10 (show (0 : Int) ≤ _ ∧ _ ≤ (1000 : Int) from by omega)
    have ua10_7 : a10 0 7 = x9 := by rw [ea10, mU_same]
    have wa10_7 := congrArg Int32.toInt ua10_7
    refine w_goto rfl ?_
    exact w_ret rfl ⟨a10, rfl, ha10, ⟨FR.up (FR.rf) (by decide) ea10, PF.good ea10 (by omega) (by rw [g9, if_pos ⟨by omega, by omega⟩]) (by omega) (by omega) (by omega)⟩, rfl⟩
set_option maxRecDepth 4000 in
theorem s_takeNumber_9 {K : Nat} (a : Nat → Nat → Int32) (b : Nat → Nat → Int64) (N : Nat) (z : Nat) (t : Nat → Int32)(p : Int32) (r : Int32) (hR : RM K a) (hp : 0 ≤ p.toInt) (hT : PA t z N a b) (hz : z ≤ 1000) : f_call mtM 2 16 [.inr (.inr (some 0)), .inl p, .inl r] (mH a b) (fun v9 h' => ∃ (a' : Nat → Nat → Int32), h' = mH a' b ∧ RM K a' ∧ (FR [0] a a' ∧ (PF a a' (tkN t z (a 0 7).toInt.toNat p.toInt r.toInt) 1 ∧ (0 ≤ (a' 0 7).toInt ∧ (a' 0 7).toInt ≤ N))) ∧ ∃ x : Int32, v9 = some (.inl x) ∧ ((p.toInt ≤ x.toInt ∧ x.toInt ≤ r.toInt) ∨ x.toInt = 0)) := by
  refine f_call_of (d0 := 1) rfl (Nat.le_of_ble_eq_true rfl) (fun d hd => ?_)
  show f_wp _ (0, [some (.inr (.inr (some 0))), some (.inl p), some (.inl r)], [], mH a b) _
  have l0 : (0 : Int32).toInt = 0 := rfl
  have l1 : (1 : Int32).toInt = 1 := rfl
  have l2 : (2 : Int32).toInt = 2 := rfl
  have l4 : (4 : Int32).toInt = 4 := rfl
  have z7 : 0 ≤ (a 0 7).toInt ∧ (a 0 7).toInt ≤ 1000 := hR 0 7
  have z8 : 0 ≤ (a 0 8).toInt ∧ (a 0 8).toInt ≤ 2147483647 := hR 0 8
  obtain ⟨k1, k2, k3, k4⟩ := hT.tok
  have k7 := hT.2.2.1
  have k8 := hT.1.1
  have r7 := ti_hi r
  have g9 := hT.num p.toInt r.toInt
  refine w_aload rfl rfl ?_
  refine w_getI (v := .inl (a 0 8)) rfl rfl rfl rfl rfl ?_
  have q1 : 0 ≤ (a 0 8).toInt ∧ (a 0 8).toInt ≤ 2147483647 := hR 0 8
  refine w_if_ne rfl (fun c2 => ?_) (fun c2 => ?_)
  · skip
    refine w_aload rfl rfl ?_
    refine w_getR (v := .inr (.inr (some 2))) rfl rfl rfl rfl rfl ?_
    refine w_aload rfl rfl ?_
    refine w_getI (v := .inl (a 0 7)) rfl rfl rfl rfl rfl ?_
    have q3 : 0 ≤ (a 0 7).toInt ∧ (a 0 7).toInt ≤ 1000 := hR 0 7
    refine m_iald rfl rfl (by omega) (fun x4 ex4 => ?_)
    have qx4 : 0 ≤ x4.toInt ∧ x4.toInt ≤ 4 := by rw [ex4]; exact hR 2 _
    have e9 := congrArg Int32.toInt ex4
    refine w_const rfl ?_
    refine w_ic_eq rfl (fun c5 => ?_) (fun c5 => ?_)
    · skip
      refine w_aload rfl rfl ?_
      refine w_getI (v := .inl (a 0 8)) rfl rfl rfl rfl rfl ?_
      have q6 : 0 ≤ (a 0 8).toInt ∧ (a 0 8).toInt ≤ 2147483647 := hR 0 8
      refine w_if_ne rfl (fun c7 => ?_) (fun c7 => ?_)
      · skip
        refine w_aload rfl rfl ?_
        refine w_getR (v := .inr (.inr (some 4))) rfl rfl rfl rfl rfl ?_
        refine w_aload rfl rfl ?_
        refine w_getI (v := .inl (a 0 7)) rfl rfl rfl rfl rfl ?_
        have q8 : 0 ≤ (a 0 7).toInt ∧ (a 0 7).toInt ≤ 1000 := hR 0 7
        refine m_lald rfl rfl (by omega) (fun y9 ey9 => ?_)
        refine w_iload rfl rfl ?_
        refine w_i2lE rfl (fun y10 ty10 => ?_)
        refine w_lcmpE rfl (fun x11 tx11 => ?_)
        have c9 := cmp_ti tx11
        have c8 := i2l_ti (x := p) ty10
        have e8 := congrArg Int64.toInt ey9
        refine w_if_lt rfl (fun c12 => ?_) (fun c12 => ?_)
        · skip
          refine w_aload rfl rfl ?_
          refine w_const rfl ?_
          refine w_invV (rest := []) rfl rfl rfl rfl rfl (Nat.le_of_ble_eq_true rfl) rfl (by omega) (s_wrong_9 (K := K) a b  4 hR (by omega)) (fun v13 h9 hq14 => ?_)
          obtain ⟨a15, rfl, ha15, fa15, rfl⟩ := hq14
          show f_wp _ (70, [some (.inr (.inr (some 0))), some (.inl p), some (.inl r)], [], mH a15 b) _
          have y7 : (a15 0 7).toInt = (a 0 7).toInt := by rw [fa15.2.1 7 (by decide)]
          have w9 := fa15
          refine w_aload rfl rfl ?_
          refine w_getI (v := .inl (a15 0 8)) rfl rfl rfl rfl rfl ?_
          have q16 : 0 ≤ (a15 0 8).toInt ∧ (a15 0 8).toInt ≤ 2147483647 := ha15 0 8
          refine w_if_le rfl (fun c17 => ?_) (fun c17 => ?_)
          · skip
            have y9 : (a 0 7).toInt < N := k3 (by omega)
            refine w_aload rfl rfl ?_
            refine w_dup rfl rfl ?_
            refine w_getI (v := .inl (a15 0 7)) rfl rfl rfl rfl rfl ?_
            have q18 : 0 ≤ (a15 0 7).toInt ∧ (a15 0 7).toInt ≤ 1000 := ha15 0 7
            refine w_const rfl ?_
            first | refine w_iadd rfl (by omega) (fun x19 tx19 => ?_) | refine w_iiU rfl (fun x19 tx19 => ?_)
            refine m_putI (z := false) rfl rfl rfl rfl (by first | (intro h9; cases h9; done) | (intro _; first | exact Or.inl rfl | exact Or.inr rfl | assumption)) (fun a20 ea20 => ?_)
            have ha20 : RM K a20 := RM.up ha15 ea20 (show (0 : Int) ≤ _ ∧ _ ≤ (1000 : Int) from by omega)
            have ua20_7 : a20 0 7 = x19 := by rw [ea20, mU_same]
            have wa20_7 := congrArg Int32.toInt ua20_7
            have ua20_8 : (a20 0 8).toInt = (a15 0 8).toInt := by rw [ea20, mU_slot (by decide)]
            refine w_aload rfl rfl ?_
            refine w_getR (v := .inr (.inr (some 4))) rfl rfl rfl rfl rfl ?_
            refine w_aload rfl rfl ?_
            refine w_getI (v := .inl (a20 0 7)) rfl rfl rfl rfl rfl ?_
            have q21 : 0 ≤ (a20 0 7).toInt ∧ (a20 0 7).toInt ≤ 1000 := ha20 0 7
            refine w_const rfl ?_
            first | refine w_isub rfl (by omega) (fun x22 tx22 => ?_) | refine w_iiU rfl (fun x22 tx22 => ?_)
            refine m_lald rfl rfl (by omega) (fun y23 ey23 => ?_)
            have i9 : y23 = b 4 (a 0 7).toInt.toNat := by rw [ey23]; congr 1; omega
            have i8 := congrArg Int64.toInt i9
            refine w_l2iE rfl (fun x24 tx24 => ?_)
            have x9 := l2i_ti tx24 (by omega)
            exact wp_iret (z := false) rfl (fun h9 => by cases h9) ⟨a20, rfl, ha20, ⟨FR.up (FR.tr (FR.rf) (FR.sub fa15.1 (by decide))) (by decide) ea20, absurd l0 (by omega)⟩, ⟨_, rfl, by omega⟩⟩
          · skip
            refine w_const rfl ?_
            exact wp_iret (z := false) rfl (fun h9 => by cases h9) ⟨a15, rfl, ha15, ⟨FR.tr (FR.rf) (FR.sub fa15.1 (by decide)), PF.bad fa15.2.1 fa15.2.2 (fun h0 => by rw [g9]; first | (rw [if_neg (by omega)]; exact ⟨by omega, by omega⟩) | (rw [if_pos (by omega), if_pos (by omega)]; exact ⟨by omega, by omega⟩)) (by omega) (by omega)⟩, ⟨_, rfl, by omega⟩⟩
        · skip
          refine w_aload rfl rfl ?_
          refine w_getR (v := .inr (.inr (some 4))) rfl rfl rfl rfl rfl ?_
          refine w_aload rfl rfl ?_
          refine w_getI (v := .inl (a 0 7)) rfl rfl rfl rfl rfl ?_
          have q25 : 0 ≤ (a 0 7).toInt ∧ (a 0 7).toInt ≤ 1000 := hR 0 7
          refine m_lald rfl rfl (by omega) (fun y26 ey26 => ?_)
          refine w_iload rfl rfl ?_
          refine w_i2lE rfl (fun y27 ty27 => ?_)
          refine w_lcmpE rfl (fun x28 tx28 => ?_)
          have c9 := cmp_ti tx28
          have c8 := i2l_ti (x := r) ty27
          have e8 := congrArg Int64.toInt ey26
          refine w_if_le rfl (fun c29 => ?_) (fun c29 => ?_)
          · skip
            refine w_aload rfl rfl ?_
            refine w_getI (v := .inl (a 0 8)) rfl rfl rfl rfl rfl ?_
            have q30 : 0 ≤ (a 0 8).toInt ∧ (a 0 8).toInt ≤ 2147483647 := hR 0 8
            refine w_if_le rfl (fun c31 => ?_) (fun c31 => ?_)
            · skip
              have y9 : (a 0 7).toInt < N := k3 (by omega)
              refine w_aload rfl rfl ?_
              refine w_dup rfl rfl ?_
              refine w_getI (v := .inl (a 0 7)) rfl rfl rfl rfl rfl ?_
              have q32 : 0 ≤ (a 0 7).toInt ∧ (a 0 7).toInt ≤ 1000 := hR 0 7
              refine w_const rfl ?_
              first | refine w_iadd rfl (by omega) (fun x33 tx33 => ?_) | refine w_iiU rfl (fun x33 tx33 => ?_)
              refine m_putI (z := false) rfl rfl rfl rfl (by first | (intro h9; cases h9; done) | (intro _; first | exact Or.inl rfl | exact Or.inr rfl | assumption)) (fun a34 ea34 => ?_)
              have ha34 : RM K a34 := RM.up hR ea34 (show (0 : Int) ≤ _ ∧ _ ≤ (1000 : Int) from by omega)
              have ua34_7 : a34 0 7 = x33 := by rw [ea34, mU_same]
              have wa34_7 := congrArg Int32.toInt ua34_7
              have ua34_8 : (a34 0 8).toInt = (a 0 8).toInt := by rw [ea34, mU_slot (by decide)]
              refine w_aload rfl rfl ?_
              refine w_getR (v := .inr (.inr (some 4))) rfl rfl rfl rfl rfl ?_
              refine w_aload rfl rfl ?_
              refine w_getI (v := .inl (a34 0 7)) rfl rfl rfl rfl rfl ?_
              have q35 : 0 ≤ (a34 0 7).toInt ∧ (a34 0 7).toInt ≤ 1000 := ha34 0 7
              refine w_const rfl ?_
              first | refine w_isub rfl (by omega) (fun x36 tx36 => ?_) | refine w_iiU rfl (fun x36 tx36 => ?_)
              refine m_lald rfl rfl (by omega) (fun y37 ey37 => ?_)
              have i9 : y37 = b 4 (a 0 7).toInt.toNat := by rw [ey37]; congr 1; omega
              have i8 := congrArg Int64.toInt i9
              refine w_l2iE rfl (fun x38 tx38 => ?_)
              have x9 := l2i_ti tx38 (by omega)
              exact wp_iret (z := false) rfl (fun h9 => by cases h9) ⟨a34, rfl, ha34, ⟨FR.up (FR.rf) (by decide) ea34, PF.good ea34 (by omega) (by rw [g9, if_pos (by omega), if_neg (by omega)]) (by omega) (by omega) (by omega)⟩, ⟨_, rfl, by omega⟩⟩
            · skip
              refine w_const rfl ?_
              exact wp_iret (z := false) rfl (fun h9 => by cases h9) ⟨a, rfl, hR, ⟨FR.rf, ⟨⟨fun j _ _ => rfl, Or.inl ⟨by omega, rfl, rfl⟩⟩, by omega, by omega⟩⟩, ⟨_, rfl, by omega⟩⟩
          · skip
            refine w_aload rfl rfl ?_
            refine w_const rfl ?_
            refine w_invV (rest := []) rfl rfl rfl rfl rfl (Nat.le_of_ble_eq_true rfl) rfl (by omega) (s_wrong_9 (K := K) a b  4 hR (by omega)) (fun v39 h9 hq40 => ?_)
            obtain ⟨a41, rfl, ha41, fa41, rfl⟩ := hq40
            show f_wp _ (70, [some (.inr (.inr (some 0))), some (.inl p), some (.inl r)], [], mH a41 b) _
            have y7 : (a41 0 7).toInt = (a 0 7).toInt := by rw [fa41.2.1 7 (by decide)]
            have w9 := fa41
            refine w_aload rfl rfl ?_
            refine w_getI (v := .inl (a41 0 8)) rfl rfl rfl rfl rfl ?_
            have q42 : 0 ≤ (a41 0 8).toInt ∧ (a41 0 8).toInt ≤ 2147483647 := ha41 0 8
            refine w_if_le rfl (fun c43 => ?_) (fun c43 => ?_)
            · skip
              have y9 : (a 0 7).toInt < N := k3 (by omega)
              refine w_aload rfl rfl ?_
              refine w_dup rfl rfl ?_
              refine w_getI (v := .inl (a41 0 7)) rfl rfl rfl rfl rfl ?_
              have q44 : 0 ≤ (a41 0 7).toInt ∧ (a41 0 7).toInt ≤ 1000 := ha41 0 7
              refine w_const rfl ?_
              first | refine w_iadd rfl (by omega) (fun x45 tx45 => ?_) | refine w_iiU rfl (fun x45 tx45 => ?_)
              refine m_putI (z := false) rfl rfl rfl rfl (by first | (intro h9; cases h9; done) | (intro _; first | exact Or.inl rfl | exact Or.inr rfl | assumption)) (fun a46 ea46 => ?_)
              have ha46 : RM K a46 := RM.up ha41 ea46 (show (0 : Int) ≤ _ ∧ _ ≤ (1000 : Int) from by omega)
              have ua46_7 : a46 0 7 = x45 := by rw [ea46, mU_same]
              have wa46_7 := congrArg Int32.toInt ua46_7
              have ua46_8 : (a46 0 8).toInt = (a41 0 8).toInt := by rw [ea46, mU_slot (by decide)]
              refine w_aload rfl rfl ?_
              refine w_getR (v := .inr (.inr (some 4))) rfl rfl rfl rfl rfl ?_
              refine w_aload rfl rfl ?_
              refine w_getI (v := .inl (a46 0 7)) rfl rfl rfl rfl rfl ?_
              have q47 : 0 ≤ (a46 0 7).toInt ∧ (a46 0 7).toInt ≤ 1000 := ha46 0 7
              refine w_const rfl ?_
              first | refine w_isub rfl (by omega) (fun x48 tx48 => ?_) | refine w_iiU rfl (fun x48 tx48 => ?_)
              refine m_lald rfl rfl (by omega) (fun y49 ey49 => ?_)
              have i9 : y49 = b 4 (a 0 7).toInt.toNat := by rw [ey49]; congr 1; omega
              have i8 := congrArg Int64.toInt i9
              refine w_l2iE rfl (fun x50 tx50 => ?_)
              have x9 := l2i_ti tx50 (by omega)
              exact wp_iret (z := false) rfl (fun h9 => by cases h9) ⟨a46, rfl, ha46, ⟨FR.up (FR.tr (FR.rf) (FR.sub fa41.1 (by decide))) (by decide) ea46, absurd l0 (by omega)⟩, ⟨_, rfl, by omega⟩⟩
            · skip
              refine w_const rfl ?_
              exact wp_iret (z := false) rfl (fun h9 => by cases h9) ⟨a41, rfl, ha41, ⟨FR.tr (FR.rf) (FR.sub fa41.1 (by decide)), PF.bad fa41.2.1 fa41.2.2 (fun h0 => by rw [g9]; first | (rw [if_neg (by omega)]; exact ⟨by omega, by omega⟩) | (rw [if_pos (by omega), if_pos (by omega)]; exact ⟨by omega, by omega⟩)) (by omega) (by omega)⟩, ⟨_, rfl, by omega⟩⟩
      · skip
        refine w_aload rfl rfl ?_
        refine w_getI (v := .inl (a 0 8)) rfl rfl rfl rfl rfl ?_
        have q51 : 0 ≤ (a 0 8).toInt ∧ (a 0 8).toInt ≤ 2147483647 := hR 0 8
        refine w_if_le rfl (fun c52 => ?_) (fun c52 => ?_)
        · skip
          have y9 : (a 0 7).toInt < N := k3 (by omega)
          refine w_aload rfl rfl ?_
          refine w_dup rfl rfl ?_
          refine w_getI (v := .inl (a 0 7)) rfl rfl rfl rfl rfl ?_
          have q53 : 0 ≤ (a 0 7).toInt ∧ (a 0 7).toInt ≤ 1000 := hR 0 7
          refine w_const rfl ?_
          first | refine w_iadd rfl (by omega) (fun x54 tx54 => ?_) | refine w_iiU rfl (fun x54 tx54 => ?_)
          refine m_putI (z := false) rfl rfl rfl rfl (by first | (intro h9; cases h9; done) | (intro _; first | exact Or.inl rfl | exact Or.inr rfl | assumption)) (fun a55 ea55 => ?_)
          have ha55 : RM K a55 := RM.up hR ea55 (show (0 : Int) ≤ _ ∧ _ ≤ (1000 : Int) from by omega)
          have ua55_7 : a55 0 7 = x54 := by rw [ea55, mU_same]
          have wa55_7 := congrArg Int32.toInt ua55_7
          have ua55_8 : (a55 0 8).toInt = (a 0 8).toInt := by rw [ea55, mU_slot (by decide)]
          refine w_aload rfl rfl ?_
          refine w_getR (v := .inr (.inr (some 4))) rfl rfl rfl rfl rfl ?_
          refine w_aload rfl rfl ?_
          refine w_getI (v := .inl (a55 0 7)) rfl rfl rfl rfl rfl ?_
          have q56 : 0 ≤ (a55 0 7).toInt ∧ (a55 0 7).toInt ≤ 1000 := ha55 0 7
          refine w_const rfl ?_
          first | refine w_isub rfl (by omega) (fun x57 tx57 => ?_) | refine w_iiU rfl (fun x57 tx57 => ?_)
          refine m_lald rfl rfl (by omega) (fun y58 ey58 => ?_)
          have i9 : y58 = b 4 (a 0 7).toInt.toNat := by rw [ey58]; congr 1; omega
          have i8 := congrArg Int64.toInt i9
          refine w_l2iE rfl (fun x59 tx59 => ?_)
          have x9 := l2i_ti tx59 (by omega)
          exact wp_iret (z := false) rfl (fun h9 => by cases h9) ⟨a55, rfl, ha55, ⟨FR.up (FR.rf) (by decide) ea55, PF.good ea55 (by omega) (by rw [g9, if_pos (by omega), if_neg (by omega)]) (by omega) (by omega) (by omega)⟩, ⟨_, rfl, by omega⟩⟩
        · skip
          refine w_const rfl ?_
          exact wp_iret (z := false) rfl (fun h9 => by cases h9) ⟨a, rfl, hR, ⟨FR.rf, ⟨⟨fun j _ _ => rfl, Or.inl ⟨by omega, rfl, rfl⟩⟩, by omega, by omega⟩⟩, ⟨_, rfl, by omega⟩⟩
    · skip
      refine w_aload rfl rfl ?_
      refine w_const rfl ?_
      refine w_invV (rest := []) rfl rfl rfl rfl rfl (Nat.le_of_ble_eq_true rfl) rfl (by omega) (s_wrong_9 (K := K) a b  1 hR (by omega)) (fun v60 h9 hq61 => ?_)
      obtain ⟨a62, rfl, ha62, fa62, rfl⟩ := hq61
      show f_wp _ (25, [some (.inr (.inr (some 0))), some (.inl p), some (.inl r)], [], mH a62 b) _
      have y7 : (a62 0 7).toInt = (a 0 7).toInt := by rw [fa62.2.1 7 (by decide)]
      have w9 := fa62
      refine w_goto rfl ?_
      refine w_aload rfl rfl ?_
      refine w_getI (v := .inl (a62 0 8)) rfl rfl rfl rfl rfl ?_
      have q63 : 0 ≤ (a62 0 8).toInt ∧ (a62 0 8).toInt ≤ 2147483647 := ha62 0 8
      refine w_if_le rfl (fun c64 => ?_) (fun c64 => ?_)
      · skip
        have y9 : (a 0 7).toInt < N := k3 (by omega)
        refine w_aload rfl rfl ?_
        refine w_dup rfl rfl ?_
        refine w_getI (v := .inl (a62 0 7)) rfl rfl rfl rfl rfl ?_
        have q65 : 0 ≤ (a62 0 7).toInt ∧ (a62 0 7).toInt ≤ 1000 := ha62 0 7
        refine w_const rfl ?_
        first | refine w_iadd rfl (by omega) (fun x66 tx66 => ?_) | refine w_iiU rfl (fun x66 tx66 => ?_)
        refine m_putI (z := false) rfl rfl rfl rfl (by first | (intro h9; cases h9; done) | (intro _; first | exact Or.inl rfl | exact Or.inr rfl | assumption)) (fun a67 ea67 => ?_)
        have ha67 : RM K a67 := RM.up ha62 ea67 (show (0 : Int) ≤ _ ∧ _ ≤ (1000 : Int) from by omega)
        have ua67_7 : a67 0 7 = x66 := by rw [ea67, mU_same]
        have wa67_7 := congrArg Int32.toInt ua67_7
        have ua67_8 : (a67 0 8).toInt = (a62 0 8).toInt := by rw [ea67, mU_slot (by decide)]
        refine w_aload rfl rfl ?_
        refine w_getR (v := .inr (.inr (some 4))) rfl rfl rfl rfl rfl ?_
        refine w_aload rfl rfl ?_
        refine w_getI (v := .inl (a67 0 7)) rfl rfl rfl rfl rfl ?_
        have q68 : 0 ≤ (a67 0 7).toInt ∧ (a67 0 7).toInt ≤ 1000 := ha67 0 7
        refine w_const rfl ?_
        first | refine w_isub rfl (by omega) (fun x69 tx69 => ?_) | refine w_iiU rfl (fun x69 tx69 => ?_)
        refine m_lald rfl rfl (by omega) (fun y70 ey70 => ?_)
        have i9 : y70 = b 4 (a 0 7).toInt.toNat := by rw [ey70]; congr 1; omega
        have i8 := congrArg Int64.toInt i9
        refine w_l2iE rfl (fun x71 tx71 => ?_)
        have x9 := l2i_ti tx71 (by omega)
        exact wp_iret (z := false) rfl (fun h9 => by cases h9) ⟨a67, rfl, ha67, ⟨FR.up (FR.tr (FR.rf) (FR.sub fa62.1 (by decide))) (by decide) ea67, absurd l0 (by omega)⟩, ⟨_, rfl, by omega⟩⟩
      · skip
        refine w_const rfl ?_
        exact wp_iret (z := false) rfl (fun h9 => by cases h9) ⟨a62, rfl, ha62, ⟨FR.tr (FR.rf) (FR.sub fa62.1 (by decide)), PF.bad fa62.2.1 fa62.2.2 (fun h0 => by rw [g9]; first | (rw [if_neg (by omega)]; exact ⟨by omega, by omega⟩) | (rw [if_pos (by omega), if_pos (by omega)]; exact ⟨by omega, by omega⟩)) (by omega) (by omega)⟩, ⟨_, rfl, by omega⟩⟩
  · skip
    refine w_aload rfl rfl ?_
    refine w_getI (v := .inl (a 0 8)) rfl rfl rfl rfl rfl ?_
    have q72 : 0 ≤ (a 0 8).toInt ∧ (a 0 8).toInt ≤ 2147483647 := hR 0 8
    refine w_if_ne rfl (fun c73 => ?_) (fun c73 => ?_)
    · skip
      refine w_aload rfl rfl ?_
      refine w_getR (v := .inr (.inr (some 4))) rfl rfl rfl rfl rfl ?_
      refine w_aload rfl rfl ?_
      refine w_getI (v := .inl (a 0 7)) rfl rfl rfl rfl rfl ?_
      have q74 : 0 ≤ (a 0 7).toInt ∧ (a 0 7).toInt ≤ 1000 := hR 0 7
      refine m_lald rfl rfl (by omega) (fun y75 ey75 => ?_)
      refine w_iload rfl rfl ?_
      refine w_i2lE rfl (fun y76 ty76 => ?_)
      refine w_lcmpE rfl (fun x77 tx77 => ?_)
      have c9 := cmp_ti tx77
      have c8 := i2l_ti (x := p) ty76
      have e8 := congrArg Int64.toInt ey75
      refine w_if_lt rfl (fun c78 => ?_) (fun c78 => ?_)
      · skip
        refine w_aload rfl rfl ?_
        refine w_const rfl ?_
        refine w_invV (rest := []) rfl rfl rfl rfl rfl (Nat.le_of_ble_eq_true rfl) rfl (by omega) (s_wrong_9 (K := K) a b  4 hR (by omega)) (fun v79 h9 hq80 => ?_)
        obtain ⟨a81, rfl, ha81, fa81, rfl⟩ := hq80
        show f_wp _ (70, [some (.inr (.inr (some 0))), some (.inl p), some (.inl r)], [], mH a81 b) _
        have y7 : (a81 0 7).toInt = (a 0 7).toInt := by rw [fa81.2.1 7 (by decide)]
        have w9 := fa81
        refine w_aload rfl rfl ?_
        refine w_getI (v := .inl (a81 0 8)) rfl rfl rfl rfl rfl ?_
        have q82 : 0 ≤ (a81 0 8).toInt ∧ (a81 0 8).toInt ≤ 2147483647 := ha81 0 8
        refine w_if_le rfl (fun c83 => ?_) (fun c83 => ?_)
        · skip
          have y9 : (a 0 7).toInt < N := k3 (by omega)
          refine w_aload rfl rfl ?_
          refine w_dup rfl rfl ?_
          refine w_getI (v := .inl (a81 0 7)) rfl rfl rfl rfl rfl ?_
          have q84 : 0 ≤ (a81 0 7).toInt ∧ (a81 0 7).toInt ≤ 1000 := ha81 0 7
          refine w_const rfl ?_
          first | refine w_iadd rfl (by omega) (fun x85 tx85 => ?_) | refine w_iiU rfl (fun x85 tx85 => ?_)
          refine m_putI (z := false) rfl rfl rfl rfl (by first | (intro h9; cases h9; done) | (intro _; first | exact Or.inl rfl | exact Or.inr rfl | assumption)) (fun a86 ea86 => ?_)
          have ha86 : RM K a86 := RM.up ha81 ea86 (show (0 : Int) ≤ _ ∧ _ ≤ (1000 : Int) from by omega)
          have ua86_7 : a86 0 7 = x85 := by rw [ea86, mU_same]
          have wa86_7 := congrArg Int32.toInt ua86_7
          have ua86_8 : (a86 0 8).toInt = (a81 0 8).toInt := by rw [ea86, mU_slot (by decide)]
          refine w_aload rfl rfl ?_
          refine w_getR (v := .inr (.inr (some 4))) rfl rfl rfl rfl rfl ?_
          refine w_aload rfl rfl ?_
          refine w_getI (v := .inl (a86 0 7)) rfl rfl rfl rfl rfl ?_
          have q87 : 0 ≤ (a86 0 7).toInt ∧ (a86 0 7).toInt ≤ 1000 := ha86 0 7
          refine w_const rfl ?_
          first | refine w_isub rfl (by omega) (fun x88 tx88 => ?_) | refine w_iiU rfl (fun x88 tx88 => ?_)
          refine m_lald rfl rfl (by omega) (fun y89 ey89 => ?_)
          have i9 : y89 = b 4 (a 0 7).toInt.toNat := by rw [ey89]; congr 1; omega
          have i8 := congrArg Int64.toInt i9
          refine w_l2iE rfl (fun x90 tx90 => ?_)
          have x9 := l2i_ti tx90 (by omega)
          exact wp_iret (z := false) rfl (fun h9 => by cases h9) ⟨a86, rfl, ha86, ⟨FR.up (FR.tr (FR.rf) (FR.sub fa81.1 (by decide))) (by decide) ea86, absurd l0 (by omega)⟩, ⟨_, rfl, by omega⟩⟩
        · skip
          refine w_const rfl ?_
          exact wp_iret (z := false) rfl (fun h9 => by cases h9) ⟨a81, rfl, ha81, ⟨FR.tr (FR.rf) (FR.sub fa81.1 (by decide)), PF.bad fa81.2.1 fa81.2.2 (fun h0 => by rw [g9]; first | (rw [if_neg (by omega)]; exact ⟨by omega, by omega⟩) | (rw [if_pos (by omega), if_pos (by omega)]; exact ⟨by omega, by omega⟩)) (by omega) (by omega)⟩, ⟨_, rfl, by omega⟩⟩
      · skip
        refine w_aload rfl rfl ?_
        refine w_getR (v := .inr (.inr (some 4))) rfl rfl rfl rfl rfl ?_
        refine w_aload rfl rfl ?_
        refine w_getI (v := .inl (a 0 7)) rfl rfl rfl rfl rfl ?_
        have q91 : 0 ≤ (a 0 7).toInt ∧ (a 0 7).toInt ≤ 1000 := hR 0 7
        refine m_lald rfl rfl (by omega) (fun y92 ey92 => ?_)
        refine w_iload rfl rfl ?_
        refine w_i2lE rfl (fun y93 ty93 => ?_)
        refine w_lcmpE rfl (fun x94 tx94 => ?_)
        have c9 := cmp_ti tx94
        have c8 := i2l_ti (x := r) ty93
        have e8 := congrArg Int64.toInt ey92
        refine w_if_le rfl (fun c95 => ?_) (fun c95 => ?_)
        · skip
          refine w_aload rfl rfl ?_
          refine w_getI (v := .inl (a 0 8)) rfl rfl rfl rfl rfl ?_
          have q96 : 0 ≤ (a 0 8).toInt ∧ (a 0 8).toInt ≤ 2147483647 := hR 0 8
          refine w_if_le rfl (fun c97 => ?_) (fun c97 => ?_)
          · skip
            have y9 : (a 0 7).toInt < N := k3 (by omega)
            refine w_aload rfl rfl ?_
            refine w_dup rfl rfl ?_
            refine w_getI (v := .inl (a 0 7)) rfl rfl rfl rfl rfl ?_
            have q98 : 0 ≤ (a 0 7).toInt ∧ (a 0 7).toInt ≤ 1000 := hR 0 7
            refine w_const rfl ?_
            first | refine w_iadd rfl (by omega) (fun x99 tx99 => ?_) | refine w_iiU rfl (fun x99 tx99 => ?_)
            refine m_putI (z := false) rfl rfl rfl rfl (by first | (intro h9; cases h9; done) | (intro _; first | exact Or.inl rfl | exact Or.inr rfl | assumption)) (fun a100 ea100 => ?_)
            have ha100 : RM K a100 := RM.up hR ea100 (show (0 : Int) ≤ _ ∧ _ ≤ (1000 : Int) from by omega)
            have ua100_7 : a100 0 7 = x99 := by rw [ea100, mU_same]
            have wa100_7 := congrArg Int32.toInt ua100_7
            have ua100_8 : (a100 0 8).toInt = (a 0 8).toInt := by rw [ea100, mU_slot (by decide)]
            refine w_aload rfl rfl ?_
            refine w_getR (v := .inr (.inr (some 4))) rfl rfl rfl rfl rfl ?_
            refine w_aload rfl rfl ?_
            refine w_getI (v := .inl (a100 0 7)) rfl rfl rfl rfl rfl ?_
            have q101 : 0 ≤ (a100 0 7).toInt ∧ (a100 0 7).toInt ≤ 1000 := ha100 0 7
            refine w_const rfl ?_
            first | refine w_isub rfl (by omega) (fun x102 tx102 => ?_) | refine w_iiU rfl (fun x102 tx102 => ?_)
            refine m_lald rfl rfl (by omega) (fun y103 ey103 => ?_)
            have i9 : y103 = b 4 (a 0 7).toInt.toNat := by rw [ey103]; congr 1; omega
            have i8 := congrArg Int64.toInt i9
            refine w_l2iE rfl (fun x104 tx104 => ?_)
            have x9 := l2i_ti tx104 (by omega)
            exact wp_iret (z := false) rfl (fun h9 => by cases h9) ⟨a100, rfl, ha100, ⟨FR.up (FR.rf) (by decide) ea100, PF.good ea100 (by omega) (by rw [g9, if_pos (by omega), if_neg (by omega)]) (by omega) (by omega) (by omega)⟩, ⟨_, rfl, by omega⟩⟩
          · skip
            refine w_const rfl ?_
            exact wp_iret (z := false) rfl (fun h9 => by cases h9) ⟨a, rfl, hR, ⟨FR.rf, ⟨⟨fun j _ _ => rfl, Or.inl ⟨by omega, rfl, rfl⟩⟩, by omega, by omega⟩⟩, ⟨_, rfl, by omega⟩⟩
        · skip
          refine w_aload rfl rfl ?_
          refine w_const rfl ?_
          refine w_invV (rest := []) rfl rfl rfl rfl rfl (Nat.le_of_ble_eq_true rfl) rfl (by omega) (s_wrong_9 (K := K) a b  4 hR (by omega)) (fun v105 h9 hq106 => ?_)
          obtain ⟨a107, rfl, ha107, fa107, rfl⟩ := hq106
          show f_wp _ (70, [some (.inr (.inr (some 0))), some (.inl p), some (.inl r)], [], mH a107 b) _
          have y7 : (a107 0 7).toInt = (a 0 7).toInt := by rw [fa107.2.1 7 (by decide)]
          have w9 := fa107
          refine w_aload rfl rfl ?_
          refine w_getI (v := .inl (a107 0 8)) rfl rfl rfl rfl rfl ?_
          have q108 : 0 ≤ (a107 0 8).toInt ∧ (a107 0 8).toInt ≤ 2147483647 := ha107 0 8
          refine w_if_le rfl (fun c109 => ?_) (fun c109 => ?_)
          · skip
            have y9 : (a 0 7).toInt < N := k3 (by omega)
            refine w_aload rfl rfl ?_
            refine w_dup rfl rfl ?_
            refine w_getI (v := .inl (a107 0 7)) rfl rfl rfl rfl rfl ?_
            have q110 : 0 ≤ (a107 0 7).toInt ∧ (a107 0 7).toInt ≤ 1000 := ha107 0 7
            refine w_const rfl ?_
            first | refine w_iadd rfl (by omega) (fun x111 tx111 => ?_) | refine w_iiU rfl (fun x111 tx111 => ?_)
            refine m_putI (z := false) rfl rfl rfl rfl (by first | (intro h9; cases h9; done) | (intro _; first | exact Or.inl rfl | exact Or.inr rfl | assumption)) (fun a112 ea112 => ?_)
            have ha112 : RM K a112 := RM.up ha107 ea112 (show (0 : Int) ≤ _ ∧ _ ≤ (1000 : Int) from by omega)
            have ua112_7 : a112 0 7 = x111 := by rw [ea112, mU_same]
            have wa112_7 := congrArg Int32.toInt ua112_7
            have ua112_8 : (a112 0 8).toInt = (a107 0 8).toInt := by rw [ea112, mU_slot (by decide)]
            refine w_aload rfl rfl ?_
            refine w_getR (v := .inr (.inr (some 4))) rfl rfl rfl rfl rfl ?_
            refine w_aload rfl rfl ?_
            refine w_getI (v := .inl (a112 0 7)) rfl rfl rfl rfl rfl ?_
            have q113 : 0 ≤ (a112 0 7).toInt ∧ (a112 0 7).toInt ≤ 1000 := ha112 0 7
            refine w_const rfl ?_
            first | refine w_isub rfl (by omega) (fun x114 tx114 => ?_) | refine w_iiU rfl (fun x114 tx114 => ?_)
            refine m_lald rfl rfl (by omega) (fun y115 ey115 => ?_)
            have i9 : y115 = b 4 (a 0 7).toInt.toNat := by rw [ey115]; congr 1; omega
            have i8 := congrArg Int64.toInt i9
            refine w_l2iE rfl (fun x116 tx116 => ?_)
            have x9 := l2i_ti tx116 (by omega)
            exact wp_iret (z := false) rfl (fun h9 => by cases h9) ⟨a112, rfl, ha112, ⟨FR.up (FR.tr (FR.rf) (FR.sub fa107.1 (by decide))) (by decide) ea112, absurd l0 (by omega)⟩, ⟨_, rfl, by omega⟩⟩
          · skip
            refine w_const rfl ?_
            exact wp_iret (z := false) rfl (fun h9 => by cases h9) ⟨a107, rfl, ha107, ⟨FR.tr (FR.rf) (FR.sub fa107.1 (by decide)), PF.bad fa107.2.1 fa107.2.2 (fun h0 => by rw [g9]; first | (rw [if_neg (by omega)]; exact ⟨by omega, by omega⟩) | (rw [if_pos (by omega), if_pos (by omega)]; exact ⟨by omega, by omega⟩)) (by omega) (by omega)⟩, ⟨_, rfl, by omega⟩⟩
    · skip
      refine w_aload rfl rfl ?_
      refine w_getI (v := .inl (a 0 8)) rfl rfl rfl rfl rfl ?_
      have q117 : 0 ≤ (a 0 8).toInt ∧ (a 0 8).toInt ≤ 2147483647 := hR 0 8
      refine w_if_le rfl (fun c118 => ?_) (fun c118 => ?_)
      · skip
        have y9 : (a 0 7).toInt < N := k3 (by omega)
        refine w_aload rfl rfl ?_
        refine w_dup rfl rfl ?_
        refine w_getI (v := .inl (a 0 7)) rfl rfl rfl rfl rfl ?_
        have q119 : 0 ≤ (a 0 7).toInt ∧ (a 0 7).toInt ≤ 1000 := hR 0 7
        refine w_const rfl ?_
        first | refine w_iadd rfl (by omega) (fun x120 tx120 => ?_) | refine w_iiU rfl (fun x120 tx120 => ?_)
        refine m_putI (z := false) rfl rfl rfl rfl (by first | (intro h9; cases h9; done) | (intro _; first | exact Or.inl rfl | exact Or.inr rfl | assumption)) (fun a121 ea121 => ?_)
        have ha121 : RM K a121 := RM.up hR ea121 (show (0 : Int) ≤ _ ∧ _ ≤ (1000 : Int) from by omega)
        have ua121_7 : a121 0 7 = x120 := by rw [ea121, mU_same]
        have wa121_7 := congrArg Int32.toInt ua121_7
        have ua121_8 : (a121 0 8).toInt = (a 0 8).toInt := by rw [ea121, mU_slot (by decide)]
        refine w_aload rfl rfl ?_
        refine w_getR (v := .inr (.inr (some 4))) rfl rfl rfl rfl rfl ?_
        refine w_aload rfl rfl ?_
        refine w_getI (v := .inl (a121 0 7)) rfl rfl rfl rfl rfl ?_
        have q122 : 0 ≤ (a121 0 7).toInt ∧ (a121 0 7).toInt ≤ 1000 := ha121 0 7
        refine w_const rfl ?_
        first | refine w_isub rfl (by omega) (fun x123 tx123 => ?_) | refine w_iiU rfl (fun x123 tx123 => ?_)
        refine m_lald rfl rfl (by omega) (fun y124 ey124 => ?_)
        have i9 : y124 = b 4 (a 0 7).toInt.toNat := by rw [ey124]; congr 1; omega
        have i8 := congrArg Int64.toInt i9
        refine w_l2iE rfl (fun x125 tx125 => ?_)
        have x9 := l2i_ti tx125 (by omega)
        exact wp_iret (z := false) rfl (fun h9 => by cases h9) ⟨a121, rfl, ha121, ⟨FR.up (FR.rf) (by decide) ea121, PF.good ea121 (by omega) (by rw [g9, if_pos (by omega), if_neg (by omega)]) (by omega) (by omega) (by omega)⟩, ⟨_, rfl, by omega⟩⟩
      · skip
        refine w_const rfl ?_
        exact wp_iret (z := false) rfl (fun h9 => by cases h9) ⟨a, rfl, hR, ⟨FR.rf, ⟨⟨fun j _ _ => rfl, Or.inl ⟨by omega, rfl, rfl⟩⟩, by omega, by omega⟩⟩, ⟨_, rfl, by omega⟩⟩
set_option maxHeartbeats 2000000 in
set_option maxRecDepth 4000 in
theorem s_will_9 {K : Nat} (a : Nat → Nat → Int32) (b : Nat → Nat → Int64) (z : Nat) (t : Nat → Int32) (hR : RM K a) (ht : a 1 = t) (hz0 : (a 0 2).toInt.toNat = z) (hw5 : ∀ w, w < 31 → b 5 (wMi.getD w 0) = wMd.getD w 0) : f_call mtM 6 28 [.inr (.inr (some 0))] (mH a b) (fun v9 h' => ∃ (a' : Nat → Nat → Int32) (b' : Nat → Nat → Int64), h' = mH a' b' ∧ RM K a' ∧ (FR [0, 2, 3, 12, 15] a a' ∧ (∀ m9, m9 < 22 → ACm m9 a → ACm m9 a') ∧ ((a' 0 2).toInt = 0 ∧ b' 5 = b 5)) ∧ ∃ x : Int32, v9 = some (.inl x) ∧ x.toInt = wlF t z 8 0 0) := by
  refine f_call_of (d0 := 5) rfl (Nat.le_of_ble_eq_true rfl) (fun d hd => ?_)
  show f_wp _ (0, [some (.inr (.inr (some 0))), none, none], [], mH a b) _
  have l0 : (0 : Int32).toInt = 0 := rfl
  have l1 : (1 : Int32).toInt = 1 := rfl
  have l5 : (5 : Int32).toInt = 5 := rfl
  have l6 : (6 : Int32).toInt = 6 := rfl
  have l19 : (19 : Int32).toInt = 19 := rfl
  have l20 : (20 : Int32).toInt = 20 := rfl
  have l59 : (59 : Int32).toInt = 59 := rfl
  have l99 : (99 : Int32).toInt = 99 := rfl
  have z2 : 0 ≤ (a 0 2).toInt ∧ (a 0 2).toInt ≤ 1000 := hR 0 2
  refine w_aload rfl rfl ?_
  refine w_const rfl ?_
  refine m_putI (z := false) rfl rfl rfl rfl (by first | (intro h9; cases h9; done) | (intro _; first | exact Or.inl rfl | exact Or.inr rfl | assumption)) (fun a1 ea1 => ?_)
  have ha1 : RM K a1 := RM.up hR ea1 ⟨ti_lo _, ti_hi _⟩
  have ua1_0 : a1 0 0 = (0 : Int32) := by rw [ea1, mU_same]
  have wa1_0 := congrArg Int32.toInt ua1_0
  refine w_aload rfl rfl ?_
  refine w_invV (rest := []) rfl rfl rfl rfl rfl (Nat.le_of_ble_eq_true rfl) rfl (by omega) (s_cutAll_1 (K := K) a1 b   ha1 ) (fun v2 h9 hq3 => ?_)
  obtain ⟨a4, b5, rfl, ha4, fa4, rfl⟩ := hq3
  show f_wp _ (9, [some (.inr (.inr (some 0))), none, none], [], mH a4 b5) _
  obtain ⟨N, hN⟩ := fa4.2.2.2.2.1
  have ce := fa4
  have B1 : PA t z N a4 b5 := ⟨by have h9 : TKM (a 1) (a 0 2).toInt.toNat N a4 b5 := (by rw [ea1] at hN; exact hN); rw [ht, hz0] at h9; exact h9, by omega, by omega, fun w hw => by rw [ce.2.2.2.2.2.2 5 (by decide)]; exact hw5 w hw⟩
  have loop96 : ∀ (ms9 : Nat) (n : Int32) (a96 : Nat → Nat → Int32) (b96 : Nat → Nat → Int64) , ((0 : Int)).toNat = ms9 → RM K a96 → FR [0, 2, 3, 12, 15] a a96 → (∀ m9, m9 < 22 → ACm m9 a → ACm m9 a96) → (0 ≤ n.toInt ∧ n.toInt ≤ 6) → ((a96 0 2).toInt = 0) → (b96 5 = b 5) → ((a96 0 8).toInt = wlF t z 8 0 0) → f_wp (f_code (t_X13_will (f_ev mtM d))) (96, [some (.inr (.inr (some 0))), some (.inl n), none], [], mH a96 b96) (fun v9 h' => ∃ (a' : Nat → Nat → Int32) (b' : Nat → Nat → Int64), h' = mH a' b' ∧ RM K a' ∧ (FR [0, 2, 3, 12, 15] a a' ∧ (∀ m9, m9 < 22 → ACm m9 a → ACm m9 a') ∧ ((a' 0 2).toInt = 0 ∧ b' 5 = b 5)) ∧ ∃ x : Int32, v9 = some (.inl x) ∧ x.toInt = wlF t z 8 0 0) := by
    intro ms9
    induction ms9 using Nat.strongRecOn with
    | _ ms96 ih96 =>
      intro n a96 b96  hm96 hR96 hF96 hC96 hn h02 hB hX
      refine w_aload rfl rfl ?_
      refine w_getI (v := .inl (a96 0 8)) rfl rfl rfl rfl rfl ?_
      have q6 : 0 ≤ (a96 0 8).toInt ∧ (a96 0 8).toInt ≤ 2147483647 := hR96 0 8
      refine w_if_le rfl (fun c7 => ?_) (fun c7 => ?_)
      · skip
        refine w_aload rfl rfl ?_
        refine w_getR (v := .inr (.inr (some 15))) rfl rfl rfl rfl rfl ?_
        refine w_const rfl ?_
        refine w_iload rfl rfl ?_
        refine m_iast rfl rfl (by omega) (fun a8 ea8 => ?_)
        have ha8 : RM K a8 := RM.up hR96 ea8 (show (-1 : Int) ≤ _ ∧ _ ≤ (6 : Int) from by omega)
        have ua8_8 : (a8 0 8).toInt = (a96 0 8).toInt := by rw [ea8, mU_cell (by decide)]
        refine w_const rfl ?_
        refine w_istore (lo' := [some (.inr (.inr (some 0))), some (.inl n), some (.inl 0)]) rfl rfl ?_
        have loop118 : ∀ (ms9 : Nat) (i : Int32) (a118 : Nat → Nat → Int32) (b118 : Nat → Nat → Int64) , (6 - i.toInt).toNat = ms9 → RM K a118 → FR [0, 2, 3, 12, 15] a a118 → (∀ m9, m9 < 22 → ACm m9 a → ACm m9 a118) → (0 ≤ i.toInt ∧ i.toInt ≤ 6) → ((a118 0 2).toInt = 0) → (b118 5 = b 5) → f_wp (f_code (t_X13_will (f_ev mtM d))) (118, [some (.inr (.inr (some 0))), some (.inl n), some (.inl i)], [], mH a118 b118) (fun v9 h' => ∃ (a' : Nat → Nat → Int32) (b' : Nat → Nat → Int64), h' = mH a' b' ∧ RM K a' ∧ (FR [0, 2, 3, 12, 15] a a' ∧ (∀ m9, m9 < 22 → ACm m9 a → ACm m9 a') ∧ ((a' 0 2).toInt = 0 ∧ b' 5 = b 5)) ∧ ∃ x : Int32, v9 = some (.inl x) ∧ x.toInt = wlF t z 8 0 0) := by
          intro ms9
          induction ms9 using Nat.strongRecOn with
          | _ ms118 ih118 =>
            intro i a118 b118  hm118 hR118 hF118 hC118 hi h022 hB2
            refine w_iload rfl rfl ?_
            refine w_iload rfl rfl ?_
            refine w_ic_ge rfl (fun c9 => ?_) (fun c9 => ?_)
            · skip
              refine w_const rfl ?_
              exact wp_iret (z := false) rfl (fun h9 => by cases h9) ⟨a118, b118, rfl, hR118, ⟨hF118, hC118, ⟨by first | exact h022 | exact h02, by first | exact hB2 | exact hB⟩⟩, ⟨_, rfl, by omega⟩⟩
            · skip
              refine w_aload rfl rfl ?_
              refine w_getR (v := .inr (.inr (some 15))) rfl rfl rfl rfl rfl ?_
              refine w_const rfl ?_
              refine w_iload rfl rfl ?_
              first | refine w_iadd rfl (by omega) (fun x10 tx10 => ?_) | refine w_iiU rfl (fun x10 tx10 => ?_)
              refine w_aload rfl rfl ?_
              refine w_getR (v := .inr (.inr (some 12))) rfl rfl rfl rfl rfl ?_
              refine w_iload rfl rfl ?_
              refine m_iald rfl rfl (by omega) (fun x11 ex11 => ?_)
              have qx11 : 0 ≤ x11.toInt ∧ x11.toInt ≤ 99 := by rw [ex11]; exact hR118 12 _
              refine m_iast rfl rfl (by omega) (fun a12 ea12 => ?_)
              have ha12 : RM K a12 := RM.up hR118 ea12 (st_will (by omega) (by omega))
              have ua12_8 : (a12 0 8).toInt = (a118 0 8).toInt := by rw [ea12, mU_cell (by decide)]
              refine w_iinc (lo' := fun z9 => [some (.inr (.inr (some 0))), some (.inl n), some (.inl z9)]) rfl rfl (fun _ => rfl) (by omega) (fun x13 tx13 => ?_)
              refine w_goto rfl ?_
              exact ih118 (6 - x13.toInt).toNat (by omega) x13 a12 b118 rfl ha12 (FR.up (hF118) (by decide) ea12) (fun (m9 : Nat) (l9 : m9 < 22) (h7 : ACm m9 a) => ACm.put ((hC118) m9 l9 h7) ea12 (by omega)) (by omega) (by rw [ea12, mU_cell (by decide)]; exact h022) (hB2)
        exact loop118 _ 0 a8 b96 rfl ha8 (FR.up (hF96) (by decide) ea8) (fun (m9 : Nat) (l9 : m9 < 22) (h7 : ACm m9 a) => ACm.put ((hC96) m9 l9 h7) ea8 (by omega)) (by omega) (by rw [ea8, mU_cell (by decide)]; exact h02) (hB)
      · skip
        refine w_aload rfl rfl ?_
        refine w_getI (v := .inl (a96 0 8)) rfl rfl rfl rfl rfl ?_
        have q14 : 0 ≤ (a96 0 8).toInt ∧ (a96 0 8).toInt ≤ 2147483647 := hR96 0 8
        exact wp_iret (z := false) rfl (fun h9 => by cases h9) ⟨a96, b96, rfl, hR96, ⟨hF96, hC96, ⟨by first | exact h022 | exact h02, by first | exact hB2 | exact hB⟩⟩, ⟨_, rfl, by omega⟩⟩
  refine w_const rfl ?_
  refine w_istore (lo' := [some (.inr (.inr (some 0))), some (.inl 0), none]) rfl rfl ?_
  have loop11 : ∀ (ms9 : Nat) (n : Int32) (a11 : Nat → Nat → Int32) (b11 : Nat → Nat → Int64) , (8 - n.toInt + (if (a11 0 8).toInt = 0 then 8 else 0)).toNat = ms9 → RM K a11 → FR [0, 2, 3, 12, 15] a a11 → (∀ m9, m9 < 22 → ACm m9 a → ACm m9 a11) → (0 ≤ n.toInt ∧ n.toInt ≤ 6) → ((a11 0 2).toInt = 0) → (b11 5 = b 5) → (WIM t z N n.toInt.toNat a11 b11 (wlF t z 8 0 0)) → f_wp (f_code (t_X13_will (f_ev mtM d))) (11, [some (.inr (.inr (some 0))), some (.inl n), none], [], mH a11 b11) (fun v9 h' => ∃ (a' : Nat → Nat → Int32) (b' : Nat → Nat → Int64), h' = mH a' b' ∧ RM K a' ∧ (FR [0, 2, 3, 12, 15] a a' ∧ (∀ m9, m9 < 22 → ACm m9 a → ACm m9 a') ∧ ((a' 0 2).toInt = 0 ∧ b' 5 = b 5)) ∧ ∃ x : Int32, v9 = some (.inl x) ∧ x.toInt = wlF t z 8 0 0) := by
    intro ms9
    induction ms9 using Nat.strongRecOn with
    | _ ms11 ih11 =>
      intro n a11 b11  hm11 hR11 hF11 hC11 hn h02 hB hW
      refine w_aload rfl rfl ?_
      refine w_getI (v := .inl (a11 0 8)) rfl rfl rfl rfl rfl ?_
      have q15 : 0 ≤ (a11 0 8).toInt ∧ (a11 0 8).toInt ≤ 2147483647 := hR11 0 8
      refine w_if_ne rfl (fun c16 => ?_) (fun c16 => ?_)
      · skip
        refine w_aload rfl rfl ?_
        refine w_getR (v := .inr (.inr (some 2))) rfl rfl rfl rfl rfl ?_
        refine w_aload rfl rfl ?_
        refine w_getI (v := .inl (a11 0 7)) rfl rfl rfl rfl rfl ?_
        have q17 : 0 ≤ (a11 0 7).toInt ∧ (a11 0 7).toInt ≤ 1000 := hR11 0 7
        refine m_iald rfl rfl (by omega) (fun x18 ex18 => ?_)
        have qx18 : 0 ≤ x18.toInt ∧ x18.toInt ≤ 4 := by rw [ex18]; exact hR11 2 _
        have e9 := congrArg Int32.toInt ex18
        refine w_if_eq rfl (fun c19 => ?_) (fun c19 => ?_)
        · skip
          exact loop96 _ n a11 b11 rfl hR11 (hF11) (hC11) (hn) (h02) (hB) (WIM.done hW (by omega))
        · skip
          have f0 : (a11 0 8).toInt = 0 := by omega
          obtain ⟨g2, g1, g3⟩ := hW.go f0
          have i7 : (a11 0 7).toInt.toNat = 3 * n.toInt.toNat := by omega
          have k1 : (a11 2 (a11 0 7).toInt.toNat).toInt = lxK t z (3 * n.toInt.toNat) := by rw [← i7]; exact hW.1.tok.1
          have k2 : (a11 3 (a11 0 7).toInt.toNat).toInt = lxP t z (3 * n.toInt.toNat) := by rw [← i7]; exact hW.1.tok.2.1
          have k0 : ¬ lxK t z (3 * n.toInt.toNat) = 0 := by omega
          have k3 : (a11 0 7).toInt < N := hW.1.tok.2.2.1 (by rw [i7]; exact k0)
          have c7 := hW.1.2.1
          refine w_aload rfl rfl ?_
          refine w_const rfl ?_
          refine w_invV (rest := []) rfl rfl rfl rfl rfl (Nat.le_of_ble_eq_true rfl) rfl (by omega) (s_isWord_9 (K := K) a11 b11  19 hR11 (by omega)) (fun v20 h9 hq21 => ?_)
          obtain ⟨rfl, x22, rfl, px22⟩ := hq21
          show f_wp _ (36, [some (.inr (.inr (some 0))), some (.inl n), none], [.inl x22], mH a11 b11) _
          have P7 : (x22.toInt = 1 ∧ ((a11 0 8).toInt = 0 ∧ (a11 2 (a11 0 7).toInt.toNat).toInt = 1 ∧ (b11 4 (a11 0 7).toInt.toNat).toInt = (b11 5 (wMi.getD 19 0)).toInt)) ∨ (x22.toInt = 0 ∧ ¬ ((a11 0 8).toInt = 0 ∧ (a11 2 (a11 0 7).toInt.toNat).toInt = 1 ∧ (b11 4 (a11 0 7).toInt.toNat).toInt = (b11 5 (wMi.getD 19 0)).toInt)) := px22
          have P8 : (x22.toInt = 1 ∧ tkW t z (3 * n.toInt.toNat) 19) ∨ (x22.toInt = 0 ∧ ¬ tkW t z (3 * n.toInt.toNat) 19) := by rw [← i7, hW.1.wrd (w := 19) (by decide)]; rcases P7 with h | h; exact Or.inl ⟨h.1, h.2.2⟩; exact Or.inr ⟨h.1, fun h8 => h.2 ⟨f0, h8⟩⟩
          refine w_if_ne rfl (fun c23 => ?_) (fun c23 => ?_)
          · skip
            have W9 : ¬ tkW t z (3 * n.toInt.toNat) 19 := by rcases P8 with h | h; omega; exact h.2
            refine w_aload rfl rfl ?_
            refine w_const rfl ?_
            refine w_invV (rest := []) rfl rfl rfl rfl rfl (Nat.le_of_ble_eq_true rfl) rfl (by omega) (s_wrong_9 (K := K) a11 b11  1 hR11 (by omega)) (fun v24 h9 hq25 => ?_)
            obtain ⟨a26, rfl, ha26, fa26, rfl⟩ := hq25
            show f_wp _ (44, [some (.inr (.inr (some 0))), some (.inl n), none], [], mH a26 b11) _
            have V1 : (a26 0 8).toInt = hlF t z (3 * n.toInt.toNat) n.toInt.toNat := by unfold hlF; rw [if_neg W9]; have h9 := fa26.2.2; omega
            have PA1 : PA t z N a26 b11 := hW.1.fr fa26.1 (by rw [fa26.2.1 7 (by decide)]; exact ⟨hW.1.2.1, hW.1.2.2.1⟩)
            refine w_goto rfl ?_
            refine w_aload rfl rfl ?_
            refine w_const rfl ?_
            refine w_invV (rest := []) rfl rfl rfl rfl rfl (Nat.le_of_ble_eq_true rfl) rfl (by omega) (s_takeSign_9 (K := K) a26 b11 N z t 59 ha26 (by first | exact PA3 | exact PA1) (by omega)) (fun v27 h9 hq28 => ?_)
            obtain ⟨a29, rfl, ha29, fa29, rfl⟩ := hq28
            show f_wp _ (93, [some (.inr (.inr (some 0))), some (.inl n), none], [], mH a29 b11) _
            have S9 := fa29.2.1
            have PA4 := PA.fr (by first | exact PA3 | exact PA1) fa29.1 fa29.2.2
            have o8 : 0 < (a26 0 8).toInt → 0 < (a29 0 8).toInt := fun h => by rcases S9.2 with g | g; (rw [g.2.1]; exact g.1); omega
            have h025 : (a29 0 2).toInt = 0 := by rw [S9.1 2 (by decide) (by decide)]; first | exact h026 | (rw [fa26.2.1 2 (by decide)]; exact h02)
            refine w_goto rfl ?_
            exact ih11 (8 - n.toInt + (if (a29 0 8).toInt = 0 then 8 else 0)).toNat (by rw [if_pos (by omega)] at hm11; split <;> omega) n a29 b11 rfl ha29 (FR.tr (FR.tr (hF11) (FR.sub fa26.1 (by decide))) (FR.sub fa29.1 (by decide))) (fun (m9 : Nat) (l9 : m9 < 22) (h7 : ACm m9 a) => ACm.fr ((fun (m9 : Nat) (l9 : m9 < 22) (h7 : ACm m9 a) => ACm.fr ((hC11) m9 l9 h7) fa26.1 (by decide)) m9 l9 h7) fa29.1 (by decide)) (by omega) (h025) (hB) (WIM.bad hW f0 k0 V1 (by omega) PA4 S9)
          · skip
            have W9 : tkW t z (3 * n.toInt.toNat) 19 := by rcases P8 with h | h; exact h.2; omega
            refine w_iload rfl rfl ?_
            refine w_const rfl ?_
            refine w_ic_ne rfl (fun c30 => ?_) (fun c30 => ?_)
            · skip
              refine w_aload rfl rfl ?_
              refine w_const rfl ?_
              refine w_invV (rest := []) rfl rfl rfl rfl rfl (Nat.le_of_ble_eq_true rfl) rfl (by omega) (s_wrong_9 (K := K) a11 b11  5 hR11 (by omega)) (fun v31 h9 hq32 => ?_)
              obtain ⟨a33, rfl, ha33, fa33, rfl⟩ := hq32
              show f_wp _ (58, [some (.inr (.inr (some 0))), some (.inl n), none], [], mH a33 b11) _
              have V1 : (a33 0 8).toInt = hlF t z (3 * n.toInt.toNat) n.toInt.toNat := by unfold hlF; rw [if_pos W9, if_pos (by omega)]; have h9 := fa33.2.2; omega
              have PA1 : PA t z N a33 b11 := hW.1.fr fa33.1 (by rw [fa33.2.1 7 (by decide)]; exact ⟨hW.1.2.1, hW.1.2.2.1⟩)
              refine w_goto rfl ?_
              refine w_aload rfl rfl ?_
              refine w_const rfl ?_
              refine w_invV (rest := []) rfl rfl rfl rfl rfl (Nat.le_of_ble_eq_true rfl) rfl (by omega) (s_takeSign_9 (K := K) a33 b11 N z t 59 ha33 (by first | exact PA3 | exact PA1) (by omega)) (fun v34 h9 hq35 => ?_)
              obtain ⟨a36, rfl, ha36, fa36, rfl⟩ := hq35
              show f_wp _ (93, [some (.inr (.inr (some 0))), some (.inl n), none], [], mH a36 b11) _
              have S9 := fa36.2.1
              have PA4 := PA.fr (by first | exact PA3 | exact PA1) fa36.1 fa36.2.2
              have o8 : 0 < (a33 0 8).toInt → 0 < (a36 0 8).toInt := fun h => by rcases S9.2 with g | g; (rw [g.2.1]; exact g.1); omega
              have h025 : (a36 0 2).toInt = 0 := by rw [S9.1 2 (by decide) (by decide)]; first | exact h026 | (rw [fa33.2.1 2 (by decide)]; exact h02)
              refine w_goto rfl ?_
              exact ih11 (8 - n.toInt + (if (a36 0 8).toInt = 0 then 8 else 0)).toNat (by rw [if_pos (by omega)] at hm11; split <;> omega) n a36 b11 rfl ha36 (FR.tr (FR.tr (hF11) (FR.sub fa33.1 (by decide))) (FR.sub fa36.1 (by decide))) (fun (m9 : Nat) (l9 : m9 < 22) (h7 : ACm m9 a) => ACm.fr ((fun (m9 : Nat) (l9 : m9 < 22) (h7 : ACm m9 a) => ACm.fr ((hC11) m9 l9 h7) fa33.1 (by decide)) m9 l9 h7) fa36.1 (by decide)) (by omega) (h025) (hB) (WIM.bad hW f0 k0 V1 (by omega) PA4 S9)
            · skip
              refine w_aload rfl rfl ?_
              refine w_dup rfl rfl ?_
              refine w_getI (v := .inl (a11 0 7)) rfl rfl rfl rfl rfl ?_
              have q37 : 0 ≤ (a11 0 7).toInt ∧ (a11 0 7).toInt ≤ 1000 := hR11 0 7
              refine w_const rfl ?_
              first | refine w_iadd rfl (by omega) (fun x38 tx38 => ?_) | refine w_iiU rfl (fun x38 tx38 => ?_)
              refine m_putI (z := false) rfl rfl rfl rfl (by first | (intro h9; cases h9; done) | (intro _; first | exact Or.inl rfl | exact Or.inr rfl | assumption)) (fun a39 ea39 => ?_)
              have ha39 : RM K a39 := RM.up hR11 ea39 (show (0 : Int) ≤ _ ∧ _ ≤ (1000 : Int) from by omega)
              have ua39_7 : a39 0 7 = x38 := by rw [ea39, mU_same]
              have wa39_7 := congrArg Int32.toInt ua39_7
              have ua39_8 : (a39 0 8).toInt = (a11 0 8).toInt := by rw [ea39, mU_slot (by decide)]
              have V2 : (a39 0 8).toInt = 0 ∧ (a39 0 7).toInt = 3 * (n.toInt.toNat : Int) + 1 := ⟨by rw [ea39, mU_slot (by decide)]; exact f0, by rw [ea39, mU_same]; omega⟩
              have PA1 : PA t z N a39 b11 := hW.1.fr (FR.up FR.rf (by decide) ea39) ⟨by omega, by omega⟩
              have V3 : hlF t z (3 * n.toInt.toNat) n.toInt.toNat = tkN t z (3 * n.toInt.toNat + 1) 0 99 := by unfold hlF; rw [if_pos W9, if_neg (by omega)]
              refine w_aload rfl rfl ?_
              refine w_getR (v := .inr (.inr (some 12))) rfl rfl rfl rfl rfl ?_
              refine w_iload rfl rfl ?_
              refine w_aload rfl rfl ?_
              refine w_const rfl ?_
              refine w_const rfl ?_
              refine w_invV (rest := [.inl n, .inr (.inr (some 12))]) rfl rfl rfl rfl rfl (Nat.le_of_ble_eq_true rfl) rfl (by omega) (s_takeNumber_9 (K := K) a39 b11 N z t 0 99 ha39 (by omega) (PA1) (by omega)) (fun v40 h9 hq41 => ?_)
              obtain ⟨a42, rfl, ha42, fa42, x43, rfl, px43⟩ := hq41
              show f_wp _ (83, [some (.inr (.inr (some 0))), some (.inl n), none], [.inl x43, .inl n, .inr (.inr (some 12))], mH a42 b11) _
              have N9 : PF a39 a42 (tkN t z (3 * n.toInt.toNat + 1) 0 99) 1 := by have h9 := fa42.2.1; rw [show (a39 0 7).toInt.toNat = 3 * n.toInt.toNat + 1 from by omega] at h9; exact h9
              have PA2 := PA1.fr fa42.1 fa42.2.2
              have h024 : (a42 0 2).toInt = 0 := by rw [N9.1 2 (by decide) (by decide), ea39, mU_slot (by decide)]; exact h02
              refine m_iast rfl rfl (by omega) (fun a44 ea44 => ?_)
              have ha44 : RM K a44 := RM.up ha42 ea44 (show (0 : Int) ≤ _ ∧ _ ≤ (99 : Int) from by omega)
              have ua44_7 : (a44 0 7).toInt = (a42 0 7).toInt := by rw [ea44, mU_cell (by decide)]
              have ua44_8 : (a44 0 8).toInt = (a42 0 8).toInt := by rw [ea44, mU_cell (by decide)]
              have PA3 := PA2.other ea44 ⟨by decide, by decide, by decide⟩
              have V4 := mU_c0 ea44 (by decide)
              have h026 : (a44 0 2).toInt = 0 := by rw [V4]; exact h024
              refine w_iinc (lo' := fun z9 => [some (.inr (.inr (some 0))), some (.inl z9), none]) rfl rfl (fun _ => rfl) (by omega) (fun x45 tx45 => ?_)
              refine w_aload rfl rfl ?_
              refine w_const rfl ?_
              refine w_invV (rest := []) rfl rfl rfl rfl rfl (Nat.le_of_ble_eq_true rfl) rfl (by omega) (s_takeSign_9 (K := K) a44 b11 N z t 59 ha44 (by first | exact PA3 | exact PA1) (by omega)) (fun v46 h9 hq47 => ?_)
              obtain ⟨a48, rfl, ha48, fa48, rfl⟩ := hq47
              show f_wp _ (93, [some (.inr (.inr (some 0))), some (.inl x45), none], [], mH a48 b11) _
              have S9 := fa48.2.1
              have PA4 := PA.fr (by first | exact PA3 | exact PA1) fa48.1 fa48.2.2
              have o8 : 0 < (a44 0 8).toInt → 0 < (a48 0 8).toInt := fun h => by rcases S9.2 with g | g; (rw [g.2.1]; exact g.1); omega
              have h025 : (a48 0 2).toInt = 0 := by rw [S9.1 2 (by decide) (by decide)]; first | exact h026 | (rw [ea39.2.1 2 (by decide)]; exact h02)
              refine w_goto rfl ?_
              exact ih11 (8 - x45.toInt + (if (a48 0 8).toInt = 0 then 8 else 0)).toNat (by rw [if_pos (by omega)] at hm11; split <;> omega) x45 a48 b11 rfl ha48 (FR.tr (FR.up (FR.tr (FR.up (hF11) (by decide) ea39) (FR.sub fa42.1 (by decide))) (by decide) ea44) (FR.sub fa48.1 (by decide))) (fun (m9 : Nat) (l9 : m9 < 22) (h7 : ACm m9 a) => ACm.fr ((fun (m9 : Nat) (l9 : m9 < 22) (h7 : ACm m9 a) => ACm.up ((fun (m9 : Nat) (l9 : m9 < 22) (h7 : ACm m9 a) => ACm.fr ((fun (m9 : Nat) (l9 : m9 < 22) (h7 : ACm m9 a) => ACm.up ((hC11) m9 l9 h7) ea39 (by decide)) m9 l9 h7) fa42.1 (by decide)) m9 l9 h7) ea44 (by decide)) m9 l9 h7) fa48.1 (by decide)) (by omega) (h025) (hB) (WIM.line hW f0 k0 V3 V2 N9 V4 S9 rfl PA4 (by omega))
      · skip
        exact loop96 _ n a11 b11 rfl hR11 (hF11) (hC11) (hn) (h02) (hB) (WIM.done hW (by omega))
  exact loop11 _ 0 a4 b5 rfl ha4 (FR.tr (FR.up (FR.rf) (by decide) ea1) (FR.sub fa4.1 (by decide))) (fun (m9 : Nat) (l9 : m9 < 22) (h7 : ACm m9 a) => ACm.fr ((fun (m9 : Nat) (l9 : m9 < 22) (h7 : ACm m9 a) => ACm.up ((fun (m9 : Nat) (l9 : m9 < 22) (h7 : ACm m9 a) => h7) m9 l9 h7) ea1 (by decide)) m9 l9 h7) fa4.1 (by decide)) (by omega) (ce.2.2.2.1) (ce.2.2.2.2.2.2 5 (by decide)) (⟨B1, Or.inl ⟨ce.2.2.1, Nat.zero_le _, by rw [ce.2.1]; rfl, rfl⟩⟩)
