theorem ti_and63 (y : Int32) : 0 ≤ (y &&& 63).toInt ∧ (y &&& 63).toInt ≤ 63 := by
  obtain ⟨j, hj, e⟩ := pk_andE y (m := 63) 6 (by decide)
  rw [e, nI_toInt (by omega)]
  omega
set_option maxRecDepth 4000 in
theorem s_J6_bitCount_0f7a4 {K : Nat} (a : Nat → Nat → Int32) (b : Nat → Nat → Int64) (v : Nat → Option Nat) (p : Int32)  : f_call mtC 1 160 [.inl p] (cH a b v) (fun v9 h' => h' = cH a b v ∧ ∃ x : Int32, v9 = some (.inl x) ∧ (0 ≤ x.toInt ∧ x.toInt ≤ 63)) := by
  refine f_call_of (d0 := 0) rfl (Nat.le_of_ble_eq_true rfl) (fun d hd => ?_)
  show f_wp _ (0, [some (.inl p)], [], cH a b v) _
  have l1 : (1 : Int32).toInt = 1 := rfl
  have l2 : (2 : Int32).toInt = 2 := rfl
  have l4 : (4 : Int32).toInt = 4 := rfl
  have l8 : (8 : Int32).toInt = 8 := rfl
  have l16 : (16 : Int32).toInt = 16 := rfl
  have l63 : (63 : Int32).toInt = 63 := rfl
  have l252645135 : (252645135 : Int32).toInt = 252645135 := rfl
  have l858993459 : (858993459 : Int32).toInt = 858993459 := rfl
  have l1431655765 : (1431655765 : Int32).toInt = 1431655765 := rfl
  refine w_iload rfl rfl ?_
  refine w_iload rfl rfl ?_
  refine w_const rfl ?_
  refine w_iiE rfl (fun x1 tx1 => ?_)
  refine w_const rfl ?_
  refine w_iiE rfl (fun x2 tx2 => ?_)
  first | refine w_isub rfl (by omega) (fun x3 tx3 => ?_) | refine w_iiU rfl (fun x3 tx3 => ?_)
  refine w_istore (lo' := [some (.inl x3)]) rfl rfl ?_
  refine w_iload rfl rfl ?_
  refine w_const rfl ?_
  refine w_iiE rfl (fun x4 tx4 => ?_)
  refine w_iload rfl rfl ?_
  refine w_const rfl ?_
  refine w_iiE rfl (fun x5 tx5 => ?_)
  refine w_const rfl ?_
  refine w_iiE rfl (fun x6 tx6 => ?_)
  first | refine w_iadd rfl (by omega) (fun x7 tx7 => ?_) | refine w_iiU rfl (fun x7 tx7 => ?_)
  refine w_istore (lo' := [some (.inl x7)]) rfl rfl ?_
  refine w_iload rfl rfl ?_
  refine w_iload rfl rfl ?_
  refine w_const rfl ?_
  refine w_iiE rfl (fun x8 tx8 => ?_)
  first | refine w_iadd rfl (by omega) (fun x9 tx9 => ?_) | refine w_iiU rfl (fun x9 tx9 => ?_)
  refine w_const rfl ?_
  refine w_iiE rfl (fun x10 tx10 => ?_)
  refine w_istore (lo' := [some (.inl x10)]) rfl rfl ?_
  refine w_iload rfl rfl ?_
  refine w_iload rfl rfl ?_
  refine w_const rfl ?_
  refine w_iiE rfl (fun x11 tx11 => ?_)
  first | refine w_iadd rfl (by omega) (fun x12 tx12 => ?_) | refine w_iiU rfl (fun x12 tx12 => ?_)
  refine w_istore (lo' := [some (.inl x12)]) rfl rfl ?_
  refine w_iload rfl rfl ?_
  refine w_iload rfl rfl ?_
  refine w_const rfl ?_
  refine w_iiE rfl (fun x13 tx13 => ?_)
  first | refine w_iadd rfl (by omega) (fun x14 tx14 => ?_) | refine w_iiU rfl (fun x14 tx14 => ?_)
  refine w_istore (lo' := [some (.inl x14)]) rfl rfl ?_
  refine w_iload rfl rfl ?_
  refine w_const rfl ?_
  refine w_iiE rfl (fun x15 tx15 => ?_)
  have u9 : 0 ≤ x15.toInt ∧ x15.toInt ≤ 63 := by rw [tx15]; exact ti_and63 _
  exact wp_iret (z := false) rfl (fun h9 => by cases h9) ⟨rfl, ⟨_, rfl, by omega⟩⟩
set_option maxRecDepth 4000 in
theorem s_X12_isSeason {K : Nat} (a : Nat → Nat → Int32) (b : Nat → Nat → Int64) (v : Nat → Option Nat) (s : Int32)  : f_call mtC 1 104 [.inl s] (cH a b v) (fun v9 h' => h' = cH a b v ∧ ∃ x : Int32, v9 = some (.inl x) ∧ ((x.toInt = 1 ∧ (0 ≤ s.toInt ∧ s.toInt < 4)) ∨ (x.toInt = 0 ∧ ¬ (0 ≤ s.toInt ∧ s.toInt < 4)))) := by
  refine f_call_of (d0 := 0) rfl (Nat.le_of_ble_eq_true rfl) (fun d hd => ?_)
  show f_wp _ (0, [some (.inl s)], [], cH a b v) _
  have l0 : (0 : Int32).toInt = 0 := rfl
  have l1 : (1 : Int32).toInt = 1 := rfl
  have l4 : (4 : Int32).toInt = 4 := rfl
  refine w_iload rfl rfl ?_
  refine w_if_lt rfl (fun c1 => ?_) (fun c1 => ?_)
  · skip
    refine w_const rfl ?_
    exact wp_iret (z := true) rfl (fun _ => by first | exact Or.inl rfl | exact Or.inr rfl | (rcases (by omega : (0 : Int32).toInt = 0 ∨ (0 : Int32).toInt = 1) with h8 | h8; exact Or.inl (ti_eq h8); exact Or.inr (ti_eq h8))) ⟨rfl, ⟨_, rfl, by omega⟩⟩
  · skip
    refine w_iload rfl rfl ?_
    refine w_const rfl ?_
    refine w_ic_ge rfl (fun c2 => ?_) (fun c2 => ?_)
    · skip
      refine w_const rfl ?_
      exact wp_iret (z := true) rfl (fun _ => by first | exact Or.inl rfl | exact Or.inr rfl | (rcases (by omega : (0 : Int32).toInt = 0 ∨ (0 : Int32).toInt = 1) with h8 | h8; exact Or.inl (ti_eq h8); exact Or.inr (ti_eq h8))) ⟨rfl, ⟨_, rfl, by omega⟩⟩
    · skip
      refine w_const rfl ?_
      refine w_goto rfl ?_
      exact wp_iret (z := true) rfl (fun _ => by first | exact Or.inl rfl | exact Or.inr rfl | (rcases (by omega : (1 : Int32).toInt = 0 ∨ (1 : Int32).toInt = 1) with h8 | h8; exact Or.inl (ti_eq h8); exact Or.inr (ti_eq h8))) ⟨rfl, ⟨_, rfl, by omega⟩⟩
set_option maxRecDepth 4000 in
theorem s_X12_lineOf {K : Nat} (a : Nat → Nat → Int32) (b : Nat → Nat → Int64) (v : Nat → Option Nat) (p : Int32) (q : Int32) (r : Int32)  : f_call mtC 1 127 [.inl p, .inl q, .inl r] (cH a b v) (fun v9 h' => h' = cH a b v ∧ ∃ x : Int32, v9 = some (.inl x) ∧ True) := by
  refine f_call_of (d0 := 0) rfl (Nat.le_of_ble_eq_true rfl) (fun d hd => ?_)
  show f_wp _ (0, [some (.inl p), some (.inl q), some (.inl r)], [], cH a b v) _
  have l4 : (4 : Int32).toInt = 4 := rfl
  have l32 : (32 : Int32).toInt = 32 := rfl
  refine w_iload rfl rfl ?_
  refine w_const rfl ?_
  refine w_iload rfl rfl ?_
  first | refine w_imul rfl (c := 4) rfl (by omega) (fun x1 tx1 => ?_) | refine w_iiU rfl (fun x1 tx1 => ?_)
  first | refine w_iadd rfl (by omega) (fun x2 tx2 => ?_) | refine w_iiU rfl (fun x2 tx2 => ?_)
  refine w_const rfl ?_
  refine w_iload rfl rfl ?_
  first | refine w_imul rfl (c := 32) rfl (by omega) (fun x3 tx3 => ?_) | refine w_iiU rfl (fun x3 tx3 => ?_)
  first | refine w_iadd rfl (by omega) (fun x4 tx4 => ?_) | refine w_iiU rfl (fun x4 tx4 => ?_)
  exact wp_iret (z := false) rfl (fun h9 => by cases h9) ⟨rfl, ⟨_, rfl, trivial⟩⟩
set_option maxRecDepth 4000 in
theorem s_X12_deed {K : Nat} (a : Nat → Nat → Int32) (b : Nat → Nat → Int64) (v : Nat → Option Nat) (p : Int32)  : f_call mtC 1 128 [.inl p] (cH a b v) (fun v9 h' => h' = cH a b v ∧ ∃ x : Int32, v9 = some (.inl x) ∧ True) := by
  refine f_call_of (d0 := 0) rfl (Nat.le_of_ble_eq_true rfl) (fun d hd => ?_)
  show f_wp _ (0, [some (.inl p)], [], cH a b v) _
  have l3 : (3 : Int32).toInt = 3 := rfl
  refine w_iload rfl rfl ?_
  refine w_const rfl ?_
  refine w_iiE rfl (fun x1 tx1 => ?_)
  exact wp_iret (z := false) rfl (fun h9 => by cases h9) ⟨rfl, ⟨_, rfl, trivial⟩⟩
set_option maxRecDepth 4000 in
theorem s_X2_bit {K : Nat} (a : Nat → Nat → Int32) (b : Nat → Nat → Int64) (v : Nat → Option Nat) (p : Int32)  : f_call mtC 1 11 [.inl p] (cH a b v) (fun v9 h' => h' = cH a b v ∧ ∃ x : Int32, v9 = some (.inl x) ∧ True) := by
  refine f_call_of (d0 := 0) rfl (Nat.le_of_ble_eq_true rfl) (fun d hd => ?_)
  show f_wp _ (0, [some (.inl p)], [], cH a b v) _
  have l0 : (0 : Int32).toInt = 0 := rfl
  have l1 : (1 : Int32).toInt = 1 := rfl
  refine w_iload rfl rfl ?_
  refine w_if_eq rfl (fun c1 => ?_) (fun c1 => ?_)
  · skip
    refine w_const rfl ?_
    exact wp_iret (z := false) rfl (fun h9 => by cases h9) ⟨rfl, ⟨_, rfl, trivial⟩⟩
  · skip
    refine w_const rfl ?_
    refine w_goto rfl ?_
    exact wp_iret (z := false) rfl (fun h9 => by cases h9) ⟨rfl, ⟨_, rfl, trivial⟩⟩
set_option maxRecDepth 4000 in
theorem s_X2_fact {K : Nat} (a : Nat → Nat → Int32) (b : Nat → Nat → Int64) (v : Nat → Option Nat) (p : Int32) (q : Int32) (r : Int32) (s : Int32) (t : Int32)  : f_call mtC 1 9 [.inl p, .inl q, .inl r, .inl s, .inl t] (cH a b v) (fun v9 h' => h' = cH a b v ∧ ∃ x : Int32, v9 = some (.inl x) ∧ True) := by
  refine f_call_of (d0 := 0) rfl (Nat.le_of_ble_eq_true rfl) (fun d hd => ?_)
  show f_wp _ (0, [some (.inl p), some (.inl q), some (.inl r), some (.inl s), some (.inl t)], [], cH a b v) _
  refine w_iload rfl rfl ?_
  refine w_tab rfl (fun c1 => ?_) (fun k9 t9 hk9 c1 => ?_)
  · skip
    have c1d := c1
    simp only [List.length_cons, List.length_nil] at c1d
    refine w_iload rfl rfl ?_
    exact wp_iret (z := false) rfl (fun h9 => by cases h9) ⟨rfl, ⟨_, rfl, trivial⟩⟩
  · skip
    match k9, hk9, c1 with
    | 0, hk9, c1 =>
      cases hk9
      refine w_iload rfl rfl ?_
      exact wp_iret (z := false) rfl (fun h9 => by cases h9) ⟨rfl, ⟨_, rfl, trivial⟩⟩
    | 1, hk9, c1 =>
      cases hk9
      refine w_iload rfl rfl ?_
      exact wp_iret (z := false) rfl (fun h9 => by cases h9) ⟨rfl, ⟨_, rfl, trivial⟩⟩
    | 2, hk9, c1 =>
      cases hk9
      refine w_iload rfl rfl ?_
      exact wp_iret (z := false) rfl (fun h9 => by cases h9) ⟨rfl, ⟨_, rfl, trivial⟩⟩
    | 3, hk9, c1 =>
      cases hk9
      refine w_iload rfl rfl ?_
      exact wp_iret (z := false) rfl (fun h9 => by cases h9) ⟨rfl, ⟨_, rfl, trivial⟩⟩
    | n9 + 4, hk9, c1 => simp at hk9
set_option maxRecDepth 4000 in
theorem s_X2_joined {K : Nat} (a : Nat → Nat → Int32) (b : Nat → Nat → Int64) (v : Nat → Option Nat) (p : Int32) (q : Int32) (r : Int32)  : f_call mtC 2 10 [.inl p, .inl q, .inl r] (cH a b v) (fun v9 h' => h' = cH a b v ∧ ∃ x : Int32, v9 = some (.inl x) ∧ True) := by
  refine f_call_of (d0 := 1) rfl (Nat.le_of_ble_eq_true rfl) (fun d hd => ?_)
  show f_wp _ (0, [some (.inl p), some (.inl q), some (.inl r)], [], cH a b v) _
  have l0 : (0 : Int32).toInt = 0 := rfl
  have l1 : (1 : Int32).toInt = 1 := rfl
  refine w_iload rfl rfl ?_
  refine w_tab rfl (fun c1 => ?_) (fun k9 t9 hk9 c1 => ?_)
  · skip
    have c1d := c1
    simp only [List.length_cons, List.length_nil] at c1d
    refine w_iload rfl rfl ?_
    refine w_iload rfl rfl ?_
    refine w_iiU rfl (fun x2 tx2 => ?_)
    exact wp_iret (z := false) rfl (fun h9 => by cases h9) ⟨rfl, ⟨_, rfl, trivial⟩⟩
  · skip
    match k9, hk9, c1 with
    | 0, hk9, c1 =>
      cases hk9
      refine w_iload rfl rfl ?_
      refine w_iload rfl rfl ?_
      first | refine w_isub rfl (by omega) (fun x3 tx3 => ?_) | refine w_iiU rfl (fun x3 tx3 => ?_)
      exact wp_iret (z := false) rfl (fun h9 => by cases h9) ⟨rfl, ⟨_, rfl, trivial⟩⟩
    | 1, hk9, c1 =>
      cases hk9
      refine w_iload rfl rfl ?_
      refine w_iload rfl rfl ?_
      first | refine w_iadd rfl (by omega) (fun x4 tx4 => ?_) | refine w_iiU rfl (fun x4 tx4 => ?_)
      exact wp_iret (z := false) rfl (fun h9 => by cases h9) ⟨rfl, ⟨_, rfl, trivial⟩⟩
    | 2, hk9, c1 =>
      cases hk9
      refine w_iload rfl rfl ?_
      refine w_iload rfl rfl ?_
      refine w_ic_ne rfl (fun c5 => ?_) (fun c5 => ?_)
      · skip
        refine w_const rfl ?_
        refine w_goto rfl ?_
        refine w_invS (rest := []) rfl (Nat.le_of_ble_eq_true rfl) rfl (Nat.le_of_ble_eq_true rfl) rfl (by omega) (s_X2_bit (K := K) a b v  1   ) (fun z6 h9 hq7 => ?_)
        obtain ⟨rfl, x8, rfl, px8⟩ := hq7
        show f_wp _ (101, [some (.inl p), some (.inl q), some (.inl r)], [.inl x8], cH a b v) _
        exact wp_iret (z := false) rfl (fun h9 => by cases h9) ⟨rfl, ⟨_, rfl, trivial⟩⟩
      · skip
        refine w_const rfl ?_
        refine w_invS (rest := []) rfl (Nat.le_of_ble_eq_true rfl) rfl (Nat.le_of_ble_eq_true rfl) rfl (by omega) (s_X2_bit (K := K) a b v  0   ) (fun z9 h9 hq10 => ?_)
        obtain ⟨rfl, x11, rfl, px11⟩ := hq10
        show f_wp _ (101, [some (.inl p), some (.inl q), some (.inl r)], [.inl x11], cH a b v) _
        exact wp_iret (z := false) rfl (fun h9 => by cases h9) ⟨rfl, ⟨_, rfl, trivial⟩⟩
    | 3, hk9, c1 =>
      cases hk9
      refine w_iload rfl rfl ?_
      refine w_iload rfl rfl ?_
      refine w_ic_ge rfl (fun c12 => ?_) (fun c12 => ?_)
      · skip
        refine w_const rfl ?_
        refine w_invS (rest := []) rfl (Nat.le_of_ble_eq_true rfl) rfl (Nat.le_of_ble_eq_true rfl) rfl (by omega) (s_X2_bit (K := K) a b v  0   ) (fun z13 h9 hq14 => ?_)
        obtain ⟨rfl, x15, rfl, px15⟩ := hq14
        show f_wp _ (87, [some (.inl p), some (.inl q), some (.inl r)], [.inl x15], cH a b v) _
        exact wp_iret (z := false) rfl (fun h9 => by cases h9) ⟨rfl, ⟨_, rfl, trivial⟩⟩
      · skip
        refine w_const rfl ?_
        refine w_goto rfl ?_
        refine w_invS (rest := []) rfl (Nat.le_of_ble_eq_true rfl) rfl (Nat.le_of_ble_eq_true rfl) rfl (by omega) (s_X2_bit (K := K) a b v  1   ) (fun z16 h9 hq17 => ?_)
        obtain ⟨rfl, x18, rfl, px18⟩ := hq17
        show f_wp _ (87, [some (.inl p), some (.inl q), some (.inl r)], [.inl x18], cH a b v) _
        exact wp_iret (z := false) rfl (fun h9 => by cases h9) ⟨rfl, ⟨_, rfl, trivial⟩⟩
    | 4, hk9, c1 =>
      cases hk9
      refine w_iload rfl rfl ?_
      refine w_if_ne rfl (fun c19 => ?_) (fun c19 => ?_)
      · skip
        refine w_iload rfl rfl ?_
        refine w_if_eq rfl (fun c20 => ?_) (fun c20 => ?_)
        · skip
          refine w_const rfl ?_
          refine w_invS (rest := []) rfl (Nat.le_of_ble_eq_true rfl) rfl (Nat.le_of_ble_eq_true rfl) rfl (by omega) (s_X2_bit (K := K) a b v  0   ) (fun z21 h9 hq22 => ?_)
          obtain ⟨rfl, x23, rfl, px23⟩ := hq22
          show f_wp _ (73, [some (.inl p), some (.inl q), some (.inl r)], [.inl x23], cH a b v) _
          exact wp_iret (z := false) rfl (fun h9 => by cases h9) ⟨rfl, ⟨_, rfl, trivial⟩⟩
        · skip
          refine w_const rfl ?_
          refine w_goto rfl ?_
          refine w_invS (rest := []) rfl (Nat.le_of_ble_eq_true rfl) rfl (Nat.le_of_ble_eq_true rfl) rfl (by omega) (s_X2_bit (K := K) a b v  1   ) (fun z24 h9 hq25 => ?_)
          obtain ⟨rfl, x26, rfl, px26⟩ := hq25
          show f_wp _ (73, [some (.inl p), some (.inl q), some (.inl r)], [.inl x26], cH a b v) _
          exact wp_iret (z := false) rfl (fun h9 => by cases h9) ⟨rfl, ⟨_, rfl, trivial⟩⟩
      · skip
        refine w_const rfl ?_
        refine w_goto rfl ?_
        refine w_invS (rest := []) rfl (Nat.le_of_ble_eq_true rfl) rfl (Nat.le_of_ble_eq_true rfl) rfl (by omega) (s_X2_bit (K := K) a b v  1   ) (fun z27 h9 hq28 => ?_)
        obtain ⟨rfl, x29, rfl, px29⟩ := hq28
        show f_wp _ (73, [some (.inl p), some (.inl q), some (.inl r)], [.inl x29], cH a b v) _
        exact wp_iret (z := false) rfl (fun h9 => by cases h9) ⟨rfl, ⟨_, rfl, trivial⟩⟩
    | 5, hk9, c1 =>
      cases hk9
      refine w_iload rfl rfl ?_
      refine w_if_eq rfl (fun c30 => ?_) (fun c30 => ?_)
      · skip
        refine w_const rfl ?_
        refine w_invS (rest := []) rfl (Nat.le_of_ble_eq_true rfl) rfl (Nat.le_of_ble_eq_true rfl) rfl (by omega) (s_X2_bit (K := K) a b v  0   ) (fun z31 h9 hq32 => ?_)
        obtain ⟨rfl, x33, rfl, px33⟩ := hq32
        show f_wp _ (56, [some (.inl p), some (.inl q), some (.inl r)], [.inl x33], cH a b v) _
        exact wp_iret (z := false) rfl (fun h9 => by cases h9) ⟨rfl, ⟨_, rfl, trivial⟩⟩
      · skip
        refine w_iload rfl rfl ?_
        refine w_if_eq rfl (fun c34 => ?_) (fun c34 => ?_)
        · skip
          refine w_const rfl ?_
          refine w_invS (rest := []) rfl (Nat.le_of_ble_eq_true rfl) rfl (Nat.le_of_ble_eq_true rfl) rfl (by omega) (s_X2_bit (K := K) a b v  0   ) (fun z35 h9 hq36 => ?_)
          obtain ⟨rfl, x37, rfl, px37⟩ := hq36
          show f_wp _ (56, [some (.inl p), some (.inl q), some (.inl r)], [.inl x37], cH a b v) _
          exact wp_iret (z := false) rfl (fun h9 => by cases h9) ⟨rfl, ⟨_, rfl, trivial⟩⟩
        · skip
          refine w_const rfl ?_
          refine w_goto rfl ?_
          refine w_invS (rest := []) rfl (Nat.le_of_ble_eq_true rfl) rfl (Nat.le_of_ble_eq_true rfl) rfl (by omega) (s_X2_bit (K := K) a b v  1   ) (fun z38 h9 hq39 => ?_)
          obtain ⟨rfl, x40, rfl, px40⟩ := hq39
          show f_wp _ (56, [some (.inl p), some (.inl q), some (.inl r)], [.inl x40], cH a b v) _
          exact wp_iret (z := false) rfl (fun h9 => by cases h9) ⟨rfl, ⟨_, rfl, trivial⟩⟩
    | n9 + 6, hk9, c1 => simp at hk9
set_option maxRecDepth 4000 in
theorem s_X11_keyWith {K : Nat} (a : Nat → Nat → Int32) (b : Nat → Nat → Int64) (v : Nat → Option Nat) (k : Int64) (c : Int32)  : f_call mtC 1 96 [.inr (.inl k), .inl c] (cH a b v) (fun v9 h' => h' = cH a b v ∧ ∃ x : Int64, v9 = some (.inr (.inl x)) ∧ True) := by
  refine f_call_of (d0 := 0) rfl (Nat.le_of_ble_eq_true rfl) (fun d hd => ?_)
  show f_wp _ (0, [some (.inr (.inl k)), none, some (.inl c)], [], cH a b v) _
  have l1 : (1 : Int32).toInt = 1 := rfl
  have l97 : (97 : Int32).toInt = 97 := rfl
  refine w_lload rfl rfl ?_
  refine w_const rfl ?_
  refine w_llE rfl (fun y1 ty1 => ?_)
  refine w_iload rfl rfl ?_
  refine w_const rfl ?_
  first | refine w_isub rfl (by omega) (fun x2 tx2 => ?_) | refine w_iiU rfl (fun x2 tx2 => ?_)
  refine w_const rfl ?_
  first | refine w_iadd rfl (by omega) (fun x3 tx3 => ?_) | refine w_iiU rfl (fun x3 tx3 => ?_)
  refine w_i2lE rfl (fun y4 ty4 => ?_)
  refine w_llE rfl (fun y5 ty5 => ?_)
  exact w_lret rfl ⟨rfl, ⟨_, rfl, trivial⟩⟩
set_option maxRecDepth 4000 in
theorem s_X3_all {K : Nat} (a : Nat → Nat → Int32) (b : Nat → Nat → Int64) (v : Nat → Option Nat) (L : Nat) (hR : RC K a) (hL : L = 22 ∨ L = 46) : f_call mtC 1 19 [.inr (.inr (some L))] (cH a b v) (fun v9 h' => h' = cH a b v ∧ ∃ x : Int32, v9 = some (.inl x) ∧ True) := by
  refine f_call_of (d0 := 0) rfl (Nat.le_of_ble_eq_true rfl) (fun d hd => ?_)
  show f_wp _ (0, [some (.inr (.inr (some L)))], [], cH a b v) _
  have l1 : (1 : Int32).toInt = 1 := rfl
  refine w_const rfl ?_
  refine w_aload rfl rfl ?_
  refine c_getI rfl (sh_land (by omega)) rfl rfl ?_
  have q1 : 0 ≤ (a L 7).toInt ∧ (a L 7).toInt ≤ 6 := RC.riv hR (by omega)
  refine w_iiE rfl (fun x2 tx2 => ?_)
  refine w_const rfl ?_
  first | refine w_isub rfl (by omega) (fun x3 tx3 => ?_) | refine w_iiU rfl (fun x3 tx3 => ?_)
  exact wp_iret (z := false) rfl (fun h9 => by cases h9) ⟨rfl, ⟨_, rfl, trivial⟩⟩
set_option maxRecDepth 4000 in
theorem s_X3_water {K : Nat} (a : Nat → Nat → Int32) (b : Nat → Nat → Int64) (v : Nat → Option Nat) (L : Nat) (s : Int32) (t : Int32) (hR : RC K a) (hL : L = 22 ∨ L = 46) : f_call mtC 1 20 [.inr (.inr (some L)), .inl s, .inl t] (cH a b v) (fun v9 h' => h' = cH a b v ∧ ∃ x : Int32, v9 = some (.inl x) ∧ True) := by
  refine f_call_of (d0 := 0) rfl (Nat.le_of_ble_eq_true rfl) (fun d hd => ?_)
  show f_wp _ (0, [some (.inr (.inr (some L))), some (.inl s), some (.inl t), none], [], cH a b v) _
  have l0 : (0 : Int32).toInt = 0 := rfl
  have l1 : (1 : Int32).toInt = 1 := rfl
  have l10 : (10 : Int32).toInt = 10 := rfl
  have l64 : (64 : Int32).toInt = 64 := rfl
  refine w_iload rfl rfl ?_
  refine w_if_lt rfl (fun c1 => ?_) (fun c1 => ?_)
  · skip
    refine w_const rfl ?_
    refine w_istore (lo' := [some (.inr (.inr (some L))), some (.inl s), some (.inl t), some (.inl 0)]) rfl rfl ?_
    refine w_iload rfl rfl ?_
    refine w_if_eq rfl (fun c2 => ?_) (fun c2 => ?_)
    · skip
      refine w_const rfl ?_
      exact wp_iret (z := false) rfl (fun h9 => by cases h9) ⟨rfl, ⟨_, rfl, trivial⟩⟩
    · exfalso; omega
  · skip
    refine w_iload rfl rfl ?_
    refine w_const rfl ?_
    refine w_ic_ge rfl (fun c3 => ?_) (fun c3 => ?_)
    · skip
      refine w_const rfl ?_
      refine w_istore (lo' := [some (.inr (.inr (some L))), some (.inl s), some (.inl t), some (.inl 0)]) rfl rfl ?_
      refine w_iload rfl rfl ?_
      refine w_if_eq rfl (fun c4 => ?_) (fun c4 => ?_)
      · skip
        refine w_const rfl ?_
        exact wp_iret (z := false) rfl (fun h9 => by cases h9) ⟨rfl, ⟨_, rfl, trivial⟩⟩
      · exfalso; omega
    · skip
      refine w_iload rfl rfl ?_
      refine w_if_lt rfl (fun c5 => ?_) (fun c5 => ?_)
      · skip
        refine w_const rfl ?_
        refine w_istore (lo' := [some (.inr (.inr (some L))), some (.inl s), some (.inl t), some (.inl 0)]) rfl rfl ?_
        refine w_iload rfl rfl ?_
        refine w_if_eq rfl (fun c6 => ?_) (fun c6 => ?_)
        · skip
          refine w_const rfl ?_
          exact wp_iret (z := false) rfl (fun h9 => by cases h9) ⟨rfl, ⟨_, rfl, trivial⟩⟩
        · exfalso; omega
      · skip
        refine w_iload rfl rfl ?_
        refine w_const rfl ?_
        refine w_ic_ge rfl (fun c7 => ?_) (fun c7 => ?_)
        · skip
          refine w_const rfl ?_
          refine w_istore (lo' := [some (.inr (.inr (some L))), some (.inl s), some (.inl t), some (.inl 0)]) rfl rfl ?_
          refine w_iload rfl rfl ?_
          refine w_if_eq rfl (fun c8 => ?_) (fun c8 => ?_)
          · skip
            refine w_const rfl ?_
            exact wp_iret (z := false) rfl (fun h9 => by cases h9) ⟨rfl, ⟨_, rfl, trivial⟩⟩
          · exfalso; omega
        · skip
          refine w_const rfl ?_
          refine w_goto rfl ?_
          refine w_istore (lo' := [some (.inr (.inr (some L))), some (.inl s), some (.inl t), some (.inl 1)]) rfl rfl ?_
          refine w_iload rfl rfl ?_
          refine w_if_eq rfl (fun c9 => ?_) (fun c9 => ?_)
          · exfalso; omega
          · skip
            refine w_aload rfl rfl ?_
            refine c_getR (t := some (L + 11)) rfl (sh_land (by omega)) rfl rfl (rC_land6 (by omega)) ?_
            refine w_iload rfl rfl ?_
            refine w_const rfl ?_
            first | refine w_imulR rfl (c := 64) rfl (by omega) (fun x10 tx10 => ?_) | refine w_iiU rfl (fun x10 tx10 => ?_)
            refine w_iload rfl rfl ?_
            first | refine w_iadd rfl (by omega) (fun x11 tx11 => ?_) | refine w_iiU rfl (fun x11 tx11 => ?_)
            refine c_iald rfl (sh_sums (by omega)) (by omega) (fun x12 ex12 => ?_)
            refine w_goto rfl ?_
            exact wp_iret (z := false) rfl (fun h9 => by cases h9) ⟨rfl, ⟨_, rfl, trivial⟩⟩
set_option maxRecDepth 4000 in
theorem s_X3_hasRange {K : Nat} (a : Nat → Nat → Int32) (b : Nat → Nat → Int64) (v : Nat → Option Nat) (L : Nat) (p : Int32) (hR : RC K a) (hL : L = 22 ∨ L = 46) : f_call mtC 1 14 [.inr (.inr (some L)), .inl p] (cH a b v) (fun v9 h' => h' = cH a b v ∧ ∃ x : Int32, v9 = some (.inl x) ∧ (x.toInt = 0 ∨ x.toInt = 1)) := by
  refine f_call_of (d0 := 0) rfl (Nat.le_of_ble_eq_true rfl) (fun d hd => ?_)
  show f_wp _ (0, [some (.inr (.inr (some L))), some (.inl p), none], [], cH a b v) _
  have l0 : (0 : Int32).toInt = 0 := rfl
  have l1 : (1 : Int32).toInt = 1 := rfl
  refine w_const rfl ?_
  refine w_istore (lo' := [some (.inr (.inr (some L))), some (.inl p), some (.inl 0)]) rfl rfl ?_
  have loop2 : ∀ (ms9 : Nat) (i : Int32) , (4 - i.toInt).toNat = ms9 → (0 ≤ i.toInt ∧ i.toInt ≤ 4) → f_wp (f_code (t_X3_hasRange (f_ev mtC d))) (2, [some (.inr (.inr (some L))), some (.inl p), some (.inl i)], [], cH a b v) (fun v9 h' => h' = cH a b v ∧ ∃ x : Int32, v9 = some (.inl x) ∧ (x.toInt = 0 ∨ x.toInt = 1)) := by
    intro ms9
    induction ms9 using Nat.strongRecOn with
    | _ ms2 ih2 =>
      intro i  hm2 hi
      refine w_iload rfl rfl ?_
      refine w_aload rfl rfl ?_
      refine c_getI rfl (sh_land (by omega)) rfl rfl ?_
      have q1 : 0 ≤ (a L 8).toInt ∧ (a L 8).toInt ≤ 4 := RC.ran hR (by omega)
      refine w_ic_ge rfl (fun c2 => ?_) (fun c2 => ?_)
      · skip
        refine w_const rfl ?_
        exact wp_iret (z := true) rfl (fun _ => by first | exact Or.inl rfl | exact Or.inr rfl | (rcases (by omega : (0 : Int32).toInt = 0 ∨ (0 : Int32).toInt = 1) with h8 | h8; exact Or.inl (ti_eq h8); exact Or.inr (ti_eq h8))) ⟨rfl, ⟨_, rfl, by omega⟩⟩
      · skip
        refine w_aload rfl rfl ?_
        refine c_getR (t := some (L + 2)) rfl (sh_land (by omega)) rfl rfl (rC_land1 (by omega)) ?_
        refine w_iload rfl rfl ?_
        refine c_iald rfl (sh_rng (by omega)) (by omega) (fun x3 ex3 => ?_)
        refine w_iload rfl rfl ?_
        refine w_ic_ne rfl (fun c4 => ?_) (fun c4 => ?_)
        · skip
          refine w_const rfl ?_
          exact wp_iret (z := true) rfl (fun _ => by first | exact Or.inl rfl | exact Or.inr rfl | (rcases (by omega : (1 : Int32).toInt = 0 ∨ (1 : Int32).toInt = 1) with h8 | h8; exact Or.inl (ti_eq h8); exact Or.inr (ti_eq h8))) ⟨rfl, ⟨_, rfl, by omega⟩⟩
        · skip
          refine w_iinc (lo' := fun z9 => [some (.inr (.inr (some L))), some (.inl p), some (.inl z9)]) rfl rfl (fun _ => rfl) (by omega) (fun x5 tx5 => ?_)
          refine w_goto rfl ?_
          exact ih2 (4 - x5.toInt).toNat (by omega) x5 rfl  (by omega)
  exact loop2 _ 0 rfl  (by omega)
set_option maxRecDepth 4000 in
theorem s_X3_riverNamed {K : Nat} (a : Nat → Nat → Int32) (b : Nat → Nat → Int64) (v : Nat → Option Nat) (L : Nat) (k : Int64) (hR : RC K a) (hL : L = 22 ∨ L = 46) : f_call mtC 1 13 [.inr (.inr (some L)), .inr (.inl k)] (cH a b v) (fun v9 h' => h' = cH a b v ∧ ∃ x : Int32, v9 = some (.inl x) ∧ (-1 ≤ x.toInt ∧ x.toInt ≤ 5)) := by
  refine f_call_of (d0 := 0) rfl (Nat.le_of_ble_eq_true rfl) (fun d hd => ?_)
  show f_wp _ (0, [some (.inr (.inr (some L))), some (.inr (.inl k)), none, none], [], cH a b v) _
  have lm1 : (-1 : Int32).toInt = -1 := rfl
  have l0 : (0 : Int32).toInt = 0 := rfl
  have l1 : (1 : Int32).toInt = 1 := rfl
  refine w_const rfl ?_
  refine w_istore (lo' := [some (.inr (.inr (some L))), some (.inr (.inl k)), none, some (.inl 0)]) rfl rfl ?_
  have loop2 : ∀ (ms9 : Nat) (i : Int32) , (6 - i.toInt).toNat = ms9 → (0 ≤ i.toInt ∧ i.toInt ≤ 6) → f_wp (f_code (t_X3_riverNamed (f_ev mtC d))) (2, [some (.inr (.inr (some L))), some (.inr (.inl k)), none, some (.inl i)], [], cH a b v) (fun v9 h' => h' = cH a b v ∧ ∃ x : Int32, v9 = some (.inl x) ∧ (-1 ≤ x.toInt ∧ x.toInt ≤ 5)) := by
    intro ms9
    induction ms9 using Nat.strongRecOn with
    | _ ms2 ih2 =>
      intro i  hm2 hi
      refine w_iload rfl rfl ?_
      refine w_aload rfl rfl ?_
      refine c_getI rfl (sh_land (by omega)) rfl rfl ?_
      have q1 : 0 ≤ (a L 7).toInt ∧ (a L 7).toInt ≤ 6 := RC.riv hR (by omega)
      refine w_ic_ge rfl (fun c2 => ?_) (fun c2 => ?_)
      · skip
        refine w_const rfl ?_
        exact wp_iret (z := false) rfl (fun h9 => by cases h9) ⟨rfl, ⟨_, rfl, by omega⟩⟩
      · skip
        refine w_aload rfl rfl ?_
        refine c_getR (t := some (L + 1)) rfl (sh_land (by omega)) rfl rfl (rC_land0 (by omega)) ?_
        refine w_iload rfl rfl ?_
        refine c_aald5 (t := some ((L + 1) + 11 + 2 * i.toInt.toNat)) rfl (sh_row (by omega)) (by omega) (rC_row (by omega)) ?_
        refine c_getL rfl (sh_riv (by omega)) rfl rfl ?_
        refine w_lload rfl rfl ?_
        refine w_lcmpE rfl (fun x3 tx3 => ?_)
        refine w_if_ne rfl (fun c4 => ?_) (fun c4 => ?_)
        · skip
          refine w_iload rfl rfl ?_
          exact wp_iret (z := false) rfl (fun h9 => by cases h9) ⟨rfl, ⟨_, rfl, by omega⟩⟩
        · skip
          refine w_iinc (lo' := fun z9 => [some (.inr (.inr (some L))), some (.inr (.inl k)), none, some (.inl z9)]) rfl rfl (fun _ => rfl) (by omega) (fun x5 tx5 => ?_)
          refine w_goto rfl ?_
          exact ih2 (6 - x5.toInt).toNat (by omega) x5 rfl  (by omega)
  exact loop2 _ 0 rfl  (by omega)
set_option maxRecDepth 4000 in
theorem s_X2_clear {K : Nat} (a : Nat → Nat → Int32) (b : Nat → Nat → Int64) (v : Nat → Option Nat) (F : Nat) (hR : RC K a) (hF : F = 26 ∨ F = 29 ∨ F = 50 ∨ F = 53) : f_call mtC 1 5 [.inr (.inr (some F))] (cH a b v) (fun v9 h' => ∃ (a' : Nat → Nat → Int32), h' = cH a' b v ∧ RC K a' ∧ (FR [F] a a' ∧ True) ∧ v9 = none) := by
  refine f_call_of (d0 := 0) rfl (Nat.le_of_ble_eq_true rfl) (fun d hd => ?_)
  show f_wp _ (0, [some (.inr (.inr (some F)))], [], cH a b v) _
  have l0 : (0 : Int32).toInt = 0 := rfl
  refine w_aload rfl rfl ?_
  refine w_const rfl ?_
  refine c_putI (z := false) rfl (sh_form (by omega)) rfl rfl (by first | (intro h9; cases h9; done) | (intro _; first | exact Or.inl rfl | exact Or.inr rfl | assumption | (rcases (by omega : (0 : Int32).toInt = 0 ∨ (0 : Int32).toInt = 1) with h8 | h8; exact Or.inl (ti_eq h8); exact Or.inr (ti_eq h8)))) (fun a1 ea1 => ?_)
  have ha1 : RC K a1 := RC.up hR ea1 (lc_len (by omega) (by omega))
  have ua1 : a1 F 2 = (0 : Int32) := by rw [ea1, mU_same]
  have wa1 := congrArg Int32.toInt ua1
  exact w_ret rfl ⟨a1, rfl, ha1, ⟨FR.up (FR.rf) (by first | decide | simp | (simp [cA]; omega) | (simp [cB]; omega)) ea1, trivial⟩, rfl⟩
set_option maxRecDepth 4000 in
theorem s_X2_add {K : Nat} (a : Nat → Nat → Int32) (b : Nat → Nat → Int64) (v : Nat → Option Nat) (F : Nat) (p : Int32) (hR : RC K a) (hF : F = 26 ∨ F = 29 ∨ F = 50 ∨ F = 53) : f_call mtC 1 6 [.inr (.inr (some F)), .inl p] (cH a b v) (fun v9 h' => ∃ (a' : Nat → Nat → Int32), h' = cH a' b v ∧ RC K a' ∧ (FR [F, F + 1] a a' ∧ True) ∧ v9 = none) := by
  refine f_call_of (d0 := 0) rfl (Nat.le_of_ble_eq_true rfl) (fun d hd => ?_)
  show f_wp _ (0, [some (.inr (.inr (some F))), some (.inl p)], [], cH a b v) _
  have l1 : (1 : Int32).toInt = 1 := rfl
  have l4 : (4 : Int32).toInt = 4 := rfl
  have l6 : (6 : Int32).toInt = 6 := rfl
  have l16 : (16 : Int32).toInt = 16 := rfl
  have l31 : (31 : Int32).toInt = 31 := rfl
  have l384 : (384 : Int32).toInt = 384 := rfl
  have l1000 : (1000 : Int32).toInt = 1000 := rfl
  refine w_aload rfl rfl ?_
  refine c_getI rfl (sh_form (by omega)) rfl rfl ?_
  have q1 : 0 ≤ (a F 2).toInt ∧ (a F 2).toInt ≤ 1000 := RC.len hR (by omega)
  refine w_aload rfl rfl ?_
  refine c_getR (t := some (F + 1)) rfl (sh_form (by omega)) rfl rfl (rC_form0 (by omega)) ?_
  refine c_alen (N := 1000) rfl (sh_steps (by omega)) (by decide) ?_
  show f_wp _ (9, [some (.inr (.inr (some F))), some (.inl p)], .inl 1000 :: [.inl (a F 2)], cH a b v) _
  refine w_ic_ge rfl (fun c2 => ?_) (fun c2 => ?_)
  · skip
    exact w_ret rfl ⟨a, rfl, hR, ⟨FR.rf, trivial⟩, rfl⟩
  · skip
    refine w_aload rfl rfl ?_
    refine c_getR (t := some (F + 1)) rfl (sh_form (by omega)) rfl rfl (rC_form0 (by omega)) ?_
    refine w_aload rfl rfl ?_
    refine c_getI rfl (sh_form (by omega)) rfl rfl ?_
    have q3 : 0 ≤ (a F 2).toInt ∧ (a F 2).toInt ≤ 1000 := RC.len hR (by omega)
    refine w_iload rfl rfl ?_
    refine c_iast rfl (sh_steps (by omega)) (by omega) (fun a4 ea4 => ?_)
    have ha4 : RC K a4 := RC.up hR ea4 (lc_any _ (by omega))
    have ra4_30 : (a4 F 2).toInt = (a F 2).toInt := by rw [ea4, mU_cell (by omega)]
    refine w_aload rfl rfl ?_
    refine w_dup rfl rfl ?_
    refine c_getI rfl (sh_form (by omega)) rfl rfl ?_
    have q5 : 0 ≤ (a4 F 2).toInt ∧ (a4 F 2).toInt ≤ 1000 := RC.len ha4 (by omega)
    refine w_const rfl ?_
    first | refine w_iadd rfl (by omega) (fun x6 tx6 => ?_) | refine w_iiU rfl (fun x6 tx6 => ?_)
    refine c_putI (z := false) rfl (sh_form (by omega)) rfl rfl (by first | (intro h9; cases h9; done) | (intro _; first | exact Or.inl rfl | exact Or.inr rfl | assumption | (rcases (by omega : x6.toInt = 0 ∨ x6.toInt = 1) with h8 | h8; exact Or.inl (ti_eq h8); exact Or.inr (ti_eq h8)))) (fun a7 ea7 => ?_)
    have ha7 : RC K a7 := RC.up ha4 ea7 (lc_len (by omega) (by omega))
    have ua7 : a7 F 2 = x6 := by rw [ea7, mU_same]
    have wa7 := congrArg Int32.toInt ua7
    exact w_ret rfl ⟨a7, rfl, ha7, ⟨FR.up (FR.up (FR.rf) (by first | decide | simp | (simp [cA]; omega) | (simp [cB]; omega)) ea4) (by first | decide | simp | (simp [cA]; omega) | (simp [cB]; omega)) ea7, trivial⟩, rfl⟩
set_option maxRecDepth 4000 in
theorem s_X7_clear {K : Nat} (a : Nat → Nat → Int32) (b : Nat → Nat → Int64) (v : Nat → Option Nat) (q : Nat) (hR : RC K a) (hq : (34 ≤ q ∧ q < 46 ∨ 58 ≤ q ∧ q < 70) ∧ q % 2 = 0) : f_call mtC 1 80 [.inr (.inr (some q))] (cH a b v) (fun v9 h' => ∃ (a' : Nat → Nat → Int32), h' = cH a' b v ∧ RC K a' ∧ (FR [q] a a' ∧ True) ∧ v9 = none) := by
  refine f_call_of (d0 := 0) rfl (Nat.le_of_ble_eq_true rfl) (fun d hd => ?_)
  show f_wp _ (0, [some (.inr (.inr (some q)))], [], cH a b v) _
  have lm1 : (-1 : Int32).toInt = -1 := rfl
  refine w_aload rfl rfl ?_
  refine w_const rfl ?_
  refine c_putI (z := false) rfl (sh_riv (by omega)) rfl rfl (by first | (intro h9; cases h9; done) | (intro _; first | exact Or.inl rfl | exact Or.inr rfl | assumption | (rcases (by omega : ((-1) : Int32).toInt = 0 ∨ ((-1) : Int32).toInt = 1) with h8 | h8; exact Or.inl (ti_eq h8); exact Or.inr (ti_eq h8)))) (fun a1 ea1 => ?_)
  have ha1 : RC K a1 := RC.up hR ea1 (lc_any _ (by omega))
  have ua1 : a1 q 8 = ((-1) : Int32) := by rw [ea1, mU_same]
  have wa1 := congrArg Int32.toInt ua1
  refine w_aload rfl rfl ?_
  refine w_const rfl ?_
  refine c_putI (z := false) rfl (sh_riv (by omega)) rfl rfl (by first | (intro h9; cases h9; done) | (intro _; first | exact Or.inl rfl | exact Or.inr rfl | assumption | (rcases (by omega : ((-1) : Int32).toInt = 0 ∨ ((-1) : Int32).toInt = 1) with h8 | h8; exact Or.inl (ti_eq h8); exact Or.inr (ti_eq h8)))) (fun a2 ea2 => ?_)
  have ha2 : RC K a2 := RC.up ha1 ea2 (lc_any _ (by omega))
  have ua2 : a2 q 10 = ((-1) : Int32) := by rw [ea2, mU_same]
  have wa2 := congrArg Int32.toInt ua2
  refine w_aload rfl rfl ?_
  refine w_const rfl ?_
  refine c_putI (z := false) rfl (sh_riv (by omega)) rfl rfl (by first | (intro h9; cases h9; done) | (intro _; first | exact Or.inl rfl | exact Or.inr rfl | assumption | (rcases (by omega : ((-1) : Int32).toInt = 0 ∨ ((-1) : Int32).toInt = 1) with h8 | h8; exact Or.inl (ti_eq h8); exact Or.inr (ti_eq h8)))) (fun a3 ea3 => ?_)
  have ha3 : RC K a3 := RC.up ha2 ea3 (lc_mot (by omega) (by omega))
  have ua3 : a3 q 11 = ((-1) : Int32) := by rw [ea3, mU_same]
  have wa3 := congrArg Int32.toInt ua3
  exact w_ret rfl ⟨a3, rfl, ha3, ⟨FR.up (FR.up (FR.up (FR.rf) (by first | decide | simp | (simp [cA]; omega) | (simp [cB]; omega)) ea1) (by first | decide | simp | (simp [cA]; omega) | (simp [cB]; omega)) ea2) (by first | decide | simp | (simp [cA]; omega) | (simp [cB]; omega)) ea3, trivial⟩, rfl⟩
