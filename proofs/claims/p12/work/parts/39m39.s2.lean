set_option maxRecDepth 4000 in
theorem s_wivesOf {K : Nat} (a : Nat → Nat → Int32) (b : Nat → Nat → Int64) (q : Int32) (r : Int32) (hR : RM K a) (hb : 0 ≤ q.toInt ∧ q.toInt ≤ 1260 ∧ q.toInt % 60 = 0) : f_call mtM 2 49 [.inr (.inr (some 0)), .inl q, .inl r] (mH a b) (fun v9 h' => h' = mH a b ∧ ∃ x : Int32, v9 = some (.inl x) ∧ True) := by
  refine f_call_of (d0 := 1) rfl (Nat.le_of_ble_eq_true rfl) (fun d hd => ?_)
  show f_wp _ (0, [some (.inr (.inr (some 0))), some (.inl q), some (.inl r), none, none], [], mH a b) _
  have l0 : (0 : Int32).toInt = 0 := rfl
  have l1 : (1 : Int32).toInt = 1 := rfl
  refine w_const rfl ?_
  refine w_istore (lo' := [some (.inr (.inr (some 0))), some (.inl q), some (.inl r), some (.inl 0), none]) rfl rfl ?_
  refine w_const rfl ?_
  refine w_istore (lo' := [some (.inr (.inr (some 0))), some (.inl q), some (.inl r), some (.inl 0), some (.inl 0)]) rfl rfl ?_
  have loop5 : ∀ (ms9 : Nat) (set : Int32) (w : Int32) , (6 - w.toInt).toNat = ms9 → (0 ≤ w.toInt ∧ w.toInt ≤ 6) → f_wp (f_code (t_X13_wivesOf (f_ev mtM d))) (5, [some (.inr (.inr (some 0))), some (.inl q), some (.inl r), some (.inl set), some (.inl w)], [], mH a b) (fun v9 h' => h' = mH a b ∧ ∃ x : Int32, v9 = some (.inl x) ∧ True) := by
    intro ms9
    induction ms9 using Nat.strongRecOn with
    | _ ms5 ih5 =>
      intro set w  hm5 hw
      refine w_iload rfl rfl ?_
      refine w_aload rfl rfl ?_
      refine w_invV (rest := [.inl w]) rfl rfl rfl rfl rfl (Nat.le_of_ble_eq_true rfl) rfl (by omega) (s_rivers (K := K) a b   hR ) (fun v1 h9 hq2 => ?_)
      obtain ⟨rfl, x3, rfl, px3⟩ := hq2
      show f_wp _ (11, [some (.inr (.inr (some 0))), some (.inl q), some (.inl r), some (.inl set), some (.inl w)], [.inl x3, .inl w], mH a b) _
      refine w_ic_ge rfl (fun c4 => ?_) (fun c4 => ?_)
      · skip
        refine w_iload rfl rfl ?_
        exact wp_iret (z := false) rfl (fun h9 => by cases h9) ⟨rfl, ⟨_, rfl, trivial⟩⟩
      · skip
        refine w_iload rfl rfl ?_
        refine w_aload rfl rfl ?_
        refine w_iload rfl rfl ?_
        refine w_iload rfl rfl ?_
        refine w_invV (rest := [.inl set]) rfl rfl rfl rfl rfl (Nat.le_of_ble_eq_true rfl) rfl (by omega) (s_husbandOf (K := K) a b  q w hR (by omega) (by omega)) (fun v5 h9 hq6 => ?_)
        obtain ⟨rfl, x7, rfl, px7⟩ := hq6
        show f_wp _ (22, [some (.inr (.inr (some 0))), some (.inl q), some (.inl r), some (.inl set), some (.inl w)], [.inl x7, .inl set], mH a b) _
        refine w_iload rfl rfl ?_
        refine w_ic_ne rfl (fun c8 => ?_) (fun c8 => ?_)
        · skip
          refine w_const rfl ?_
          refine w_iload rfl rfl ?_
          refine w_iiE rfl (fun x9 tx9 => ?_)
          refine w_goto rfl ?_
          refine w_iiE rfl (fun x10 tx10 => ?_)
          refine w_istore (lo' := [some (.inr (.inr (some 0))), some (.inl q), some (.inl r), some (.inl x10), some (.inl w)]) rfl rfl ?_
          refine w_iinc (lo' := fun z9 => [some (.inr (.inr (some 0))), some (.inl q), some (.inl r), some (.inl x10), some (.inl z9)]) rfl rfl (fun _ => rfl) (by omega) (fun x11 tx11 => ?_)
          refine w_goto rfl ?_
          exact ih5 (6 - x11.toInt).toNat (by omega) x10 x11 rfl  (by omega)
        · skip
          refine w_const rfl ?_
          refine w_iiE rfl (fun x12 tx12 => ?_)
          refine w_istore (lo' := [some (.inr (.inr (some 0))), some (.inl q), some (.inl r), some (.inl x12), some (.inl w)]) rfl rfl ?_
          refine w_iinc (lo' := fun z9 => [some (.inr (.inr (some 0))), some (.inl q), some (.inl r), some (.inl x12), some (.inl z9)]) rfl rfl (fun _ => rfl) (by omega) (fun x13 tx13 => ?_)
          refine w_goto rfl ?_
          exact ih5 (6 - x13.toInt).toNat (by omega) x12 x13 rfl  (by omega)
  exact loop5 _ 0 0 rfl  (by omega)
set_option maxRecDepth 4000 in
theorem s_bits {K : Nat} (a : Nat → Nat → Int32) (b : Nat → Nat → Int64) (set : Int32)  : f_call mtM 1 50 [.inl set] (mH a b) (fun v9 h' => h' = mH a b ∧ ∃ x : Int32, v9 = some (.inl x) ∧ (0 ≤ x.toInt ∧ x.toInt ≤ 6)) := by
  refine f_call_of (d0 := 0) rfl (Nat.le_of_ble_eq_true rfl) (fun d hd => ?_)
  show f_wp _ (0, [some (.inl set), none, none], [], mH a b) _
  have l0 : (0 : Int32).toInt = 0 := rfl
  have l1 : (1 : Int32).toInt = 1 := rfl
  have l6 : (6 : Int32).toInt = 6 := rfl
  refine w_const rfl ?_
  refine w_istore (lo' := [some (.inl set), some (.inl 0), none]) rfl rfl ?_
  refine w_const rfl ?_
  refine w_istore (lo' := [some (.inl set), some (.inl 0), some (.inl 0)]) rfl rfl ?_
  have loop4 : ∀ (ms9 : Nat) (n : Int32) (k : Int32) , (6 - k.toInt).toNat = ms9 → (0 ≤ k.toInt ∧ k.toInt ≤ 6) → (0 ≤ n.toInt ∧ n.toInt ≤ k.toInt) → f_wp (f_code (t_X13_bits (f_ev mtM d))) (4, [some (.inl set), some (.inl n), some (.inl k)], [], mH a b) (fun v9 h' => h' = mH a b ∧ ∃ x : Int32, v9 = some (.inl x) ∧ (0 ≤ x.toInt ∧ x.toInt ≤ 6)) := by
    intro ms9
    induction ms9 using Nat.strongRecOn with
    | _ ms4 ih4 =>
      intro n k  hm4 hk hn
      refine w_iload rfl rfl ?_
      refine w_const rfl ?_
      refine w_ic_ge rfl (fun c1 => ?_) (fun c1 => ?_)
      · skip
        refine w_iload rfl rfl ?_
        exact wp_iret (z := false) rfl (fun h9 => by cases h9) ⟨rfl, ⟨_, rfl, by omega⟩⟩
      · skip
        refine w_iload rfl rfl ?_
        refine w_iload rfl rfl ?_
        refine w_iload rfl rfl ?_
        refine w_iiE rfl (fun x2 tx2 => ?_)
        refine w_const rfl ?_
        refine w_iiE rfl (fun x3 tx3 => ?_)
        have u9 : 0 ≤ x3.toInt ∧ x3.toInt ≤ 1 := by rw [tx3]; exact ti_and1 _
        first | refine w_iadd rfl (by omega) (fun x4 tx4 => ?_) | refine w_iiU rfl (fun x4 tx4 => ?_)
        refine w_istore (lo' := [some (.inl set), some (.inl x4), some (.inl k)]) rfl rfl ?_
        refine w_iinc (lo' := fun z9 => [some (.inl set), some (.inl x4), some (.inl z9)]) rfl rfl (fun _ => rfl) (by omega) (fun x5 tx5 => ?_)
        refine w_goto rfl ?_
        exact ih4 (6 - x5.toInt).toNat (by omega) x4 x5 rfl  (by omega) (by omega)
  exact loop4 _ 0 0 rfl  (by omega) (by omega)
set_option maxRecDepth 4000 in
theorem s_ownOf {K : Nat} (a : Nat → Nat → Int32) (b : Nat → Nat → Int64) (r : Int32) (s : Int32) (hR : RM K a) (hr : 0 ≤ r.toInt ∧ r.toInt < 6) (hs : 0 ≤ s.toInt ∧ s.toInt < 4) : f_call mtM 2 51 [.inr (.inr (some 0)), .inl r, .inl s] (mH a b) (fun v9 h' => h' = mH a b ∧ ∃ x : Int32, v9 = some (.inl x) ∧ (0 ≤ x.toInt ∧ x.toInt ≤ 99)) := by
  refine f_call_of (d0 := 1) rfl (Nat.le_of_ble_eq_true rfl) (fun d hd => ?_)
  show f_wp _ (0, [some (.inr (.inr (some 0))), some (.inl r), some (.inl s)], [], mH a b) _
  have l2 : (2 : Int32).toInt = 2 := rfl
  have l4 : (4 : Int32).toInt = 4 := rfl
  refine w_aload rfl rfl ?_
  refine w_getI (v := .inl (a 0 25)) rfl rfl rfl rfl rfl ?_
  have q1 : 0 ≤ (a 0 25).toInt ∧ (a 0 25).toInt ≤ 1 := hR 0 25
  refine w_if_eq rfl (fun c2 => ?_) (fun c2 => ?_)
  · skip
    refine w_aload rfl rfl ?_
    refine w_iload rfl rfl ?_
    refine w_const rfl ?_
    refine w_iload rfl rfl ?_
    first | refine w_iadd rfl (by omega) (fun x3 tx3 => ?_) | refine w_iiU rfl (fun x3 tx3 => ?_)
    refine w_invV (rest := []) rfl rfl rfl rfl rfl (Nat.le_of_ble_eq_true rfl) rfl (by omega) (s_riverOf (K := K) a b  r x3  (by omega) (by omega)) (fun v4 h9 hq5 => ?_)
    obtain ⟨rfl, x6, rfl, px6⟩ := hq5
    show f_wp _ (28, [some (.inr (.inr (some 0))), some (.inl r), some (.inl s)], [.inl x6], mH a b) _
    have u9 : 0 ≤ x6.toInt ∧ x6.toInt ≤ 99 := by rw [px6]; exact RM.water hR (by omega) (by omega)
    exact wp_iret (z := false) rfl (fun h9 => by cases h9) ⟨rfl, ⟨_, rfl, by omega⟩⟩
  · skip
    refine w_aload rfl rfl ?_
    refine w_iload rfl rfl ?_
    refine w_const rfl ?_
    refine w_iload rfl rfl ?_
    first | refine w_iadd rfl (by omega) (fun x7 tx7 => ?_) | refine w_iiU rfl (fun x7 tx7 => ?_)
    refine w_invV (rest := []) rfl rfl rfl rfl rfl (Nat.le_of_ble_eq_true rfl) rfl (by omega) (s_riverOf (K := K) a b  r x7  (by omega) (by omega)) (fun v8 h9 hq9 => ?_)
    obtain ⟨rfl, x10, rfl, px10⟩ := hq9
    show f_wp _ (15, [some (.inr (.inr (some 0))), some (.inl r), some (.inl s)], [.inl x10], mH a b) _
    have u9 : 0 ≤ x10.toInt ∧ x10.toInt ≤ 99 := by rw [px10]; exact RM.water hR (by omega) (by omega)
    refine w_const rfl ?_
    refine w_idiv (c := 2) rfl rfl (by decide) (by omega) (fun x11 tx11 => ?_)
    refine w_goto rfl ?_
    exact wp_iret (z := false) rfl (fun h9 => by cases h9) ⟨rfl, ⟨_, rfl, by omega⟩⟩
set_option maxRecDepth 4000 in
theorem s_isThere {K : Nat} (a : Nat → Nat → Int32) (b : Nat → Nat → Int64) (r : Int32) (h : Int32) (hR : RM K a) (hr : 0 ≤ r.toInt ∧ r.toInt < 6) : f_call mtM 3 52 [.inr (.inr (some 0)), .inl r, .inl h] (mH a b) (fun v9 h' => h' = mH a b ∧ ∃ x : Int32, v9 = some (.inl x) ∧ (x.toInt = 0 ∨ x.toInt = 1)) := by
  refine f_call_of (d0 := 2) rfl (Nat.le_of_ble_eq_true rfl) (fun d hd => ?_)
  show f_wp _ (0, [some (.inr (.inr (some 0))), some (.inl r), some (.inl h)], [], mH a b) _
  have l0 : (0 : Int32).toInt = 0 := rfl
  have l1 : (1 : Int32).toInt = 1 := rfl
  refine w_aload rfl rfl ?_
  refine w_iload rfl rfl ?_
  refine w_invV (rest := []) rfl rfl rfl rfl rfl (Nat.le_of_ble_eq_true rfl) rfl (by omega) (s_springOf (K := K) a b  r hR (by omega)) (fun v1 h9 hq2 => ?_)
  obtain ⟨rfl, x3, rfl, px3⟩ := hq2
  show f_wp _ (5, [some (.inr (.inr (some 0))), some (.inl r), some (.inl h)], [.inl x3], mH a b) _
  refine w_iload rfl rfl ?_
  refine w_ic_lt rfl (fun c4 => ?_) (fun c4 => ?_)
  · skip
    refine w_const rfl ?_
    exact wp_iret (z := true) rfl (fun _ => by first | exact Or.inl rfl | exact Or.inr rfl | (rcases (by omega : (0 : Int32).toInt = 0 ∨ (0 : Int32).toInt = 1) with h8 | h8; exact Or.inl (ti_eq h8); exact Or.inr (ti_eq h8))) ⟨rfl, ⟨_, rfl, by omega⟩⟩
  · skip
    refine w_aload rfl rfl ?_
    refine w_iload rfl rfl ?_
    refine w_invV (rest := []) rfl rfl rfl rfl rfl (Nat.le_of_ble_eq_true rfl) rfl (by omega) (s_mouthOf (K := K) a b  r hR (by omega)) (fun v5 h9 hq6 => ?_)
    obtain ⟨rfl, x7, rfl, px7⟩ := hq6
    show f_wp _ (14, [some (.inr (.inr (some 0))), some (.inl r), some (.inl h)], [.inl x7], mH a b) _
    refine w_iload rfl rfl ?_
    refine w_ic_gt rfl (fun c8 => ?_) (fun c8 => ?_)
    · skip
      refine w_const rfl ?_
      exact wp_iret (z := true) rfl (fun _ => by first | exact Or.inl rfl | exact Or.inr rfl | (rcases (by omega : (0 : Int32).toInt = 0 ∨ (0 : Int32).toInt = 1) with h8 | h8; exact Or.inl (ti_eq h8); exact Or.inr (ti_eq h8))) ⟨rfl, ⟨_, rfl, by omega⟩⟩
    · skip
      refine w_const rfl ?_
      refine w_goto rfl ?_
      exact wp_iret (z := true) rfl (fun _ => by first | exact Or.inl rfl | exact Or.inr rfl | (rcases (by omega : (1 : Int32).toInt = 0 ∨ (1 : Int32).toInt = 1) with h8 | h8; exact Or.inl (ti_eq h8); exact Or.inr (ti_eq h8))) ⟨rfl, ⟨_, rfl, by omega⟩⟩
set_option maxRecDepth 4000 in
theorem s_standsAsAlways {K : Nat} (a : Nat → Nat → Int32) (b : Nat → Nat → Int64) (q : Int32) (hR : RM K a) (hq : q.toInt = 0 ∨ q.toInt = 110) : f_call mtM 1 15 [.inr (.inr (some 0)), .inl q] (mH a b) (fun v9 h' => ∃ (a' : Nat → Nat → Int32), h' = mH a' b ∧ RM K a' ∧ (FR [6] a a' ∧ (∀ j, (j < q.toInt.toNat ∨ q.toInt.toNat + 110 ≤ j) → a' 6 j = a 6 j)) ∧ v9 = none) := by
  refine f_call_of (d0 := 0) rfl (Nat.le_of_ble_eq_true rfl) (fun d hd => ?_)
  show f_wp _ (0, [some (.inr (.inr (some 0))), some (.inl q), none], [], mH a b) _
  have lm1 : (-1 : Int32).toInt = -1 := rfl
  have l0 : (0 : Int32).toInt = 0 := rfl
  have l1 : (1 : Int32).toInt = 1 := rfl
  have l5 : (5 : Int32).toInt = 5 := rfl
  have l110 : (110 : Int32).toInt = 110 := rfl
  refine w_const rfl ?_
  refine w_istore (lo' := [some (.inr (.inr (some 0))), some (.inl q), some (.inl 0)]) rfl rfl ?_
  have loop2 : ∀ (ms9 : Nat) (k : Int32) (a2 : Nat → Nat → Int32) , (110 - k.toInt).toNat = ms9 → RM K a2 → FR [6] a a2 → (0 ≤ k.toInt ∧ k.toInt ≤ 110) → ((∀ j, (j < q.toInt.toNat ∨ q.toInt.toNat + 110 ≤ j) → a2 6 j = a 6 j)) → f_wp (f_code (t_X13_standsAsAlways (f_ev mtM d))) (2, [some (.inr (.inr (some 0))), some (.inl q), some (.inl k)], [], mH a2 b) (fun v9 h' => ∃ (a' : Nat → Nat → Int32), h' = mH a' b ∧ RM K a' ∧ (FR [6] a a' ∧ (∀ j, (j < q.toInt.toNat ∨ q.toInt.toNat + 110 ≤ j) → a' 6 j = a 6 j)) ∧ v9 = none) := by
    intro ms9
    induction ms9 using Nat.strongRecOn with
    | _ ms2 ih2 =>
      intro k a2  hm2 hR2 hF2 hk hS
      refine w_iload rfl rfl ?_
      refine w_const rfl ?_
      refine w_ic_ge rfl (fun c1 => ?_) (fun c1 => ?_)
      · skip
        refine w_aload rfl rfl ?_
        refine w_getR (v := .inr (.inr (some 6))) rfl rfl rfl rfl rfl ?_
        refine w_iload rfl rfl ?_
        refine w_const rfl ?_
        first | refine w_iadd rfl (by omega) (fun x2 tx2 => ?_) | refine w_iiU rfl (fun x2 tx2 => ?_)
        refine w_const rfl ?_
        refine m_iast rfl rfl (by omega) (fun a3 ea3 => ?_)
        have ha3 : RM K a3 := RM.up hR2 ea3 (la_law (by omega) (by omega))
        refine w_aload rfl rfl ?_
        refine w_getR (v := .inr (.inr (some 6))) rfl rfl rfl rfl rfl ?_
        refine w_iload rfl rfl ?_
        refine w_const rfl ?_
        first | refine w_iadd rfl (by omega) (fun x4 tx4 => ?_) | refine w_iiU rfl (fun x4 tx4 => ?_)
        refine w_const rfl ?_
        first | refine w_iadd rfl (by omega) (fun x5 tx5 => ?_) | refine w_iiU rfl (fun x5 tx5 => ?_)
        refine w_const rfl ?_
        refine m_iast rfl rfl (by omega) (fun a6 ea6 => ?_)
        have ha6 : RM K a6 := RM.up ha3 ea6 (la_law (by omega) (by omega))
        exact w_ret rfl ⟨a6, rfl, ha6, ⟨FR.up (FR.up (hF2) (by decide) ea3) (by decide) ea6, fun j hj => by rw [ea6, mU_slot (by omega), ea3, mU_slot (by omega)]; exact hS j hj⟩, rfl⟩
      · skip
        refine w_aload rfl rfl ?_
        refine w_getR (v := .inr (.inr (some 6))) rfl rfl rfl rfl rfl ?_
        refine w_iload rfl rfl ?_
        refine w_iload rfl rfl ?_
        first | refine w_iadd rfl (by omega) (fun x7 tx7 => ?_) | refine w_iiU rfl (fun x7 tx7 => ?_)
        refine w_const rfl ?_
        refine m_iast rfl rfl (by omega) (fun a8 ea8 => ?_)
        have ha8 : RM K a8 := RM.up hR2 ea8 (la_zero l0)
        refine w_iinc (lo' := fun z9 => [some (.inr (.inr (some 0))), some (.inl q), some (.inl z9)]) rfl rfl (fun _ => rfl) (by omega) (fun x9 tx9 => ?_)
        refine w_goto rfl ?_
        exact ih2 (110 - x9.toInt).toNat (by omega) x9 a8 rfl ha8 (FR.up (hF2) (by decide) ea8) (by omega) (fun j hj => by rw [ea8, mU_slot (by omega)]; exact hS j hj)
  exact loop2 _ 0 a rfl hR (FR.rf) (by omega) (fun _ _ => rfl)
set_option maxRecDepth 4000 in
theorem s_copies {K : Nat} (a : Nat → Nat → Int32) (b : Nat → Nat → Int64) (q : Int32) (t : Int32) (m : Int32) (hR : RM K a) (hb : 0 ≤ q.toInt ∧ q.toInt ≤ 1260 ∧ q.toInt % 60 = 0) (ht : 0 ≤ t.toInt ∧ t.toInt ≤ 1260 ∧ t.toInt % 60 = 0) (hm : 7 ≤ m.toInt ∧ m.toInt ≤ 60) (hA : AC a q.toInt.toNat) : f_call mtM 1 37 [.inr (.inr (some 0)), .inl q, .inl t, .inl m] (mH a b) (fun v9 h' => ∃ (a' : Nat → Nat → Int32), h' = mH a' b ∧ RM K a' ∧ (FR [15] a a' ∧ (∀ m9, m9 < 22 → ACm m9 a → ACm m9 a') ∧ (∀ j, a' 15 j = if t.toInt.toNat ≤ j ∧ j < t.toInt.toNat + m.toInt.toNat then a 15 (q.toInt.toNat + (j - t.toInt.toNat)) else a 15 j)) ∧ v9 = none) := by
  refine f_call_of (d0 := 0) rfl (Nat.le_of_ble_eq_true rfl) (fun d hd => ?_)
  show f_wp _ (0, [some (.inr (.inr (some 0))), some (.inl q), some (.inl t), some (.inl m), none], [], mH a b) _
  have l0 : (0 : Int32).toInt = 0 := rfl
  have l1 : (1 : Int32).toInt = 1 := rfl
  refine w_const rfl ?_
  refine w_istore (lo' := [some (.inr (.inr (some 0))), some (.inl q), some (.inl t), some (.inl m), some (.inl 0)]) rfl rfl ?_
  have loop3 : ∀ (ms9 : Nat) (k : Int32) (a3 : Nat → Nat → Int32) , (m.toInt - k.toInt).toNat = ms9 → RM K a3 → FR [15] a a3 → (0 ≤ k.toInt ∧ k.toInt ≤ m.toInt) → ((∀ j, a3 15 j = if t.toInt.toNat ≤ j ∧ j < t.toInt.toNat + k.toInt.toNat then a 15 (q.toInt.toNat + (j - t.toInt.toNat)) else a 15 j)) → f_wp (f_code (t_X13_copies (f_ev mtM d))) (3, [some (.inr (.inr (some 0))), some (.inl q), some (.inl t), some (.inl m), some (.inl k)], [], mH a3 b) (fun v9 h' => ∃ (a' : Nat → Nat → Int32), h' = mH a' b ∧ RM K a' ∧ (FR [15] a a' ∧ (∀ m9, m9 < 22 → ACm m9 a → ACm m9 a') ∧ (∀ j, a' 15 j = if t.toInt.toNat ≤ j ∧ j < t.toInt.toNat + m.toInt.toNat then a 15 (q.toInt.toNat + (j - t.toInt.toNat)) else a 15 j)) ∧ v9 = none) := by
    intro ms9
    induction ms9 using Nat.strongRecOn with
    | _ ms3 ih3 =>
      intro k a3  hm3 hR3 hF3 hk hS
      refine w_iload rfl rfl ?_
      refine w_iload rfl rfl ?_
      refine w_ic_ge rfl (fun c1 => ?_) (fun c1 => ?_)
      · skip
        exact w_ret rfl ⟨a3, rfl, hR3, ⟨hF3, fun (m9 : Nat) (l9 : m9 < 22) (h7 : ACm m9 a) => ACm.copy h7 hA hb ht hm (fun j => by rw [hS, show k.toInt.toNat = m.toInt.toNat from by omega]), fun j => by rw [hS, show k.toInt.toNat = m.toInt.toNat from by omega]⟩, rfl⟩
      · skip
        refine w_aload rfl rfl ?_
        refine w_getR (v := .inr (.inr (some 15))) rfl rfl rfl rfl rfl ?_
        refine w_iload rfl rfl ?_
        refine w_iload rfl rfl ?_
        first | refine w_iadd rfl (by omega) (fun x2 tx2 => ?_) | refine w_iiU rfl (fun x2 tx2 => ?_)
        refine w_aload rfl rfl ?_
        refine w_getR (v := .inr (.inr (some 15))) rfl rfl rfl rfl rfl ?_
        refine w_iload rfl rfl ?_
        refine w_iload rfl rfl ?_
        first | refine w_iadd rfl (by omega) (fun x3 tx3 => ?_) | refine w_iiU rfl (fun x3 tx3 => ?_)
        refine m_iald rfl rfl (by omega) (fun x4 ex4 => ?_)
        have v9 : x4 = a 15 (q.toInt.toNat + k.toInt.toNat) := by rw [ex4, hS, show (x3).toInt.toNat = q.toInt.toNat + k.toInt.toNat from by omega, if_neg (by omega)]
        refine m_iast rfl rfl (by omega) (fun a5 ea5 => ?_)
        have ha5 : RM K a5 := RM.up hR3 ea5 (by have h8 := hR3 15 (x3).toInt.toNat; rw [(st_copy (K := K) (i := (x3).toInt.toNat) (j := (x2).toInt.toNat) (by omega)).1, (st_copy (K := K) (i := (x3).toInt.toNat) (j := (x2).toInt.toNat) (by omega)).2, ← ex4] at h8; exact h8)
        refine w_iinc (lo' := fun z9 => [some (.inr (.inr (some 0))), some (.inl q), some (.inl t), some (.inl m), some (.inl z9)]) rfl rfl (fun _ => rfl) (by omega) (fun x6 tx6 => ?_)
        refine w_goto rfl ?_
        exact ih3 (m.toInt - x6.toInt).toNat (by omega) x6 a5 rfl ha5 (FR.up (hF3) (by decide) ea5) (by omega) (fun j => by rw [ea5, mU_get, v9]; by_cases hj : j = t.toInt.toNat + k.toInt.toNat; (rw [if_pos ⟨rfl, by omega⟩, if_pos (by omega)]; congr 1; omega); (rw [if_neg (by omega), hS]; split; (rw [if_pos (by omega)]); (rw [if_neg (by omega)])))
  exact loop3 _ 0 a rfl hR (FR.rf) (by omega) (fun j => by rw [if_neg (by omega)])
