set_option maxRecDepth 4000 in
theorem s_X12_wearing {K : Nat} (a : Nat → Nat → Int32) (b : Nat → Nat → Int64) (v : Nat → Option Nat) (L : Nat) (i : Int32) (j : Int32) (hR : RC K a) (h0 : v 0 = some L) (hL : L = 22 ∨ L = 46) (hi : 0 ≤ i.toInt ∧ i.toInt ≤ 5) (hj : 0 ≤ j.toInt ∧ j.toInt ≤ 5) : f_call mtC 3 131 [.inr (.inr (some 0)), .inl i, .inl j] (cH a b v) (fun v9 h' => h' = cH a b v ∧ ∃ x : Int32, v9 = some (.inl x) ∧ True) := by
  refine f_call_of (d0 := 2) rfl (Nat.le_of_ble_eq_true rfl) (fun d hd => ?_)
  show f_wp _ (0, [some (.inr (.inr (some 0))), some (.inl i), some (.inl j), none, none, none, none], [], cH a b v) _
  have lm1 : (-1 : Int32).toInt = -1 := rfl
  have l0 : (0 : Int32).toInt = 0 := rfl
  have l1 : (1 : Int32).toInt = 1 := rfl
  have l4 : (4 : Int32).toInt = 4 := rfl
  have l10 : (10 : Int32).toInt = 10 := rfl
  have l400 : (400 : Int32).toInt = 400 := rfl
  refine w_aload rfl rfl ?_
  refine c_getR (t := some L) rfl rfl rfl rfl h0 ?_
  refine w_iload rfl rfl ?_
  refine w_iload rfl rfl ?_
  refine w_invV (rest := []) rfl rfl (sh_land (by omega)) rfl rfl (Nat.le_of_ble_eq_true rfl) rfl (by omega) (s_X3_thickness (K := K) a b v  L i j hR  (by omega) (by omega) (by omega)) (fun z1 h9 hq2 => ?_)
  obtain ⟨rfl, x3, rfl, px3⟩ := hq2
  show f_wp _ (9, [some (.inr (.inr (some 0))), some (.inl i), some (.inl j), none, none, none, none], [.inl x3], cH a b v) _
  refine w_istore (lo' := [some (.inr (.inr (some 0))), some (.inl i), some (.inl j), some (.inl x3), none, none, none]) rfl rfl ?_
  refine w_iload rfl rfl ?_
  refine w_if_ne rfl (fun c4 => ?_) (fun c4 => ?_)
  · skip
    refine w_const rfl ?_
    exact wp_iret (z := false) rfl (fun h9 => by cases h9) ⟨rfl, ⟨_, rfl, trivial⟩⟩
  · skip
    refine w_const rfl ?_
    refine w_iload rfl rfl ?_
    refine w_iiE rfl (fun x5 tx5 => ?_)
    refine w_const rfl ?_
    refine w_iload rfl rfl ?_
    refine w_iiE rfl (fun x6 tx6 => ?_)
    refine w_iiE rfl (fun x7 tx7 => ?_)
    refine w_istore (lo' := [some (.inr (.inr (some 0))), some (.inl i), some (.inl j), some (.inl x3), some (.inl x7), none, none]) rfl rfl ?_
    refine w_const rfl ?_
    refine w_istore (lo' := [some (.inr (.inr (some 0))), some (.inl i), some (.inl j), some (.inl x3), some (.inl x7), some (.inl 0), none]) rfl rfl ?_
    refine w_const rfl ?_
    refine w_istore (lo' := [some (.inr (.inr (some 0))), some (.inl i), some (.inl j), some (.inl x3), some (.inl x7), some (.inl 0), some (.inl 0)]) rfl rfl ?_
    have loop31 : ∀ (ms9 : Nat) (go : Int32) (m : Int32) , (400 - m.toInt).toNat = ms9 → (0 ≤ m.toInt ∧ m.toInt ≤ 400) → f_wp (f_code (t_X12_wearing (f_ev mtC d))) (31, [some (.inr (.inr (some 0))), some (.inl i), some (.inl j), some (.inl x3), some (.inl x7), some (.inl go), some (.inl m)], [], cH a b v) (fun v9 h' => h' = cH a b v ∧ ∃ x : Int32, v9 = some (.inl x) ∧ True) := by
      intro ms9
      induction ms9 using Nat.strongRecOn with
      | _ ms31 ih31 =>
        intro go m  hm31 hm
        refine w_iload rfl rfl ?_
        refine w_const rfl ?_
        refine w_ic_ge rfl (fun c8 => ?_) (fun c8 => ?_)
        · skip
          refine w_const rfl ?_
          exact wp_iret (z := false) rfl (fun h9 => by cases h9) ⟨rfl, ⟨_, rfl, trivial⟩⟩
        · skip
          refine w_iload rfl rfl ?_
          refine w_aload rfl rfl ?_
          refine c_getR (t := some L) rfl rfl rfl rfl h0 ?_
          refine w_iload rfl rfl ?_
          refine w_aload rfl rfl ?_
          refine c_getR (t := some 70) rfl rfl rfl rfl rfl ?_
          refine c_getI rfl rfl rfl rfl ?_
          have q9 : 0 ≤ (a 70 7).toInt ∧ (a 70 7).toInt ≤ 100 * K ∧ (a 70 7).toInt ≤ 1000000 := RC.pas hR (by omega)
          refine w_iload rfl rfl ?_
          first | refine w_iadd rfl (by omega) (fun x10 tx10 => ?_) | refine w_iiU rfl (fun x10 tx10 => ?_)
          refine w_const rfl ?_
          first | refine w_irem (c := 4) rfl rfl (by decide) (by omega) (fun x11 tx11 => ?_) | refine w_iidE rfl (by omega) (fun x11 tx11 => ?_)
          refine w_invV (rest := [.inl go]) rfl rfl (sh_land (by omega)) rfl rfl (Nat.le_of_ble_eq_true rfl) rfl (by omega) (s_X3_water (K := K) a b v  L x7 x11 hR  (by omega)) (fun z12 h9 hq13 => ?_)
          obtain ⟨rfl, x14, rfl, px14⟩ := hq13
          show f_wp _ (62, [some (.inr (.inr (some 0))), some (.inl i), some (.inl j), some (.inl x3), some (.inl x7), some (.inl go), some (.inl m)], [.inl x14, .inl go], cH a b v) _
          refine w_const rfl ?_
          first | refine w_idiv (c := 10) rfl rfl (by decide) (by omega) (fun x15 tx15 => ?_) | refine w_iidE rfl (by omega) (fun x15 tx15 => ?_)
          first | refine w_iadd rfl (by omega) (fun x16 tx16 => ?_) | refine w_iiU rfl (fun x16 tx16 => ?_)
          refine w_istore (lo' := [some (.inr (.inr (some 0))), some (.inl i), some (.inl j), some (.inl x3), some (.inl x7), some (.inl x16), some (.inl m)]) rfl rfl ?_
          refine w_iload rfl rfl ?_
          refine w_iload rfl rfl ?_
          refine w_ic_lt rfl (fun c17 => ?_) (fun c17 => ?_)
          · skip
            refine w_iinc (lo' := fun z9 => [some (.inr (.inr (some 0))), some (.inl i), some (.inl j), some (.inl x3), some (.inl x7), some (.inl x16), some (.inl z9)]) rfl rfl (fun _ => rfl) (by omega) (fun x18 tx18 => ?_)
            refine w_goto rfl ?_
            exact ih31 (400 - x18.toInt).toNat (by omega) x16 x18 rfl  (by omega)
          · skip
            refine w_iload rfl rfl ?_
            refine w_const rfl ?_
            first | refine w_iadd rfl (by omega) (fun x19 tx19 => ?_) | refine w_iiU rfl (fun x19 tx19 => ?_)
            exact wp_iret (z := false) rfl (fun h9 => by cases h9) ⟨rfl, ⟨_, rfl, trivial⟩⟩
    exact loop31 _ 0 0 rfl  (by omega)
set_option maxRecDepth 4000 in
theorem s_X12_worn {K : Nat} (a : Nat → Nat → Int32) (b : Nat → Nat → Int64) (v : Nat → Option Nat) (L : Nat) (i : Int32) (j : Int32) (hR : RC K a) (h0 : v 0 = some L) (hL : L = 22 ∨ L = 46) : f_call mtC 4 130 [.inr (.inr (some 0)), .inl i, .inl j] (cH a b v) (fun v9 h' => h' = cH a b v ∧ ∃ x : Int32, v9 = some (.inl x) ∧ True) := by
  refine f_call_of (d0 := 3) rfl (Nat.le_of_ble_eq_true rfl) (fun d hd => ?_)
  show f_wp _ (0, [some (.inr (.inr (some 0))), some (.inl i), some (.inl j)], [], cH a b v) _
  have lm1 : (-1 : Int32).toInt = -1 := rfl
  refine w_aload rfl rfl ?_
  refine w_iload rfl rfl ?_
  refine w_iload rfl rfl ?_
  refine w_invV (rest := []) rfl rfl rfl rfl rfl (Nat.le_of_ble_eq_true rfl) rfl (by omega) (s_X12_areTwo (K := K) a b v L i j hR  (h0) (by omega)) (fun z1 h9 hq2 => ?_)
  obtain ⟨rfl, x3, rfl, px3⟩ := hq2
  show f_wp _ (6, [some (.inr (.inr (some 0))), some (.inl i), some (.inl j)], [.inl x3], cH a b v) _
  refine w_if_eq rfl (fun c4 => ?_) (fun c4 => ?_)
  · skip
    refine w_const rfl ?_
    exact wp_iret (z := false) rfl (fun h9 => by cases h9) ⟨rfl, ⟨_, rfl, trivial⟩⟩
  · skip
    refine w_aload rfl rfl ?_
    refine w_iload rfl rfl ?_
    refine w_iload rfl rfl ?_
    refine w_invV (rest := []) rfl rfl rfl rfl rfl (Nat.le_of_ble_eq_true rfl) rfl (by omega) (s_X12_wearing (K := K) a b v L i j hR  (h0) (by omega) (by omega) (by omega)) (fun z5 h9 hq6 => ?_)
    obtain ⟨rfl, x7, rfl, px7⟩ := hq6
    show f_wp _ (15, [some (.inr (.inr (some 0))), some (.inl i), some (.inl j)], [.inl x7], cH a b v) _
    refine w_goto rfl ?_
    exact wp_iret (z := false) rfl (fun h9 => by cases h9) ⟨rfl, ⟨_, rfl, trivial⟩⟩
set_option maxRecDepth 4000 in
theorem s_X12_love {K : Nat} (a : Nat → Nat → Int32) (b : Nat → Nat → Int64) (v : Nat → Option Nat) (L : Nat) (i : Int32) (hR : RC K a) (h0 : v 0 = some L) (hL : L = 22 ∨ L = 46) : f_call mtC 4 132 [.inr (.inr (some 0)), .inl i] (cH a b v) (fun v9 h' => h' = cH a b v ∧ ∃ x : Int32, v9 = some (.inl x) ∧ True) := by
  refine f_call_of (d0 := 3) rfl (Nat.le_of_ble_eq_true rfl) (fun d hd => ?_)
  show f_wp _ (0, [some (.inr (.inr (some 0))), some (.inl i), none, none, none, none], [], cH a b v) _
  have lm1 : (-1 : Int32).toInt = -1 := rfl
  have l0 : (0 : Int32).toInt = 0 := rfl
  have l1 : (1 : Int32).toInt = 1 := rfl
  have l401 : (401 : Int32).toInt = 401 := rfl
  refine w_aload rfl rfl ?_
  refine w_iload rfl rfl ?_
  refine w_invV (rest := []) rfl rfl rfl rfl rfl (Nat.le_of_ble_eq_true rfl) rfl (by omega) (s_X12_isRiver (K := K) a b v L i hR  (h0) (by omega)) (fun z1 h9 hq2 => ?_)
  obtain ⟨rfl, x3, rfl, px3⟩ := hq2
  show f_wp _ (5, [some (.inr (.inr (some 0))), some (.inl i), none, none, none, none], [.inl x3], cH a b v) _
  refine w_if_ne rfl (fun c4 => ?_) (fun c4 => ?_)
  · skip
    refine w_const rfl ?_
    exact wp_iret (z := false) rfl (fun h9 => by cases h9) ⟨rfl, ⟨_, rfl, trivial⟩⟩
  · skip
    refine w_const rfl ?_
    refine w_istore (lo' := [some (.inr (.inr (some 0))), some (.inl i), some (.inl (-1)), none, none, none]) rfl rfl ?_
    refine w_const rfl ?_
    refine w_istore (lo' := [some (.inr (.inr (some 0))), some (.inl i), some (.inl (-1)), some (.inl 401), none, none]) rfl rfl ?_
    refine w_const rfl ?_
    refine w_istore (lo' := [some (.inr (.inr (some 0))), some (.inl i), some (.inl (-1)), some (.inl 401), some (.inl 0), none]) rfl rfl ?_
    have loop19 : ∀ (ms9 : Nat) (be : Int32) (so : Int32) (r : Int32) (o5_19 : Option f_V), (6 - r.toInt).toNat = ms9 → (0 ≤ r.toInt ∧ r.toInt ≤ 6) → f_wp (f_code (t_X12_love (f_ev mtC d))) (19, [some (.inr (.inr (some 0))), some (.inl i), some (.inl be), some (.inl so), some (.inl r), o5_19], [], cH a b v) (fun v9 h' => h' = cH a b v ∧ ∃ x : Int32, v9 = some (.inl x) ∧ True) := by
      intro ms9
      induction ms9 using Nat.strongRecOn with
      | _ ms19 ih19 =>
        intro be so r o5_19 hm19 hr
        refine w_iload rfl rfl ?_
        refine w_aload rfl rfl ?_
        refine c_getR (t := some L) rfl rfl rfl rfl h0 ?_
        refine c_getI rfl (sh_land (by omega)) rfl rfl ?_
        have q5 : 0 ≤ (a L 7).toInt ∧ (a L 7).toInt ≤ 6 := RC.riv hR (by omega)
        refine w_ic_ge rfl (fun c6 => ?_) (fun c6 => ?_)
        · skip
          refine w_iload rfl rfl ?_
          exact wp_iret (z := false) rfl (fun h9 => by cases h9) ⟨rfl, ⟨_, rfl, trivial⟩⟩
        · skip
          refine w_iload rfl rfl ?_
          refine w_iload rfl rfl ?_
          refine w_ic_ne rfl (fun c7 => ?_) (fun c7 => ?_)
          · skip
            refine w_const rfl ?_
            refine w_goto rfl ?_
            refine w_istore (lo' := [some (.inr (.inr (some 0))), some (.inl i), some (.inl be), some (.inl so), some (.inl r), some (.inl (-1))]) rfl rfl ?_
            refine w_iload rfl rfl ?_
            refine w_if_le rfl (fun c8 => ?_) (fun c8 => ?_)
            · skip
              refine w_iinc (lo' := fun z9 => [some (.inr (.inr (some 0))), some (.inl i), some (.inl be), some (.inl so), some (.inl z9), some (.inl (-1))]) rfl rfl (fun _ => rfl) (by omega) (fun x9 tx9 => ?_)
              refine w_goto rfl ?_
              exact ih19 (6 - x9.toInt).toNat (by omega) be so x9 (some (.inl (-1))) rfl  (by omega)
            · exfalso; omega
          · skip
            refine w_aload rfl rfl ?_
            refine w_iload rfl rfl ?_
            refine w_iload rfl rfl ?_
            refine w_invV (rest := []) rfl rfl rfl rfl rfl (Nat.le_of_ble_eq_true rfl) rfl (by omega) (s_X12_wearing (K := K) a b v L i r hR  (h0) (by omega) (by omega) (by omega)) (fun z10 h9 hq11 => ?_)
            obtain ⟨rfl, x12, rfl, px12⟩ := hq11
            show f_wp _ (48, [some (.inr (.inr (some 0))), some (.inl i), some (.inl be), some (.inl so), some (.inl r), o5_19], [.inl x12], cH a b v) _
            refine w_istore (lo' := [some (.inr (.inr (some 0))), some (.inl i), some (.inl be), some (.inl so), some (.inl r), some (.inl x12)]) rfl rfl ?_
            refine w_iload rfl rfl ?_
            refine w_if_le rfl (fun c13 => ?_) (fun c13 => ?_)
            · skip
              refine w_iinc (lo' := fun z9 => [some (.inr (.inr (some 0))), some (.inl i), some (.inl be), some (.inl so), some (.inl z9), some (.inl x12)]) rfl rfl (fun _ => rfl) (by omega) (fun x14 tx14 => ?_)
              refine w_goto rfl ?_
              exact ih19 (6 - x14.toInt).toNat (by omega) be so x14 (some (.inl x12)) rfl  (by omega)
            · skip
              refine w_iload rfl rfl ?_
              refine w_iload rfl rfl ?_
              refine w_ic_ge rfl (fun c15 => ?_) (fun c15 => ?_)
              · skip
                refine w_iinc (lo' := fun z9 => [some (.inr (.inr (some 0))), some (.inl i), some (.inl be), some (.inl so), some (.inl z9), some (.inl x12)]) rfl rfl (fun _ => rfl) (by omega) (fun x16 tx16 => ?_)
                refine w_goto rfl ?_
                exact ih19 (6 - x16.toInt).toNat (by omega) be so x16 (some (.inl x12)) rfl  (by omega)
              · skip
                refine w_iload rfl rfl ?_
                refine w_istore (lo' := [some (.inr (.inr (some 0))), some (.inl i), some (.inl be), some (.inl x12), some (.inl r), some (.inl x12)]) rfl rfl ?_
                refine w_iload rfl rfl ?_
                refine w_istore (lo' := [some (.inr (.inr (some 0))), some (.inl i), some (.inl r), some (.inl x12), some (.inl r), some (.inl x12)]) rfl rfl ?_
                refine w_iinc (lo' := fun z9 => [some (.inr (.inr (some 0))), some (.inl i), some (.inl r), some (.inl x12), some (.inl z9), some (.inl x12)]) rfl rfl (fun _ => rfl) (by omega) (fun x17 tx17 => ?_)
                refine w_goto rfl ?_
                exact ih19 (6 - x17.toInt).toNat (by omega) r x12 x17 (some (.inl x12)) rfl  (by omega)
    exact loop19 _ (-1) 401 0 none rfl  (by omega)
set_option maxRecDepth 4000 in
theorem s_X12_hyphen {K : Nat} (a : Nat → Nat → Int32) (b : Nat → Nat → Int64) (v : Nat → Option Nat) (L : Nat) (i : Int32) (hR : RC K a) (h0 : v 0 = some L) (hL : L = 22 ∨ L = 46) : f_call mtC 5 133 [.inr (.inr (some 0)), .inl i] (cH a b v) (fun v9 h' => ∃ (a' : Nat → Nat → Int32) (v' : Nat → Option Nat), h' = cH a' b v' ∧ RC K a' ∧ (FR [10, 11] a a' ∧ ((∀ i, i ∉ [5] → v' i = v i) ∧ (v' 5 = v 5 ∨ v' 5 = some L)) ∧ True) ∧ ∃ x : Int32, v9 = some (.inl x) ∧ True) := by
  refine f_call_of (d0 := 4) rfl (Nat.le_of_ble_eq_true rfl) (fun d hd => ?_)
  show f_wp _ (0, [some (.inr (.inr (some 0))), some (.inl i), none, none, none], [], cH a b v) _
  have lm1 : (-1 : Int32).toInt = -1 := rfl
  have l0 : (0 : Int32).toInt = 0 := rfl
  have l1 : (1 : Int32).toInt = 1 := rfl
  refine w_aload rfl rfl ?_
  refine w_iload rfl rfl ?_
  refine w_invV (rest := []) rfl rfl rfl rfl rfl (Nat.le_of_ble_eq_true rfl) rfl (by omega) (s_X12_isRiver (K := K) a b v L i hR  (h0) (by omega)) (fun z1 h9 hq2 => ?_)
  obtain ⟨rfl, x3, rfl, px3⟩ := hq2
  show f_wp _ (5, [some (.inr (.inr (some 0))), some (.inl i), none, none, none], [.inl x3], cH a b v) _
  refine w_if_ne rfl (fun c4 => ?_) (fun c4 => ?_)
  · skip
    refine w_const rfl ?_
    exact wp_iret (z := false) rfl (fun h9 => by cases h9) ⟨a, v, rfl, hR, ⟨FR.rf, ⟨(fun _ _ => rfl), Or.inl rfl⟩, trivial⟩, ⟨_, rfl, trivial⟩⟩
  · skip
    refine w_aload rfl rfl ?_
    refine w_invV (rest := []) rfl rfl rfl rfl rfl (Nat.le_of_ble_eq_true rfl) rfl (by omega) (s_X12_netNow (K := K) a b v L  hR  (h0) (by omega)) (fun z5 h9 hq6 => ?_)
    obtain ⟨a7, v8, rfl, ha7, fa7, rfl⟩ := hq6
    show f_wp _ (14, [some (.inr (.inr (some 0))), some (.inl i), none, none, none], [.inr (.inr (some 9))], cH a7 b v8) _
    refine c_getR (t := some 11) rfl rfl rfl rfl rfl ?_
    refine w_iload rfl rfl ?_
    refine c_iald rfl rfl (by omega) (fun x9 ex9 => ?_)
    have qx9 : 0 ≤ x9.toInt ∧ x9.toInt ≤ 63 := by rw [ex9]; exact RC.who ha7 _
    refine w_istore (lo' := [some (.inr (.inr (some 0))), some (.inl i), some (.inl x9), none, none]) rfl rfl ?_
    refine w_iload rfl rfl ?_
    refine w_invS (rest := []) rfl (Nat.le_of_ble_eq_true rfl) rfl (Nat.le_of_ble_eq_true rfl) rfl (by omega) (s_J6_bitCount_0f7a4 (K := K) a7 b v8  x9   ) (fun z10 h9 hq11 => ?_)
    obtain ⟨rfl, x12, rfl, px12⟩ := hq11
    show f_wp _ (24, [some (.inr (.inr (some 0))), some (.inl i), some (.inl x9), none, none], [.inl x12], cH a7 b v8) _
    refine w_const rfl ?_
    first | refine w_isub rfl (by omega) (fun x13 tx13 => ?_) | refine w_iiU rfl (fun x13 tx13 => ?_)
    refine w_istore (lo' := [some (.inr (.inr (some 0))), some (.inl i), some (.inl x9), some (.inl x13), none]) rfl rfl ?_
    refine w_const rfl ?_
    refine w_istore (lo' := [some (.inr (.inr (some 0))), some (.inl i), some (.inl x9), some (.inl x13), some (.inl 0)]) rfl rfl ?_
    have loop30 : ∀ (ms9 : Nat) (si : Int32) (r : Int32) , (6 - r.toInt).toNat = ms9 → (0 ≤ r.toInt ∧ r.toInt ≤ 6) → f_wp (f_code (t_X12_hyphen (f_ev mtC d))) (30, [some (.inr (.inr (some 0))), some (.inl i), some (.inl x9), some (.inl si), some (.inl r)], [], cH a7 b v8) (fun v9 h' => ∃ (a' : Nat → Nat → Int32) (v' : Nat → Option Nat), h' = cH a' b v' ∧ RC K a' ∧ (FR [10, 11] a a' ∧ ((∀ i, i ∉ [5] → v' i = v i) ∧ (v' 5 = v 5 ∨ v' 5 = some L)) ∧ True) ∧ ∃ x : Int32, v9 = some (.inl x) ∧ True) := by
      intro ms9
      induction ms9 using Nat.strongRecOn with
      | _ ms30 ih30 =>
        intro si r  hm30 hr
        refine w_iload rfl rfl ?_
        refine w_aload rfl rfl ?_
        refine c_getR (t := some L) rfl rfl rfl rfl ((fa7.2.1.1 0 (by decide)).trans h0) ?_
        refine c_getI rfl (sh_land (by omega)) rfl rfl ?_
        have q14 : 0 ≤ (a7 L 7).toInt ∧ (a7 L 7).toInt ≤ 6 := RC.riv ha7 (by omega)
        refine w_ic_ge rfl (fun c15 => ?_) (fun c15 => ?_)
        · skip
          refine w_iload rfl rfl ?_
          exact wp_iret (z := false) rfl (fun h9 => by cases h9) ⟨a7, v8, rfl, ha7, ⟨FR.tr (FR.rf) (FR.sub fa7.1 (by first | exact (fun _ h9 => h9) | decide | (intro c9 h9; simp only [List.mem_cons, List.not_mem_nil, or_false] at h9 ⊢; omega) | (intro c9 h9; simp only [List.mem_cons, List.not_mem_nil, or_false] at h9; exact cA_mem (by omega)) | (intro c9 h9; simp only [List.mem_cons, List.not_mem_nil, or_false] at h9; exact cB_mem (by omega)) | (intro c9 h9; simp only [List.mem_cons, List.not_mem_nil, or_false] at h9; exact cU_mem (by omega)) | (intro c9 h9; simp only [List.mem_cons, List.not_mem_nil, or_false] at h9; exact cM_mem (by omega)) | exact cA_sub)), ⟨fun i9 h9 => (fa7.2.1.1 i9 (fun z9 => h9 (by first | exact z9 | (revert z9; simp; done) | (revert z9; simp; omega)))).trans ((show ∀ i9, i9 ∉ [5] → v i9 = v i9 from (fun _ _ => rfl)) i9 h9), Or.inr fa7.2.1.2⟩, trivial⟩, ⟨_, rfl, trivial⟩⟩
        · skip
          refine w_iload rfl rfl ?_
          refine w_iload rfl rfl ?_
          refine w_iiE rfl (fun x16 tx16 => ?_)
          refine w_const rfl ?_
          refine w_iiE rfl (fun x17 tx17 => ?_)
          refine w_if_eq rfl (fun c18 => ?_) (fun c18 => ?_)
          · skip
            refine w_iinc (lo' := fun z9 => [some (.inr (.inr (some 0))), some (.inl i), some (.inl x9), some (.inl si), some (.inl z9)]) rfl rfl (fun _ => rfl) (by omega) (fun x19 tx19 => ?_)
            refine w_goto rfl ?_
            exact ih30 (6 - x19.toInt).toNat (by omega) si x19 rfl  (by omega)
          · skip
            refine w_iload rfl rfl ?_
            refine w_aload rfl rfl ?_
            refine c_getR (t := some L) rfl rfl rfl rfl ((fa7.2.1.1 0 (by decide)).trans h0) ?_
            refine c_getR (t := some (L + 1)) rfl (sh_land (by omega)) rfl rfl (rC_land0 (by omega)) ?_
            refine w_iload rfl rfl ?_
            refine c_aald5 (t := some ((L + 1) + 11 + 2 * r.toInt.toNat)) rfl (sh_row (by omega)) (by omega) (rC_row (by omega)) ?_
            refine c_getI rfl (sh_riv (by omega)) rfl rfl ?_
            first | refine w_iadd rfl (by omega) (fun x20 tx20 => ?_) | refine w_iiU rfl (fun x20 tx20 => ?_)
            refine w_istore (lo' := [some (.inr (.inr (some 0))), some (.inl i), some (.inl x9), some (.inl x20), some (.inl r)]) rfl rfl ?_
            refine w_iinc (lo' := fun z9 => [some (.inr (.inr (some 0))), some (.inl i), some (.inl x9), some (.inl x20), some (.inl z9)]) rfl rfl (fun _ => rfl) (by omega) (fun x21 tx21 => ?_)
            refine w_goto rfl ?_
            exact ih30 (6 - x21.toInt).toNat (by omega) x20 x21 rfl  (by omega)
    exact loop30 _ x13 0 rfl  (by omega)
set_option maxRecDepth 4000 in
theorem s_X12_priceBy {K : Nat} (a : Nat → Nat → Int32) (b : Nat → Nat → Int64) (v : Nat → Option Nat) (L : Nat) (i : Int32) (j : Int32) (hR : RC K a) (h0 : v 0 = some L) (hL : L = 22 ∨ L = 46) (hi : 0 ≤ i.toInt ∧ i.toInt ≤ 5) (hj : 0 ≤ j.toInt ∧ j.toInt ≤ 5) : f_call mtC 4 138 [.inr (.inr (some 0)), .inl i, .inl j] (cH a b v) (fun v9 h' => h' = cH a b v ∧ ∃ x : Int32, v9 = some (.inl x) ∧ True) := by
  refine f_call_of (d0 := 3) rfl (Nat.le_of_ble_eq_true rfl) (fun d hd => ?_)
  show f_wp _ (0, [some (.inr (.inr (some 0))), some (.inl i), some (.inl j)], [], cH a b v) _
  have lm1 : (-1 : Int32).toInt = -1 := rfl
  have l1 : (1 : Int32).toInt = 1 := rfl
  have l16 : (16 : Int32).toInt = 16 := rfl
  refine w_aload rfl rfl ?_
  refine c_getR (t := some L) rfl rfl rfl rfl h0 ?_
  refine c_getR (t := some (L + 10)) rfl (sh_land (by omega)) rfl rfl (rC_land5 (by omega)) ?_
  refine w_iload rfl rfl ?_
  refine c_iald rfl (sh_fits (by omega)) (by omega) (fun x1 ex1 => ?_)
  refine w_iload rfl rfl ?_
  refine w_iiE rfl (fun x2 tx2 => ?_)
  refine w_const rfl ?_
  refine w_iiE rfl (fun x3 tx3 => ?_)
  refine w_if_eq rfl (fun c4 => ?_) (fun c4 => ?_)
  · skip
    refine w_const rfl ?_
    exact wp_iret (z := false) rfl (fun h9 => by cases h9) ⟨rfl, ⟨_, rfl, trivial⟩⟩
  · skip
    refine w_aload rfl rfl ?_
    refine c_getR (t := some 21) rfl rfl rfl rfl rfl ?_
    refine w_iload rfl rfl ?_
    refine c_iald rfl rfl (by omega) (fun x5 ex5 => ?_)
    refine w_const rfl ?_
    refine w_ic_ne rfl (fun c6 => ?_) (fun c6 => ?_)
    · skip
      refine w_const rfl ?_
      exact wp_iret (z := false) rfl (fun h9 => by cases h9) ⟨rfl, ⟨_, rfl, trivial⟩⟩
    · skip
      refine w_aload rfl rfl ?_
      refine c_getR (t := some 21) rfl rfl rfl rfl rfl ?_
      refine w_iload rfl rfl ?_
      refine c_iald rfl rfl (by omega) (fun x7 ex7 => ?_)
      refine w_aload rfl rfl ?_
      refine c_getR (t := some L) rfl rfl rfl rfl h0 ?_
      refine w_iload rfl rfl ?_
      refine w_iload rfl rfl ?_
      refine w_invV (rest := [.inl x7]) rfl rfl (sh_land (by omega)) rfl rfl (Nat.le_of_ble_eq_true rfl) rfl (by omega) (s_X3_digging (K := K) a b v  L i j hR  (by omega) (by omega) (by omega)) (fun z8 h9 hq9 => ?_)
      obtain ⟨rfl, x10, rfl, px10⟩ := hq9
      show f_wp _ (43, [some (.inr (.inr (some 0))), some (.inl i), some (.inl j)], [.inl x10, .inl x7], cH a b v) _
      refine w_const rfl ?_
      first | refine w_imulR rfl (c := 16) rfl (by omega) (fun x11 tx11 => ?_) | refine w_iiU rfl (fun x11 tx11 => ?_)
      first | refine w_iadd rfl (by omega) (fun x12 tx12 => ?_) | refine w_iiU rfl (fun x12 tx12 => ?_)
      refine w_const rfl ?_
      first | refine w_iadd rfl (by omega) (fun x13 tx13 => ?_) | refine w_iiU rfl (fun x13 tx13 => ?_)
      exact wp_iret (z := false) rfl (fun h9 => by cases h9) ⟨rfl, ⟨_, rfl, trivial⟩⟩
set_option maxRecDepth 4000 in
theorem s_X12_cheapen {K : Nat} (a : Nat → Nat → Int32) (b : Nat → Nat → Int64) (v : Nat → Option Nat) (L : Nat) (i : Int32) (hR : RC K a) (h0 : v 0 = some L) (hL : L = 22 ∨ L = 46) (hi : 0 ≤ i.toInt ∧ i.toInt ≤ 5) : f_call mtC 5 137 [.inr (.inr (some 0)), .inl i] (cH a b v) (fun v9 h' => ∃ (a' : Nat → Nat → Int32), h' = cH a' b v ∧ RC K a' ∧ (FR [21] a a' ∧ True) ∧ v9 = none) := by
  refine f_call_of (d0 := 4) rfl (Nat.le_of_ble_eq_true rfl) (fun d hd => ?_)
  show f_wp _ (0, [some (.inr (.inr (some 0))), some (.inl i), none, none], [], cH a b v) _
  have lm1 : (-1 : Int32).toInt = -1 := rfl
  have l0 : (0 : Int32).toInt = 0 := rfl
  have l1 : (1 : Int32).toInt = 1 := rfl
  refine w_const rfl ?_
  refine w_istore (lo' := [some (.inr (.inr (some 0))), some (.inl i), some (.inl 0), none]) rfl rfl ?_
  have loop2 : ∀ (ms9 : Nat) (r : Int32) (a2 : Nat → Nat → Int32) (o3_2 : Option f_V), (6 - r.toInt).toNat = ms9 → RC K a2 → FR [21] a a2 → (0 ≤ r.toInt ∧ r.toInt ≤ 6) → f_wp (f_code (t_X12_cheapen (f_ev mtC d))) (2, [some (.inr (.inr (some 0))), some (.inl i), some (.inl r), o3_2], [], cH a2 b v) (fun v9 h' => ∃ (a' : Nat → Nat → Int32), h' = cH a' b v ∧ RC K a' ∧ (FR [21] a a' ∧ True) ∧ v9 = none) := by
    intro ms9
    induction ms9 using Nat.strongRecOn with
    | _ ms2 ih2 =>
      intro r a2 o3_2 hm2 hR2 hF2 hr
      refine w_iload rfl rfl ?_
      refine w_aload rfl rfl ?_
      refine c_getR (t := some L) rfl rfl rfl rfl h0 ?_
      refine c_getI rfl (sh_land (by omega)) rfl rfl ?_
      have q1 : 0 ≤ (a2 L 7).toInt ∧ (a2 L 7).toInt ≤ 6 := RC.riv hR2 (by omega)
      refine w_ic_ge rfl (fun c2 => ?_) (fun c2 => ?_)
      · skip
        exact w_ret rfl ⟨a2, rfl, hR2, ⟨hF2, trivial⟩, rfl⟩
      · skip
        refine w_aload rfl rfl ?_
        refine w_iload rfl rfl ?_
        refine w_iload rfl rfl ?_
        refine w_invV (rest := []) rfl rfl rfl rfl rfl (Nat.le_of_ble_eq_true rfl) rfl (by omega) (s_X12_priceBy (K := K) a2 b v L i r hR2  (h0) (by omega) (by omega) (by omega)) (fun z3 h9 hq4 => ?_)
        obtain ⟨rfl, x5, rfl, px5⟩ := hq4
        show f_wp _ (19, [some (.inr (.inr (some 0))), some (.inl i), some (.inl r), o3_2], [.inl x5], cH a2 b v) _
        refine w_istore (lo' := [some (.inr (.inr (some 0))), some (.inl i), some (.inl r), some (.inl x5)]) rfl rfl ?_
        refine w_iload rfl rfl ?_
        refine w_const rfl ?_
        refine w_ic_eq rfl (fun c6 => ?_) (fun c6 => ?_)
        · skip
          refine w_iinc (lo' := fun z9 => [some (.inr (.inr (some 0))), some (.inl i), some (.inl z9), some (.inl x5)]) rfl rfl (fun _ => rfl) (by omega) (fun x7 tx7 => ?_)
          refine w_goto rfl ?_
          exact ih2 (6 - x7.toInt).toNat (by omega) x7 a2 (some (.inl x5)) rfl hR2 (hF2) (by omega)
        · skip
          refine w_aload rfl rfl ?_
          refine c_getR (t := some 21) rfl rfl rfl rfl rfl ?_
          refine w_iload rfl rfl ?_
          refine c_iald rfl rfl (by omega) (fun x8 ex8 => ?_)
          refine w_const rfl ?_
          refine w_ic_eq rfl (fun c9 => ?_) (fun c9 => ?_)
          · skip
            refine w_aload rfl rfl ?_
            refine c_getR (t := some 21) rfl rfl rfl rfl rfl ?_
            refine w_iload rfl rfl ?_
            refine w_iload rfl rfl ?_
            refine c_iast rfl rfl (by omega) (fun a10 ea10 => ?_)
            have ha10 : RC K a10 := RC.up hR2 ea10 (lc_any _ (by omega))
            have ra10_51 : (a10 L 7).toInt = (a2 L 7).toInt := by rw [ea10, mU_cell (by omega)]
            refine w_iinc (lo' := fun z9 => [some (.inr (.inr (some 0))), some (.inl i), some (.inl z9), some (.inl x5)]) rfl rfl (fun _ => rfl) (by omega) (fun x11 tx11 => ?_)
            refine w_goto rfl ?_
            exact ih2 (6 - x11.toInt).toNat (by omega) x11 a10 (some (.inl x5)) rfl ha10 (FR.up (hF2) (by first | decide | (simp; done) | exact cA_mem (by omega) | exact cB_mem (by omega) | exact cU_mem (by omega) | exact cM_mem (by omega)) ea10) (by omega)
          · skip
            refine w_iload rfl rfl ?_
            refine w_aload rfl rfl ?_
            refine c_getR (t := some 21) rfl rfl rfl rfl rfl ?_
            refine w_iload rfl rfl ?_
            refine c_iald rfl rfl (by omega) (fun x12 ex12 => ?_)
            refine w_ic_ge rfl (fun c13 => ?_) (fun c13 => ?_)
            · skip
              refine w_iinc (lo' := fun z9 => [some (.inr (.inr (some 0))), some (.inl i), some (.inl z9), some (.inl x5)]) rfl rfl (fun _ => rfl) (by omega) (fun x14 tx14 => ?_)
              refine w_goto rfl ?_
              exact ih2 (6 - x14.toInt).toNat (by omega) x14 a2 (some (.inl x5)) rfl hR2 (hF2) (by omega)
            · skip
              refine w_aload rfl rfl ?_
              refine c_getR (t := some 21) rfl rfl rfl rfl rfl ?_
              refine w_iload rfl rfl ?_
              refine w_iload rfl rfl ?_
              refine c_iast rfl rfl (by omega) (fun a15 ea15 => ?_)
              have ha15 : RC K a15 := RC.up hR2 ea15 (lc_any _ (by omega))
              have ra15_73 : (a15 L 7).toInt = (a2 L 7).toInt := by rw [ea15, mU_cell (by omega)]
              refine w_iinc (lo' := fun z9 => [some (.inr (.inr (some 0))), some (.inl i), some (.inl z9), some (.inl x5)]) rfl rfl (fun _ => rfl) (by omega) (fun x16 tx16 => ?_)
              refine w_goto rfl ?_
              exact ih2 (6 - x16.toInt).toNat (by omega) x16 a15 (some (.inl x5)) rfl ha15 (FR.up (hF2) (by first | decide | (simp; done) | exact cA_mem (by omega) | exact cB_mem (by omega) | exact cU_mem (by omega) | exact cM_mem (by omega)) ea15) (by omega)
  exact loop2 _ 0 a none rfl hR (FR.rf) (by omega)
set_option maxRecDepth 4000 in
theorem s_X12_priceChains {K : Nat} (a : Nat → Nat → Int32) (b : Nat → Nat → Int64) (v : Nat → Option Nat) (L : Nat) (i : Int32) (hR : RC K a) (h0 : v 0 = some L) (hL : L = 22 ∨ L = 46) : f_call mtC 6 136 [.inr (.inr (some 0)), .inl i] (cH a b v) (fun v9 h' => ∃ (a' : Nat → Nat → Int32), h' = cH a' b v ∧ RC K a' ∧ (FR [21] a a' ∧ True) ∧ v9 = none) := by
  refine f_call_of (d0 := 5) rfl (Nat.le_of_ble_eq_true rfl) (fun d hd => ?_)
  show f_wp _ (0, [some (.inr (.inr (some 0))), some (.inl i), none, none], [], cH a b v) _
  have lm1 : (-1 : Int32).toInt = -1 := rfl
  have l0 : (0 : Int32).toInt = 0 := rfl
  have l1 : (1 : Int32).toInt = 1 := rfl
  have l6 : (6 : Int32).toInt = 6 := rfl
  refine w_const rfl ?_
  refine w_istore (lo' := [some (.inr (.inr (some 0))), some (.inl i), some (.inl 0), none]) rfl rfl ?_
  have loop2 : ∀ (ms9 : Nat) (r : Int32) (a2 : Nat → Nat → Int32) , (6 - r.toInt).toNat = ms9 → RC K a2 → FR [21] a a2 → (0 ≤ r.toInt ∧ r.toInt ≤ 6) → f_wp (f_code (t_X12_priceChains (f_ev mtC d))) (2, [some (.inr (.inr (some 0))), some (.inl i), some (.inl r), none], [], cH a2 b v) (fun v9 h' => ∃ (a' : Nat → Nat → Int32), h' = cH a' b v ∧ RC K a' ∧ (FR [21] a a' ∧ True) ∧ v9 = none) := by
    intro ms9
    induction ms9 using Nat.strongRecOn with
    | _ ms2 ih2 =>
      intro r a2  hm2 hR2 hF2 hr
      refine w_iload rfl rfl ?_
      refine w_const rfl ?_
      refine w_ic_ge rfl (fun c1 => ?_) (fun c1 => ?_)
      · skip
        refine w_const rfl ?_
        refine w_istore (lo' := [some (.inr (.inr (some 0))), some (.inl i), some (.inl 0), none]) rfl rfl ?_
        have loop32 : ∀ (ms9 : Nat) (m : Int32) (a32 : Nat → Nat → Int32) (o3_32 : Option f_V), (6 - m.toInt).toNat = ms9 → RC K a32 → FR [21] a a32 → (0 ≤ m.toInt ∧ m.toInt ≤ 6) → f_wp (f_code (t_X12_priceChains (f_ev mtC d))) (32, [some (.inr (.inr (some 0))), some (.inl i), some (.inl m), o3_32], [], cH a32 b v) (fun v9 h' => ∃ (a' : Nat → Nat → Int32), h' = cH a' b v ∧ RC K a' ∧ (FR [21] a a' ∧ True) ∧ v9 = none) := by
          intro ms9
          induction ms9 using Nat.strongRecOn with
          | _ ms32 ih32 =>
            intro m a32 o3_32 hm32 hR32 hF32 hm
            refine w_iload rfl rfl ?_
            refine w_const rfl ?_
            refine w_ic_ge rfl (fun c2 => ?_) (fun c2 => ?_)
            · skip
              exact w_ret rfl ⟨a32, rfl, hR32, ⟨hF32, trivial⟩, rfl⟩
            · skip
              refine w_const rfl ?_
              refine w_istore (lo' := [some (.inr (.inr (some 0))), some (.inl i), some (.inl m), some (.inl 0)]) rfl rfl ?_
              have loop40 : ∀ (ms9 : Nat) (r : Int32) (a40 : Nat → Nat → Int32) , (6 - r.toInt).toNat = ms9 → RC K a40 → FR [21] a a40 → (0 ≤ r.toInt ∧ r.toInt ≤ 6) → f_wp (f_code (t_X12_priceChains (f_ev mtC d))) (40, [some (.inr (.inr (some 0))), some (.inl i), some (.inl m), some (.inl r)], [], cH a40 b v) (fun v9 h' => ∃ (a' : Nat → Nat → Int32), h' = cH a' b v ∧ RC K a' ∧ (FR [21] a a' ∧ True) ∧ v9 = none) := by
                intro ms9
                induction ms9 using Nat.strongRecOn with
                | _ ms40 ih40 =>
                  intro r a40  hm40 hR40 hF40 hr
                  refine w_iload rfl rfl ?_
                  refine w_aload rfl rfl ?_
                  refine c_getR (t := some L) rfl rfl rfl rfl h0 ?_
                  refine c_getI rfl (sh_land (by omega)) rfl rfl ?_
                  have q3 : 0 ≤ (a40 L 7).toInt ∧ (a40 L 7).toInt ≤ 6 := RC.riv hR40 (by omega)
                  refine w_ic_ge rfl (fun c4 => ?_) (fun c4 => ?_)
                  · skip
                    refine w_iinc (lo' := fun z9 => [some (.inr (.inr (some 0))), some (.inl i), some (.inl z9), some (.inl r)]) rfl rfl (fun _ => rfl) (by omega) (fun x5 tx5 => ?_)
                    refine w_goto rfl ?_
                    exact ih32 (6 - x5.toInt).toNat (by omega) x5 a40 (some (.inl r)) rfl hR40 (hF40) (by omega)
                  · skip
                    refine w_aload rfl rfl ?_
                    refine w_iload rfl rfl ?_
                    refine w_invV (rest := []) rfl rfl rfl rfl rfl (Nat.le_of_ble_eq_true rfl) rfl (by omega) (s_X12_cheapen (K := K) a40 b v L r hR40  (h0) (by omega) (by omega)) (fun z6 h9 hq7 => ?_)
                    obtain ⟨a8, rfl, ha8, fa8, rfl⟩ := hq7
                    show f_wp _ (56, [some (.inr (.inr (some 0))), some (.inl i), some (.inl m), some (.inl r)], [], cH a8 b v) _
                    refine w_iinc (lo' := fun z9 => [some (.inr (.inr (some 0))), some (.inl i), some (.inl m), some (.inl z9)]) rfl rfl (fun _ => rfl) (by omega) (fun x9 tx9 => ?_)
                    refine w_goto rfl ?_
                    exact ih40 (6 - x9.toInt).toNat (by omega) x9 a8 rfl ha8 (FR.tr (hF40) (FR.sub fa8.1 (by first | exact (fun _ h9 => h9) | decide | (intro c9 h9; simp only [List.mem_cons, List.not_mem_nil, or_false] at h9 ⊢; omega) | (intro c9 h9; simp only [List.mem_cons, List.not_mem_nil, or_false] at h9; exact cA_mem (by omega)) | (intro c9 h9; simp only [List.mem_cons, List.not_mem_nil, or_false] at h9; exact cB_mem (by omega)) | (intro c9 h9; simp only [List.mem_cons, List.not_mem_nil, or_false] at h9; exact cU_mem (by omega)) | (intro c9 h9; simp only [List.mem_cons, List.not_mem_nil, or_false] at h9; exact cM_mem (by omega)) | exact cA_sub))) (by omega)
              exact loop40 _ 0 a32 rfl hR32 (hF32) (by omega)
        exact loop32 _ 0 a2 none rfl hR2 (hF2) (by omega)
      · skip
        refine w_aload rfl rfl ?_
        refine c_getR (t := some 21) rfl rfl rfl rfl rfl ?_
        refine w_iload rfl rfl ?_
        refine w_iload rfl rfl ?_
        refine w_iload rfl rfl ?_
        refine w_ic_ne rfl (fun c10 => ?_) (fun c10 => ?_)
        · skip
          refine w_const rfl ?_
          refine w_goto rfl ?_
          refine c_iast rfl rfl (by omega) (fun a11 ea11 => ?_)
          have ha11 : RC K a11 := RC.up hR2 ea11 (lc_any _ (by omega))
          refine w_iinc (lo' := fun z9 => [some (.inr (.inr (some 0))), some (.inl i), some (.inl z9), none]) rfl rfl (fun _ => rfl) (by omega) (fun x12 tx12 => ?_)
          refine w_goto rfl ?_
          exact ih2 (6 - x12.toInt).toNat (by omega) x12 a11 rfl ha11 (FR.up (hF2) (by first | decide | (simp; done) | exact cA_mem (by omega) | exact cB_mem (by omega) | exact cU_mem (by omega) | exact cM_mem (by omega)) ea11) (by omega)
        · skip
          refine w_const rfl ?_
          refine c_iast rfl rfl (by omega) (fun a13 ea13 => ?_)
          have ha13 : RC K a13 := RC.up hR2 ea13 (lc_any _ (by omega))
          refine w_iinc (lo' := fun z9 => [some (.inr (.inr (some 0))), some (.inl i), some (.inl z9), none]) rfl rfl (fun _ => rfl) (by omega) (fun x14 tx14 => ?_)
          refine w_goto rfl ?_
          exact ih2 (6 - x14.toInt).toNat (by omega) x14 a13 rfl ha13 (FR.up (hF2) (by first | decide | (simp; done) | exact cA_mem (by omega) | exact cB_mem (by omega) | exact cU_mem (by omega) | exact cM_mem (by omega)) ea13) (by omega)
  exact loop2 _ 0 a rfl hR (FR.rf) (by omega)
set_option maxRecDepth 4000 in
theorem s_X12_chainLink {K : Nat} (a : Nat → Nat → Int32) (b : Nat → Nat → Int64) (v : Nat → Option Nat) (L : Nat) (i : Int32) (j : Int32) (hR : RC K a) (h0 : v 0 = some L) (hL : L = 22 ∨ L = 46) (hi : 0 ≤ i.toInt ∧ i.toInt ≤ 5) : f_call mtC 5 139 [.inr (.inr (some 0)), .inl i, .inl j] (cH a b v) (fun v9 h' => h' = cH a b v ∧ ∃ x : Int32, v9 = some (.inl x) ∧ True) := by
  refine f_call_of (d0 := 4) rfl (Nat.le_of_ble_eq_true rfl) (fun d hd => ?_)
  show f_wp _ (0, [some (.inr (.inr (some 0))), some (.inl i), some (.inl j), none, none, none, none], [], cH a b v) _
  have lm1 : (-1 : Int32).toInt = -1 := rfl
  have l0 : (0 : Int32).toInt = 0 := rfl
  have l1 : (1 : Int32).toInt = 1 := rfl
  have zj := ti_hi j
  refine w_iload rfl rfl ?_
  refine w_istore (lo' := [some (.inr (.inr (some 0))), some (.inl i), some (.inl j), some (.inl i), none, none, none]) rfl rfl ?_
  refine w_const rfl ?_
  refine w_istore (lo' := [some (.inr (.inr (some 0))), some (.inl i), some (.inl j), some (.inl i), some (.inl 0), none, none]) rfl rfl ?_
  have loop5 : ∀ (ms9 : Nat) (att : Int32) (m : Int32) (o5_5 : Option f_V) (o6_5 : Option f_V), (j.toInt - m.toInt).toNat = ms9 → (0 ≤ att.toInt ∧ att.toInt ≤ 5) → (0 ≤ m.toInt) → f_wp (f_code (t_X12_chainLink (f_ev mtC d))) (5, [some (.inr (.inr (some 0))), some (.inl i), some (.inl j), some (.inl att), some (.inl m), o5_5, o6_5], [], cH a b v) (fun v9 h' => h' = cH a b v ∧ ∃ x : Int32, v9 = some (.inl x) ∧ True) := by
    intro ms9
    induction ms9 using Nat.strongRecOn with
    | _ ms5 ih5 =>
      intro att m o5_5 o6_5 hm5 hatt hm
      refine w_iload rfl rfl ?_
      refine w_iload rfl rfl ?_
      refine w_ic_ge rfl (fun c1 => ?_) (fun c1 => ?_)
      · skip
        refine w_iload rfl rfl ?_
        exact wp_iret (z := false) rfl (fun h9 => by cases h9) ⟨rfl, ⟨_, rfl, trivial⟩⟩
      · skip
        refine w_const rfl ?_
        refine w_istore (lo' := [some (.inr (.inr (some 0))), some (.inl i), some (.inl j), some (.inl att), some (.inl m), some (.inl (-1)), o6_5]) rfl rfl ?_
        refine w_const rfl ?_
        refine w_istore (lo' := [some (.inr (.inr (some 0))), some (.inl i), some (.inl j), some (.inl att), some (.inl m), some (.inl (-1)), some (.inl 0)]) rfl rfl ?_
        have loop17 : ∀ (ms9 : Nat) (nx : Int32) (r : Int32) , (6 - r.toInt).toNat = ms9 → (-1 ≤ nx.toInt ∧ nx.toInt ≤ 5) → (0 ≤ r.toInt ∧ r.toInt ≤ 6) → f_wp (f_code (t_X12_chainLink (f_ev mtC d))) (17, [some (.inr (.inr (some 0))), some (.inl i), some (.inl j), some (.inl att), some (.inl m), some (.inl nx), some (.inl r)], [], cH a b v) (fun v9 h' => h' = cH a b v ∧ ∃ x : Int32, v9 = some (.inl x) ∧ True) := by
          intro ms9
          induction ms9 using Nat.strongRecOn with
          | _ ms17 ih17 =>
            intro nx r  hm17 hnx hr
            refine w_iload rfl rfl ?_
            refine w_aload rfl rfl ?_
            refine c_getR (t := some L) rfl rfl rfl rfl h0 ?_
            refine c_getI rfl (sh_land (by omega)) rfl rfl ?_
            have q2 : 0 ≤ (a L 7).toInt ∧ (a L 7).toInt ≤ 6 := RC.riv hR (by omega)
            refine w_ic_ge rfl (fun c3 => ?_) (fun c3 => ?_)
            · skip
              refine w_iload rfl rfl ?_
              refine w_const rfl ?_
              refine w_ic_ne rfl (fun c4 => ?_) (fun c4 => ?_)
              · skip
                refine w_const rfl ?_
                exact wp_iret (z := false) rfl (fun h9 => by cases h9) ⟨rfl, ⟨_, rfl, trivial⟩⟩
              · skip
                refine w_iload rfl rfl ?_
                refine w_istore (lo' := [some (.inr (.inr (some 0))), some (.inl i), some (.inl j), some (.inl nx), some (.inl m), some (.inl nx), some (.inl r)]) rfl rfl ?_
                refine w_iinc (lo' := fun z9 => [some (.inr (.inr (some 0))), some (.inl i), some (.inl j), some (.inl nx), some (.inl z9), some (.inl nx), some (.inl r)]) rfl rfl (fun _ => rfl) (by omega) (fun x5 tx5 => ?_)
                refine w_goto rfl ?_
                exact ih5 (j.toInt - x5.toInt).toNat (by omega) nx x5 (some (.inl nx)) (some (.inl r)) rfl  (by omega) (by omega)
            · skip
              refine w_iload rfl rfl ?_
              refine w_const rfl ?_
              refine w_ic_ne rfl (fun c6 => ?_) (fun c6 => ?_)
              · skip
                refine w_aload rfl rfl ?_
                refine w_iload rfl rfl ?_
                refine w_iload rfl rfl ?_
                refine w_invV (rest := []) rfl rfl rfl rfl rfl (Nat.le_of_ble_eq_true rfl) rfl (by omega) (s_X12_priceBy (K := K) a b v L att r hR  (h0) (by omega) (by omega) (by omega)) (fun z7 h9 hq8 => ?_)
                obtain ⟨rfl, x9, rfl, px9⟩ := hq8
                show f_wp _ (42, [some (.inr (.inr (some 0))), some (.inl i), some (.inl j), some (.inl att), some (.inl m), some (.inl nx), some (.inl r)], [.inl x9], cH a b v) _
                refine w_aload rfl rfl ?_
                refine c_getR (t := some 21) rfl rfl rfl rfl rfl ?_
                refine w_iload rfl rfl ?_
                refine c_iald rfl rfl (by omega) (fun x10 ex10 => ?_)
                refine w_ic_ne rfl (fun c11 => ?_) (fun c11 => ?_)
                · skip
                  refine w_iload rfl rfl ?_
                  refine w_istore (lo' := [some (.inr (.inr (some 0))), some (.inl i), some (.inl j), some (.inl att), some (.inl m), some (.inl r), some (.inl r)]) rfl rfl ?_
                  refine w_iinc (lo' := fun z9 => [some (.inr (.inr (some 0))), some (.inl i), some (.inl j), some (.inl att), some (.inl m), some (.inl r), some (.inl z9)]) rfl rfl (fun _ => rfl) (by omega) (fun x12 tx12 => ?_)
                  refine w_goto rfl ?_
                  exact ih17 (6 - x12.toInt).toNat (by omega) r x12 rfl  (by omega) (by omega)
                · skip
                  refine w_iinc (lo' := fun z9 => [some (.inr (.inr (some 0))), some (.inl i), some (.inl j), some (.inl att), some (.inl m), some (.inl nx), some (.inl z9)]) rfl rfl (fun _ => rfl) (by omega) (fun x13 tx13 => ?_)
                  refine w_goto rfl ?_
                  exact ih17 (6 - x13.toInt).toNat (by omega) nx x13 rfl  (by omega) (by omega)
              · skip
                refine w_iload rfl rfl ?_
                refine w_const rfl ?_
                refine w_ic_ne rfl (fun c14 => ?_) (fun c14 => ?_)
                · skip
                  refine w_const rfl ?_
                  exact wp_iret (z := false) rfl (fun h9 => by cases h9) ⟨rfl, ⟨_, rfl, trivial⟩⟩
                · skip
                  refine w_iload rfl rfl ?_
                  refine w_istore (lo' := [some (.inr (.inr (some 0))), some (.inl i), some (.inl j), some (.inl nx), some (.inl m), some (.inl nx), some (.inl r)]) rfl rfl ?_
                  refine w_iinc (lo' := fun z9 => [some (.inr (.inr (some 0))), some (.inl i), some (.inl j), some (.inl nx), some (.inl z9), some (.inl nx), some (.inl r)]) rfl rfl (fun _ => rfl) (by omega) (fun x15 tx15 => ?_)
                  refine w_goto rfl ?_
                  exact ih5 (j.toInt - x15.toInt).toNat (by omega) nx x15 (some (.inl nx)) (some (.inl r)) rfl  (by omega) (by omega)
        exact loop17 _ (-1) 0 rfl  (by omega) (by omega)
  exact loop5 _ i 0 none none rfl  (by omega) (by omega)
set_option maxRecDepth 4000 in
theorem s_X12_chain {K : Nat} (a : Nat → Nat → Int32) (b : Nat → Nat → Int64) (v : Nat → Option Nat) (L : Nat) (i : Int32) (j : Int32) (k : Int32) (hR : RC K a) (h0 : v 0 = some L) (hL : L = 22 ∨ L = 46) : f_call mtC 7 135 [.inr (.inr (some 0)), .inl i, .inl j, .inl k] (cH a b v) (fun v9 h' => ∃ (a' : Nat → Nat → Int32), h' = cH a' b v ∧ RC K a' ∧ (FR [21] a a' ∧ True) ∧ ∃ x : Int32, v9 = some (.inl x) ∧ True) := by
  refine f_call_of (d0 := 6) rfl (Nat.le_of_ble_eq_true rfl) (fun d hd => ?_)
  show f_wp _ (0, [some (.inr (.inr (some 0))), some (.inl i), some (.inl j), some (.inl k), none, none], [], cH a b v) _
  have lm1 : (-1 : Int32).toInt = -1 := rfl
  have l1 : (1 : Int32).toInt = 1 := rfl
  have l2 : (2 : Int32).toInt = 2 := rfl
  have l16 : (16 : Int32).toInt = 16 := rfl
  refine w_aload rfl rfl ?_
  refine w_iload rfl rfl ?_
  refine w_iload rfl rfl ?_
  refine w_invV (rest := []) rfl rfl rfl rfl rfl (Nat.le_of_ble_eq_true rfl) rfl (by omega) (s_X12_areTwo (K := K) a b v L i j hR  (h0) (by omega)) (fun z1 h9 hq2 => ?_)
  obtain ⟨rfl, x3, rfl, px3⟩ := hq2
  show f_wp _ (6, [some (.inr (.inr (some 0))), some (.inl i), some (.inl j), some (.inl k), none, none], [.inl x3], cH a b v) _
  refine w_if_eq rfl (fun c4 => ?_) (fun c4 => ?_)
  · skip
    refine w_const rfl ?_
    exact wp_iret (z := false) rfl (fun h9 => by cases h9) ⟨a, rfl, hR, ⟨FR.rf, trivial⟩, ⟨_, rfl, trivial⟩⟩
  · skip
    refine w_iload rfl rfl ?_
    refine w_if_ge rfl (fun c5 => ?_) (fun c5 => ?_)
    · skip
      refine w_aload rfl rfl ?_
      refine w_iload rfl rfl ?_
      refine w_invV (rest := []) rfl rfl rfl rfl rfl (Nat.le_of_ble_eq_true rfl) rfl (by omega) (s_X12_priceChains (K := K) a b v L j hR  (h0) (by omega)) (fun z6 h9 hq7 => ?_)
      obtain ⟨a8, rfl, ha8, fa8, rfl⟩ := hq7
      show f_wp _ (20, [some (.inr (.inr (some 0))), some (.inl i), some (.inl j), some (.inl k), none, none], [], cH a8 b v) _
      refine w_aload rfl rfl ?_
      refine c_getR (t := some 21) rfl rfl rfl rfl rfl ?_
      refine w_iload rfl rfl ?_
      refine c_iald rfl rfl (by omega) (fun x9 ex9 => ?_)
      refine w_istore (lo' := [some (.inr (.inr (some 0))), some (.inl i), some (.inl j), some (.inl k), some (.inl x9), none]) rfl rfl ?_
      refine w_iload rfl rfl ?_
      refine w_const rfl ?_
      refine w_ic_ne rfl (fun c10 => ?_) (fun c10 => ?_)
      · skip
        refine w_const rfl ?_
        exact wp_iret (z := false) rfl (fun h9 => by cases h9) ⟨a8, rfl, ha8, ⟨FR.tr (FR.rf) (FR.sub fa8.1 (by first | exact (fun _ h9 => h9) | decide | (intro c9 h9; simp only [List.mem_cons, List.not_mem_nil, or_false] at h9 ⊢; omega) | (intro c9 h9; simp only [List.mem_cons, List.not_mem_nil, or_false] at h9; exact cA_mem (by omega)) | (intro c9 h9; simp only [List.mem_cons, List.not_mem_nil, or_false] at h9; exact cB_mem (by omega)) | (intro c9 h9; simp only [List.mem_cons, List.not_mem_nil, or_false] at h9; exact cU_mem (by omega)) | (intro c9 h9; simp only [List.mem_cons, List.not_mem_nil, or_false] at h9; exact cM_mem (by omega)) | exact cA_sub)), trivial⟩, ⟨_, rfl, trivial⟩⟩
      · skip
        refine w_iload rfl rfl ?_
        refine w_if_ne rfl (fun c11 => ?_) (fun c11 => ?_)
        · skip
          refine w_iload rfl rfl ?_
          refine w_const rfl ?_
          first | refine w_idiv (c := 16) rfl rfl (by decide) (by omega) (fun x12 tx12 => ?_) | refine w_iidE rfl (by omega) (fun x12 tx12 => ?_)
          exact wp_iret (z := false) rfl (fun h9 => by cases h9) ⟨a8, rfl, ha8, ⟨FR.tr (FR.rf) (FR.sub fa8.1 (by first | exact (fun _ h9 => h9) | decide | (intro c9 h9; simp only [List.mem_cons, List.not_mem_nil, or_false] at h9 ⊢; omega) | (intro c9 h9; simp only [List.mem_cons, List.not_mem_nil, or_false] at h9; exact cA_mem (by omega)) | (intro c9 h9; simp only [List.mem_cons, List.not_mem_nil, or_false] at h9; exact cB_mem (by omega)) | (intro c9 h9; simp only [List.mem_cons, List.not_mem_nil, or_false] at h9; exact cU_mem (by omega)) | (intro c9 h9; simp only [List.mem_cons, List.not_mem_nil, or_false] at h9; exact cM_mem (by omega)) | exact cA_sub)), trivial⟩, ⟨_, rfl, trivial⟩⟩
        · skip
          refine w_iload rfl rfl ?_
          refine w_const rfl ?_
          first | refine w_irem (c := 16) rfl rfl (by decide) (by omega) (fun x13 tx13 => ?_) | refine w_iidE rfl (by omega) (fun x13 tx13 => ?_)
          refine w_istore (lo' := [some (.inr (.inr (some 0))), some (.inl i), some (.inl j), some (.inl k), some (.inl x9), some (.inl x13)]) rfl rfl ?_
          refine w_iload rfl rfl ?_
          refine w_const rfl ?_
          refine w_ic_ne rfl (fun c14 => ?_) (fun c14 => ?_)
          · skip
            refine w_iload rfl rfl ?_
            exact wp_iret (z := false) rfl (fun h9 => by cases h9) ⟨a8, rfl, ha8, ⟨FR.tr (FR.rf) (FR.sub fa8.1 (by first | exact (fun _ h9 => h9) | decide | (intro c9 h9; simp only [List.mem_cons, List.not_mem_nil, or_false] at h9 ⊢; omega) | (intro c9 h9; simp only [List.mem_cons, List.not_mem_nil, or_false] at h9; exact cA_mem (by omega)) | (intro c9 h9; simp only [List.mem_cons, List.not_mem_nil, or_false] at h9; exact cB_mem (by omega)) | (intro c9 h9; simp only [List.mem_cons, List.not_mem_nil, or_false] at h9; exact cU_mem (by omega)) | (intro c9 h9; simp only [List.mem_cons, List.not_mem_nil, or_false] at h9; exact cM_mem (by omega)) | exact cA_sub)), trivial⟩, ⟨_, rfl, trivial⟩⟩
          · skip
            refine w_iload rfl rfl ?_
            refine w_const rfl ?_
            first | refine w_isub rfl (by omega) (fun x15 tx15 => ?_) | refine w_iiU rfl (fun x15 tx15 => ?_)
            refine w_iload rfl rfl ?_
            refine w_ic_gt rfl (fun c16 => ?_) (fun c16 => ?_)
            · skip
              refine w_const rfl ?_
              exact wp_iret (z := false) rfl (fun h9 => by cases h9) ⟨a8, rfl, ha8, ⟨FR.tr (FR.rf) (FR.sub fa8.1 (by first | exact (fun _ h9 => h9) | decide | (intro c9 h9; simp only [List.mem_cons, List.not_mem_nil, or_false] at h9 ⊢; omega) | (intro c9 h9; simp only [List.mem_cons, List.not_mem_nil, or_false] at h9; exact cA_mem (by omega)) | (intro c9 h9; simp only [List.mem_cons, List.not_mem_nil, or_false] at h9; exact cB_mem (by omega)) | (intro c9 h9; simp only [List.mem_cons, List.not_mem_nil, or_false] at h9; exact cU_mem (by omega)) | (intro c9 h9; simp only [List.mem_cons, List.not_mem_nil, or_false] at h9; exact cM_mem (by omega)) | exact cA_sub)), trivial⟩, ⟨_, rfl, trivial⟩⟩
            · skip
              refine w_aload rfl rfl ?_
              refine w_iload rfl rfl ?_
              refine w_iload rfl rfl ?_
              refine w_const rfl ?_
              first | refine w_isub rfl (by omega) (fun x17 tx17 => ?_) | refine w_iiU rfl (fun x17 tx17 => ?_)
              refine w_invV (rest := []) rfl rfl rfl rfl rfl (Nat.le_of_ble_eq_true rfl) rfl (by omega) (s_X12_chainLink (K := K) a8 b v L i x17 ha8  (h0) (by omega) (by omega)) (fun z18 h9 hq19 => ?_)
              obtain ⟨rfl, x20, rfl, px20⟩ := hq19
              show f_wp _ (77, [some (.inr (.inr (some 0))), some (.inl i), some (.inl j), some (.inl k), some (.inl x9), some (.inl x13)], [.inl x20], cH a8 b v) _
              refine w_goto rfl ?_
              exact wp_iret (z := false) rfl (fun h9 => by cases h9) ⟨a8, rfl, ha8, ⟨FR.tr (FR.rf) (FR.sub fa8.1 (by first | exact (fun _ h9 => h9) | decide | (intro c9 h9; simp only [List.mem_cons, List.not_mem_nil, or_false] at h9 ⊢; omega) | (intro c9 h9; simp only [List.mem_cons, List.not_mem_nil, or_false] at h9; exact cA_mem (by omega)) | (intro c9 h9; simp only [List.mem_cons, List.not_mem_nil, or_false] at h9; exact cB_mem (by omega)) | (intro c9 h9; simp only [List.mem_cons, List.not_mem_nil, or_false] at h9; exact cU_mem (by omega)) | (intro c9 h9; simp only [List.mem_cons, List.not_mem_nil, or_false] at h9; exact cM_mem (by omega)) | exact cA_sub)), trivial⟩, ⟨_, rfl, trivial⟩⟩
    · skip
      refine w_const rfl ?_
      exact wp_iret (z := false) rfl (fun h9 => by cases h9) ⟨a, rfl, hR, ⟨FR.rf, trivial⟩, ⟨_, rfl, trivial⟩⟩
set_option maxRecDepth 4000 in
theorem s_X12_isPeace {K : Nat} (a : Nat → Nat → Int32) (b : Nat → Nat → Int64) (v : Nat → Option Nat) (L : Nat) (i : Int32) (hR : RC K a) (h0 : v 0 = some L) (hL : L = 22 ∨ L = 46) : f_call mtC 5 141 [.inr (.inr (some 0)), .inl i] (cH a b v) (fun v9 h' => ∃ (a' : Nat → Nat → Int32) (v' : Nat → Option Nat), h' = cH a' b v' ∧ RC K a' ∧ (FR [10, 11] a a' ∧ ((∀ i, i ∉ [5] → v' i = v i) ∧ (v' 5 = v 5 ∨ v' 5 = some L)) ∧ True) ∧ ∃ x : Int32, v9 = some (.inl x) ∧ (x.toInt = 0 ∨ x.toInt = 1)) := by
  refine f_call_of (d0 := 4) rfl (Nat.le_of_ble_eq_true rfl) (fun d hd => ?_)
  show f_wp _ (0, [some (.inr (.inr (some 0))), some (.inl i), none, none], [], cH a b v) _
  have l0 : (0 : Int32).toInt = 0 := rfl
  have l1 : (1 : Int32).toInt = 1 := rfl
  refine w_aload rfl rfl ?_
  refine w_invV (rest := []) rfl rfl rfl rfl rfl (Nat.le_of_ble_eq_true rfl) rfl (by omega) (s_X12_netNow (K := K) a b v L  hR  (h0) (by omega)) (fun z1 h9 hq2 => ?_)
  obtain ⟨a3, v4, rfl, ha3, fa3, rfl⟩ := hq2
  show f_wp _ (4, [some (.inr (.inr (some 0))), some (.inl i), none, none], [.inr (.inr (some 9))], cH a3 b v4) _
  refine w_astore (lo' := [some (.inr (.inr (some 0))), some (.inl i), some (.inr (.inr (some 9))), none]) rfl rfl ?_
  refine w_const rfl ?_
  refine w_istore (lo' := [some (.inr (.inr (some 0))), some (.inl i), some (.inr (.inr (some 9))), some (.inl 0)]) rfl rfl ?_
  have loop7 : ∀ (ms9 : Nat) (r : Int32) (a7 : Nat → Nat → Int32) , (6 - r.toInt).toNat = ms9 → RC K a7 → FR [10, 11] a a7 → (0 ≤ r.toInt ∧ r.toInt ≤ 6) → f_wp (f_code (t_X12_isPeace (f_ev mtC d))) (7, [some (.inr (.inr (some 0))), some (.inl i), some (.inr (.inr (some 9))), some (.inl r)], [], cH a7 b v4) (fun v9 h' => ∃ (a' : Nat → Nat → Int32) (v' : Nat → Option Nat), h' = cH a' b v' ∧ RC K a' ∧ (FR [10, 11] a a' ∧ ((∀ i, i ∉ [5] → v' i = v i) ∧ (v' 5 = v 5 ∨ v' 5 = some L)) ∧ True) ∧ ∃ x : Int32, v9 = some (.inl x) ∧ (x.toInt = 0 ∨ x.toInt = 1)) := by
    intro ms9
    induction ms9 using Nat.strongRecOn with
    | _ ms7 ih7 =>
      intro r a7  hm7 hR7 hF7 hr
      refine w_iload rfl rfl ?_
      refine w_aload rfl rfl ?_
      refine c_getR (t := some L) rfl rfl rfl rfl ((fa3.2.1.1 0 (by decide)).trans h0) ?_
      refine c_getI rfl (sh_land (by omega)) rfl rfl ?_
      have q5 : 0 ≤ (a7 L 7).toInt ∧ (a7 L 7).toInt ≤ 6 := RC.riv hR7 (by omega)
      refine w_ic_ge rfl (fun c6 => ?_) (fun c6 => ?_)
      · skip
        refine w_aload rfl rfl ?_
        refine w_aload rfl rfl ?_
        refine w_invV (rest := [.inr (.inr (some 9))]) rfl rfl rfl rfl rfl (Nat.le_of_ble_eq_true rfl) rfl (by omega) (s_X12_season (K := K) a7 b v4   hR7  ) (fun z7 h9 hq8 => ?_)
        obtain ⟨rfl, x9, rfl, px9⟩ := hq8
        show f_wp _ (43, [some (.inr (.inr (some 0))), some (.inl i), some (.inr (.inr (some 9))), some (.inl r)], [.inl x9, .inr (.inr (some 9))], cH a7 b v4) _
        refine w_invV (rest := []) rfl rfl rfl rfl rfl (Nat.le_of_ble_eq_true rfl) rfl (by omega) (s_X5_isNeedy (K := K) a7 b v4 L x9 hR7  (fa3.2.1.2) (by omega)) (fun z10 h9 hq11 => ?_)
        obtain ⟨rfl, x12, rfl, px12⟩ := hq11
        show f_wp _ (46, [some (.inr (.inr (some 0))), some (.inl i), some (.inr (.inr (some 9))), some (.inl r)], [.inl x12], cH a7 b v4) _
        refine w_if_ne rfl (fun c13 => ?_) (fun c13 => ?_)
        · skip
          refine w_const rfl ?_
          refine w_goto rfl ?_
          exact wp_iret (z := true) rfl (fun _ => by first | exact Or.inl rfl | exact Or.inr rfl | (rcases (by omega : (1 : Int32).toInt = 0 ∨ (1 : Int32).toInt = 1) with h8 | h8; exact Or.inl (ti_eq h8); exact Or.inr (ti_eq h8))) ⟨a7, v4, rfl, hR7, ⟨hF7, ⟨fun i9 h9 => (fa3.2.1.1 i9 (fun z9 => h9 (by first | exact z9 | (revert z9; simp; done) | (revert z9; simp; omega)))).trans ((show ∀ i9, i9 ∉ [5] → v i9 = v i9 from (fun _ _ => rfl)) i9 h9), Or.inr fa3.2.1.2⟩, trivial⟩, ⟨_, rfl, by omega⟩⟩
        · skip
          refine w_const rfl ?_
          exact wp_iret (z := true) rfl (fun _ => by first | exact Or.inl rfl | exact Or.inr rfl | (rcases (by omega : (0 : Int32).toInt = 0 ∨ (0 : Int32).toInt = 1) with h8 | h8; exact Or.inl (ti_eq h8); exact Or.inr (ti_eq h8))) ⟨a7, v4, rfl, hR7, ⟨hF7, ⟨fun i9 h9 => (fa3.2.1.1 i9 (fun z9 => h9 (by first | exact z9 | (revert z9; simp; done) | (revert z9; simp; omega)))).trans ((show ∀ i9, i9 ∉ [5] → v i9 = v i9 from (fun _ _ => rfl)) i9 h9), Or.inr fa3.2.1.2⟩, trivial⟩, ⟨_, rfl, by omega⟩⟩
      · skip
        refine w_iload rfl rfl ?_
        refine w_iload rfl rfl ?_
        refine w_iiE rfl (fun x14 tx14 => ?_)
        refine w_const rfl ?_
        refine w_iiE rfl (fun x15 tx15 => ?_)
        refine w_if_eq rfl (fun c16 => ?_) (fun c16 => ?_)
        · skip
          refine w_iinc (lo' := fun z9 => [some (.inr (.inr (some 0))), some (.inl i), some (.inr (.inr (some 9))), some (.inl z9)]) rfl rfl (fun _ => rfl) (by omega) (fun x17 tx17 => ?_)
          refine w_goto rfl ?_
          exact ih7 (6 - x17.toInt).toNat (by omega) x17 a7 rfl hR7 (hF7) (by omega)
        · skip
          refine w_aload rfl rfl ?_
          refine w_iload rfl rfl ?_
          refine w_invV (rest := []) rfl rfl rfl rfl rfl (Nat.le_of_ble_eq_true rfl) rfl (by omega) (s_X5_release (K := K) a7 b v4 L r hR7  (fa3.2.1.2) (by omega)) (fun z18 h9 hq19 => ?_)
          obtain ⟨a20, rfl, ha20, fa20, x21, rfl, px21⟩ := hq19
          show f_wp _ (31, [some (.inr (.inr (some 0))), some (.inl i), some (.inr (.inr (some 9))), some (.inl r)], [.inl x21], cH a20 b v4) _
          refine w_pop rfl rfl ?_
          refine w_iinc (lo' := fun z9 => [some (.inr (.inr (some 0))), some (.inl i), some (.inr (.inr (some 9))), some (.inl z9)]) rfl rfl (fun _ => rfl) (by omega) (fun x22 tx22 => ?_)
          refine w_goto rfl ?_
          exact ih7 (6 - x22.toInt).toNat (by omega) x22 a20 rfl ha20 (FR.tr (hF7) (FR.sub fa20.1 (by first | exact (fun _ h9 => h9) | decide | (intro c9 h9; simp only [List.mem_cons, List.not_mem_nil, or_false] at h9 ⊢; omega) | (intro c9 h9; simp only [List.mem_cons, List.not_mem_nil, or_false] at h9; exact cA_mem (by omega)) | (intro c9 h9; simp only [List.mem_cons, List.not_mem_nil, or_false] at h9; exact cB_mem (by omega)) | (intro c9 h9; simp only [List.mem_cons, List.not_mem_nil, or_false] at h9; exact cU_mem (by omega)) | (intro c9 h9; simp only [List.mem_cons, List.not_mem_nil, or_false] at h9; exact cM_mem (by omega)) | exact cA_sub))) (by omega)
  exact loop7 _ 0 a3 rfl ha3 (FR.tr (FR.rf) (FR.sub fa3.1 (by first | exact (fun _ h9 => h9) | decide | (intro c9 h9; simp only [List.mem_cons, List.not_mem_nil, or_false] at h9 ⊢; omega) | (intro c9 h9; simp only [List.mem_cons, List.not_mem_nil, or_false] at h9; exact cA_mem (by omega)) | (intro c9 h9; simp only [List.mem_cons, List.not_mem_nil, or_false] at h9; exact cB_mem (by omega)) | (intro c9 h9; simp only [List.mem_cons, List.not_mem_nil, or_false] at h9; exact cU_mem (by omega)) | (intro c9 h9; simp only [List.mem_cons, List.not_mem_nil, or_false] at h9; exact cM_mem (by omega)) | exact cA_sub))) (by omega)
set_option maxRecDepth 4000 in
theorem s_X12_peace {K : Nat} (a : Nat → Nat → Int32) (b : Nat → Nat → Int64) (v : Nat → Option Nat) (L : Nat)  (hR : RC K a) (h0 : v 0 = some L) (hL : L = 22 ∨ L = 46) : f_call mtC 6 140 [.inr (.inr (some 0))] (cH a b v) (fun v9 h' => ∃ (a' : Nat → Nat → Int32) (v' : Nat → Option Nat), h' = cH a' b v' ∧ RC K a' ∧ (FR [10, 11] a a' ∧ ((∀ i, i ∉ [5] → v' i = v i) ∧ (v' 5 = v 5 ∨ v' 5 = some L)) ∧ True) ∧ ∃ x : Int32, v9 = some (.inl x) ∧ True) := by
  refine f_call_of (d0 := 5) rfl (Nat.le_of_ble_eq_true rfl) (fun d hd => ?_)
  show f_wp _ (0, [some (.inr (.inr (some 0))), none, none, none, none], [], cH a b v) _
  have lm1 : (-1 : Int32).toInt = -1 := rfl
  have l0 : (0 : Int32).toInt = 0 := rfl
  have l1 : (1 : Int32).toInt = 1 := rfl
  have l64 : (64 : Int32).toInt = 64 := rfl
  refine w_const rfl ?_
  refine w_istore (lo' := [some (.inr (.inr (some 0))), some (.inl 0), none, none, none]) rfl rfl ?_
  refine w_const rfl ?_
  refine w_istore (lo' := [some (.inr (.inr (some 0))), some (.inl 0), some (.inl 0), none, none]) rfl rfl ?_
  have loop4 : ∀ (ms9 : Nat) (se : Int32) (r : Int32) , (6 - r.toInt).toNat = ms9 → (0 ≤ r.toInt ∧ r.toInt ≤ 6) → f_wp (f_code (t_X12_peace (f_ev mtC d))) (4, [some (.inr (.inr (some 0))), some (.inl se), some (.inl r), none, none], [], cH a b v) (fun v9 h' => ∃ (a' : Nat → Nat → Int32) (v' : Nat → Option Nat), h' = cH a' b v' ∧ RC K a' ∧ (FR [10, 11] a a' ∧ ((∀ i, i ∉ [5] → v' i = v i) ∧ (v' 5 = v 5 ∨ v' 5 = some L)) ∧ True) ∧ ∃ x : Int32, v9 = some (.inl x) ∧ True) := by
    intro ms9
    induction ms9 using Nat.strongRecOn with
    | _ ms4 ih4 =>
      intro se r  hm4 hr
      refine w_iload rfl rfl ?_
      refine w_aload rfl rfl ?_
      refine c_getR (t := some L) rfl rfl rfl rfl h0 ?_
      refine c_getI rfl (sh_land (by omega)) rfl rfl ?_
      have q1 : 0 ≤ (a L 7).toInt ∧ (a L 7).toInt ≤ 6 := RC.riv hR (by omega)
      refine w_ic_ge rfl (fun c2 => ?_) (fun c2 => ?_)
      · skip
        refine w_const rfl ?_
        refine w_istore (lo' := [some (.inr (.inr (some 0))), some (.inl se), some (.inl (-1)), none, none]) rfl rfl ?_
        refine w_const rfl ?_
        refine w_istore (lo' := [some (.inr (.inr (some 0))), some (.inl se), some (.inl (-1)), some (.inl 0), none]) rfl rfl ?_
        have loop44 : ∀ (ms9 : Nat) (be : Int32) (m : Int32) (a44 : Nat → Nat → Int32) (v44 : Nat → Option Nat) (o4_44 : Option f_V), (64 - m.toInt).toNat = ms9 → RC K a44 → FR [10, 11] a a44 → (∀ i, i ∉ [5] → v44 i = v i) → (0 ≤ m.toInt ∧ m.toInt ≤ 64) → (v44 5 = v 5 ∨ v44 5 = some L) → f_wp (f_code (t_X12_peace (f_ev mtC d))) (44, [some (.inr (.inr (some 0))), some (.inl se), some (.inl be), some (.inl m), o4_44], [], cH a44 b v44) (fun v9 h' => ∃ (a' : Nat → Nat → Int32) (v' : Nat → Option Nat), h' = cH a' b v' ∧ RC K a' ∧ (FR [10, 11] a a' ∧ ((∀ i, i ∉ [5] → v' i = v i) ∧ (v' 5 = v 5 ∨ v' 5 = some L)) ∧ True) ∧ ∃ x : Int32, v9 = some (.inl x) ∧ True) := by
          intro ms9
          induction ms9 using Nat.strongRecOn with
          | _ ms44 ih44 =>
            intro be m a44 v44 o4_44 hm44 hR44 hF44 hG44 hm h59
            refine w_iload rfl rfl ?_
            refine w_const rfl ?_
            refine w_ic_ge rfl (fun c3 => ?_) (fun c3 => ?_)
            · skip
              refine w_iload rfl rfl ?_
              exact wp_iret (z := false) rfl (fun h9 => by cases h9) ⟨a44, v44, rfl, hR44, ⟨hF44, ⟨hG44, h59⟩, trivial⟩, ⟨_, rfl, trivial⟩⟩
            · skip
              refine w_iload rfl rfl ?_
              refine w_const rfl ?_
              refine w_ic_eq rfl (fun c4 => ?_) (fun c4 => ?_)
              · skip
                refine w_const rfl ?_
                refine w_goto rfl ?_
                refine w_istore (lo' := [some (.inr (.inr (some 0))), some (.inl se), some (.inl be), some (.inl m), some (.inl 1)]) rfl rfl ?_
                refine w_iload rfl rfl ?_
                refine w_iload rfl rfl ?_
                refine w_const rfl ?_
                refine w_iiE rfl (fun x5 tx5 => ?_)
                refine w_iiE rfl (fun x6 tx6 => ?_)
                refine w_if_ne rfl (fun c7 => ?_) (fun c7 => ?_)
                · skip
                  refine w_iload rfl rfl ?_
                  refine w_if_eq rfl (fun c8 => ?_) (fun c8 => ?_)
                  · exfalso; omega
                  · skip
                    refine w_aload rfl rfl ?_
                    refine w_iload rfl rfl ?_
                    refine w_invV (rest := []) rfl rfl rfl rfl rfl (Nat.le_of_ble_eq_true rfl) rfl (by omega) (s_X12_isPeace (K := K) a44 b v44 L m hR44  (((hG44 0 (by decide)).trans h0)) (by omega)) (fun z9 h9 hq10 => ?_)
                    obtain ⟨a11, v12, rfl, ha11, fa11, x13, rfl, px13⟩ := hq10
                    show f_wp _ (91, [some (.inr (.inr (some 0))), some (.inl se), some (.inl be), some (.inl m), some (.inl 1)], [.inl x13], cH a11 b v12) _
                    refine w_if_eq rfl (fun c14 => ?_) (fun c14 => ?_)
                    · skip
                      refine w_iinc (lo' := fun z9 => [some (.inr (.inr (some 0))), some (.inl se), some (.inl be), some (.inl z9), some (.inl 1)]) rfl rfl (fun _ => rfl) (by omega) (fun x15 tx15 => ?_)
                      refine w_goto rfl ?_
                      exact ih44 (64 - x15.toInt).toNat (by omega) be x15 a11 v12 (some (.inl 1)) rfl ha11 (FR.tr (hF44) (FR.sub fa11.1 (by first | exact (fun _ h9 => h9) | decide | (intro c9 h9; simp only [List.mem_cons, List.not_mem_nil, or_false] at h9 ⊢; omega) | (intro c9 h9; simp only [List.mem_cons, List.not_mem_nil, or_false] at h9; exact cA_mem (by omega)) | (intro c9 h9; simp only [List.mem_cons, List.not_mem_nil, or_false] at h9; exact cB_mem (by omega)) | (intro c9 h9; simp only [List.mem_cons, List.not_mem_nil, or_false] at h9; exact cU_mem (by omega)) | (intro c9 h9; simp only [List.mem_cons, List.not_mem_nil, or_false] at h9; exact cM_mem (by omega)) | exact cA_sub))) (fun i9 h9 => (fa11.2.1.1 i9 (fun z9 => h9 (by first | exact z9 | (revert z9; simp; done) | (revert z9; simp; omega)))).trans ((show ∀ i9, i9 ∉ [5] → v44 i9 = v i9 from hG44) i9 h9)) (by omega) ((fa11.2.1.2).elim (fun z9 => z9 ▸ h59) Or.inr)
                    · skip
                      refine w_iload rfl rfl ?_
                      refine w_istore (lo' := [some (.inr (.inr (some 0))), some (.inl se), some (.inl m), some (.inl m), some (.inl 1)]) rfl rfl ?_
                      refine w_iinc (lo' := fun z9 => [some (.inr (.inr (some 0))), some (.inl se), some (.inl m), some (.inl z9), some (.inl 1)]) rfl rfl (fun _ => rfl) (by omega) (fun x16 tx16 => ?_)
                      refine w_goto rfl ?_
                      exact ih44 (64 - x16.toInt).toNat (by omega) m x16 a11 v12 (some (.inl 1)) rfl ha11 (FR.tr (hF44) (FR.sub fa11.1 (by first | exact (fun _ h9 => h9) | decide | (intro c9 h9; simp only [List.mem_cons, List.not_mem_nil, or_false] at h9 ⊢; omega) | (intro c9 h9; simp only [List.mem_cons, List.not_mem_nil, or_false] at h9; exact cA_mem (by omega)) | (intro c9 h9; simp only [List.mem_cons, List.not_mem_nil, or_false] at h9; exact cB_mem (by omega)) | (intro c9 h9; simp only [List.mem_cons, List.not_mem_nil, or_false] at h9; exact cU_mem (by omega)) | (intro c9 h9; simp only [List.mem_cons, List.not_mem_nil, or_false] at h9; exact cM_mem (by omega)) | exact cA_sub))) (fun i9 h9 => (fa11.2.1.1 i9 (fun z9 => h9 (by first | exact z9 | (revert z9; simp; done) | (revert z9; simp; omega)))).trans ((show ∀ i9, i9 ∉ [5] → v44 i9 = v i9 from hG44) i9 h9)) (by omega) ((fa11.2.1.2).elim (fun z9 => z9 ▸ h59) Or.inr)
                · skip
                  refine w_iinc (lo' := fun z9 => [some (.inr (.inr (some 0))), some (.inl se), some (.inl be), some (.inl z9), some (.inl 1)]) rfl rfl (fun _ => rfl) (by omega) (fun x17 tx17 => ?_)
                  refine w_goto rfl ?_
                  exact ih44 (64 - x17.toInt).toNat (by omega) be x17 a44 v44 (some (.inl 1)) rfl hR44 (hF44) (hG44) (by omega) (h59)
              · skip
                refine w_iload rfl rfl ?_
                refine w_invS (rest := []) rfl (Nat.le_of_ble_eq_true rfl) rfl (Nat.le_of_ble_eq_true rfl) rfl (by omega) (s_J6_bitCount_0f7a4 (K := K) a44 b v44  m   ) (fun z18 h9 hq19 => ?_)
                obtain ⟨rfl, x20, rfl, px20⟩ := hq19
                show f_wp _ (59, [some (.inr (.inr (some 0))), some (.inl se), some (.inl be), some (.inl m), o4_44], [.inl x20], cH a44 b v44) _
                refine w_iload rfl rfl ?_
                refine w_invS (rest := [.inl x20]) rfl (Nat.le_of_ble_eq_true rfl) rfl (Nat.le_of_ble_eq_true rfl) rfl (by omega) (s_J6_bitCount_0f7a4 (K := K) a44 b v44  be   ) (fun z21 h9 hq22 => ?_)
                obtain ⟨rfl, x23, rfl, px23⟩ := hq22
                show f_wp _ (63, [some (.inr (.inr (some 0))), some (.inl se), some (.inl be), some (.inl m), o4_44], [.inl x23, .inl x20], cH a44 b v44) _
                refine w_ic_ge rfl (fun c24 => ?_) (fun c24 => ?_)
                · skip
                  refine w_const rfl ?_
                  refine w_istore (lo' := [some (.inr (.inr (some 0))), some (.inl se), some (.inl be), some (.inl m), some (.inl 0)]) rfl rfl ?_
                  refine w_iload rfl rfl ?_
                  refine w_iload rfl rfl ?_
                  refine w_const rfl ?_
                  refine w_iiE rfl (fun x25 tx25 => ?_)
                  refine w_iiE rfl (fun x26 tx26 => ?_)
                  refine w_if_ne rfl (fun c27 => ?_) (fun c27 => ?_)
                  · skip
                    refine w_iload rfl rfl ?_
                    refine w_if_eq rfl (fun c28 => ?_) (fun c28 => ?_)
                    · skip
                      refine w_iinc (lo' := fun z9 => [some (.inr (.inr (some 0))), some (.inl se), some (.inl be), some (.inl z9), some (.inl 0)]) rfl rfl (fun _ => rfl) (by omega) (fun x29 tx29 => ?_)
                      refine w_goto rfl ?_
                      exact ih44 (64 - x29.toInt).toNat (by omega) be x29 a44 v44 (some (.inl 0)) rfl hR44 (hF44) (hG44) (by omega) (h59)
                    · exfalso; omega
                  · skip
                    refine w_iinc (lo' := fun z9 => [some (.inr (.inr (some 0))), some (.inl se), some (.inl be), some (.inl z9), some (.inl 0)]) rfl rfl (fun _ => rfl) (by omega) (fun x30 tx30 => ?_)
                    refine w_goto rfl ?_
                    exact ih44 (64 - x30.toInt).toNat (by omega) be x30 a44 v44 (some (.inl 0)) rfl hR44 (hF44) (hG44) (by omega) (h59)
                · skip
                  refine w_const rfl ?_
                  refine w_goto rfl ?_
                  refine w_istore (lo' := [some (.inr (.inr (some 0))), some (.inl se), some (.inl be), some (.inl m), some (.inl 1)]) rfl rfl ?_
                  refine w_iload rfl rfl ?_
                  refine w_iload rfl rfl ?_
                  refine w_const rfl ?_
                  refine w_iiE rfl (fun x31 tx31 => ?_)
                  refine w_iiE rfl (fun x32 tx32 => ?_)
                  refine w_if_ne rfl (fun c33 => ?_) (fun c33 => ?_)
                  · skip
                    refine w_iload rfl rfl ?_
                    refine w_if_eq rfl (fun c34 => ?_) (fun c34 => ?_)
                    · exfalso; omega
                    · skip
                      refine w_aload rfl rfl ?_
                      refine w_iload rfl rfl ?_
                      refine w_invV (rest := []) rfl rfl rfl rfl rfl (Nat.le_of_ble_eq_true rfl) rfl (by omega) (s_X12_isPeace (K := K) a44 b v44 L m hR44  (((hG44 0 (by decide)).trans h0)) (by omega)) (fun z35 h9 hq36 => ?_)
                      obtain ⟨a37, v38, rfl, ha37, fa37, x39, rfl, px39⟩ := hq36
                      show f_wp _ (91, [some (.inr (.inr (some 0))), some (.inl se), some (.inl be), some (.inl m), some (.inl 1)], [.inl x39], cH a37 b v38) _
                      refine w_if_eq rfl (fun c40 => ?_) (fun c40 => ?_)
                      · skip
                        refine w_iinc (lo' := fun z9 => [some (.inr (.inr (some 0))), some (.inl se), some (.inl be), some (.inl z9), some (.inl 1)]) rfl rfl (fun _ => rfl) (by omega) (fun x41 tx41 => ?_)
                        refine w_goto rfl ?_
                        exact ih44 (64 - x41.toInt).toNat (by omega) be x41 a37 v38 (some (.inl 1)) rfl ha37 (FR.tr (hF44) (FR.sub fa37.1 (by first | exact (fun _ h9 => h9) | decide | (intro c9 h9; simp only [List.mem_cons, List.not_mem_nil, or_false] at h9 ⊢; omega) | (intro c9 h9; simp only [List.mem_cons, List.not_mem_nil, or_false] at h9; exact cA_mem (by omega)) | (intro c9 h9; simp only [List.mem_cons, List.not_mem_nil, or_false] at h9; exact cB_mem (by omega)) | (intro c9 h9; simp only [List.mem_cons, List.not_mem_nil, or_false] at h9; exact cU_mem (by omega)) | (intro c9 h9; simp only [List.mem_cons, List.not_mem_nil, or_false] at h9; exact cM_mem (by omega)) | exact cA_sub))) (fun i9 h9 => (fa37.2.1.1 i9 (fun z9 => h9 (by first | exact z9 | (revert z9; simp; done) | (revert z9; simp; omega)))).trans ((show ∀ i9, i9 ∉ [5] → v44 i9 = v i9 from hG44) i9 h9)) (by omega) ((fa37.2.1.2).elim (fun z9 => z9 ▸ h59) Or.inr)
                      · skip
                        refine w_iload rfl rfl ?_
                        refine w_istore (lo' := [some (.inr (.inr (some 0))), some (.inl se), some (.inl m), some (.inl m), some (.inl 1)]) rfl rfl ?_
                        refine w_iinc (lo' := fun z9 => [some (.inr (.inr (some 0))), some (.inl se), some (.inl m), some (.inl z9), some (.inl 1)]) rfl rfl (fun _ => rfl) (by omega) (fun x42 tx42 => ?_)
                        refine w_goto rfl ?_
                        exact ih44 (64 - x42.toInt).toNat (by omega) m x42 a37 v38 (some (.inl 1)) rfl ha37 (FR.tr (hF44) (FR.sub fa37.1 (by first | exact (fun _ h9 => h9) | decide | (intro c9 h9; simp only [List.mem_cons, List.not_mem_nil, or_false] at h9 ⊢; omega) | (intro c9 h9; simp only [List.mem_cons, List.not_mem_nil, or_false] at h9; exact cA_mem (by omega)) | (intro c9 h9; simp only [List.mem_cons, List.not_mem_nil, or_false] at h9; exact cB_mem (by omega)) | (intro c9 h9; simp only [List.mem_cons, List.not_mem_nil, or_false] at h9; exact cU_mem (by omega)) | (intro c9 h9; simp only [List.mem_cons, List.not_mem_nil, or_false] at h9; exact cM_mem (by omega)) | exact cA_sub))) (fun i9 h9 => (fa37.2.1.1 i9 (fun z9 => h9 (by first | exact z9 | (revert z9; simp; done) | (revert z9; simp; omega)))).trans ((show ∀ i9, i9 ∉ [5] → v44 i9 = v i9 from hG44) i9 h9)) (by omega) ((fa37.2.1.2).elim (fun z9 => z9 ▸ h59) Or.inr)
                  · skip
                    refine w_iinc (lo' := fun z9 => [some (.inr (.inr (some 0))), some (.inl se), some (.inl be), some (.inl z9), some (.inl 1)]) rfl rfl (fun _ => rfl) (by omega) (fun x43 tx43 => ?_)
                    refine w_goto rfl ?_
                    exact ih44 (64 - x43.toInt).toNat (by omega) be x43 a44 v44 (some (.inl 1)) rfl hR44 (hF44) (hG44) (by omega) (h59)
        exact loop44 _ (-1) 0 a v none rfl hR (FR.rf) ((fun _ _ => rfl)) (by omega) (Or.inl rfl)
      · skip
        refine w_aload rfl rfl ?_
        refine c_getR (t := some 70) rfl rfl rfl rfl rfl ?_
        refine c_getR (t := some 71) rfl rfl rfl rfl rfl ?_
        refine w_iload rfl rfl ?_
        refine c_iald rfl rfl (by omega) (fun x44 ex44 => ?_)
        have qx44 : -1 ≤ x44.toInt ∧ x44.toInt ≤ 5 := by rw [ex44]; exact RC.hus hR _ (by omega)
        refine w_const rfl ?_
        refine w_ic_eq rfl (fun c45 => ?_) (fun c45 => ?_)
        · skip
          refine w_iinc (lo' := fun z9 => [some (.inr (.inr (some 0))), some (.inl se), some (.inl z9), none, none]) rfl rfl (fun _ => rfl) (by omega) (fun x46 tx46 => ?_)
          refine w_goto rfl ?_
          exact ih4 (6 - x46.toInt).toNat (by omega) se x46 rfl  (by omega)
        · skip
          refine w_iload rfl rfl ?_
          refine w_const rfl ?_
          refine w_iload rfl rfl ?_
          refine w_iiE rfl (fun x47 tx47 => ?_)
          refine w_iiE rfl (fun x48 tx48 => ?_)
          refine w_istore (lo' := [some (.inr (.inr (some 0))), some (.inl x48), some (.inl r), none, none]) rfl rfl ?_
          refine w_iinc (lo' := fun z9 => [some (.inr (.inr (some 0))), some (.inl x48), some (.inl z9), none, none]) rfl rfl (fun _ => rfl) (by omega) (fun x49 tx49 => ?_)
          refine w_goto rfl ?_
          exact ih4 (6 - x49.toInt).toNat (by omega) x48 x49 rfl  (by omega)
  exact loop4 _ 0 0 rfl  (by omega)
set_option maxRecDepth 4000 in
theorem s_X12_cathedral {K : Nat} (a : Nat → Nat → Int32) (b : Nat → Nat → Int64) (v : Nat → Option Nat) (L : Nat) (i : Int32) (hR : RC K a) (h0 : v 0 = some L) (hL : L = 22 ∨ L = 46) : f_call mtC 5 142 [.inr (.inr (some 0)), .inl i] (cH a b v) (fun v9 h' => ∃ (a' : Nat → Nat → Int32) (v' : Nat → Option Nat), h' = cH a' b v' ∧ RC K a' ∧ (FR [10, 11] a a' ∧ ((∀ i, i ∉ [5] → v' i = v i) ∧ (v' 5 = v 5 ∨ v' 5 = some L)) ∧ True) ∧ ∃ x : Int32, v9 = some (.inl x) ∧ True) := by
  refine f_call_of (d0 := 4) rfl (Nat.le_of_ble_eq_true rfl) (fun d hd => ?_)
  show f_wp _ (0, [some (.inr (.inr (some 0))), some (.inl i), none, none, none, none, none, none], [], cH a b v) _
  have lm1 : (-1 : Int32).toInt = -1 := rfl
  have l0 : (0 : Int32).toInt = 0 := rfl
  have l1 : (1 : Int32).toInt = 1 := rfl
  refine w_iload rfl rfl ?_
  refine w_invS (rest := []) rfl (Nat.le_of_ble_eq_true rfl) rfl (Nat.le_of_ble_eq_true rfl) rfl (by omega) (s_X12_isSeason (K := K) a b v  i   ) (fun z1 h9 hq2 => ?_)
  obtain ⟨rfl, x3, rfl, px3⟩ := hq2
  show f_wp _ (4, [some (.inr (.inr (some 0))), some (.inl i), none, none, none, none, none, none], [.inl x3], cH a b v) _
  refine w_if_ne rfl (fun c4 => ?_) (fun c4 => ?_)
  · skip
    refine w_const rfl ?_
    exact wp_iret (z := false) rfl (fun h9 => by cases h9) ⟨a, v, rfl, hR, ⟨FR.rf, ⟨(fun _ _ => rfl), Or.inl rfl⟩, trivial⟩, ⟨_, rfl, trivial⟩⟩
  · skip
    refine w_aload rfl rfl ?_
    refine w_invV (rest := []) rfl rfl rfl rfl rfl (Nat.le_of_ble_eq_true rfl) rfl (by omega) (s_X12_netNow (K := K) a b v L  hR  (h0) (by omega)) (fun z5 h9 hq6 => ?_)
    obtain ⟨a7, v8, rfl, ha7, fa7, rfl⟩ := hq6
    show f_wp _ (13, [some (.inr (.inr (some 0))), some (.inl i), none, none, none, none, none, none], [.inr (.inr (some 9))], cH a7 b v8) _
    refine w_astore (lo' := [some (.inr (.inr (some 0))), some (.inl i), some (.inr (.inr (some 9))), none, none, none, none, none]) rfl rfl ?_
    refine w_const rfl ?_
    refine w_istore (lo' := [some (.inr (.inr (some 0))), some (.inl i), some (.inr (.inr (some 9))), some (.inl (-1)), none, none, none, none]) rfl rfl ?_
    refine w_const rfl ?_
    refine w_istore (lo' := [some (.inr (.inr (some 0))), some (.inl i), some (.inr (.inr (some 9))), some (.inl (-1)), some (.inl (-1)), none, none, none]) rfl rfl ?_
    refine w_const rfl ?_
    refine w_istore (lo' := [some (.inr (.inr (some 0))), some (.inl i), some (.inr (.inr (some 9))), some (.inl (-1)), some (.inl (-1)), some (.inl 0), none, none]) rfl rfl ?_
    have loop22 : ∀ (ms9 : Nat) (be : Int32) (mo : Int32) (r : Int32) (o6_22 : Option f_V) (o7_22 : Option f_V), (6 - r.toInt).toNat = ms9 → (0 ≤ r.toInt ∧ r.toInt ≤ 6) → f_wp (f_code (t_X12_cathedral (f_ev mtC d))) (22, [some (.inr (.inr (some 0))), some (.inl i), some (.inr (.inr (some 9))), some (.inl be), some (.inl mo), some (.inl r), o6_22, o7_22], [], cH a7 b v8) (fun v9 h' => ∃ (a' : Nat → Nat → Int32) (v' : Nat → Option Nat), h' = cH a' b v' ∧ RC K a' ∧ (FR [10, 11] a a' ∧ ((∀ i, i ∉ [5] → v' i = v i) ∧ (v' 5 = v 5 ∨ v' 5 = some L)) ∧ True) ∧ ∃ x : Int32, v9 = some (.inl x) ∧ True) := by
      intro ms9
      induction ms9 using Nat.strongRecOn with
      | _ ms22 ih22 =>
        intro be mo r o6_22 o7_22 hm22 hr
        refine w_iload rfl rfl ?_
        refine w_aload rfl rfl ?_
        refine c_getR (t := some L) rfl rfl rfl rfl ((fa7.2.1.1 0 (by decide)).trans h0) ?_
        refine c_getI rfl (sh_land (by omega)) rfl rfl ?_
        have q9 : 0 ≤ (a7 L 7).toInt ∧ (a7 L 7).toInt ≤ 6 := RC.riv ha7 (by omega)
        refine w_ic_ge rfl (fun c10 => ?_) (fun c10 => ?_)
        · skip
          refine w_iload rfl rfl ?_
          exact wp_iret (z := false) rfl (fun h9 => by cases h9) ⟨a7, v8, rfl, ha7, ⟨FR.tr (FR.rf) (FR.sub fa7.1 (by first | exact (fun _ h9 => h9) | decide | (intro c9 h9; simp only [List.mem_cons, List.not_mem_nil, or_false] at h9 ⊢; omega) | (intro c9 h9; simp only [List.mem_cons, List.not_mem_nil, or_false] at h9; exact cA_mem (by omega)) | (intro c9 h9; simp only [List.mem_cons, List.not_mem_nil, or_false] at h9; exact cB_mem (by omega)) | (intro c9 h9; simp only [List.mem_cons, List.not_mem_nil, or_false] at h9; exact cU_mem (by omega)) | (intro c9 h9; simp only [List.mem_cons, List.not_mem_nil, or_false] at h9; exact cM_mem (by omega)) | exact cA_sub)), ⟨fun i9 h9 => (fa7.2.1.1 i9 (fun z9 => h9 (by first | exact z9 | (revert z9; simp; done) | (revert z9; simp; omega)))).trans ((show ∀ i9, i9 ∉ [5] → v i9 = v i9 from (fun _ _ => rfl)) i9 h9), Or.inr fa7.2.1.2⟩, trivial⟩, ⟨_, rfl, trivial⟩⟩
        · skip
          refine w_aload rfl rfl ?_
          refine c_getR (t := some 70) rfl rfl rfl rfl rfl ?_
          refine c_getR (t := some 71) rfl rfl rfl rfl rfl ?_
          refine w_iload rfl rfl ?_
          refine c_iald rfl rfl (by omega) (fun x11 ex11 => ?_)
          have qx11 : -1 ≤ x11.toInt ∧ x11.toInt ≤ 5 := by rw [ex11]; exact RC.hus ha7 _ (by omega)
          refine w_istore (lo' := [some (.inr (.inr (some 0))), some (.inl i), some (.inr (.inr (some 9))), some (.inl be), some (.inl mo), some (.inl r), some (.inl x11), o7_22]) rfl rfl ?_
          refine w_iload rfl rfl ?_
          refine w_const rfl ?_
          refine w_ic_eq rfl (fun c12 => ?_) (fun c12 => ?_)
          · skip
            refine w_iinc (lo' := fun z9 => [some (.inr (.inr (some 0))), some (.inl i), some (.inr (.inr (some 9))), some (.inl be), some (.inl mo), some (.inl z9), some (.inl x11), o7_22]) rfl rfl (fun _ => rfl) (by omega) (fun x13 tx13 => ?_)
            refine w_goto rfl ?_
            exact ih22 (6 - x13.toInt).toNat (by omega) be mo x13 (some (.inl x11)) o7_22 rfl  (by omega)
          · skip
            refine w_aload rfl rfl ?_
            refine c_getR (t := some L) rfl rfl rfl rfl ((fa7.2.1.1 0 (by decide)).trans h0) ?_
            refine w_aload rfl rfl ?_
            refine w_iload rfl rfl ?_
            refine w_aload rfl rfl ?_
            refine c_getR (t := some L) rfl rfl rfl rfl ((fa7.2.1.1 0 (by decide)).trans h0) ?_
            refine c_getR (t := some (L + 1)) rfl (sh_land (by omega)) rfl rfl (rC_land0 (by omega)) ?_
            refine w_iload rfl rfl ?_
            refine c_aald5 (t := some ((L + 1) + 11 + 2 * r.toInt.toNat)) rfl (sh_row (by omega)) (by omega) (rC_row (by omega)) ?_
            refine c_getI rfl (sh_riv (by omega)) rfl rfl ?_
            refine w_invV (rest := [.inr (.inr (some L))]) rfl rfl rfl rfl rfl (Nat.le_of_ble_eq_true rfl) rfl (by omega) (s_X5_waters (K := K) a7 b v8 L x11 (a7 ((L + 1) + 11 + 2 * r.toInt.toNat) 5) ha7  (fa7.2.1.2) (by omega) (by omega)) (fun z14 h9 hq15 => ?_)
            obtain ⟨rfl, x16, rfl, px16⟩ := hq15
            show f_wp _ (75, [some (.inr (.inr (some 0))), some (.inl i), some (.inr (.inr (some 9))), some (.inl be), some (.inl mo), some (.inl r), some (.inl x11), o7_22], [.inl x16, .inr (.inr (some L))], cH a7 b v8) _
            refine w_iload rfl rfl ?_
            refine w_invV (rest := []) rfl rfl (sh_land (by omega)) rfl rfl (Nat.le_of_ble_eq_true rfl) rfl (by omega) (s_X3_water (K := K) a7 b v8  L x16 i ha7  (by omega)) (fun z17 h9 hq18 => ?_)
            obtain ⟨rfl, x19, rfl, px19⟩ := hq18
            show f_wp _ (79, [some (.inr (.inr (some 0))), some (.inl i), some (.inr (.inr (some 9))), some (.inl be), some (.inl mo), some (.inl r), some (.inl x11), o7_22], [.inl x19], cH a7 b v8) _
            refine w_istore (lo' := [some (.inr (.inr (some 0))), some (.inl i), some (.inr (.inr (some 9))), some (.inl be), some (.inl mo), some (.inl r), some (.inl x11), some (.inl x19)]) rfl rfl ?_
            refine w_iload rfl rfl ?_
            refine w_iload rfl rfl ?_
            refine w_ic_le rfl (fun c20 => ?_) (fun c20 => ?_)
            · skip
              refine w_iinc (lo' := fun z9 => [some (.inr (.inr (some 0))), some (.inl i), some (.inr (.inr (some 9))), some (.inl be), some (.inl mo), some (.inl z9), some (.inl x11), some (.inl x19)]) rfl rfl (fun _ => rfl) (by omega) (fun x21 tx21 => ?_)
              refine w_goto rfl ?_
              exact ih22 (6 - x21.toInt).toNat (by omega) be mo x21 (some (.inl x11)) (some (.inl x19)) rfl  (by omega)
            · skip
              refine w_iload rfl rfl ?_
              refine w_istore (lo' := [some (.inr (.inr (some 0))), some (.inl i), some (.inr (.inr (some 9))), some (.inl be), some (.inl x19), some (.inl r), some (.inl x11), some (.inl x19)]) rfl rfl ?_
              refine w_iload rfl rfl ?_
              refine w_istore (lo' := [some (.inr (.inr (some 0))), some (.inl i), some (.inr (.inr (some 9))), some (.inl r), some (.inl x19), some (.inl r), some (.inl x11), some (.inl x19)]) rfl rfl ?_
              refine w_iinc (lo' := fun z9 => [some (.inr (.inr (some 0))), some (.inl i), some (.inr (.inr (some 9))), some (.inl r), some (.inl x19), some (.inl z9), some (.inl x11), some (.inl x19)]) rfl rfl (fun _ => rfl) (by omega) (fun x22 tx22 => ?_)
              refine w_goto rfl ?_
              exact ih22 (6 - x22.toInt).toNat (by omega) r x19 x22 (some (.inl x11)) (some (.inl x19)) rfl  (by omega)
    exact loop22 _ (-1) (-1) 0 none none rfl  (by omega)
set_option maxRecDepth 4000 in
theorem s_X12_eddies {K : Nat} (a : Nat → Nat → Int32) (b : Nat → Nat → Int64) (v : Nat → Option Nat) (L : Nat)  (hR : RC K a) (h0 : v 0 = some L) (hL : L = 22 ∨ L = 46) : f_call mtC 1 143 [.inr (.inr (some 0))] (cH a b v) (fun v9 h' => h' = cH a b v ∧ ∃ x : Int32, v9 = some (.inl x) ∧ True) := by
  refine f_call_of (d0 := 0) rfl (Nat.le_of_ble_eq_true rfl) (fun d hd => ?_)
  show f_wp _ (0, [some (.inr (.inr (some 0))), none, none, none, none], [], cH a b v) _
  have lm1 : (-1 : Int32).toInt = -1 := rfl
  have l0 : (0 : Int32).toInt = 0 := rfl
  have l1 : (1 : Int32).toInt = 1 := rfl
  refine w_const rfl ?_
  refine w_istore (lo' := [some (.inr (.inr (some 0))), some (.inl 0), none, none, none]) rfl rfl ?_
  refine w_const rfl ?_
  refine w_istore (lo' := [some (.inr (.inr (some 0))), some (.inl 0), some (.inl 0), none, none]) rfl rfl ?_
  have loop4 : ∀ (ms9 : Nat) (n : Int32) (r : Int32) (o3_4 : Option f_V) (o4_4 : Option f_V), (6 - r.toInt).toNat = ms9 → (0 ≤ r.toInt ∧ r.toInt ≤ 6) → (0 ≤ n.toInt ∧ n.toInt ≤ 6 * r.toInt) → f_wp (f_code (t_X12_eddies (f_ev mtC d))) (4, [some (.inr (.inr (some 0))), some (.inl n), some (.inl r), o3_4, o4_4], [], cH a b v) (fun v9 h' => h' = cH a b v ∧ ∃ x : Int32, v9 = some (.inl x) ∧ True) := by
    intro ms9
    induction ms9 using Nat.strongRecOn with
    | _ ms4 ih4 =>
      intro n r o3_4 o4_4 hm4 hr hn9
      refine w_iload rfl rfl ?_
      refine w_aload rfl rfl ?_
      refine c_getR (t := some L) rfl rfl rfl rfl h0 ?_
      refine c_getI rfl (sh_land (by omega)) rfl rfl ?_
      have q1 : 0 ≤ (a L 7).toInt ∧ (a L 7).toInt ≤ 6 := RC.riv hR (by omega)
      refine w_ic_ge rfl (fun c2 => ?_) (fun c2 => ?_)
      · skip
        refine w_iload rfl rfl ?_
        exact wp_iret (z := false) rfl (fun h9 => by cases h9) ⟨rfl, ⟨_, rfl, trivial⟩⟩
      · skip
        refine w_iload rfl rfl ?_
        refine w_const rfl ?_
        first | refine w_iadd rfl (by omega) (fun x3 tx3 => ?_) | refine w_iiU rfl (fun x3 tx3 => ?_)
        refine w_istore (lo' := [some (.inr (.inr (some 0))), some (.inl n), some (.inl r), some (.inl x3), o4_4]) rfl rfl ?_
        have loop19 : ∀ (ms9 : Nat) (n : Int32) (m : Int32) (o4_19 : Option f_V), (6 - m.toInt).toNat = ms9 → (r.toInt < m.toInt ∧ m.toInt ≤ 6) → (0 ≤ n.toInt ∧ n.toInt ≤ 6 * r.toInt + m.toInt) → f_wp (f_code (t_X12_eddies (f_ev mtC d))) (19, [some (.inr (.inr (some 0))), some (.inl n), some (.inl r), some (.inl m), o4_19], [], cH a b v) (fun v9 h' => h' = cH a b v ∧ ∃ x : Int32, v9 = some (.inl x) ∧ True) := by
          intro ms9
          induction ms9 using Nat.strongRecOn with
          | _ ms19 ih19 =>
            intro n m o4_19 hm19 hm hn8
            refine w_iload rfl rfl ?_
            refine w_aload rfl rfl ?_
            refine c_getR (t := some L) rfl rfl rfl rfl h0 ?_
            refine c_getI rfl (sh_land (by omega)) rfl rfl ?_
            have q4 : 0 ≤ (a L 7).toInt ∧ (a L 7).toInt ≤ 6 := RC.riv hR (by omega)
            refine w_ic_ge rfl (fun c5 => ?_) (fun c5 => ?_)
            · skip
              refine w_iinc (lo' := fun z9 => [some (.inr (.inr (some 0))), some (.inl n), some (.inl z9), some (.inl m), o4_19]) rfl rfl (fun _ => rfl) (by omega) (fun x6 tx6 => ?_)
              refine w_goto rfl ?_
              exact ih4 (6 - x6.toInt).toNat (by omega) n x6 (some (.inl m)) o4_19 rfl  (by omega) (by omega)
            · skip
              refine w_aload rfl rfl ?_
              refine c_getR (t := some 70) rfl rfl rfl rfl rfl ?_
              refine c_getR (t := some 71) rfl rfl rfl rfl rfl ?_
              refine w_iload rfl rfl ?_
              refine c_iald rfl rfl (by omega) (fun x7 ex7 => ?_)
              have qx7 : -1 ≤ x7.toInt ∧ x7.toInt ≤ 5 := by rw [ex7]; exact RC.hus hR _ (by omega)
              refine w_const rfl ?_
              refine w_ic_eq rfl (fun c8 => ?_) (fun c8 => ?_)
              · skip
                refine w_const rfl ?_
                refine w_istore (lo' := [some (.inr (.inr (some 0))), some (.inl n), some (.inl r), some (.inl m), some (.inl 0)]) rfl rfl ?_
                refine w_iload rfl rfl ?_
                refine w_if_eq rfl (fun c9 => ?_) (fun c9 => ?_)
                · skip
                  refine w_iinc (lo' := fun z9 => [some (.inr (.inr (some 0))), some (.inl n), some (.inl r), some (.inl z9), some (.inl 0)]) rfl rfl (fun _ => rfl) (by omega) (fun x10 tx10 => ?_)
                  refine w_goto rfl ?_
                  exact ih19 (6 - x10.toInt).toNat (by omega) n x10 (some (.inl 0)) rfl  (by omega) (by omega)
                · exfalso; omega
              · skip
                refine w_aload rfl rfl ?_
                refine c_getR (t := some 70) rfl rfl rfl rfl rfl ?_
                refine c_getR (t := some 71) rfl rfl rfl rfl rfl ?_
                refine w_iload rfl rfl ?_
                refine c_iald rfl rfl (by omega) (fun x11 ex11 => ?_)
                have qx11 : -1 ≤ x11.toInt ∧ x11.toInt ≤ 5 := by rw [ex11]; exact RC.hus hR _ (by omega)
                refine w_aload rfl rfl ?_
                refine c_getR (t := some 70) rfl rfl rfl rfl rfl ?_
                refine c_getR (t := some 71) rfl rfl rfl rfl rfl ?_
                refine w_iload rfl rfl ?_
                refine c_iald rfl rfl (by omega) (fun x12 ex12 => ?_)
                have qx12 : -1 ≤ x12.toInt ∧ x12.toInt ≤ 5 := by rw [ex12]; exact RC.hus hR _ (by omega)
                refine w_ic_ne rfl (fun c13 => ?_) (fun c13 => ?_)
                · skip
                  refine w_const rfl ?_
                  refine w_goto rfl ?_
                  refine w_istore (lo' := [some (.inr (.inr (some 0))), some (.inl n), some (.inl r), some (.inl m), some (.inl 1)]) rfl rfl ?_
                  refine w_iload rfl rfl ?_
                  refine w_if_eq rfl (fun c14 => ?_) (fun c14 => ?_)
                  · exfalso; omega
                  · skip
                    refine w_aload rfl rfl ?_
                    refine c_getR (t := some L) rfl rfl rfl rfl h0 ?_
                    refine c_getR (t := some (L + 1)) rfl (sh_land (by omega)) rfl rfl (rC_land0 (by omega)) ?_
                    refine w_iload rfl rfl ?_
                    refine c_aald5 (t := some ((L + 1) + 11 + 2 * r.toInt.toNat)) rfl (sh_row (by omega)) (by omega) (rC_row (by omega)) ?_
                    refine c_getI rfl (sh_riv (by omega)) rfl rfl ?_
                    refine w_aload rfl rfl ?_
                    refine c_getR (t := some L) rfl rfl rfl rfl h0 ?_
                    refine c_getR (t := some (L + 1)) rfl (sh_land (by omega)) rfl rfl (rC_land0 (by omega)) ?_
                    refine w_iload rfl rfl ?_
                    refine c_aald5 (t := some ((L + 1) + 11 + 2 * m.toInt.toNat)) rfl (sh_row (by omega)) (by omega) (rC_row (by omega)) ?_
                    refine c_getI rfl (sh_riv (by omega)) rfl rfl ?_
                    refine w_ic_ne rfl (fun c15 => ?_) (fun c15 => ?_)
                    · skip
                      refine w_iinc (lo' := fun z9 => [some (.inr (.inr (some 0))), some (.inl z9), some (.inl r), some (.inl m), some (.inl 1)]) rfl rfl (fun _ => rfl) (by omega) (fun x16 tx16 => ?_)
                      refine w_iinc (lo' := fun z9 => [some (.inr (.inr (some 0))), some (.inl x16), some (.inl r), some (.inl z9), some (.inl 1)]) rfl rfl (fun _ => rfl) (by omega) (fun x17 tx17 => ?_)
                      refine w_goto rfl ?_
                      exact ih19 (6 - x17.toInt).toNat (by omega) x16 x17 (some (.inl 1)) rfl  (by omega) (by omega)
                    · skip
                      refine w_iinc (lo' := fun z9 => [some (.inr (.inr (some 0))), some (.inl n), some (.inl r), some (.inl z9), some (.inl 1)]) rfl rfl (fun _ => rfl) (by omega) (fun x18 tx18 => ?_)
                      refine w_goto rfl ?_
                      exact ih19 (6 - x18.toInt).toNat (by omega) n x18 (some (.inl 1)) rfl  (by omega) (by omega)
                · skip
                  refine w_const rfl ?_
                  refine w_istore (lo' := [some (.inr (.inr (some 0))), some (.inl n), some (.inl r), some (.inl m), some (.inl 0)]) rfl rfl ?_
                  refine w_iload rfl rfl ?_
                  refine w_if_eq rfl (fun c19 => ?_) (fun c19 => ?_)
                  · skip
                    refine w_iinc (lo' := fun z9 => [some (.inr (.inr (some 0))), some (.inl n), some (.inl r), some (.inl z9), some (.inl 0)]) rfl rfl (fun _ => rfl) (by omega) (fun x20 tx20 => ?_)
                    refine w_goto rfl ?_
                    exact ih19 (6 - x20.toInt).toNat (by omega) n x20 (some (.inl 0)) rfl  (by omega) (by omega)
                  · exfalso; omega
        exact loop19 _ n x3 o4_4 rfl  (by omega) (by omega)
  exact loop4 _ 0 0 none none rfl  (by omega) (by omega)
set_option maxRecDepth 4000 in
theorem s_X12_shareOf {K : Nat} (a : Nat → Nat → Int32) (b : Nat → Nat → Int64) (v : Nat → Option Nat) (i : Int32) (j : Int32) (k : Int32) (hR : RC K a) (hi : 0 ≤ i.toInt ∧ i.toInt ≤ 5) : f_call mtC 1 146 [.inr (.inr (some 0)), .inl i, .inl j, .inl k] (cH a b v) (fun v9 h' => h' = cH a b v ∧ ∃ x : Int32, v9 = some (.inl x) ∧ True) := by
  refine f_call_of (d0 := 0) rfl (Nat.le_of_ble_eq_true rfl) (fun d hd => ?_)
  show f_wp _ (0, [some (.inr (.inr (some 0))), some (.inl i), some (.inl j), some (.inl k), none, none, none, none, none], [], cH a b v) _
  have l0 : (0 : Int32).toInt = 0 := rfl
  have l1 : (1 : Int32).toInt = 1 := rfl
  refine w_iload rfl rfl ?_
  refine w_if_gt rfl (fun c1 => ?_) (fun c1 => ?_)
  · skip
    refine w_iload rfl rfl ?_
    refine w_aload rfl rfl ?_
    refine c_getR (t := some 70) rfl rfl rfl rfl rfl ?_
    refine c_getR (t := some 74) rfl rfl rfl rfl rfl ?_
    refine w_iload rfl rfl ?_
    refine c_iald rfl rfl (by omega) (fun x2 ex2 => ?_)
    refine w_iiU rfl (fun x3 tx3 => ?_)
    refine w_iload rfl rfl ?_
    refine w_iidE rfl (by omega) (fun x4 tx4 => ?_)
    refine w_istore (lo' := [some (.inr (.inr (some 0))), some (.inl i), some (.inl j), some (.inl k), some (.inl x4), none, none, none, none]) rfl rfl ?_
    refine w_iload rfl rfl ?_
    refine w_istore (lo' := [some (.inr (.inr (some 0))), some (.inl i), some (.inl j), some (.inl k), some (.inl x4), some (.inl j), none, none, none]) rfl rfl ?_
    refine w_const rfl ?_
    refine w_istore (lo' := [some (.inr (.inr (some 0))), some (.inl i), some (.inl j), some (.inl k), some (.inl x4), some (.inl j), some (.inl 0), none, none]) rfl rfl ?_
    refine w_const rfl ?_
    refine w_istore (lo' := [some (.inr (.inr (some 0))), some (.inl i), some (.inl j), some (.inl k), some (.inl x4), some (.inl j), some (.inl 0), some (.inl 0), none]) rfl rfl ?_
    have loop30 : ∀ (ms9 : Nat) (le : Int32) (ah : Int32) (m : Int32) (o8_30 : Option f_V), (6 - m.toInt).toNat = ms9 → (0 ≤ m.toInt ∧ m.toInt ≤ 6) → (0 ≤ ah.toInt ∧ ah.toInt ≤ m.toInt) → f_wp (f_code (t_X12_shareOf (f_ev mtC d))) (30, [some (.inr (.inr (some 0))), some (.inl i), some (.inl j), some (.inl k), some (.inl x4), some (.inl le), some (.inl ah), some (.inl m), o8_30], [], cH a b v) (fun v9 h' => h' = cH a b v ∧ ∃ x : Int32, v9 = some (.inl x) ∧ True) := by
      intro ms9
      induction ms9 using Nat.strongRecOn with
      | _ ms30 ih30 =>
        intro le ah m o8_30 hm30 hm ha
        refine w_iload rfl rfl ?_
        refine w_aload rfl rfl ?_
        refine c_getR (t := some 70) rfl rfl rfl rfl rfl ?_
        refine c_getI rfl rfl rfl rfl ?_
        have q5 : -1 ≤ (a 70 8).toInt ∧ (a 70 8).toInt ≤ 6 := RC.hei hR (by omega)
        refine w_ic_ge rfl (fun c6 => ?_) (fun c6 => ?_)
        · skip
          refine w_iload rfl rfl ?_
          refine w_aload rfl rfl ?_
          refine c_getR (t := some 70) rfl rfl rfl rfl rfl ?_
          refine c_getR (t := some 74) rfl rfl rfl rfl rfl ?_
          refine w_iload rfl rfl ?_
          refine c_iald rfl rfl (by omega) (fun x7 ex7 => ?_)
          refine w_iiU rfl (fun x8 tx8 => ?_)
          refine w_iload rfl rfl ?_
          refine w_iidE rfl (by omega) (fun x9 tx9 => ?_)
          refine w_iload rfl rfl ?_
          refine w_iload rfl rfl ?_
          refine w_ic_ge rfl (fun c10 => ?_) (fun c10 => ?_)
          · skip
            refine w_const rfl ?_
            first | refine w_iadd rfl (by omega) (fun x11 tx11 => ?_) | refine w_iiU rfl (fun x11 tx11 => ?_)
            exact wp_iret (z := false) rfl (fun h9 => by cases h9) ⟨rfl, ⟨_, rfl, trivial⟩⟩
          · skip
            refine w_const rfl ?_
            refine w_goto rfl ?_
            first | refine w_iadd rfl (by omega) (fun x12 tx12 => ?_) | refine w_iiU rfl (fun x12 tx12 => ?_)
            exact wp_iret (z := false) rfl (fun h9 => by cases h9) ⟨rfl, ⟨_, rfl, trivial⟩⟩
        · skip
          refine w_iload rfl rfl ?_
          refine w_aload rfl rfl ?_
          refine c_getR (t := some 70) rfl rfl rfl rfl rfl ?_
          refine c_getR (t := some 74) rfl rfl rfl rfl rfl ?_
          refine w_iload rfl rfl ?_
          refine c_iald rfl rfl (by omega) (fun x13 ex13 => ?_)
          refine w_iiU rfl (fun x14 tx14 => ?_)
          refine w_istore (lo' := [some (.inr (.inr (some 0))), some (.inl i), some (.inl j), some (.inl k), some (.inl x4), some (.inl le), some (.inl ah), some (.inl m), some (.inl x14)]) rfl rfl ?_
          refine w_iload rfl rfl ?_
          refine w_iload rfl rfl ?_
          refine w_iload rfl rfl ?_
          refine w_iidE rfl (by omega) (fun x15 tx15 => ?_)
          first | refine w_isub rfl (by omega) (fun x16 tx16 => ?_) | refine w_iiU rfl (fun x16 tx16 => ?_)
          refine w_istore (lo' := [some (.inr (.inr (some 0))), some (.inl i), some (.inl j), some (.inl k), some (.inl x4), some (.inl x16), some (.inl ah), some (.inl m), some (.inl x14)]) rfl rfl ?_
          refine w_iload rfl rfl ?_
          refine w_iload rfl rfl ?_
          refine w_iidE rfl (by omega) (fun x17 tx17 => ?_)
          refine w_iload rfl rfl ?_
          refine w_ic_gt rfl (fun c18 => ?_) (fun c18 => ?_)
          · skip
            refine w_iinc (lo' := fun z9 => [some (.inr (.inr (some 0))), some (.inl i), some (.inl j), some (.inl k), some (.inl x4), some (.inl x16), some (.inl z9), some (.inl m), some (.inl x14)]) rfl rfl (fun _ => rfl) (by omega) (fun x19 tx19 => ?_)
            refine w_iinc (lo' := fun z9 => [some (.inr (.inr (some 0))), some (.inl i), some (.inl j), some (.inl k), some (.inl x4), some (.inl x16), some (.inl x19), some (.inl z9), some (.inl x14)]) rfl rfl (fun _ => rfl) (by omega) (fun x20 tx20 => ?_)
            refine w_goto rfl ?_
            exact ih30 (6 - x20.toInt).toNat (by omega) x16 x19 x20 (some (.inl x14)) rfl  (by omega) (by omega)
          · skip
            refine w_iload rfl rfl ?_
            refine w_iload rfl rfl ?_
            refine w_iidE rfl (by omega) (fun x21 tx21 => ?_)
            refine w_iload rfl rfl ?_
            refine w_ic_ne rfl (fun c22 => ?_) (fun c22 => ?_)
            · skip
              refine w_iload rfl rfl ?_
              refine w_iload rfl rfl ?_
              refine w_ic_ge rfl (fun c23 => ?_) (fun c23 => ?_)
              · skip
                refine w_iinc (lo' := fun z9 => [some (.inr (.inr (some 0))), some (.inl i), some (.inl j), some (.inl k), some (.inl x4), some (.inl x16), some (.inl ah), some (.inl z9), some (.inl x14)]) rfl rfl (fun _ => rfl) (by omega) (fun x24 tx24 => ?_)
                refine w_goto rfl ?_
                exact ih30 (6 - x24.toInt).toNat (by omega) x16 ah x24 (some (.inl x14)) rfl  (by omega) (by omega)
              · skip
                refine w_iinc (lo' := fun z9 => [some (.inr (.inr (some 0))), some (.inl i), some (.inl j), some (.inl k), some (.inl x4), some (.inl x16), some (.inl z9), some (.inl m), some (.inl x14)]) rfl rfl (fun _ => rfl) (by omega) (fun x25 tx25 => ?_)
                refine w_iinc (lo' := fun z9 => [some (.inr (.inr (some 0))), some (.inl i), some (.inl j), some (.inl k), some (.inl x4), some (.inl x16), some (.inl x25), some (.inl z9), some (.inl x14)]) rfl rfl (fun _ => rfl) (by omega) (fun x26 tx26 => ?_)
                refine w_goto rfl ?_
                exact ih30 (6 - x26.toInt).toNat (by omega) x16 x25 x26 (some (.inl x14)) rfl  (by omega) (by omega)
            · skip
              refine w_iinc (lo' := fun z9 => [some (.inr (.inr (some 0))), some (.inl i), some (.inl j), some (.inl k), some (.inl x4), some (.inl x16), some (.inl ah), some (.inl z9), some (.inl x14)]) rfl rfl (fun _ => rfl) (by omega) (fun x27 tx27 => ?_)
              refine w_goto rfl ?_
              exact ih30 (6 - x27.toInt).toNat (by omega) x16 ah x27 (some (.inl x14)) rfl  (by omega) (by omega)
    exact loop30 _ j 0 0 none rfl  (by omega) (by omega)
  · skip
    refine w_const rfl ?_
    exact wp_iret (z := false) rfl (fun h9 => by cases h9) ⟨rfl, ⟨_, rfl, trivial⟩⟩
set_option maxRecDepth 4000 in
theorem s_X12_share {K : Nat} (a : Nat → Nat → Int32) (b : Nat → Nat → Int64) (v : Nat → Option Nat) (L : Nat) (i : Int32) (j : Int32) (k : Int32) (hR : RC K a) (h0 : v 0 = some L) (hL : L = 22 ∨ L = 46) : f_call mtC 6 145 [.inr (.inr (some 0)), .inl i, .inl j, .inl k] (cH a b v) (fun v9 h' => ∃ (a' : Nat → Nat → Int32) (v' : Nat → Option Nat), h' = cH a' b v' ∧ RC K a' ∧ (FR [10, 11] a a' ∧ ((∀ i, i ∉ [5] → v' i = v i) ∧ (v' 5 = v 5 ∨ v' 5 = some L)) ∧ True) ∧ ∃ x : Int32, v9 = some (.inl x) ∧ True) := by
  refine f_call_of (d0 := 5) rfl (Nat.le_of_ble_eq_true rfl) (fun d hd => ?_)
  show f_wp _ (0, [some (.inr (.inr (some 0))), some (.inl i), some (.inl j), some (.inl k), none, none], [], cH a b v) _
  have lm1 : (-1 : Int32).toInt = -1 := rfl
  have l0 : (0 : Int32).toInt = 0 := rfl
  have l1 : (1 : Int32).toInt = 1 := rfl
  refine w_aload rfl rfl ?_
  refine w_iload rfl rfl ?_
  refine w_invV (rest := []) rfl rfl rfl rfl rfl (Nat.le_of_ble_eq_true rfl) rfl (by omega) (s_X12_isRiver (K := K) a b v L i hR  (h0) (by omega)) (fun z1 h9 hq2 => ?_)
  obtain ⟨rfl, x3, rfl, px3⟩ := hq2
  show f_wp _ (5, [some (.inr (.inr (some 0))), some (.inl i), some (.inl j), some (.inl k), none, none], [.inl x3], cH a b v) _
  refine w_if_eq rfl (fun c4 => ?_) (fun c4 => ?_)
  · skip
    refine w_const rfl ?_
    exact wp_iret (z := false) rfl (fun h9 => by cases h9) ⟨a, v, rfl, hR, ⟨FR.rf, ⟨(fun _ _ => rfl), Or.inl rfl⟩, trivial⟩, ⟨_, rfl, trivial⟩⟩
  · skip
    refine w_iload rfl rfl ?_
    refine w_invS (rest := []) rfl (Nat.le_of_ble_eq_true rfl) rfl (Nat.le_of_ble_eq_true rfl) rfl (by omega) (s_X12_isSeason (K := K) a b v  j   ) (fun z5 h9 hq6 => ?_)
    obtain ⟨rfl, x7, rfl, px7⟩ := hq6
    show f_wp _ (12, [some (.inr (.inr (some 0))), some (.inl i), some (.inl j), some (.inl k), none, none], [.inl x7], cH a b v) _
    refine w_if_eq rfl (fun c8 => ?_) (fun c8 => ?_)
    · skip
      refine w_const rfl ?_
      exact wp_iret (z := false) rfl (fun h9 => by cases h9) ⟨a, v, rfl, hR, ⟨FR.rf, ⟨(fun _ _ => rfl), Or.inl rfl⟩, trivial⟩, ⟨_, rfl, trivial⟩⟩
    · skip
      refine w_iload rfl rfl ?_
      refine w_if_lt rfl (fun c9 => ?_) (fun c9 => ?_)
      · skip
        refine w_const rfl ?_
        exact wp_iret (z := false) rfl (fun h9 => by cases h9) ⟨a, v, rfl, hR, ⟨FR.rf, ⟨(fun _ _ => rfl), Or.inl rfl⟩, trivial⟩, ⟨_, rfl, trivial⟩⟩
      · skip
        refine w_iload rfl rfl ?_
        refine w_aload rfl rfl ?_
        refine c_getR (t := some 70) rfl rfl rfl rfl rfl ?_
        refine c_getI rfl rfl rfl rfl ?_
        have q10 : -1 ≤ (a 70 8).toInt ∧ (a 70 8).toInt ≤ 6 := RC.hei hR (by omega)
        refine w_ic_lt rfl (fun c11 => ?_) (fun c11 => ?_)
        · skip
          refine w_const rfl ?_
          refine w_istore (lo' := [some (.inr (.inr (some 0))), some (.inl i), some (.inl j), some (.inl k), some (.inl 0), none]) rfl rfl ?_
          refine w_const rfl ?_
          refine w_istore (lo' := [some (.inr (.inr (some 0))), some (.inl i), some (.inl j), some (.inl k), some (.inl 0), some (.inl 0)]) rfl rfl ?_
          have loop38 : ∀ (ms9 : Nat) (al : Int32) (m : Int32) , (6 - m.toInt).toNat = ms9 → (0 ≤ m.toInt ∧ m.toInt ≤ 6) → f_wp (f_code (t_X12_share (f_ev mtC d))) (38, [some (.inr (.inr (some 0))), some (.inl i), some (.inl j), some (.inl k), some (.inl al), some (.inl m)], [], cH a b v) (fun v9 h' => ∃ (a' : Nat → Nat → Int32) (v' : Nat → Option Nat), h' = cH a' b v' ∧ RC K a' ∧ (FR [10, 11] a a' ∧ ((∀ i, i ∉ [5] → v' i = v i) ∧ (v' 5 = v 5 ∨ v' 5 = some L)) ∧ True) ∧ ∃ x : Int32, v9 = some (.inl x) ∧ True) := by
            intro ms9
            induction ms9 using Nat.strongRecOn with
            | _ ms38 ih38 =>
              intro al m  hm38 hm
              refine w_iload rfl rfl ?_
              refine w_aload rfl rfl ?_
              refine c_getR (t := some 70) rfl rfl rfl rfl rfl ?_
              refine c_getI rfl rfl rfl rfl ?_
              have q12 : -1 ≤ (a 70 8).toInt ∧ (a 70 8).toInt ≤ 6 := RC.hei hR (by omega)
              refine w_ic_ge rfl (fun c13 => ?_) (fun c13 => ?_)
              · skip
                refine w_iload rfl rfl ?_
                refine w_if_ne rfl (fun c14 => ?_) (fun c14 => ?_)
                · skip
                  refine w_const rfl ?_
                  exact wp_iret (z := false) rfl (fun h9 => by cases h9) ⟨a, v, rfl, hR, ⟨FR.rf, ⟨(fun _ _ => rfl), Or.inl rfl⟩, trivial⟩, ⟨_, rfl, trivial⟩⟩
                · skip
                  refine w_aload rfl rfl ?_
                  refine w_iload rfl rfl ?_
                  refine w_aload rfl rfl ?_
                  refine w_iload rfl rfl ?_
                  refine w_iload rfl rfl ?_
                  refine w_invV (rest := [.inl k, .inr (.inr (some 0))]) rfl rfl rfl rfl rfl (Nat.le_of_ble_eq_true rfl) rfl (by omega) (s_X12_mouthFlow (K := K) a b v L i j hR  (h0) (by omega) (by omega)) (fun z15 h9 hq16 => ?_)
                  obtain ⟨a17, v18, rfl, ha17, fa17, x19, rfl, px19⟩ := hq16
                  show f_wp _ (86, [some (.inr (.inr (some 0))), some (.inl i), some (.inl j), some (.inl k), some (.inl al), some (.inl m)], [.inl x19, .inl k, .inr (.inr (some 0))], cH a17 b v18) _
                  refine w_iload rfl rfl ?_
                  refine w_invV (rest := []) rfl rfl rfl rfl rfl (Nat.le_of_ble_eq_true rfl) rfl (by omega) (s_X12_shareOf (K := K) a17 b v18  k x19 al ha17  (by omega)) (fun z20 h9 hq21 => ?_)
                  obtain ⟨rfl, x22, rfl, px22⟩ := hq21
                  show f_wp _ (91, [some (.inr (.inr (some 0))), some (.inl i), some (.inl j), some (.inl k), some (.inl al), some (.inl m)], [.inl x22], cH a17 b v18) _
                  exact wp_iret (z := false) rfl (fun h9 => by cases h9) ⟨a17, v18, rfl, ha17, ⟨FR.tr (FR.rf) (FR.sub fa17.1 (by first | exact (fun _ h9 => h9) | decide | (intro c9 h9; simp only [List.mem_cons, List.not_mem_nil, or_false] at h9 ⊢; omega) | (intro c9 h9; simp only [List.mem_cons, List.not_mem_nil, or_false] at h9; exact cA_mem (by omega)) | (intro c9 h9; simp only [List.mem_cons, List.not_mem_nil, or_false] at h9; exact cB_mem (by omega)) | (intro c9 h9; simp only [List.mem_cons, List.not_mem_nil, or_false] at h9; exact cU_mem (by omega)) | (intro c9 h9; simp only [List.mem_cons, List.not_mem_nil, or_false] at h9; exact cM_mem (by omega)) | exact cA_sub)), ⟨fun i9 h9 => (fa17.2.1.1 i9 (fun z9 => h9 (by first | exact z9 | (revert z9; simp; done) | (revert z9; simp; omega)))).trans ((show ∀ i9, i9 ∉ [5] → v i9 = v i9 from (fun _ _ => rfl)) i9 h9), Or.inr fa17.2.1.2⟩, trivial⟩, ⟨_, rfl, trivial⟩⟩
              · skip
                refine w_iload rfl rfl ?_
                refine w_aload rfl rfl ?_
                refine c_getR (t := some 70) rfl rfl rfl rfl rfl ?_
                refine c_getR (t := some 74) rfl rfl rfl rfl rfl ?_
                refine w_iload rfl rfl ?_
                refine c_iald rfl rfl (by omega) (fun x23 ex23 => ?_)
                first | refine w_iadd rfl (by omega) (fun x24 tx24 => ?_) | refine w_iiU rfl (fun x24 tx24 => ?_)
                refine w_istore (lo' := [some (.inr (.inr (some 0))), some (.inl i), some (.inl j), some (.inl k), some (.inl x24), some (.inl m)]) rfl rfl ?_
                refine w_iinc (lo' := fun z9 => [some (.inr (.inr (some 0))), some (.inl i), some (.inl j), some (.inl k), some (.inl x24), some (.inl z9)]) rfl rfl (fun _ => rfl) (by omega) (fun x25 tx25 => ?_)
                refine w_goto rfl ?_
                exact ih38 (6 - x25.toInt).toNat (by omega) x24 x25 rfl  (by omega)
          exact loop38 _ 0 0 rfl  (by omega)
        · skip
          refine w_const rfl ?_
          exact wp_iret (z := false) rfl (fun h9 => by cases h9) ⟨a, v, rfl, hR, ⟨FR.rf, ⟨(fun _ _ => rfl), Or.inl rfl⟩, trivial⟩, ⟨_, rfl, trivial⟩⟩
set_option maxRecDepth 4000 in
theorem s_X12_storms {K : Nat} (a : Nat → Nat → Int32) (b : Nat → Nat → Int64) (v : Nat → Option Nat) (L : Nat) (i : Int32) (j : Int32) (hR : RC K a) (h0 : v 0 = some L) (hL : L = 22 ∨ L = 46) : f_call mtC 6 147 [.inr (.inr (some 0)), .inl i, .inl j] (cH a b v) (fun v9 h' => ∃ (a' : Nat → Nat → Int32) (v' : Nat → Option Nat), h' = cH a' b v' ∧ RC K a' ∧ (FR [10, 11] a a' ∧ ((∀ i, i ∉ [5] → v' i = v i) ∧ (v' 5 = v 5 ∨ v' 5 = some L)) ∧ True) ∧ ∃ x : Int32, v9 = some (.inl x) ∧ True) := by
  refine f_call_of (d0 := 5) rfl (Nat.le_of_ble_eq_true rfl) (fun d hd => ?_)
  show f_wp _ (0, [some (.inr (.inr (some 0))), some (.inl i), some (.inl j)], [], cH a b v) _
  have lm1 : (-1 : Int32).toInt = -1 := rfl
  refine w_aload rfl rfl ?_
  refine w_iload rfl rfl ?_
  refine w_invV (rest := []) rfl rfl rfl rfl rfl (Nat.le_of_ble_eq_true rfl) rfl (by omega) (s_X12_hasTown (K := K) a b v L i hR  (h0) (by omega)) (fun z1 h9 hq2 => ?_)
  obtain ⟨rfl, x3, rfl, px3⟩ := hq2
  show f_wp _ (5, [some (.inr (.inr (some 0))), some (.inl i), some (.inl j)], [.inl x3], cH a b v) _
  refine w_if_eq rfl (fun c4 => ?_) (fun c4 => ?_)
  · skip
    refine w_const rfl ?_
    exact wp_iret (z := false) rfl (fun h9 => by cases h9) ⟨a, v, rfl, hR, ⟨FR.rf, ⟨(fun _ _ => rfl), Or.inl rfl⟩, trivial⟩, ⟨_, rfl, trivial⟩⟩
  · skip
    refine w_iload rfl rfl ?_
    refine w_invS (rest := []) rfl (Nat.le_of_ble_eq_true rfl) rfl (Nat.le_of_ble_eq_true rfl) rfl (by omega) (s_X12_isSeason (K := K) a b v  j   ) (fun z5 h9 hq6 => ?_)
    obtain ⟨rfl, x7, rfl, px7⟩ := hq6
    show f_wp _ (12, [some (.inr (.inr (some 0))), some (.inl i), some (.inl j)], [.inl x7], cH a b v) _
    refine w_if_ne rfl (fun c8 => ?_) (fun c8 => ?_)
    · skip
      refine w_const rfl ?_
      exact wp_iret (z := false) rfl (fun h9 => by cases h9) ⟨a, v, rfl, hR, ⟨FR.rf, ⟨(fun _ _ => rfl), Or.inl rfl⟩, trivial⟩, ⟨_, rfl, trivial⟩⟩
    · skip
      refine w_aload rfl rfl ?_
      refine c_getR (t := some L) rfl rfl rfl rfl h0 ?_
      refine w_aload rfl rfl ?_
      refine w_iload rfl rfl ?_
      refine w_invV (rest := [.inr (.inr (some L))]) rfl rfl rfl rfl rfl (Nat.le_of_ble_eq_true rfl) rfl (by omega) (s_X12_townWaters (K := K) a b v L i hR  (h0) (by omega) (by omega)) (fun z9 h9 hq10 => ?_)
      obtain ⟨a11, v12, rfl, ha11, fa11, x13, rfl, px13⟩ := hq10
      show f_wp _ (26, [some (.inr (.inr (some 0))), some (.inl i), some (.inl j)], [.inl x13, .inr (.inr (some L))], cH a11 b v12) _
      refine w_iload rfl rfl ?_
      refine w_aload rfl rfl ?_
      refine c_getR (t := some L) rfl rfl rfl rfl ((fa11.2.1.1 0 (by decide)).trans h0) ?_
      refine c_getR (t := some (L + 1)) rfl (sh_land (by omega)) rfl rfl (rC_land0 (by omega)) ?_
      refine w_iload rfl rfl ?_
      refine c_aald5 (t := some ((L + 1) + 11 + 2 * i.toInt.toNat)) rfl (sh_row (by omega)) (by omega) (rC_row (by omega)) ?_
      refine c_getI rfl (sh_riv (by omega)) rfl rfl ?_
      refine w_invV (rest := []) rfl rfl (sh_land (by omega)) rfl rfl (Nat.le_of_ble_eq_true rfl) rfl (by omega) (s_X3_floodChance (K := K) a11 b v12  L x13 j (a11 ((L + 1) + 11 + 2 * i.toInt.toNat) 9) ha11  (by omega)) (fun z14 h9 hq15 => ?_)
      obtain ⟨rfl, x16, rfl, px16⟩ := hq15
      show f_wp _ (42, [some (.inr (.inr (some 0))), some (.inl i), some (.inl j)], [.inl x16], cH a11 b v12) _
      exact wp_iret (z := false) rfl (fun h9 => by cases h9) ⟨a11, v12, rfl, ha11, ⟨FR.tr (FR.rf) (FR.sub fa11.1 (by first | exact (fun _ h9 => h9) | decide | (intro c9 h9; simp only [List.mem_cons, List.not_mem_nil, or_false] at h9 ⊢; omega) | (intro c9 h9; simp only [List.mem_cons, List.not_mem_nil, or_false] at h9; exact cA_mem (by omega)) | (intro c9 h9; simp only [List.mem_cons, List.not_mem_nil, or_false] at h9; exact cB_mem (by omega)) | (intro c9 h9; simp only [List.mem_cons, List.not_mem_nil, or_false] at h9; exact cU_mem (by omega)) | (intro c9 h9; simp only [List.mem_cons, List.not_mem_nil, or_false] at h9; exact cM_mem (by omega)) | exact cA_sub)), ⟨fun i9 h9 => (fa11.2.1.1 i9 (fun z9 => h9 (by first | exact z9 | (revert z9; simp; done) | (revert z9; simp; omega)))).trans ((show ∀ i9, i9 ∉ [5] → v i9 = v i9 from (fun _ _ => rfl)) i9 h9), Or.inr fa11.2.1.2⟩, trivial⟩, ⟨_, rfl, trivial⟩⟩
set_option maxRecDepth 4000 in
theorem s_X12_walls {K : Nat} (a : Nat → Nat → Int32) (b : Nat → Nat → Int64) (v : Nat → Option Nat) (L : Nat) (i : Int32) (j : Int32) (k : Int32) (hR : RC K a) (h0 : v 0 = some L) (hL : L = 22 ∨ L = 46) : f_call mtC 6 148 [.inr (.inr (some 0)), .inl i, .inl j, .inl k] (cH a b v) (fun v9 h' => ∃ (a' : Nat → Nat → Int32) (v' : Nat → Option Nat), h' = cH a' b v' ∧ RC K a' ∧ (FR [10, 11] a a' ∧ ((∀ i, i ∉ [5] → v' i = v i) ∧ (v' 5 = v 5 ∨ v' 5 = some L)) ∧ True) ∧ ∃ x : Int32, v9 = some (.inl x) ∧ True) := by
  refine f_call_of (d0 := 5) rfl (Nat.le_of_ble_eq_true rfl) (fun d hd => ?_)
  show f_wp _ (0, [some (.inr (.inr (some 0))), some (.inl i), some (.inl j), some (.inl k), none, none, none, none], [], cH a b v) _
  have lm1 : (-1 : Int32).toInt = -1 := rfl
  have l0 : (0 : Int32).toInt = 0 := rfl
  have l1 : (1 : Int32).toInt = 1 := rfl
  have l6 : (6 : Int32).toInt = 6 := rfl
  have l1000000 : (1000000 : Int32).toInt = 1000000 := rfl
  refine w_aload rfl rfl ?_
  refine w_iload rfl rfl ?_
  refine w_invV (rest := []) rfl rfl rfl rfl rfl (Nat.le_of_ble_eq_true rfl) rfl (by omega) (s_X12_hasTown (K := K) a b v L i hR  (h0) (by omega)) (fun z1 h9 hq2 => ?_)
  obtain ⟨rfl, x3, rfl, px3⟩ := hq2
  show f_wp _ (5, [some (.inr (.inr (some 0))), some (.inl i), some (.inl j), some (.inl k), none, none, none, none], [.inl x3], cH a b v) _
  refine w_if_eq rfl (fun c4 => ?_) (fun c4 => ?_)
  · skip
    refine w_const rfl ?_
    exact wp_iret (z := false) rfl (fun h9 => by cases h9) ⟨a, v, rfl, hR, ⟨FR.rf, ⟨(fun _ _ => rfl), Or.inl rfl⟩, trivial⟩, ⟨_, rfl, trivial⟩⟩
  · skip
    refine w_iload rfl rfl ?_
    refine w_invS (rest := []) rfl (Nat.le_of_ble_eq_true rfl) rfl (Nat.le_of_ble_eq_true rfl) rfl (by omega) (s_X12_isSeason (K := K) a b v  j   ) (fun z5 h9 hq6 => ?_)
    obtain ⟨rfl, x7, rfl, px7⟩ := hq6
    show f_wp _ (12, [some (.inr (.inr (some 0))), some (.inl i), some (.inl j), some (.inl k), none, none, none, none], [.inl x7], cH a b v) _
    refine w_if_eq rfl (fun c8 => ?_) (fun c8 => ?_)
    · skip
      refine w_const rfl ?_
      exact wp_iret (z := false) rfl (fun h9 => by cases h9) ⟨a, v, rfl, hR, ⟨FR.rf, ⟨(fun _ _ => rfl), Or.inl rfl⟩, trivial⟩, ⟨_, rfl, trivial⟩⟩
    · skip
      refine w_iload rfl rfl ?_
      refine w_if_lt rfl (fun c9 => ?_) (fun c9 => ?_)
      · skip
        refine w_const rfl ?_
        exact wp_iret (z := false) rfl (fun h9 => by cases h9) ⟨a, v, rfl, hR, ⟨FR.rf, ⟨(fun _ _ => rfl), Or.inl rfl⟩, trivial⟩, ⟨_, rfl, trivial⟩⟩
      · skip
        refine w_iload rfl rfl ?_
        refine w_const rfl ?_
        refine w_ic_le rfl (fun c10 => ?_) (fun c10 => ?_)
        · skip
          refine w_aload rfl rfl ?_
          refine w_iload rfl rfl ?_
          refine w_invV (rest := []) rfl rfl rfl rfl rfl (Nat.le_of_ble_eq_true rfl) rfl (by omega) (s_X12_townWaters (K := K) a b v L i hR  (h0) (by omega) (by omega)) (fun z11 h9 hq12 => ?_)
          obtain ⟨a13, v14, rfl, ha13, fa13, x15, rfl, px15⟩ := hq12
          show f_wp _ (33, [some (.inr (.inr (some 0))), some (.inl i), some (.inl j), some (.inl k), none, none, none, none], [.inl x15], cH a13 b v14) _
          refine w_istore (lo' := [some (.inr (.inr (some 0))), some (.inl i), some (.inl j), some (.inl k), some (.inl x15), none, none, none]) rfl rfl ?_
          refine w_aload rfl rfl ?_
          refine c_getR (t := some L) rfl rfl rfl rfl ((fa13.2.1.1 0 (by decide)).trans h0) ?_
          refine w_iload rfl rfl ?_
          refine w_iload rfl rfl ?_
          refine w_invV (rest := []) rfl rfl (sh_land (by omega)) rfl rfl (Nat.le_of_ble_eq_true rfl) rfl (by omega) (s_X3_water (K := K) a13 b v14  L x15 j ha13  (by omega)) (fun z16 h9 hq17 => ?_)
          obtain ⟨rfl, x18, rfl, px18⟩ := hq17
          show f_wp _ (45, [some (.inr (.inr (some 0))), some (.inl i), some (.inl j), some (.inl k), some (.inl x15), none, none, none], [.inl x18], cH a13 b v14) _
          refine w_istore (lo' := [some (.inr (.inr (some 0))), some (.inl i), some (.inl j), some (.inl k), some (.inl x15), some (.inl x18), none, none]) rfl rfl ?_
          refine w_const rfl ?_
          refine w_istore (lo' := [some (.inr (.inr (some 0))), some (.inl i), some (.inl j), some (.inl k), some (.inl x15), some (.inl x18), some (.inl 0), none]) rfl rfl ?_
          refine w_const rfl ?_
          refine w_istore (lo' := [some (.inr (.inr (some 0))), some (.inl i), some (.inl j), some (.inl k), some (.inl x15), some (.inl x18), some (.inl 0), some (.inl 0)]) rfl rfl ?_
          have loop53 : ∀ (ms9 : Nat) (ho : Int32) (m : Int32) , (7 - m.toInt).toNat = ms9 → (0 ≤ m.toInt ∧ m.toInt ≤ 7) → f_wp (f_code (t_X12_walls (f_ev mtC d))) (53, [some (.inr (.inr (some 0))), some (.inl i), some (.inl j), some (.inl k), some (.inl x15), some (.inl x18), some (.inl ho), some (.inl m)], [], cH a13 b v14) (fun v9 h' => ∃ (a' : Nat → Nat → Int32) (v' : Nat → Option Nat), h' = cH a' b v' ∧ RC K a' ∧ (FR [10, 11] a a' ∧ ((∀ i, i ∉ [5] → v' i = v i) ∧ (v' 5 = v 5 ∨ v' 5 = some L)) ∧ True) ∧ ∃ x : Int32, v9 = some (.inl x) ∧ True) := by
            intro ms9
            induction ms9 using Nat.strongRecOn with
            | _ ms53 ih53 =>
              intro ho m  hm53 hm
              refine w_iload rfl rfl ?_
              refine w_const rfl ?_
              refine w_ic_gt rfl (fun c19 => ?_) (fun c19 => ?_)
              · skip
                refine w_iload rfl rfl ?_
                exact wp_iret (z := false) rfl (fun h9 => by cases h9) ⟨a13, v14, rfl, ha13, ⟨FR.tr (FR.rf) (FR.sub fa13.1 (by first | exact (fun _ h9 => h9) | decide | (intro c9 h9; simp only [List.mem_cons, List.not_mem_nil, or_false] at h9 ⊢; omega) | (intro c9 h9; simp only [List.mem_cons, List.not_mem_nil, or_false] at h9; exact cA_mem (by omega)) | (intro c9 h9; simp only [List.mem_cons, List.not_mem_nil, or_false] at h9; exact cB_mem (by omega)) | (intro c9 h9; simp only [List.mem_cons, List.not_mem_nil, or_false] at h9; exact cU_mem (by omega)) | (intro c9 h9; simp only [List.mem_cons, List.not_mem_nil, or_false] at h9; exact cM_mem (by omega)) | exact cA_sub)), ⟨fun i9 h9 => (fa13.2.1.1 i9 (fun z9 => h9 (by first | exact z9 | (revert z9; simp; done) | (revert z9; simp; omega)))).trans ((show ∀ i9, i9 ∉ [5] → v i9 = v i9 from (fun _ _ => rfl)) i9 h9), Or.inr fa13.2.1.2⟩, trivial⟩, ⟨_, rfl, trivial⟩⟩
              · skip
                refine w_aload rfl rfl ?_
                refine c_getR (t := some L) rfl rfl rfl rfl ((fa13.2.1.1 0 (by decide)).trans h0) ?_
                refine w_iload rfl rfl ?_
                refine w_iload rfl rfl ?_
                refine w_iload rfl rfl ?_
                refine w_invV (rest := []) rfl rfl (sh_land (by omega)) rfl rfl (Nat.le_of_ble_eq_true rfl) rfl (by omega) (s_X3_floodChance (K := K) a13 b v14  L x15 j ho ha13  (by omega)) (fun z20 h9 hq21 => ?_)
                obtain ⟨rfl, x22, rfl, px22⟩ := hq21
                show f_wp _ (72, [some (.inr (.inr (some 0))), some (.inl i), some (.inl j), some (.inl k), some (.inl x15), some (.inl x18), some (.inl ho), some (.inl m)], [.inl x22], cH a13 b v14) _
                refine w_iload rfl rfl ?_
                refine w_ic_gt rfl (fun c23 => ?_) (fun c23 => ?_)
                · skip
                  refine w_iload rfl rfl ?_
                  refine w_iload rfl rfl ?_
                  refine w_aload rfl rfl ?_
                  refine c_getR (t := some L) rfl rfl rfl rfl ((fa13.2.1.1 0 (by decide)).trans h0) ?_
                  refine c_getI rfl (sh_land (by omega)) rfl rfl ?_
                  refine w_iiU rfl (fun x24 tx24 => ?_)
                  first | refine w_iadd rfl (by omega) (fun x25 tx25 => ?_) | refine w_iiU rfl (fun x25 tx25 => ?_)
                  refine w_istore (lo' := [some (.inr (.inr (some 0))), some (.inl i), some (.inl j), some (.inl k), some (.inl x15), some (.inl x18), some (.inl x25), some (.inl m)]) rfl rfl ?_
                  refine w_iinc (lo' := fun z9 => [some (.inr (.inr (some 0))), some (.inl i), some (.inl j), some (.inl k), some (.inl x15), some (.inl x18), some (.inl x25), some (.inl z9)]) rfl rfl (fun _ => rfl) (by omega) (fun x26 tx26 => ?_)
                  refine w_goto rfl ?_
                  exact ih53 (7 - x26.toInt).toNat (by omega) x25 x26 rfl  (by omega)
                · skip
                  refine w_iload rfl rfl ?_
                  exact wp_iret (z := false) rfl (fun h9 => by cases h9) ⟨a13, v14, rfl, ha13, ⟨FR.tr (FR.rf) (FR.sub fa13.1 (by first | exact (fun _ h9 => h9) | decide | (intro c9 h9; simp only [List.mem_cons, List.not_mem_nil, or_false] at h9 ⊢; omega) | (intro c9 h9; simp only [List.mem_cons, List.not_mem_nil, or_false] at h9; exact cA_mem (by omega)) | (intro c9 h9; simp only [List.mem_cons, List.not_mem_nil, or_false] at h9; exact cB_mem (by omega)) | (intro c9 h9; simp only [List.mem_cons, List.not_mem_nil, or_false] at h9; exact cU_mem (by omega)) | (intro c9 h9; simp only [List.mem_cons, List.not_mem_nil, or_false] at h9; exact cM_mem (by omega)) | exact cA_sub)), ⟨fun i9 h9 => (fa13.2.1.1 i9 (fun z9 => h9 (by first | exact z9 | (revert z9; simp; done) | (revert z9; simp; omega)))).trans ((show ∀ i9, i9 ∉ [5] → v i9 = v i9 from (fun _ _ => rfl)) i9 h9), Or.inr fa13.2.1.2⟩, trivial⟩, ⟨_, rfl, trivial⟩⟩
          exact loop53 _ 0 0 rfl  (by omega)
        · skip
          refine w_const rfl ?_
          exact wp_iret (z := false) rfl (fun h9 => by cases h9) ⟨a, v, rfl, hR, ⟨FR.rf, ⟨(fun _ _ => rfl), Or.inl rfl⟩, trivial⟩, ⟨_, rfl, trivial⟩⟩
set_option maxRecDepth 4000 in
theorem s_X12_match {K : Nat} (a : Nat → Nat → Int32) (b : Nat → Nat → Int64) (v : Nat → Option Nat) (L : Nat) (i : Int32) (hR : RC K a) (h0 : v 0 = some L) (hL : L = 22 ∨ L = 46) : f_call mtC 14 134 [.inr (.inr (some 0)), .inl i] (cH a b v) (fun v9 h' => ∃ (a' : Nat → Nat → Int32) (v' : Nat → Option Nat), h' = cH a' b v' ∧ RC K a' ∧ (FR [10, 11, 12, 13] a a' ∧ ((∀ i, i ∉ [5] → v' i = v i) ∧ (v' 5 = v 5 ∨ v' 5 = some L)) ∧ True) ∧ ∃ x : Int32, v9 = some (.inl x) ∧ True) := by
  refine f_call_of (d0 := 13) rfl (Nat.le_of_ble_eq_true rfl) (fun d hd => ?_)
  show f_wp _ (0, [some (.inr (.inr (some 0))), some (.inl i)], [], cH a b v) _
  have lm2 : (-2 : Int32).toInt = -2 := rfl
  have l3 : (3 : Int32).toInt = 3 := rfl
  refine w_iload rfl rfl ?_
  refine w_if_lt rfl (fun c1 => ?_) (fun c1 => ?_)
  · skip
    refine w_const rfl ?_
    exact wp_iret (z := false) rfl (fun h9 => by cases h9) ⟨a, v, rfl, hR, ⟨FR.rf, ⟨(fun _ _ => rfl), Or.inl rfl⟩, trivial⟩, ⟨_, rfl, trivial⟩⟩
  · skip
    refine w_iload rfl rfl ?_
    refine w_const rfl ?_
    refine w_aload rfl rfl ?_
    refine c_getR (t := some L) rfl rfl rfl rfl h0 ?_
    refine c_getI rfl (sh_land (by omega)) rfl rfl ?_
    have q2 : 0 ≤ (a L 7).toInt ∧ (a L 7).toInt ≤ 6 := RC.riv hR (by omega)
    first | refine w_iadd rfl (by omega) (fun x3 tx3 => ?_) | refine w_iiU rfl (fun x3 tx3 => ?_)
    refine w_ic_lt rfl (fun c4 => ?_) (fun c4 => ?_)
    · skip
      refine w_aload rfl rfl ?_
      refine c_getR (t := some 12) rfl rfl rfl rfl rfl ?_
      refine w_aload rfl rfl ?_
      refine c_getR (t := some L) rfl rfl rfl rfl h0 ?_
      refine c_invU (rest := []) rfl rfl rfl rfl rfl (Nat.le_of_ble_eq_true rfl) rfl (by omega) (s_X10_refresh_M (K := K) a b v  L hR  (by omega)) (fun z5 h9 hq6 => ?_)
      obtain ⟨a7, v8, rfl, ha7, fa7, rfl⟩ := hq6
      show f_wp _ (31, [some (.inr (.inr (some 0))), some (.inl i)], [], cH a7 b v8) _
      refine w_aload rfl rfl ?_
      refine c_getR (t := some 12) rfl rfl rfl rfl rfl ?_
      refine c_getI rfl rfl rfl rfl ?_
      refine w_if_ne rfl (fun c9 => ?_) (fun c9 => ?_)
      · skip
        refine w_const rfl ?_
        exact wp_iret (z := false) rfl (fun h9 => by cases h9) ⟨a7, v8, rfl, ha7, ⟨FR.tr (FR.rf) (FR.sub fa7.1 (by first | exact (fun _ h9 => h9) | decide | (intro c9 h9; simp only [List.mem_cons, List.not_mem_nil, or_false] at h9 ⊢; omega) | (intro c9 h9; simp only [List.mem_cons, List.not_mem_nil, or_false] at h9; exact cA_mem (by omega)) | (intro c9 h9; simp only [List.mem_cons, List.not_mem_nil, or_false] at h9; exact cB_mem (by omega)) | (intro c9 h9; simp only [List.mem_cons, List.not_mem_nil, or_false] at h9; exact cU_mem (by omega)) | (intro c9 h9; simp only [List.mem_cons, List.not_mem_nil, or_false] at h9; exact cM_mem (by omega)) | exact cA_sub)), ⟨fun i9 h9 => (fa7.2.1.1 i9 (fun z9 => h9 (by first | exact z9 | (revert z9; simp; done) | (revert z9; simp; omega)))).trans ((show ∀ i9, i9 ∉ [5] → v i9 = v i9 from (fun _ _ => rfl)) i9 h9), fa7.2.1.2⟩, trivial⟩, ⟨_, rfl, trivial⟩⟩
      · skip
        refine w_iload rfl rfl ?_
        refine w_tab rfl (fun c10 => ?_) (fun k9 t9 hk9 c10 => ?_)
        · skip
          have c10d := c10
          simp only [List.length_cons, List.length_nil] at c10d
          refine w_aload rfl rfl ?_
          refine c_getR (t := some 12) rfl rfl rfl rfl rfl ?_
          refine c_getR (t := some 13) rfl rfl rfl rfl rfl ?_
          refine w_iload rfl rfl ?_
          refine w_const rfl ?_
          first | refine w_isub rfl (by omega) (fun x11 tx11 => ?_) | refine w_iiU rfl (fun x11 tx11 => ?_)
          refine c_iald rfl rfl (by omega) (fun x12 ex12 => ?_)
          exact wp_iret (z := false) rfl (fun h9 => by cases h9) ⟨a7, v8, rfl, ha7, ⟨FR.tr (FR.rf) (FR.sub fa7.1 (by first | exact (fun _ h9 => h9) | decide | (intro c9 h9; simp only [List.mem_cons, List.not_mem_nil, or_false] at h9 ⊢; omega) | (intro c9 h9; simp only [List.mem_cons, List.not_mem_nil, or_false] at h9; exact cA_mem (by omega)) | (intro c9 h9; simp only [List.mem_cons, List.not_mem_nil, or_false] at h9; exact cB_mem (by omega)) | (intro c9 h9; simp only [List.mem_cons, List.not_mem_nil, or_false] at h9; exact cU_mem (by omega)) | (intro c9 h9; simp only [List.mem_cons, List.not_mem_nil, or_false] at h9; exact cM_mem (by omega)) | exact cA_sub)), ⟨fun i9 h9 => (fa7.2.1.1 i9 (fun z9 => h9 (by first | exact z9 | (revert z9; simp; done) | (revert z9; simp; omega)))).trans ((show ∀ i9, i9 ∉ [5] → v i9 = v i9 from (fun _ _ => rfl)) i9 h9), fa7.2.1.2⟩, trivial⟩, ⟨_, rfl, trivial⟩⟩
        · skip
          match k9, hk9, c10 with
          | 0, hk9, c10 =>
            cases hk9
            refine w_aload rfl rfl ?_
            refine c_getR (t := some 12) rfl rfl rfl rfl rfl ?_
            refine c_getI rfl rfl rfl rfl ?_
            exact wp_iret (z := false) rfl (fun h9 => by cases h9) ⟨a7, v8, rfl, ha7, ⟨FR.tr (FR.rf) (FR.sub fa7.1 (by first | exact (fun _ h9 => h9) | decide | (intro c9 h9; simp only [List.mem_cons, List.not_mem_nil, or_false] at h9 ⊢; omega) | (intro c9 h9; simp only [List.mem_cons, List.not_mem_nil, or_false] at h9; exact cA_mem (by omega)) | (intro c9 h9; simp only [List.mem_cons, List.not_mem_nil, or_false] at h9; exact cB_mem (by omega)) | (intro c9 h9; simp only [List.mem_cons, List.not_mem_nil, or_false] at h9; exact cU_mem (by omega)) | (intro c9 h9; simp only [List.mem_cons, List.not_mem_nil, or_false] at h9; exact cM_mem (by omega)) | exact cA_sub)), ⟨fun i9 h9 => (fa7.2.1.1 i9 (fun z9 => h9 (by first | exact z9 | (revert z9; simp; done) | (revert z9; simp; omega)))).trans ((show ∀ i9, i9 ∉ [5] → v i9 = v i9 from (fun _ _ => rfl)) i9 h9), fa7.2.1.2⟩, trivial⟩, ⟨_, rfl, trivial⟩⟩
          | 1, hk9, c10 =>
            cases hk9
            refine w_aload rfl rfl ?_
            refine c_getR (t := some 12) rfl rfl rfl rfl rfl ?_
            refine c_getI rfl rfl rfl rfl ?_
            exact wp_iret (z := false) rfl (fun h9 => by cases h9) ⟨a7, v8, rfl, ha7, ⟨FR.tr (FR.rf) (FR.sub fa7.1 (by first | exact (fun _ h9 => h9) | decide | (intro c9 h9; simp only [List.mem_cons, List.not_mem_nil, or_false] at h9 ⊢; omega) | (intro c9 h9; simp only [List.mem_cons, List.not_mem_nil, or_false] at h9; exact cA_mem (by omega)) | (intro c9 h9; simp only [List.mem_cons, List.not_mem_nil, or_false] at h9; exact cB_mem (by omega)) | (intro c9 h9; simp only [List.mem_cons, List.not_mem_nil, or_false] at h9; exact cU_mem (by omega)) | (intro c9 h9; simp only [List.mem_cons, List.not_mem_nil, or_false] at h9; exact cM_mem (by omega)) | exact cA_sub)), ⟨fun i9 h9 => (fa7.2.1.1 i9 (fun z9 => h9 (by first | exact z9 | (revert z9; simp; done) | (revert z9; simp; omega)))).trans ((show ∀ i9, i9 ∉ [5] → v i9 = v i9 from (fun _ _ => rfl)) i9 h9), fa7.2.1.2⟩, trivial⟩, ⟨_, rfl, trivial⟩⟩
          | 2, hk9, c10 =>
            cases hk9
            refine w_aload rfl rfl ?_
            refine c_getR (t := some 12) rfl rfl rfl rfl rfl ?_
            refine c_getI rfl rfl rfl rfl ?_
            exact wp_iret (z := false) rfl (fun h9 => by cases h9) ⟨a7, v8, rfl, ha7, ⟨FR.tr (FR.rf) (FR.sub fa7.1 (by first | exact (fun _ h9 => h9) | decide | (intro c9 h9; simp only [List.mem_cons, List.not_mem_nil, or_false] at h9 ⊢; omega) | (intro c9 h9; simp only [List.mem_cons, List.not_mem_nil, or_false] at h9; exact cA_mem (by omega)) | (intro c9 h9; simp only [List.mem_cons, List.not_mem_nil, or_false] at h9; exact cB_mem (by omega)) | (intro c9 h9; simp only [List.mem_cons, List.not_mem_nil, or_false] at h9; exact cU_mem (by omega)) | (intro c9 h9; simp only [List.mem_cons, List.not_mem_nil, or_false] at h9; exact cM_mem (by omega)) | exact cA_sub)), ⟨fun i9 h9 => (fa7.2.1.1 i9 (fun z9 => h9 (by first | exact z9 | (revert z9; simp; done) | (revert z9; simp; omega)))).trans ((show ∀ i9, i9 ∉ [5] → v i9 = v i9 from (fun _ _ => rfl)) i9 h9), fa7.2.1.2⟩, trivial⟩, ⟨_, rfl, trivial⟩⟩
          | n9 + 3, hk9, c10 => simp at hk9
    · skip
      refine w_const rfl ?_
      exact wp_iret (z := false) rfl (fun h9 => by cases h9) ⟨a, v, rfl, hR, ⟨FR.rf, ⟨(fun _ _ => rfl), Or.inl rfl⟩, trivial⟩, ⟨_, rfl, trivial⟩⟩
set_option maxRecDepth 4000 in
theorem s_X12_found {K : Nat} (a : Nat → Nat → Int32) (b : Nat → Nat → Int64) (v : Nat → Option Nat) (L : Nat) (i : Int32) (hR : RC K a) (h0 : v 0 = some L) (hL : L = 22 ∨ L = 46) : f_call mtC 14 150 [.inr (.inr (some 0)), .inl i] (cH a b v) (fun v9 h' => ∃ (a' : Nat → Nat → Int32) (v' : Nat → Option Nat), h' = cH a' b v' ∧ RC K a' ∧ (FR [10, 11, 14, 15, 16] a a' ∧ ((∀ i, i ∉ [5] → v' i = v i) ∧ (v' 5 = v 5 ∨ v' 5 = some L)) ∧ True) ∧ ∃ x : Int32, v9 = some (.inl x) ∧ True) := by
  refine f_call_of (d0 := 13) rfl (Nat.le_of_ble_eq_true rfl) (fun d hd => ?_)
  show f_wp _ (0, [some (.inr (.inr (some 0))), some (.inl i)], [], cH a b v) _
  have lm3 : (-3 : Int32).toInt = -3 := rfl
  have l1 : (1 : Int32).toInt = 1 := rfl
  have l2 : (2 : Int32).toInt = 2 := rfl
  refine w_iload rfl rfl ?_
  refine w_if_lt rfl (fun c1 => ?_) (fun c1 => ?_)
  · skip
    refine w_const rfl ?_
    exact wp_iret (z := false) rfl (fun h9 => by cases h9) ⟨a, v, rfl, hR, ⟨FR.rf, ⟨(fun _ _ => rfl), Or.inl rfl⟩, trivial⟩, ⟨_, rfl, trivial⟩⟩
  · skip
    refine w_iload rfl rfl ?_
    refine w_const rfl ?_
    refine w_aload rfl rfl ?_
    refine c_getR (t := some L) rfl rfl rfl rfl h0 ?_
    refine c_getI rfl (sh_land (by omega)) rfl rfl ?_
    have q2 : 0 ≤ (a L 7).toInt ∧ (a L 7).toInt ≤ 6 := RC.riv hR (by omega)
    first | refine w_iadd rfl (by omega) (fun x3 tx3 => ?_) | refine w_iiU rfl (fun x3 tx3 => ?_)
    refine w_ic_lt rfl (fun c4 => ?_) (fun c4 => ?_)
    · skip
      refine w_aload rfl rfl ?_
      refine c_getR (t := some 14) rfl rfl rfl rfl rfl ?_
      refine w_aload rfl rfl ?_
      refine c_getR (t := some L) rfl rfl rfl rfl h0 ?_
      refine c_invU (rest := []) rfl rfl rfl rfl rfl (Nat.le_of_ble_eq_true rfl) rfl (by omega) (s_X10_refresh_F (K := K) a b v  L hR  (by omega)) (fun z5 h9 hq6 => ?_)
      obtain ⟨a7, v8, rfl, ha7, fa7, rfl⟩ := hq6
      show f_wp _ (31, [some (.inr (.inr (some 0))), some (.inl i)], [], cH a7 b v8) _
      refine w_iload rfl rfl ?_
      refine w_if_ne rfl (fun c9 => ?_) (fun c9 => ?_)
      · skip
        refine w_aload rfl rfl ?_
        refine c_getR (t := some 14) rfl rfl rfl rfl rfl ?_
        refine c_getI rfl rfl rfl rfl ?_
        exact wp_iret (z := false) rfl (fun h9 => by cases h9) ⟨a7, v8, rfl, ha7, ⟨FR.tr (FR.rf) (FR.sub fa7.1 (by first | exact (fun _ h9 => h9) | decide | (intro c9 h9; simp only [List.mem_cons, List.not_mem_nil, or_false] at h9 ⊢; omega) | (intro c9 h9; simp only [List.mem_cons, List.not_mem_nil, or_false] at h9; exact cA_mem (by omega)) | (intro c9 h9; simp only [List.mem_cons, List.not_mem_nil, or_false] at h9; exact cB_mem (by omega)) | (intro c9 h9; simp only [List.mem_cons, List.not_mem_nil, or_false] at h9; exact cU_mem (by omega)) | (intro c9 h9; simp only [List.mem_cons, List.not_mem_nil, or_false] at h9; exact cM_mem (by omega)) | exact cA_sub)), ⟨fun i9 h9 => (fa7.2.1.1 i9 (fun z9 => h9 (by first | exact z9 | (revert z9; simp; done) | (revert z9; simp; omega)))).trans ((show ∀ i9, i9 ∉ [5] → v i9 = v i9 from (fun _ _ => rfl)) i9 h9), fa7.2.1.2⟩, trivial⟩, ⟨_, rfl, trivial⟩⟩
      · skip
        refine w_aload rfl rfl ?_
        refine c_getR (t := some 14) rfl rfl rfl rfl rfl ?_
        refine c_getI rfl rfl rfl rfl ?_
        refine w_if_ne rfl (fun c10 => ?_) (fun c10 => ?_)
        · skip
          refine w_const rfl ?_
          exact wp_iret (z := false) rfl (fun h9 => by cases h9) ⟨a7, v8, rfl, ha7, ⟨FR.tr (FR.rf) (FR.sub fa7.1 (by first | exact (fun _ h9 => h9) | decide | (intro c9 h9; simp only [List.mem_cons, List.not_mem_nil, or_false] at h9 ⊢; omega) | (intro c9 h9; simp only [List.mem_cons, List.not_mem_nil, or_false] at h9; exact cA_mem (by omega)) | (intro c9 h9; simp only [List.mem_cons, List.not_mem_nil, or_false] at h9; exact cB_mem (by omega)) | (intro c9 h9; simp only [List.mem_cons, List.not_mem_nil, or_false] at h9; exact cU_mem (by omega)) | (intro c9 h9; simp only [List.mem_cons, List.not_mem_nil, or_false] at h9; exact cM_mem (by omega)) | exact cA_sub)), ⟨fun i9 h9 => (fa7.2.1.1 i9 (fun z9 => h9 (by first | exact z9 | (revert z9; simp; done) | (revert z9; simp; omega)))).trans ((show ∀ i9, i9 ∉ [5] → v i9 = v i9 from (fun _ _ => rfl)) i9 h9), fa7.2.1.2⟩, trivial⟩, ⟨_, rfl, trivial⟩⟩
        · skip
          refine w_iload rfl rfl ?_
          refine w_const rfl ?_
          refine w_ic_ne rfl (fun c11 => ?_) (fun c11 => ?_)
          · skip
            refine w_aload rfl rfl ?_
            refine c_getR (t := some 14) rfl rfl rfl rfl rfl ?_
            refine c_getI rfl rfl rfl rfl ?_
            refine w_goto rfl ?_
            exact wp_iret (z := false) rfl (fun h9 => by cases h9) ⟨a7, v8, rfl, ha7, ⟨FR.tr (FR.rf) (FR.sub fa7.1 (by first | exact (fun _ h9 => h9) | decide | (intro c9 h9; simp only [List.mem_cons, List.not_mem_nil, or_false] at h9 ⊢; omega) | (intro c9 h9; simp only [List.mem_cons, List.not_mem_nil, or_false] at h9; exact cA_mem (by omega)) | (intro c9 h9; simp only [List.mem_cons, List.not_mem_nil, or_false] at h9; exact cB_mem (by omega)) | (intro c9 h9; simp only [List.mem_cons, List.not_mem_nil, or_false] at h9; exact cU_mem (by omega)) | (intro c9 h9; simp only [List.mem_cons, List.not_mem_nil, or_false] at h9; exact cM_mem (by omega)) | exact cA_sub)), ⟨fun i9 h9 => (fa7.2.1.1 i9 (fun z9 => h9 (by first | exact z9 | (revert z9; simp; done) | (revert z9; simp; omega)))).trans ((show ∀ i9, i9 ∉ [5] → v i9 = v i9 from (fun _ _ => rfl)) i9 h9), fa7.2.1.2⟩, trivial⟩, ⟨_, rfl, trivial⟩⟩
          · skip
            refine w_aload rfl rfl ?_
            refine c_getR (t := some 14) rfl rfl rfl rfl rfl ?_
            refine c_getR (t := some 15) rfl rfl rfl rfl rfl ?_
            refine w_iload rfl rfl ?_
            refine w_const rfl ?_
            first | refine w_isub rfl (by omega) (fun x12 tx12 => ?_) | refine w_iiU rfl (fun x12 tx12 => ?_)
            refine c_iald rfl rfl (by omega) (fun x13 ex13 => ?_)
            exact wp_iret (z := false) rfl (fun h9 => by cases h9) ⟨a7, v8, rfl, ha7, ⟨FR.tr (FR.rf) (FR.sub fa7.1 (by first | exact (fun _ h9 => h9) | decide | (intro c9 h9; simp only [List.mem_cons, List.not_mem_nil, or_false] at h9 ⊢; omega) | (intro c9 h9; simp only [List.mem_cons, List.not_mem_nil, or_false] at h9; exact cA_mem (by omega)) | (intro c9 h9; simp only [List.mem_cons, List.not_mem_nil, or_false] at h9; exact cB_mem (by omega)) | (intro c9 h9; simp only [List.mem_cons, List.not_mem_nil, or_false] at h9; exact cU_mem (by omega)) | (intro c9 h9; simp only [List.mem_cons, List.not_mem_nil, or_false] at h9; exact cM_mem (by omega)) | exact cA_sub)), ⟨fun i9 h9 => (fa7.2.1.1 i9 (fun z9 => h9 (by first | exact z9 | (revert z9; simp; done) | (revert z9; simp; omega)))).trans ((show ∀ i9, i9 ∉ [5] → v i9 = v i9 from (fun _ _ => rfl)) i9 h9), fa7.2.1.2⟩, trivial⟩, ⟨_, rfl, trivial⟩⟩
    · skip
      refine w_const rfl ?_
      exact wp_iret (z := false) rfl (fun h9 => by cases h9) ⟨a, v, rfl, hR, ⟨FR.rf, ⟨(fun _ _ => rfl), Or.inl rfl⟩, trivial⟩, ⟨_, rfl, trivial⟩⟩
set_option maxRecDepth 4000 in
theorem s_X12_rests {K : Nat} (a : Nat → Nat → Int32) (b : Nat → Nat → Int64) (v : Nat → Option Nat) (L : Nat) (i : Int32) (j : Int32) (k : Int32) (p9 : Int32) (hR : RC K a) (h0 : v 0 = some L) (hL : L = 22 ∨ L = 46) : f_call mtC 6 151 [.inr (.inr (some 0)), .inl i, .inl j, .inl k, .inl p9] (cH a b v) (fun v9 h' => ∃ (a' : Nat → Nat → Int32) (v' : Nat → Option Nat), h' = cH a' b v' ∧ RC K a' ∧ (FR [10, 11] a a' ∧ ((∀ i, i ∉ [5] → v' i = v i) ∧ (v' 5 = v 5 ∨ v' 5 = some L)) ∧ True) ∧ ∃ x : Int32, v9 = some (.inl x) ∧ True) := by
  refine f_call_of (d0 := 5) rfl (Nat.le_of_ble_eq_true rfl) (fun d hd => ?_)
  show f_wp _ (0, [some (.inr (.inr (some 0))), some (.inl i), some (.inl j), some (.inl k), some (.inl p9), none, none, none, none, none], [], cH a b v) _
  have lm1 : (-1 : Int32).toInt = -1 := rfl
  have l0 : (0 : Int32).toInt = 0 := rfl
  have l1 : (1 : Int32).toInt = 1 := rfl
  have l5 : (5 : Int32).toInt = 5 := rfl
  have l9 : (9 : Int32).toInt = 9 := rfl
  have l10 : (10 : Int32).toInt = 10 := rfl
  refine w_aload rfl rfl ?_
  refine w_iload rfl rfl ?_
  refine w_invV (rest := []) rfl rfl rfl rfl rfl (Nat.le_of_ble_eq_true rfl) rfl (by omega) (s_X12_isRiver (K := K) a b v L i hR  (h0) (by omega)) (fun z1 h9 hq2 => ?_)
  obtain ⟨rfl, x3, rfl, px3⟩ := hq2
  show f_wp _ (5, [some (.inr (.inr (some 0))), some (.inl i), some (.inl j), some (.inl k), some (.inl p9), none, none, none, none, none], [.inl x3], cH a b v) _
  refine w_if_eq rfl (fun c4 => ?_) (fun c4 => ?_)
  · skip
    refine w_const rfl ?_
    exact wp_iret (z := false) rfl (fun h9 => by cases h9) ⟨a, v, rfl, hR, ⟨FR.rf, ⟨(fun _ _ => rfl), Or.inl rfl⟩, trivial⟩, ⟨_, rfl, trivial⟩⟩
  · skip
    refine w_aload rfl rfl ?_
    refine w_iload rfl rfl ?_
    refine w_iload rfl rfl ?_
    refine w_invV (rest := []) rfl rfl rfl rfl rfl (Nat.le_of_ble_eq_true rfl) rfl (by omega) (s_X12_areTwo (K := K) a b v L j k hR  (h0) (by omega)) (fun z5 h9 hq6 => ?_)
    obtain ⟨rfl, x7, rfl, px7⟩ := hq6
    show f_wp _ (14, [some (.inr (.inr (some 0))), some (.inl i), some (.inl j), some (.inl k), some (.inl p9), none, none, none, none, none], [.inl x7], cH a b v) _
    refine w_if_eq rfl (fun c8 => ?_) (fun c8 => ?_)
    · skip
      refine w_const rfl ?_
      exact wp_iret (z := false) rfl (fun h9 => by cases h9) ⟨a, v, rfl, hR, ⟨FR.rf, ⟨(fun _ _ => rfl), Or.inl rfl⟩, trivial⟩, ⟨_, rfl, trivial⟩⟩
    · skip
      refine w_iload rfl rfl ?_
      refine w_const rfl ?_
      refine w_ic_ge rfl (fun c9 => ?_) (fun c9 => ?_)
      · skip
        refine w_aload rfl rfl ?_
        refine w_invV (rest := []) rfl rfl rfl rfl rfl (Nat.le_of_ble_eq_true rfl) rfl (by omega) (s_X12_netNow (K := K) a b v L  hR  (h0) (by omega)) (fun z10 h9 hq11 => ?_)
        obtain ⟨a12, v13, rfl, ha12, fa12, rfl⟩ := hq11
        show f_wp _ (29, [some (.inr (.inr (some 0))), some (.inl i), some (.inl j), some (.inl k), some (.inl p9), none, none, none, none, none], [.inr (.inr (some 9))], cH a12 b v13) _
        refine w_astore (lo' := [some (.inr (.inr (some 0))), some (.inl i), some (.inl j), some (.inl k), some (.inl p9), some (.inr (.inr (some 9))), none, none, none, none]) rfl rfl ?_
        refine w_aload rfl rfl ?_
        refine w_iload rfl rfl ?_
        refine w_iload rfl rfl ?_
        refine w_invV (rest := []) rfl rfl rfl rfl rfl (Nat.le_of_ble_eq_true rfl) rfl (by omega) (s_X5_allows (K := K) a12 b v13 L i j ha12  (fa12.2.1.2) (by omega)) (fun z14 h9 hq15 => ?_)
        obtain ⟨rfl, x16, rfl, px16⟩ := hq15
        show f_wp _ (38, [some (.inr (.inr (some 0))), some (.inl i), some (.inl j), some (.inl k), some (.inl p9), some (.inr (.inr (some 9))), none, none, none, none], [.inl x16], cH a12 b v13) _
        refine w_if_eq rfl (fun c17 => ?_) (fun c17 => ?_)
        · skip
          refine w_const rfl ?_
          exact wp_iret (z := false) rfl (fun h9 => by cases h9) ⟨a12, v13, rfl, ha12, ⟨FR.tr (FR.rf) (FR.sub fa12.1 (by first | exact (fun _ h9 => h9) | decide | (intro c9 h9; simp only [List.mem_cons, List.not_mem_nil, or_false] at h9 ⊢; omega) | (intro c9 h9; simp only [List.mem_cons, List.not_mem_nil, or_false] at h9; exact cA_mem (by omega)) | (intro c9 h9; simp only [List.mem_cons, List.not_mem_nil, or_false] at h9; exact cB_mem (by omega)) | (intro c9 h9; simp only [List.mem_cons, List.not_mem_nil, or_false] at h9; exact cU_mem (by omega)) | (intro c9 h9; simp only [List.mem_cons, List.not_mem_nil, or_false] at h9; exact cM_mem (by omega)) | exact cA_sub)), ⟨fun i9 h9 => (fa12.2.1.1 i9 (fun z9 => h9 (by first | exact z9 | (revert z9; simp; done) | (revert z9; simp; omega)))).trans ((show ∀ i9, i9 ∉ [5] → v i9 = v i9 from (fun _ _ => rfl)) i9 h9), Or.inr fa12.2.1.2⟩, trivial⟩, ⟨_, rfl, trivial⟩⟩
        · skip
          refine w_aload rfl rfl ?_
          refine w_iload rfl rfl ?_
          refine w_iload rfl rfl ?_
          refine w_invV (rest := []) rfl rfl rfl rfl rfl (Nat.le_of_ble_eq_true rfl) rfl (by omega) (s_X5_allows (K := K) a12 b v13 L i k ha12  (fa12.2.1.2) (by omega)) (fun z18 h9 hq19 => ?_)
          obtain ⟨rfl, x20, rfl, px20⟩ := hq19
          show f_wp _ (48, [some (.inr (.inr (some 0))), some (.inl i), some (.inl j), some (.inl k), some (.inl p9), some (.inr (.inr (some 9))), none, none, none, none], [.inl x20], cH a12 b v13) _
          refine w_if_ne rfl (fun c21 => ?_) (fun c21 => ?_)
          · skip
            refine w_const rfl ?_
            exact wp_iret (z := false) rfl (fun h9 => by cases h9) ⟨a12, v13, rfl, ha12, ⟨FR.tr (FR.rf) (FR.sub fa12.1 (by first | exact (fun _ h9 => h9) | decide | (intro c9 h9; simp only [List.mem_cons, List.not_mem_nil, or_false] at h9 ⊢; omega) | (intro c9 h9; simp only [List.mem_cons, List.not_mem_nil, or_false] at h9; exact cA_mem (by omega)) | (intro c9 h9; simp only [List.mem_cons, List.not_mem_nil, or_false] at h9; exact cB_mem (by omega)) | (intro c9 h9; simp only [List.mem_cons, List.not_mem_nil, or_false] at h9; exact cU_mem (by omega)) | (intro c9 h9; simp only [List.mem_cons, List.not_mem_nil, or_false] at h9; exact cM_mem (by omega)) | exact cA_sub)), ⟨fun i9 h9 => (fa12.2.1.1 i9 (fun z9 => h9 (by first | exact z9 | (revert z9; simp; done) | (revert z9; simp; omega)))).trans ((show ∀ i9, i9 ∉ [5] → v i9 = v i9 from (fun _ _ => rfl)) i9 h9), Or.inr fa12.2.1.2⟩, trivial⟩, ⟨_, rfl, trivial⟩⟩
          · skip
            refine w_aload rfl rfl ?_
            refine w_iload rfl rfl ?_
            refine w_aload rfl rfl ?_
            refine w_invV (rest := [.inl i, .inr (.inr (some 0))]) rfl rfl rfl rfl rfl (Nat.le_of_ble_eq_true rfl) rfl (by omega) (s_X12_season (K := K) a12 b v13   ha12  ) (fun z22 h9 hq23 => ?_)
            obtain ⟨rfl, x24, rfl, px24⟩ := hq23
            show f_wp _ (59, [some (.inr (.inr (some 0))), some (.inl i), some (.inl j), some (.inl k), some (.inl p9), some (.inr (.inr (some 9))), none, none, none, none], [.inl x24, .inl i, .inr (.inr (some 0))], cH a12 b v13) _
            refine w_invV (rest := []) rfl rfl rfl rfl rfl (Nat.le_of_ble_eq_true rfl) rfl (by omega) (s_X12_mouthFlow (K := K) a12 b v13 L i x24 ha12  (((fa12.2.1.1 0 (by decide)).trans h0)) (by omega) (by omega)) (fun z25 h9 hq26 => ?_)
            obtain ⟨a27, v28, rfl, ha27, fa27, x29, rfl, px29⟩ := hq26
            show f_wp _ (62, [some (.inr (.inr (some 0))), some (.inl i), some (.inl j), some (.inl k), some (.inl p9), some (.inr (.inr (some 9))), none, none, none, none], [.inl x29], cH a27 b v28) _
            refine w_const rfl ?_
            first | refine w_idiv (c := 5) rfl rfl (by decide) (by omega) (fun x30 tx30 => ?_) | refine w_iidE rfl (by omega) (fun x30 tx30 => ?_)
            refine w_istore (lo' := [some (.inr (.inr (some 0))), some (.inl i), some (.inl j), some (.inl k), some (.inl p9), some (.inr (.inr (some 9))), some (.inl x30), none, none, none]) rfl rfl ?_
            refine w_const rfl ?_
            refine w_istore (lo' := [some (.inr (.inr (some 0))), some (.inl i), some (.inl j), some (.inl k), some (.inl p9), some (.inr (.inr (some 9))), some (.inl x30), some (.inl 0), none, none]) rfl rfl ?_
            refine w_const rfl ?_
            refine w_istore (lo' := [some (.inr (.inr (some 0))), some (.inl i), some (.inl j), some (.inl k), some (.inl p9), some (.inr (.inr (some 9))), some (.inl x30), some (.inl 0), some (.inl 0), none]) rfl rfl ?_
            have loop72 : ∀ (ms9 : Nat) (n : Int32) (m : Int32) (o9_72 : Option f_V), (10 - m.toInt).toNat = ms9 → (0 ≤ m.toInt ∧ m.toInt ≤ 10) → (0 ≤ n.toInt ∧ n.toInt ≤ 10 * m.toInt) → f_wp (f_code (t_X12_rests (f_ev mtC d))) (72, [some (.inr (.inr (some 0))), some (.inl i), some (.inl j), some (.inl k), some (.inl p9), some (.inr (.inr (some 9))), some (.inl x30), some (.inl n), some (.inl m), o9_72], [], cH a27 b v28) (fun v9 h' => ∃ (a' : Nat → Nat → Int32) (v' : Nat → Option Nat), h' = cH a' b v' ∧ RC K a' ∧ (FR [10, 11] a a' ∧ ((∀ i, i ∉ [5] → v' i = v i) ∧ (v' 5 = v 5 ∨ v' 5 = some L)) ∧ True) ∧ ∃ x : Int32, v9 = some (.inl x) ∧ True) := by
              intro ms9
              induction ms9 using Nat.strongRecOn with
              | _ ms72 ih72 =>
                intro n m o9_72 hm72 hm hn9
                refine w_iload rfl rfl ?_
                refine w_const rfl ?_
                refine w_ic_gt rfl (fun c31 => ?_) (fun c31 => ?_)
                · skip
                  refine w_iload rfl rfl ?_
                  refine w_const rfl ?_
                  refine w_ic_ne rfl (fun c32 => ?_) (fun c32 => ?_)
                  · skip
                    refine w_iload rfl rfl ?_
                    refine w_goto rfl ?_
                    exact wp_iret (z := false) rfl (fun h9 => by cases h9) ⟨a27, v28, rfl, ha27, ⟨FR.tr (FR.tr (FR.rf) (FR.sub fa12.1 (by first | exact (fun _ h9 => h9) | decide | (intro c9 h9; simp only [List.mem_cons, List.not_mem_nil, or_false] at h9 ⊢; omega) | (intro c9 h9; simp only [List.mem_cons, List.not_mem_nil, or_false] at h9; exact cA_mem (by omega)) | (intro c9 h9; simp only [List.mem_cons, List.not_mem_nil, or_false] at h9; exact cB_mem (by omega)) | (intro c9 h9; simp only [List.mem_cons, List.not_mem_nil, or_false] at h9; exact cU_mem (by omega)) | (intro c9 h9; simp only [List.mem_cons, List.not_mem_nil, or_false] at h9; exact cM_mem (by omega)) | exact cA_sub))) (FR.sub fa27.1 (by first | exact (fun _ h9 => h9) | decide | (intro c9 h9; simp only [List.mem_cons, List.not_mem_nil, or_false] at h9 ⊢; omega) | (intro c9 h9; simp only [List.mem_cons, List.not_mem_nil, or_false] at h9; exact cA_mem (by omega)) | (intro c9 h9; simp only [List.mem_cons, List.not_mem_nil, or_false] at h9; exact cB_mem (by omega)) | (intro c9 h9; simp only [List.mem_cons, List.not_mem_nil, or_false] at h9; exact cU_mem (by omega)) | (intro c9 h9; simp only [List.mem_cons, List.not_mem_nil, or_false] at h9; exact cM_mem (by omega)) | exact cA_sub)), ⟨fun i9 h9 => (fa27.2.1.1 i9 (fun z9 => h9 (by first | exact z9 | (revert z9; simp; done) | (revert z9; simp; omega)))).trans ((show ∀ i9, i9 ∉ [5] → v13 i9 = v i9 from fun i9 h9 => (fa12.2.1.1 i9 (fun z9 => h9 (by first | exact z9 | (revert z9; simp; done) | (revert z9; simp; omega)))).trans ((show ∀ i9, i9 ∉ [5] → v i9 = v i9 from (fun _ _ => rfl)) i9 h9)) i9 h9), Or.inr fa27.2.1.2⟩, trivial⟩, ⟨_, rfl, trivial⟩⟩
                  · skip
                    refine w_const rfl ?_
                    exact wp_iret (z := false) rfl (fun h9 => by cases h9) ⟨a27, v28, rfl, ha27, ⟨FR.tr (FR.tr (FR.rf) (FR.sub fa12.1 (by first | exact (fun _ h9 => h9) | decide | (intro c9 h9; simp only [List.mem_cons, List.not_mem_nil, or_false] at h9 ⊢; omega) | (intro c9 h9; simp only [List.mem_cons, List.not_mem_nil, or_false] at h9; exact cA_mem (by omega)) | (intro c9 h9; simp only [List.mem_cons, List.not_mem_nil, or_false] at h9; exact cB_mem (by omega)) | (intro c9 h9; simp only [List.mem_cons, List.not_mem_nil, or_false] at h9; exact cU_mem (by omega)) | (intro c9 h9; simp only [List.mem_cons, List.not_mem_nil, or_false] at h9; exact cM_mem (by omega)) | exact cA_sub))) (FR.sub fa27.1 (by first | exact (fun _ h9 => h9) | decide | (intro c9 h9; simp only [List.mem_cons, List.not_mem_nil, or_false] at h9 ⊢; omega) | (intro c9 h9; simp only [List.mem_cons, List.not_mem_nil, or_false] at h9; exact cA_mem (by omega)) | (intro c9 h9; simp only [List.mem_cons, List.not_mem_nil, or_false] at h9; exact cB_mem (by omega)) | (intro c9 h9; simp only [List.mem_cons, List.not_mem_nil, or_false] at h9; exact cU_mem (by omega)) | (intro c9 h9; simp only [List.mem_cons, List.not_mem_nil, or_false] at h9; exact cM_mem (by omega)) | exact cA_sub)), ⟨fun i9 h9 => (fa27.2.1.1 i9 (fun z9 => h9 (by first | exact z9 | (revert z9; simp; done) | (revert z9; simp; omega)))).trans ((show ∀ i9, i9 ∉ [5] → v13 i9 = v i9 from fun i9 h9 => (fa12.2.1.1 i9 (fun z9 => h9 (by first | exact z9 | (revert z9; simp; done) | (revert z9; simp; omega)))).trans ((show ∀ i9, i9 ∉ [5] → v i9 = v i9 from (fun _ _ => rfl)) i9 h9)) i9 h9), Or.inr fa27.2.1.2⟩, trivial⟩, ⟨_, rfl, trivial⟩⟩
                · skip
                  refine w_const rfl ?_
                  refine w_istore (lo' := [some (.inr (.inr (some 0))), some (.inl i), some (.inl j), some (.inl k), some (.inl p9), some (.inr (.inr (some 9))), some (.inl x30), some (.inl n), some (.inl m), some (.inl 0)]) rfl rfl ?_
                  have loop82 : ∀ (ms9 : Nat) (n : Int32) (q : Int32) , (10 - q.toInt).toNat = ms9 → (0 ≤ q.toInt ∧ q.toInt ≤ 10) → (0 ≤ n.toInt ∧ n.toInt ≤ 10 * m.toInt + q.toInt) → f_wp (f_code (t_X12_rests (f_ev mtC d))) (82, [some (.inr (.inr (some 0))), some (.inl i), some (.inl j), some (.inl k), some (.inl p9), some (.inr (.inr (some 9))), some (.inl x30), some (.inl n), some (.inl m), some (.inl q)], [], cH a27 b v28) (fun v9 h' => ∃ (a' : Nat → Nat → Int32) (v' : Nat → Option Nat), h' = cH a' b v' ∧ RC K a' ∧ (FR [10, 11] a a' ∧ ((∀ i, i ∉ [5] → v' i = v i) ∧ (v' 5 = v 5 ∨ v' 5 = some L)) ∧ True) ∧ ∃ x : Int32, v9 = some (.inl x) ∧ True) := by
                    intro ms9
                    induction ms9 using Nat.strongRecOn with
                    | _ ms82 ih82 =>
                      intro n q  hm82 hq hn8
                      refine w_iload rfl rfl ?_
                      refine w_const rfl ?_
                      refine w_ic_gt rfl (fun c33 => ?_) (fun c33 => ?_)
                      · skip
                        refine w_iinc (lo' := fun z9 => [some (.inr (.inr (some 0))), some (.inl i), some (.inl j), some (.inl k), some (.inl p9), some (.inr (.inr (some 9))), some (.inl x30), some (.inl n), some (.inl z9), some (.inl q)]) rfl rfl (fun _ => rfl) (by omega) (fun x34 tx34 => ?_)
                        refine w_goto rfl ?_
                        exact ih72 (10 - x34.toInt).toNat (by omega) n x34 (some (.inl q)) rfl  (by omega) (by omega)
                      · skip
                        refine w_iload rfl rfl ?_
                        refine w_iload rfl rfl ?_
                        refine w_iload rfl rfl ?_
                        refine w_invS (rest := []) rfl (Nat.le_of_ble_eq_true rfl) rfl (Nat.le_of_ble_eq_true rfl) rfl (by omega) (s_X12_areAtRest (K := K) a27 b v28  m q x30   ) (fun z35 h9 hq36 => ?_)
                        obtain ⟨rfl, x37, rfl, px37⟩ := hq36
                        show f_wp _ (98, [some (.inr (.inr (some 0))), some (.inl i), some (.inl j), some (.inl k), some (.inl p9), some (.inr (.inr (some 9))), some (.inl x30), some (.inl n), some (.inl m), some (.inl q)], [.inl x37], cH a27 b v28) _
                        refine w_if_eq rfl (fun c38 => ?_) (fun c38 => ?_)
                        · skip
                          refine w_iinc (lo' := fun z9 => [some (.inr (.inr (some 0))), some (.inl i), some (.inl j), some (.inl k), some (.inl p9), some (.inr (.inr (some 9))), some (.inl x30), some (.inl n), some (.inl m), some (.inl z9)]) rfl rfl (fun _ => rfl) (by omega) (fun x39 tx39 => ?_)
                          refine w_goto rfl ?_
                          exact ih82 (10 - x39.toInt).toNat (by omega) n x39 rfl  (by omega) (by omega)
                        · skip
                          refine w_iload rfl rfl ?_
                          refine w_iload rfl rfl ?_
                          refine w_ic_ne rfl (fun c40 => ?_) (fun c40 => ?_)
                          · skip
                            refine w_const rfl ?_
                            refine w_iload rfl rfl ?_
                            first | refine w_imul rfl (c := 10) rfl (by omega) (fun x41 tx41 => ?_) | refine w_iiU rfl (fun x41 tx41 => ?_)
                            refine w_iload rfl rfl ?_
                            first | refine w_iadd rfl (by omega) (fun x42 tx42 => ?_) | refine w_iiU rfl (fun x42 tx42 => ?_)
                            exact wp_iret (z := false) rfl (fun h9 => by cases h9) ⟨a27, v28, rfl, ha27, ⟨FR.tr (FR.tr (FR.rf) (FR.sub fa12.1 (by first | exact (fun _ h9 => h9) | decide | (intro c9 h9; simp only [List.mem_cons, List.not_mem_nil, or_false] at h9 ⊢; omega) | (intro c9 h9; simp only [List.mem_cons, List.not_mem_nil, or_false] at h9; exact cA_mem (by omega)) | (intro c9 h9; simp only [List.mem_cons, List.not_mem_nil, or_false] at h9; exact cB_mem (by omega)) | (intro c9 h9; simp only [List.mem_cons, List.not_mem_nil, or_false] at h9; exact cU_mem (by omega)) | (intro c9 h9; simp only [List.mem_cons, List.not_mem_nil, or_false] at h9; exact cM_mem (by omega)) | exact cA_sub))) (FR.sub fa27.1 (by first | exact (fun _ h9 => h9) | decide | (intro c9 h9; simp only [List.mem_cons, List.not_mem_nil, or_false] at h9 ⊢; omega) | (intro c9 h9; simp only [List.mem_cons, List.not_mem_nil, or_false] at h9; exact cA_mem (by omega)) | (intro c9 h9; simp only [List.mem_cons, List.not_mem_nil, or_false] at h9; exact cB_mem (by omega)) | (intro c9 h9; simp only [List.mem_cons, List.not_mem_nil, or_false] at h9; exact cU_mem (by omega)) | (intro c9 h9; simp only [List.mem_cons, List.not_mem_nil, or_false] at h9; exact cM_mem (by omega)) | exact cA_sub)), ⟨fun i9 h9 => (fa27.2.1.1 i9 (fun z9 => h9 (by first | exact z9 | (revert z9; simp; done) | (revert z9; simp; omega)))).trans ((show ∀ i9, i9 ∉ [5] → v13 i9 = v i9 from fun i9 h9 => (fa12.2.1.1 i9 (fun z9 => h9 (by first | exact z9 | (revert z9; simp; done) | (revert z9; simp; omega)))).trans ((show ∀ i9, i9 ∉ [5] → v i9 = v i9 from (fun _ _ => rfl)) i9 h9)) i9 h9), Or.inr fa27.2.1.2⟩, trivial⟩, ⟨_, rfl, trivial⟩⟩
                          · skip
                            refine w_iinc (lo' := fun z9 => [some (.inr (.inr (some 0))), some (.inl i), some (.inl j), some (.inl k), some (.inl p9), some (.inr (.inr (some 9))), some (.inl x30), some (.inl z9), some (.inl m), some (.inl q)]) rfl rfl (fun _ => rfl) (by omega) (fun x43 tx43 => ?_)
                            refine w_iinc (lo' := fun z9 => [some (.inr (.inr (some 0))), some (.inl i), some (.inl j), some (.inl k), some (.inl p9), some (.inr (.inr (some 9))), some (.inl x30), some (.inl x43), some (.inl m), some (.inl z9)]) rfl rfl (fun _ => rfl) (by omega) (fun x44 tx44 => ?_)
                            refine w_goto rfl ?_
                            exact ih82 (10 - x44.toInt).toNat (by omega) x43 x44 rfl  (by omega) (by omega)
                  exact loop82 _ n 0 rfl  (by omega) (by omega)
            exact loop72 _ 0 0 none rfl  (by omega) (by omega)
      · skip
        refine w_const rfl ?_
        exact wp_iret (z := false) rfl (fun h9 => by cases h9) ⟨a, v, rfl, hR, ⟨FR.rf, ⟨(fun _ _ => rfl), Or.inl rfl⟩, trivial⟩, ⟨_, rfl, trivial⟩⟩
set_option maxRecDepth 4000 in
theorem s_X12_dams {K : Nat} (a : Nat → Nat → Int32) (b : Nat → Nat → Int64) (v : Nat → Option Nat) (L : Nat) (i : Int32) (j : Int32) (k : Int32) (hR : RC K a) (h0 : v 0 = some L) (hL : L = 22 ∨ L = 46) : f_call mtC 3 153 [.inr (.inr (some 0)), .inl i, .inl j, .inl k] (cH a b v) (fun v9 h' => h' = cH a b v ∧ ∃ x : Int32, v9 = some (.inl x) ∧ True) := by
  refine f_call_of (d0 := 2) rfl (Nat.le_of_ble_eq_true rfl) (fun d hd => ?_)
  show f_wp _ (0, [some (.inr (.inr (some 0))), some (.inl i), some (.inl j), some (.inl k), none, none, none], [], cH a b v) _
  have lm1 : (-1 : Int32).toInt = -1 := rfl
  have l0 : (0 : Int32).toInt = 0 := rfl
  have l1 : (1 : Int32).toInt = 1 := rfl
  have l20 : (20 : Int32).toInt = 20 := rfl
  refine w_aload rfl rfl ?_
  refine w_iload rfl rfl ?_
  refine w_iload rfl rfl ?_
  refine w_invV (rest := []) rfl rfl rfl rfl rfl (Nat.le_of_ble_eq_true rfl) rfl (by omega) (s_X12_areTwo (K := K) a b v L i j hR  (h0) (by omega)) (fun z1 h9 hq2 => ?_)
  obtain ⟨rfl, x3, rfl, px3⟩ := hq2
  show f_wp _ (6, [some (.inr (.inr (some 0))), some (.inl i), some (.inl j), some (.inl k), none, none, none], [.inl x3], cH a b v) _
  refine w_if_eq rfl (fun c4 => ?_) (fun c4 => ?_)
  · skip
    refine w_const rfl ?_
    exact wp_iret (z := false) rfl (fun h9 => by cases h9) ⟨rfl, ⟨_, rfl, trivial⟩⟩
  · skip
    refine w_iload rfl rfl ?_
    refine w_if_lt rfl (fun c5 => ?_) (fun c5 => ?_)
    · skip
      refine w_const rfl ?_
      exact wp_iret (z := false) rfl (fun h9 => by cases h9) ⟨rfl, ⟨_, rfl, trivial⟩⟩
    · skip
      refine w_iload rfl rfl ?_
      refine w_const rfl ?_
      refine w_ic_le rfl (fun c6 => ?_) (fun c6 => ?_)
      · skip
        refine w_aload rfl rfl ?_
        refine c_getR (t := some L) rfl rfl rfl rfl h0 ?_
        refine w_const rfl ?_
        refine w_iload rfl rfl ?_
        refine w_iiE rfl (fun x7 tx7 => ?_)
        refine w_aload rfl rfl ?_
        refine w_invV (rest := [.inl x7, .inr (.inr (some L))]) rfl rfl rfl rfl rfl (Nat.le_of_ble_eq_true rfl) rfl (by omega) (s_X12_season (K := K) a b v   hR  ) (fun z8 h9 hq9 => ?_)
        obtain ⟨rfl, x10, rfl, px10⟩ := hq9
        show f_wp _ (31, [some (.inr (.inr (some 0))), some (.inl i), some (.inl j), some (.inl k), none, none, none], [.inl x10, .inl x7, .inr (.inr (some L))], cH a b v) _
        refine w_invV (rest := []) rfl rfl (sh_land (by omega)) rfl rfl (Nat.le_of_ble_eq_true rfl) rfl (by omega) (s_X3_water (K := K) a b v  L x7 x10 hR  (by omega)) (fun z11 h9 hq12 => ?_)
        obtain ⟨rfl, x13, rfl, px13⟩ := hq12
        show f_wp _ (34, [some (.inr (.inr (some 0))), some (.inl i), some (.inl j), some (.inl k), none, none, none], [.inl x13], cH a b v) _
        refine w_const rfl ?_
        refine c_mmin rfl (Nat.le_of_ble_eq_true rfl) (fun x14 tx14 => ?_)
        refine w_istore (lo' := [some (.inr (.inr (some 0))), some (.inl i), some (.inl j), some (.inl k), some (.inl x14), none, none]) rfl rfl ?_
        refine w_aload rfl rfl ?_
        refine c_getR (t := some L) rfl rfl rfl rfl h0 ?_
        refine w_const rfl ?_
        refine w_iload rfl rfl ?_
        refine w_iiE rfl (fun x15 tx15 => ?_)
        refine w_aload rfl rfl ?_
        refine w_invV (rest := [.inl x15, .inr (.inr (some L))]) rfl rfl rfl rfl rfl (Nat.le_of_ble_eq_true rfl) rfl (by omega) (s_X12_season (K := K) a b v   hR  ) (fun z16 h9 hq17 => ?_)
        obtain ⟨rfl, x18, rfl, px18⟩ := hq17
        show f_wp _ (52, [some (.inr (.inr (some 0))), some (.inl i), some (.inl j), some (.inl k), some (.inl x14), none, none], [.inl x18, .inl x15, .inr (.inr (some L))], cH a b v) _
        refine w_invV (rest := []) rfl rfl (sh_land (by omega)) rfl rfl (Nat.le_of_ble_eq_true rfl) rfl (by omega) (s_X3_water (K := K) a b v  L x15 x18 hR  (by omega)) (fun z19 h9 hq20 => ?_)
        obtain ⟨rfl, x21, rfl, px21⟩ := hq20
        show f_wp _ (55, [some (.inr (.inr (some 0))), some (.inl i), some (.inl j), some (.inl k), some (.inl x14), none, none], [.inl x21], cH a b v) _
        refine w_const rfl ?_
        refine c_mmin rfl (Nat.le_of_ble_eq_true rfl) (fun x22 tx22 => ?_)
        refine w_istore (lo' := [some (.inr (.inr (some 0))), some (.inl i), some (.inl j), some (.inl k), some (.inl x14), some (.inl x22), none]) rfl rfl ?_
        refine w_iload rfl rfl ?_
        refine w_iload rfl rfl ?_
        refine w_invS (rest := []) rfl (Nat.le_of_ble_eq_true rfl) rfl (Nat.le_of_ble_eq_true rfl) rfl (by omega) (s_X12_winningTake (K := K) a b v  x14 x22   ) (fun z23 h9 hq24 => ?_)
        obtain ⟨rfl, x25, rfl, px25⟩ := hq24
        show f_wp _ (69, [some (.inr (.inr (some 0))), some (.inl i), some (.inl j), some (.inl k), some (.inl x14), some (.inl x22), none], [.inl x25], cH a b v) _
        refine w_istore (lo' := [some (.inr (.inr (some 0))), some (.inl i), some (.inl j), some (.inl k), some (.inl x14), some (.inl x22), some (.inl x25)]) rfl rfl ?_
        refine w_iload rfl rfl ?_
        refine w_const rfl ?_
        refine w_ic_ne rfl (fun c26 => ?_) (fun c26 => ?_)
        · skip
          refine w_iload rfl rfl ?_
          exact wp_iret (z := false) rfl (fun h9 => by cases h9) ⟨rfl, ⟨_, rfl, trivial⟩⟩
        · skip
          refine w_iload rfl rfl ?_
          refine w_const rfl ?_
          refine w_ic_ne rfl (fun c27 => ?_) (fun c27 => ?_)
          · skip
            refine w_const rfl ?_
            refine w_goto rfl ?_
            exact wp_iret (z := false) rfl (fun h9 => by cases h9) ⟨rfl, ⟨_, rfl, trivial⟩⟩
          · skip
            refine w_const rfl ?_
            exact wp_iret (z := false) rfl (fun h9 => by cases h9) ⟨rfl, ⟨_, rfl, trivial⟩⟩
      · skip
        refine w_const rfl ?_
        exact wp_iret (z := false) rfl (fun h9 => by cases h9) ⟨rfl, ⟨_, rfl, trivial⟩⟩
set_option maxRecDepth 4000 in
theorem s_X12_befall {K : Nat} (a : Nat → Nat → Int32) (b : Nat → Nat → Int64) (v : Nat → Option Nat) (L : Nat) (i : Int32) (g : Int64) (hR : RC K a) (h0 : v 0 = some L) (hn : v 5 = some L) (hL : L = 22 ∨ L = 46) : f_call mtC 4 156 [.inr (.inr (some 0)), .inl i, .inr (.inl g)] (cH a b v) (fun v9 h' => ∃ (a' : Nat → Nat → Int32), h' = cH a' b v ∧ RC K a' ∧ (FR [10, 11] a a' ∧ True) ∧ ∃ x : Int64, v9 = some (.inr (.inl x)) ∧ True) := by
  refine f_call_of (d0 := 3) rfl (Nat.le_of_ble_eq_true rfl) (fun d hd => ?_)
  show f_wp _ (0, [some (.inr (.inr (some 0))), some (.inl i), some (.inr (.inl g)), none, none, none, none, none], [], cH a b v) _
  have l1 : (1 : Int32).toInt = 1 := rfl
  have l2 : (2 : Int32).toInt = 2 := rfl
  refine w_lload rfl rfl ?_
  refine w_lstore (lo' := [some (.inr (.inr (some 0))), some (.inl i), some (.inr (.inl g)), none, some (.inr (.inl g)), none, none, none]) rfl rfl ?_
  refine w_iload rfl rfl ?_
  refine w_const rfl ?_
  refine w_ic_ne rfl (fun c1 => ?_) (fun c1 => ?_)
  · skip
    refine w_lload rfl rfl ?_
    refine w_invS (rest := []) rfl (Nat.le_of_ble_eq_true rfl) rfl (Nat.le_of_ble_eq_true rfl) rfl (by omega) (s_X12_stir (K := K) a b v  g   ) (fun z2 h9 hq3 => ?_)
    obtain ⟨rfl, y4, rfl, py4⟩ := hq3
    show f_wp _ (13, [some (.inr (.inr (some 0))), some (.inl i), some (.inr (.inl g)), none, some (.inr (.inl g)), none, none, none], [.inr (.inl y4)], cH a b v) _
    refine w_lstore (lo' := [some (.inr (.inr (some 0))), some (.inl i), some (.inr (.inl g)), none, some (.inr (.inl y4)), none, none, none]) rfl rfl ?_
    refine w_lload rfl rfl ?_
    refine w_aload rfl rfl ?_
    refine c_getR (t := some L) rfl rfl rfl rfl h0 ?_
    refine c_getI rfl (sh_land (by omega)) rfl rfl ?_
    have q5 : 0 ≤ (a L 7).toInt ∧ (a L 7).toInt ≤ 6 := RC.riv hR (by omega)
    refine w_invS (rest := []) rfl (Nat.le_of_ble_eq_true rfl) rfl (Nat.le_of_ble_eq_true rfl) rfl (by omega) (s_X12_drawn (K := K) a b v  y4 (a L 7)   ) (fun z6 h9 hq7 => ?_)
    obtain ⟨rfl, x8, rfl, px8⟩ := hq7
    show f_wp _ (27, [some (.inr (.inr (some 0))), some (.inl i), some (.inr (.inl g)), none, some (.inr (.inl y4)), none, none, none], [.inl x8], cH a b v) _
    refine w_istore (lo' := [some (.inr (.inr (some 0))), some (.inl i), some (.inr (.inl g)), none, some (.inr (.inl y4)), none, some (.inl x8), none]) rfl rfl ?_
    refine w_lload rfl rfl ?_
    refine w_invS (rest := []) rfl (Nat.le_of_ble_eq_true rfl) rfl (Nat.le_of_ble_eq_true rfl) rfl (by omega) (s_X12_stir (K := K) a b v  y4   ) (fun z9 h9 hq10 => ?_)
    obtain ⟨rfl, y11, rfl, py11⟩ := hq10
    show f_wp _ (34, [some (.inr (.inr (some 0))), some (.inl i), some (.inr (.inl g)), none, some (.inr (.inl y4)), none, some (.inl x8), none], [.inr (.inl y11)], cH a b v) _
    refine w_lstore (lo' := [some (.inr (.inr (some 0))), some (.inl i), some (.inr (.inl g)), none, some (.inr (.inl y11)), none, some (.inl x8), none]) rfl rfl ?_
    refine w_lload rfl rfl ?_
    refine w_aload rfl rfl ?_
    refine c_getR (t := some L) rfl rfl rfl rfl h0 ?_
    refine c_getI rfl (sh_land (by omega)) rfl rfl ?_
    have q12 : 0 ≤ (a L 7).toInt ∧ (a L 7).toInt ≤ 6 := RC.riv hR (by omega)
    refine w_invS (rest := []) rfl (Nat.le_of_ble_eq_true rfl) rfl (Nat.le_of_ble_eq_true rfl) rfl (by omega) (s_X12_drawn (K := K) a b v  y11 (a L 7)   ) (fun z13 h9 hq14 => ?_)
    obtain ⟨rfl, x15, rfl, px15⟩ := hq14
    show f_wp _ (48, [some (.inr (.inr (some 0))), some (.inl i), some (.inr (.inl g)), none, some (.inr (.inl y11)), none, some (.inl x8), none], [.inl x15], cH a b v) _
    refine w_istore (lo' := [some (.inr (.inr (some 0))), some (.inl i), some (.inr (.inl g)), none, some (.inr (.inl y11)), none, some (.inl x8), some (.inl x15)]) rfl rfl ?_
    refine w_aload rfl rfl ?_
    refine c_getR (t := some 9) rfl rfl rfl rfl rfl ?_
    refine w_iload rfl rfl ?_
    refine w_iload rfl rfl ?_
    refine w_invV (rest := []) rfl rfl rfl rfl rfl (Nat.le_of_ble_eq_true rfl) rfl (by omega) (s_X5_allows (K := K) a b v L x8 x15 hR  (hn) (by omega)) (fun z16 h9 hq17 => ?_)
    obtain ⟨rfl, x18, rfl, px18⟩ := hq17
    show f_wp _ (61, [some (.inr (.inr (some 0))), some (.inl i), some (.inr (.inl g)), none, some (.inr (.inl y11)), none, some (.inl x8), some (.inl x15)], [.inl x18], cH a b v) _
    refine w_if_eq rfl (fun c19 => ?_) (fun c19 => ?_)
    · skip
      refine w_goto rfl ?_
      refine w_lload rfl rfl ?_
      exact w_lret rfl ⟨a, rfl, hR, ⟨FR.rf, trivial⟩, ⟨_, rfl, trivial⟩⟩
    · skip
      refine w_aload rfl rfl ?_
      refine c_getR (t := some 9) rfl rfl rfl rfl rfl ?_
      refine w_iload rfl rfl ?_
      refine w_iload rfl rfl ?_
      refine w_invV (rest := []) rfl rfl rfl rfl rfl (Nat.le_of_ble_eq_true rfl) rfl (by omega) (s_X5_join (K := K) a b v L x8 x15 hR  (hn) (by omega)) (fun z20 h9 hq21 => ?_)
      obtain ⟨a22, rfl, ha22, fa22, rfl⟩ := hq21
      show f_wp _ (75, [some (.inr (.inr (some 0))), some (.inl i), some (.inr (.inl g)), none, some (.inr (.inl y11)), none, some (.inl x8), some (.inl x15)], [], cH a22 b v) _
      refine w_goto rfl ?_
      refine w_lload rfl rfl ?_
      exact w_lret rfl ⟨a22, rfl, ha22, ⟨FR.tr (FR.rf) (FR.sub fa22.1 (by first | exact (fun _ h9 => h9) | decide | (intro c9 h9; simp only [List.mem_cons, List.not_mem_nil, or_false] at h9 ⊢; omega) | (intro c9 h9; simp only [List.mem_cons, List.not_mem_nil, or_false] at h9; exact cA_mem (by omega)) | (intro c9 h9; simp only [List.mem_cons, List.not_mem_nil, or_false] at h9; exact cB_mem (by omega)) | (intro c9 h9; simp only [List.mem_cons, List.not_mem_nil, or_false] at h9; exact cU_mem (by omega)) | (intro c9 h9; simp only [List.mem_cons, List.not_mem_nil, or_false] at h9; exact cM_mem (by omega)) | exact cA_sub)), trivial⟩, ⟨_, rfl, trivial⟩⟩
  · skip
    refine w_iload rfl rfl ?_
    refine w_const rfl ?_
    refine w_ic_ne rfl (fun c23 => ?_) (fun c23 => ?_)
    · skip
      refine w_lload rfl rfl ?_
      refine w_invS (rest := []) rfl (Nat.le_of_ble_eq_true rfl) rfl (Nat.le_of_ble_eq_true rfl) rfl (by omega) (s_X12_stir (K := K) a b v  g   ) (fun z24 h9 hq25 => ?_)
      obtain ⟨rfl, y26, rfl, py26⟩ := hq25
      show f_wp _ (88, [some (.inr (.inr (some 0))), some (.inl i), some (.inr (.inl g)), none, some (.inr (.inl g)), none, none, none], [.inr (.inl y26)], cH a b v) _
      refine w_lstore (lo' := [some (.inr (.inr (some 0))), some (.inl i), some (.inr (.inl g)), none, some (.inr (.inl y26)), none, none, none]) rfl rfl ?_
      refine w_aload rfl rfl ?_
      refine c_getR (t := some 9) rfl rfl rfl rfl rfl ?_
      refine w_lload rfl rfl ?_
      refine w_aload rfl rfl ?_
      refine c_getR (t := some L) rfl rfl rfl rfl h0 ?_
      refine c_getI rfl (sh_land (by omega)) rfl rfl ?_
      have q27 : 0 ≤ (a L 7).toInt ∧ (a L 7).toInt ≤ 6 := RC.riv hR (by omega)
      refine w_invS (rest := [.inr (.inr (some 9))]) rfl (Nat.le_of_ble_eq_true rfl) rfl (Nat.le_of_ble_eq_true rfl) rfl (by omega) (s_X12_drawn (K := K) a b v  y26 (a L 7)   ) (fun z28 h9 hq29 => ?_)
      obtain ⟨rfl, x30, rfl, px30⟩ := hq29
      show f_wp _ (106, [some (.inr (.inr (some 0))), some (.inl i), some (.inr (.inl g)), none, some (.inr (.inl y26)), none, none, none], [.inl x30, .inr (.inr (some 9))], cH a b v) _
      refine w_invV (rest := []) rfl rfl rfl rfl rfl (Nat.le_of_ble_eq_true rfl) rfl (by omega) (s_X5_release (K := K) a b v L x30 hR  (hn) (by omega)) (fun z31 h9 hq32 => ?_)
      obtain ⟨a33, rfl, ha33, fa33, x34, rfl, px34⟩ := hq32
      show f_wp _ (109, [some (.inr (.inr (some 0))), some (.inl i), some (.inr (.inl g)), none, some (.inr (.inl y26)), none, none, none], [.inl x34], cH a33 b v) _
      refine w_pop rfl rfl ?_
      refine w_lload rfl rfl ?_
      exact w_lret rfl ⟨a33, rfl, ha33, ⟨FR.tr (FR.rf) (FR.sub fa33.1 (by first | exact (fun _ h9 => h9) | decide | (intro c9 h9; simp only [List.mem_cons, List.not_mem_nil, or_false] at h9 ⊢; omega) | (intro c9 h9; simp only [List.mem_cons, List.not_mem_nil, or_false] at h9; exact cA_mem (by omega)) | (intro c9 h9; simp only [List.mem_cons, List.not_mem_nil, or_false] at h9; exact cB_mem (by omega)) | (intro c9 h9; simp only [List.mem_cons, List.not_mem_nil, or_false] at h9; exact cU_mem (by omega)) | (intro c9 h9; simp only [List.mem_cons, List.not_mem_nil, or_false] at h9; exact cM_mem (by omega)) | exact cA_sub)), trivial⟩, ⟨_, rfl, trivial⟩⟩
    · skip
      refine w_lload rfl rfl ?_
      exact w_lret rfl ⟨a, rfl, hR, ⟨FR.rf, trivial⟩, ⟨_, rfl, trivial⟩⟩
set_option maxRecDepth 4000 in
theorem s_X12_centuries {K : Nat} (a : Nat → Nat → Int32) (b : Nat → Nat → Int64) (v : Nat → Option Nat) (L : Nat) (i : Int32) (j : Int32) (k : Int32) (hR : RC K a) (h0 : v 0 = some L) (hL : L = 22 ∨ L = 46) : f_call mtC 5 155 [.inr (.inr (some 0)), .inl i, .inl j, .inl k] (cH a b v) (fun v9 h' => ∃ (a' : Nat → Nat → Int32) (v' : Nat → Option Nat), h' = cH a' b v' ∧ RC K a' ∧ (FR [10, 11] a a' ∧ ((∀ i, i ∉ [5] → v' i = v i) ∧ (v' 5 = v 5 ∨ v' 5 = some L)) ∧ True) ∧ ∃ x : Int32, v9 = some (.inl x) ∧ True) := by
  refine f_call_of (d0 := 4) rfl (Nat.le_of_ble_eq_true rfl) (fun d hd => ?_)
  show f_wp _ (0, [some (.inr (.inr (some 0))), some (.inl i), some (.inl j), some (.inl k), none, none, none, none, none, none, none], [], cH a b v) _
  have lm1 : (-1 : Int32).toInt = -1 := rfl
  have l0 : (0 : Int32).toInt = 0 := rfl
  have l1 : (1 : Int32).toInt = 1 := rfl
  have l2 : (2 : Int32).toInt = 2 := rfl
  have l4 : (4 : Int32).toInt = 4 := rfl
  have l10 : (10 : Int32).toInt = 10 := rfl
  have l100 : (100 : Int32).toInt = 100 := rfl
  have l9999 : (9999 : Int32).toInt = 9999 := rfl
  refine w_iload rfl rfl ?_
  refine w_if_lt rfl (fun c1 => ?_) (fun c1 => ?_)
  · skip
    refine w_const rfl ?_
    exact wp_iret (z := false) rfl (fun h9 => by cases h9) ⟨a, v, rfl, hR, ⟨FR.rf, ⟨(fun _ _ => rfl), Or.inl rfl⟩, trivial⟩, ⟨_, rfl, trivial⟩⟩
  · skip
    refine w_iload rfl rfl ?_
    refine w_const rfl ?_
    refine w_ic_gt rfl (fun c2 => ?_) (fun c2 => ?_)
    · skip
      refine w_const rfl ?_
      exact wp_iret (z := false) rfl (fun h9 => by cases h9) ⟨a, v, rfl, hR, ⟨FR.rf, ⟨(fun _ _ => rfl), Or.inl rfl⟩, trivial⟩, ⟨_, rfl, trivial⟩⟩
    · skip
      refine w_iload rfl rfl ?_
      refine w_const rfl ?_
      refine w_ic_lt rfl (fun c3 => ?_) (fun c3 => ?_)
      · skip
        refine w_const rfl ?_
        exact wp_iret (z := false) rfl (fun h9 => by cases h9) ⟨a, v, rfl, hR, ⟨FR.rf, ⟨(fun _ _ => rfl), Or.inl rfl⟩, trivial⟩, ⟨_, rfl, trivial⟩⟩
      · skip
        refine w_iload rfl rfl ?_
        refine w_const rfl ?_
        refine w_ic_le rfl (fun c4 => ?_) (fun c4 => ?_)
        · skip
          refine w_iload rfl rfl ?_
          refine w_if_lt rfl (fun c5 => ?_) (fun c5 => ?_)
          · skip
            refine w_const rfl ?_
            exact wp_iret (z := false) rfl (fun h9 => by cases h9) ⟨a, v, rfl, hR, ⟨FR.rf, ⟨(fun _ _ => rfl), Or.inl rfl⟩, trivial⟩, ⟨_, rfl, trivial⟩⟩
          · skip
            refine w_iload rfl rfl ?_
            refine w_const rfl ?_
            refine w_ic_gt rfl (fun c6 => ?_) (fun c6 => ?_)
            · skip
              refine w_const rfl ?_
              exact wp_iret (z := false) rfl (fun h9 => by cases h9) ⟨a, v, rfl, hR, ⟨FR.rf, ⟨(fun _ _ => rfl), Or.inl rfl⟩, trivial⟩, ⟨_, rfl, trivial⟩⟩
            · skip
              refine w_aload rfl rfl ?_
              refine c_getR (t := some L) rfl rfl rfl rfl h0 ?_
              refine c_getI rfl (sh_land (by omega)) rfl rfl ?_
              have q7 : 0 ≤ (a L 7).toInt ∧ (a L 7).toInt ≤ 6 := RC.riv hR (by omega)
              refine w_if_ne rfl (fun c8 => ?_) (fun c8 => ?_)
              · skip
                refine w_const rfl ?_
                exact wp_iret (z := false) rfl (fun h9 => by cases h9) ⟨a, v, rfl, hR, ⟨FR.rf, ⟨(fun _ _ => rfl), Or.inl rfl⟩, trivial⟩, ⟨_, rfl, trivial⟩⟩
              · skip
                refine w_aload rfl rfl ?_
                refine w_invV (rest := []) rfl rfl rfl rfl rfl (Nat.le_of_ble_eq_true rfl) rfl (by omega) (s_X12_netNow (K := K) a b v L  hR  (h0) (by omega)) (fun z9 h9 hq10 => ?_)
                obtain ⟨a11, v12, rfl, ha11, fa11, rfl⟩ := hq10
                show f_wp _ (49, [some (.inr (.inr (some 0))), some (.inl i), some (.inl j), some (.inl k), none, none, none, none, none, none, none], [.inr (.inr (some 9))], cH a11 b v12) _
                refine w_pop rfl rfl ?_
                refine w_iload rfl rfl ?_
                refine w_i2lE rfl (fun y13 ty13 => ?_)
                refine w_lstore (lo' := [some (.inr (.inr (some 0))), some (.inl i), some (.inl j), some (.inl k), some (.inr (.inl y13)), none, none, none, none, none, none]) rfl rfl ?_
                refine w_const rfl ?_
                refine w_istore (lo' := [some (.inr (.inr (some 0))), some (.inl i), some (.inl j), some (.inl k), some (.inr (.inl y13)), none, some (.inl 0), none, none, none, none]) rfl rfl ?_
                refine w_const rfl ?_
                refine w_istore (lo' := [some (.inr (.inr (some 0))), some (.inl i), some (.inl j), some (.inl k), some (.inr (.inl y13)), none, some (.inl 0), some (.inl 0), none, none, none]) rfl rfl ?_
                refine w_const rfl ?_
                refine w_istore (lo' := [some (.inr (.inr (some 0))), some (.inl i), some (.inl j), some (.inl k), some (.inr (.inl y13)), none, some (.inl 0), some (.inl 0), some (.inl 0), none, none]) rfl rfl ?_
                have loop63 : ∀ (ms9 : Nat) (g : Int64) (dr : Int32) (fd : Int32) (m : Int32) (a63 : Nat → Nat → Int32) (o9_63 : Option f_V) (o10_63 : Option f_V), (j.toInt - m.toInt).toNat = ms9 → RC K a63 → FR [10, 11] a a63 → (0 ≤ m.toInt ∧ m.toInt ≤ j.toInt ∧ j.toInt ≤ 100) → f_wp (f_code (t_X12_centuries (f_ev mtC d))) (63, [some (.inr (.inr (some 0))), some (.inl i), some (.inl j), some (.inl k), some (.inr (.inl g)), none, some (.inl dr), some (.inl fd), some (.inl m), o9_63, o10_63], [], cH a63 b v12) (fun v9 h' => ∃ (a' : Nat → Nat → Int32) (v' : Nat → Option Nat), h' = cH a' b v' ∧ RC K a' ∧ (FR [10, 11] a a' ∧ ((∀ i, i ∉ [5] → v' i = v i) ∧ (v' 5 = v 5 ∨ v' 5 = some L)) ∧ True) ∧ ∃ x : Int32, v9 = some (.inl x) ∧ True) := by
                  intro ms9
                  induction ms9 using Nat.strongRecOn with
                  | _ ms63 ih63 =>
                    intro g dr fd m a63 o9_63 o10_63 hm63 hR63 hF63 hm
                    refine w_iload rfl rfl ?_
                    refine w_iload rfl rfl ?_
                    refine w_ic_ge rfl (fun c14 => ?_) (fun c14 => ?_)
                    · skip
                      refine w_iload rfl rfl ?_
                      refine w_const rfl ?_
                      refine w_ic_ne rfl (fun c15 => ?_) (fun c15 => ?_)
                      · skip
                        refine w_aload rfl rfl ?_
                        refine c_getR (t := some 9) rfl rfl rfl rfl rfl ?_
                        refine w_invV (rest := []) rfl rfl rfl rfl rfl (Nat.le_of_ble_eq_true rfl) rfl (by omega) (s_X5_weddings (K := K) a63 b v12 L  hR63  (fa11.2.1.2) (by omega)) (fun z16 h9 hq17 => ?_)
                        obtain ⟨rfl, x18, rfl, px18⟩ := hq17
                        show f_wp _ (172, [some (.inr (.inr (some 0))), some (.inl i), some (.inl j), some (.inl k), some (.inr (.inl g)), none, some (.inl dr), some (.inl fd), some (.inl m), o9_63, o10_63], [.inl x18], cH a63 b v12) _
                        exact wp_iret (z := false) rfl (fun h9 => by cases h9) ⟨a63, v12, rfl, hR63, ⟨hF63, ⟨fun i9 h9 => (fa11.2.1.1 i9 (fun z9 => h9 (by first | exact z9 | (revert z9; simp; done) | (revert z9; simp; omega)))).trans ((show ∀ i9, i9 ∉ [5] → v i9 = v i9 from (fun _ _ => rfl)) i9 h9), Or.inr fa11.2.1.2⟩, trivial⟩, ⟨_, rfl, trivial⟩⟩
                      · skip
                        refine w_iload rfl rfl ?_
                        refine w_if_ne rfl (fun c19 => ?_) (fun c19 => ?_)
                        · skip
                          refine w_iload rfl rfl ?_
                          refine w_goto rfl ?_
                          exact wp_iret (z := false) rfl (fun h9 => by cases h9) ⟨a63, v12, rfl, hR63, ⟨hF63, ⟨fun i9 h9 => (fa11.2.1.1 i9 (fun z9 => h9 (by first | exact z9 | (revert z9; simp; done) | (revert z9; simp; omega)))).trans ((show ∀ i9, i9 ∉ [5] → v i9 = v i9 from (fun _ _ => rfl)) i9 h9), Or.inr fa11.2.1.2⟩, trivial⟩, ⟨_, rfl, trivial⟩⟩
                        · skip
                          refine w_iload rfl rfl ?_
                          exact wp_iret (z := false) rfl (fun h9 => by cases h9) ⟨a63, v12, rfl, hR63, ⟨hF63, ⟨fun i9 h9 => (fa11.2.1.1 i9 (fun z9 => h9 (by first | exact z9 | (revert z9; simp; done) | (revert z9; simp; omega)))).trans ((show ∀ i9, i9 ∉ [5] → v i9 = v i9 from (fun _ _ => rfl)) i9 h9), Or.inr fa11.2.1.2⟩, trivial⟩, ⟨_, rfl, trivial⟩⟩
                    · skip
                      refine w_lload rfl rfl ?_
                      refine w_invS (rest := []) rfl (Nat.le_of_ble_eq_true rfl) rfl (Nat.le_of_ble_eq_true rfl) rfl (by omega) (s_X12_stir (K := K) a63 b v12  g   ) (fun z20 h9 hq21 => ?_)
                      obtain ⟨rfl, y22, rfl, py22⟩ := hq21
                      show f_wp _ (74, [some (.inr (.inr (some 0))), some (.inl i), some (.inl j), some (.inl k), some (.inr (.inl g)), none, some (.inl dr), some (.inl fd), some (.inl m), o9_63, o10_63], [.inr (.inl y22)], cH a63 b v12) _
                      refine w_lstore (lo' := [some (.inr (.inr (some 0))), some (.inl i), some (.inl j), some (.inl k), some (.inr (.inl y22)), none, some (.inl dr), some (.inl fd), some (.inl m), o9_63, o10_63]) rfl rfl ?_
                      refine w_lload rfl rfl ?_
                      refine w_const rfl ?_
                      refine w_invS (rest := []) rfl (Nat.le_of_ble_eq_true rfl) rfl (Nat.le_of_ble_eq_true rfl) rfl (by omega) (s_X12_drawn (K := K) a63 b v12  y22 10   ) (fun z23 h9 hq24 => ?_)
                      obtain ⟨rfl, x25, rfl, px25⟩ := hq24
                      show f_wp _ (83, [some (.inr (.inr (some 0))), some (.inl i), some (.inl j), some (.inl k), some (.inr (.inl y22)), none, some (.inl dr), some (.inl fd), some (.inl m), o9_63, o10_63], [.inl x25], cH a63 b v12) _
                      refine w_istore (lo' := [some (.inr (.inr (some 0))), some (.inl i), some (.inl j), some (.inl k), some (.inr (.inl y22)), none, some (.inl dr), some (.inl fd), some (.inl m), some (.inl x25), o10_63]) rfl rfl ?_
                      refine w_aload rfl rfl ?_
                      refine w_iload rfl rfl ?_
                      refine w_lload rfl rfl ?_
                      refine w_invV (rest := []) rfl rfl rfl rfl rfl (Nat.le_of_ble_eq_true rfl) rfl (by omega) (s_X12_befall (K := K) a63 b v12 L x25 y22 hR63  (((fa11.2.1.1 0 (by decide)).trans h0)) (fa11.2.1.2) (by omega)) (fun z26 h9 hq27 => ?_)
                      obtain ⟨a28, rfl, ha28, fa28, y29, rfl, py29⟩ := hq27
                      show f_wp _ (93, [some (.inr (.inr (some 0))), some (.inl i), some (.inl j), some (.inl k), some (.inr (.inl y22)), none, some (.inl dr), some (.inl fd), some (.inl m), some (.inl x25), o10_63], [.inr (.inl y29)], cH a28 b v12) _
                      refine w_lstore (lo' := [some (.inr (.inr (some 0))), some (.inl i), some (.inl j), some (.inl k), some (.inr (.inl y29)), none, some (.inl dr), some (.inl fd), some (.inl m), some (.inl x25), o10_63]) rfl rfl ?_
                      refine w_aload rfl rfl ?_
                      refine c_getR (t := some 70) rfl rfl rfl rfl rfl ?_
                      refine c_getI rfl rfl rfl rfl ?_
                      have q30 : 0 ≤ (a28 70 7).toInt ∧ (a28 70 7).toInt ≤ 100 * K ∧ (a28 70 7).toInt ≤ 1000000 := RC.pas ha28 (by omega)
                      refine w_iload rfl rfl ?_
                      first | refine w_iadd rfl (by omega) (fun x31 tx31 => ?_) | refine w_iiU rfl (fun x31 tx31 => ?_)
                      refine w_const rfl ?_
                      first | refine w_irem (c := 4) rfl rfl (by decide) (by omega) (fun x32 tx32 => ?_) | refine w_iidE rfl (by omega) (fun x32 tx32 => ?_)
                      refine w_iload rfl rfl ?_
                      refine w_if_ne rfl (fun c33 => ?_) (fun c33 => ?_)
                      · skip
                        refine w_const rfl ?_
                        refine w_goto rfl ?_
                        first | refine w_iadd rfl (by omega) (fun x34 tx34 => ?_) | refine w_iiU rfl (fun x34 tx34 => ?_)
                        refine w_istore (lo' := [some (.inr (.inr (some 0))), some (.inl i), some (.inl j), some (.inl k), some (.inr (.inl y29)), none, some (.inl dr), some (.inl fd), some (.inl m), some (.inl x25), some (.inl x34)]) rfl rfl ?_
                        refine w_iload rfl rfl ?_
                        refine w_aload rfl rfl ?_
                        refine c_getR (t := some 9) rfl rfl rfl rfl rfl ?_
                        refine w_iload rfl rfl ?_
                        refine w_invV (rest := [.inl dr]) rfl rfl rfl rfl rfl (Nat.le_of_ble_eq_true rfl) rfl (by omega) (s_X5_dryMills (K := K) a28 b v12 L x34 ha28  (fa11.2.1.2) (by omega)) (fun z35 h9 hq36 => ?_)
                        obtain ⟨rfl, x37, rfl, px37⟩ := hq36
                        show f_wp _ (131, [some (.inr (.inr (some 0))), some (.inl i), some (.inl j), some (.inl k), some (.inr (.inl y29)), none, some (.inl dr), some (.inl fd), some (.inl m), some (.inl x25), some (.inl x34)], [.inl x37, .inl dr], cH a28 b v12) _
                        refine w_invS (rest := [.inl dr]) rfl (Nat.le_of_ble_eq_true rfl) rfl (Nat.le_of_ble_eq_true rfl) rfl (by omega) (s_J6_bitCount_0f7a4 (K := K) a28 b v12  x37   ) (fun z38 h9 hq39 => ?_)
                        obtain ⟨rfl, x40, rfl, px40⟩ := hq39
                        show f_wp _ (134, [some (.inr (.inr (some 0))), some (.inl i), some (.inl j), some (.inl k), some (.inr (.inl y29)), none, some (.inl dr), some (.inl fd), some (.inl m), some (.inl x25), some (.inl x34)], [.inl x40, .inl dr], cH a28 b v12) _
                        first | refine w_iadd rfl (by omega) (fun x41 tx41 => ?_) | refine w_iiU rfl (fun x41 tx41 => ?_)
                        refine w_istore (lo' := [some (.inr (.inr (some 0))), some (.inl i), some (.inl j), some (.inl k), some (.inr (.inl y29)), none, some (.inl x41), some (.inl fd), some (.inl m), some (.inl x25), some (.inl x34)]) rfl rfl ?_
                        refine w_iload rfl rfl ?_
                        refine w_aload rfl rfl ?_
                        refine c_getR (t := some 9) rfl rfl rfl rfl rfl ?_
                        refine w_iload rfl rfl ?_
                        refine w_invV (rest := [.inl fd]) rfl rfl rfl rfl rfl (Nat.le_of_ble_eq_true rfl) rfl (by omega) (s_X5_floodedTowns (K := K) a28 b v12 L x34 ha28  (fa11.2.1.2) (by omega)) (fun z42 h9 hq43 => ?_)
                        obtain ⟨rfl, x44, rfl, px44⟩ := hq43
                        show f_wp _ (148, [some (.inr (.inr (some 0))), some (.inl i), some (.inl j), some (.inl k), some (.inr (.inl y29)), none, some (.inl x41), some (.inl fd), some (.inl m), some (.inl x25), some (.inl x34)], [.inl x44, .inl fd], cH a28 b v12) _
                        refine w_invS (rest := [.inl fd]) rfl (Nat.le_of_ble_eq_true rfl) rfl (Nat.le_of_ble_eq_true rfl) rfl (by omega) (s_J6_bitCount_0f7a4 (K := K) a28 b v12  x44   ) (fun z45 h9 hq46 => ?_)
                        obtain ⟨rfl, x47, rfl, px47⟩ := hq46
                        show f_wp _ (151, [some (.inr (.inr (some 0))), some (.inl i), some (.inl j), some (.inl k), some (.inr (.inl y29)), none, some (.inl x41), some (.inl fd), some (.inl m), some (.inl x25), some (.inl x34)], [.inl x47, .inl fd], cH a28 b v12) _
                        first | refine w_iadd rfl (by omega) (fun x48 tx48 => ?_) | refine w_iiU rfl (fun x48 tx48 => ?_)
                        refine w_istore (lo' := [some (.inr (.inr (some 0))), some (.inl i), some (.inl j), some (.inl k), some (.inr (.inl y29)), none, some (.inl x41), some (.inl x48), some (.inl m), some (.inl x25), some (.inl x34)]) rfl rfl ?_
                        refine w_iinc (lo' := fun z9 => [some (.inr (.inr (some 0))), some (.inl i), some (.inl j), some (.inl k), some (.inr (.inl y29)), none, some (.inl x41), some (.inl x48), some (.inl z9), some (.inl x25), some (.inl x34)]) rfl rfl (fun _ => rfl) (by omega) (fun x49 tx49 => ?_)
                        refine w_goto rfl ?_
                        exact ih63 (j.toInt - x49.toInt).toNat (by omega) y29 x41 x48 x49 a28 (some (.inl x25)) (some (.inl x34)) rfl ha28 (FR.tr (hF63) (FR.sub fa28.1 (by first | exact (fun _ h9 => h9) | decide | (intro c9 h9; simp only [List.mem_cons, List.not_mem_nil, or_false] at h9 ⊢; omega) | (intro c9 h9; simp only [List.mem_cons, List.not_mem_nil, or_false] at h9; exact cA_mem (by omega)) | (intro c9 h9; simp only [List.mem_cons, List.not_mem_nil, or_false] at h9; exact cB_mem (by omega)) | (intro c9 h9; simp only [List.mem_cons, List.not_mem_nil, or_false] at h9; exact cU_mem (by omega)) | (intro c9 h9; simp only [List.mem_cons, List.not_mem_nil, or_false] at h9; exact cM_mem (by omega)) | exact cA_sub))) (by omega)
                      · skip
                        refine w_const rfl ?_
                        first | refine w_iadd rfl (by omega) (fun x50 tx50 => ?_) | refine w_iiU rfl (fun x50 tx50 => ?_)
                        refine w_istore (lo' := [some (.inr (.inr (some 0))), some (.inl i), some (.inl j), some (.inl k), some (.inr (.inl y29)), none, some (.inl dr), some (.inl fd), some (.inl m), some (.inl x25), some (.inl x50)]) rfl rfl ?_
                        refine w_iload rfl rfl ?_
                        refine w_aload rfl rfl ?_
                        refine c_getR (t := some 9) rfl rfl rfl rfl rfl ?_
                        refine w_iload rfl rfl ?_
                        refine w_invV (rest := [.inl dr]) rfl rfl rfl rfl rfl (Nat.le_of_ble_eq_true rfl) rfl (by omega) (s_X5_dryMills (K := K) a28 b v12 L x50 ha28  (fa11.2.1.2) (by omega)) (fun z51 h9 hq52 => ?_)
                        obtain ⟨rfl, x53, rfl, px53⟩ := hq52
                        show f_wp _ (131, [some (.inr (.inr (some 0))), some (.inl i), some (.inl j), some (.inl k), some (.inr (.inl y29)), none, some (.inl dr), some (.inl fd), some (.inl m), some (.inl x25), some (.inl x50)], [.inl x53, .inl dr], cH a28 b v12) _
                        refine w_invS (rest := [.inl dr]) rfl (Nat.le_of_ble_eq_true rfl) rfl (Nat.le_of_ble_eq_true rfl) rfl (by omega) (s_J6_bitCount_0f7a4 (K := K) a28 b v12  x53   ) (fun z54 h9 hq55 => ?_)
                        obtain ⟨rfl, x56, rfl, px56⟩ := hq55
                        show f_wp _ (134, [some (.inr (.inr (some 0))), some (.inl i), some (.inl j), some (.inl k), some (.inr (.inl y29)), none, some (.inl dr), some (.inl fd), some (.inl m), some (.inl x25), some (.inl x50)], [.inl x56, .inl dr], cH a28 b v12) _
                        first | refine w_iadd rfl (by omega) (fun x57 tx57 => ?_) | refine w_iiU rfl (fun x57 tx57 => ?_)
                        refine w_istore (lo' := [some (.inr (.inr (some 0))), some (.inl i), some (.inl j), some (.inl k), some (.inr (.inl y29)), none, some (.inl x57), some (.inl fd), some (.inl m), some (.inl x25), some (.inl x50)]) rfl rfl ?_
                        refine w_iload rfl rfl ?_
                        refine w_aload rfl rfl ?_
                        refine c_getR (t := some 9) rfl rfl rfl rfl rfl ?_
                        refine w_iload rfl rfl ?_
                        refine w_invV (rest := [.inl fd]) rfl rfl rfl rfl rfl (Nat.le_of_ble_eq_true rfl) rfl (by omega) (s_X5_floodedTowns (K := K) a28 b v12 L x50 ha28  (fa11.2.1.2) (by omega)) (fun z58 h9 hq59 => ?_)
                        obtain ⟨rfl, x60, rfl, px60⟩ := hq59
                        show f_wp _ (148, [some (.inr (.inr (some 0))), some (.inl i), some (.inl j), some (.inl k), some (.inr (.inl y29)), none, some (.inl x57), some (.inl fd), some (.inl m), some (.inl x25), some (.inl x50)], [.inl x60, .inl fd], cH a28 b v12) _
                        refine w_invS (rest := [.inl fd]) rfl (Nat.le_of_ble_eq_true rfl) rfl (Nat.le_of_ble_eq_true rfl) rfl (by omega) (s_J6_bitCount_0f7a4 (K := K) a28 b v12  x60   ) (fun z61 h9 hq62 => ?_)
                        obtain ⟨rfl, x63, rfl, px63⟩ := hq62
                        show f_wp _ (151, [some (.inr (.inr (some 0))), some (.inl i), some (.inl j), some (.inl k), some (.inr (.inl y29)), none, some (.inl x57), some (.inl fd), some (.inl m), some (.inl x25), some (.inl x50)], [.inl x63, .inl fd], cH a28 b v12) _
                        first | refine w_iadd rfl (by omega) (fun x64 tx64 => ?_) | refine w_iiU rfl (fun x64 tx64 => ?_)
                        refine w_istore (lo' := [some (.inr (.inr (some 0))), some (.inl i), some (.inl j), some (.inl k), some (.inr (.inl y29)), none, some (.inl x57), some (.inl x64), some (.inl m), some (.inl x25), some (.inl x50)]) rfl rfl ?_
                        refine w_iinc (lo' := fun z9 => [some (.inr (.inr (some 0))), some (.inl i), some (.inl j), some (.inl k), some (.inr (.inl y29)), none, some (.inl x57), some (.inl x64), some (.inl z9), some (.inl x25), some (.inl x50)]) rfl rfl (fun _ => rfl) (by omega) (fun x65 tx65 => ?_)
                        refine w_goto rfl ?_
                        exact ih63 (j.toInt - x65.toInt).toNat (by omega) y29 x57 x64 x65 a28 (some (.inl x25)) (some (.inl x50)) rfl ha28 (FR.tr (hF63) (FR.sub fa28.1 (by first | exact (fun _ h9 => h9) | decide | (intro c9 h9; simp only [List.mem_cons, List.not_mem_nil, or_false] at h9 ⊢; omega) | (intro c9 h9; simp only [List.mem_cons, List.not_mem_nil, or_false] at h9; exact cA_mem (by omega)) | (intro c9 h9; simp only [List.mem_cons, List.not_mem_nil, or_false] at h9; exact cB_mem (by omega)) | (intro c9 h9; simp only [List.mem_cons, List.not_mem_nil, or_false] at h9; exact cU_mem (by omega)) | (intro c9 h9; simp only [List.mem_cons, List.not_mem_nil, or_false] at h9; exact cM_mem (by omega)) | exact cA_sub))) (by omega)
                exact loop63 _ y13 0 0 0 a11 none none rfl ha11 (FR.tr (FR.rf) (FR.sub fa11.1 (by first | exact (fun _ h9 => h9) | decide | (intro c9 h9; simp only [List.mem_cons, List.not_mem_nil, or_false] at h9 ⊢; omega) | (intro c9 h9; simp only [List.mem_cons, List.not_mem_nil, or_false] at h9; exact cA_mem (by omega)) | (intro c9 h9; simp only [List.mem_cons, List.not_mem_nil, or_false] at h9; exact cB_mem (by omega)) | (intro c9 h9; simp only [List.mem_cons, List.not_mem_nil, or_false] at h9; exact cU_mem (by omega)) | (intro c9 h9; simp only [List.mem_cons, List.not_mem_nil, or_false] at h9; exact cM_mem (by omega)) | exact cA_sub))) (by omega)
        · skip
          refine w_const rfl ?_
          exact wp_iret (z := false) rfl (fun h9 => by cases h9) ⟨a, v, rfl, hR, ⟨FR.rf, ⟨(fun _ _ => rfl), Or.inl rfl⟩, trivial⟩, ⟨_, rfl, trivial⟩⟩
set_option maxRecDepth 4000 in
theorem s_X12_count {K : Nat} (a : Nat → Nat → Int32) (b : Nat → Nat → Int64) (v : Nat → Option Nat) (L : Nat) (i : Int32) (hR : RC K a) (h0 : v 0 = some L) (hL : L = 22 ∨ L = 46) : f_call mtC 5 159 [.inr (.inr (some 0)), .inl i] (cH a b v) (fun v9 h' => ∃ (a' : Nat → Nat → Int32) (v' : Nat → Option Nat), h' = cH a' b v' ∧ RC K a' ∧ (FR [10, 11] a a' ∧ ((∀ i, i ∉ [5] → v' i = v i) ∧ (v' 5 = v 5 ∨ v' 5 = some L)) ∧ True) ∧ ∃ x : Int32, v9 = some (.inl x) ∧ True) := by
  refine f_call_of (d0 := 4) rfl (Nat.le_of_ble_eq_true rfl) (fun d hd => ?_)
  show f_wp _ (0, [some (.inr (.inr (some 0))), some (.inl i)], [], cH a b v) _
  have lm1 : (-1 : Int32).toInt = -1 := rfl
  refine w_iload rfl rfl ?_
  refine w_tab rfl (fun c1 => ?_) (fun k9 t9 hk9 c1 => ?_)
  · skip
    have c1d := c1
    simp only [List.length_cons, List.length_nil] at c1d
    refine w_const rfl ?_
    exact wp_iret (z := false) rfl (fun h9 => by cases h9) ⟨a, v, rfl, hR, ⟨FR.rf, ⟨(fun _ _ => rfl), Or.inl rfl⟩, trivial⟩, ⟨_, rfl, trivial⟩⟩
  · skip
    match k9, hk9, c1 with
    | 0, hk9, c1 =>
      cases hk9
      refine w_aload rfl rfl ?_
      refine c_getR (t := some L) rfl rfl rfl rfl h0 ?_
      refine c_getI rfl (sh_land (by omega)) rfl rfl ?_
      have q2 : 0 ≤ (a L 7).toInt ∧ (a L 7).toInt ≤ 6 := RC.riv hR (by omega)
      exact wp_iret (z := false) rfl (fun h9 => by cases h9) ⟨a, v, rfl, hR, ⟨FR.rf, ⟨(fun _ _ => rfl), Or.inl rfl⟩, trivial⟩, ⟨_, rfl, trivial⟩⟩
    | 1, hk9, c1 =>
      cases hk9
      refine w_aload rfl rfl ?_
      refine c_getR (t := some L) rfl rfl rfl rfl h0 ?_
      refine c_getI rfl (sh_land (by omega)) rfl rfl ?_
      have q3 : 0 ≤ (a L 8).toInt ∧ (a L 8).toInt ≤ 4 := RC.ran hR (by omega)
      exact wp_iret (z := false) rfl (fun h9 => by cases h9) ⟨a, v, rfl, hR, ⟨FR.rf, ⟨(fun _ _ => rfl), Or.inl rfl⟩, trivial⟩, ⟨_, rfl, trivial⟩⟩
    | 2, hk9, c1 =>
      cases hk9
      refine w_aload rfl rfl ?_
      refine c_getR (t := some 70) rfl rfl rfl rfl rfl ?_
      refine c_getI rfl rfl rfl rfl ?_
      have q4 : 0 ≤ (a 70 7).toInt ∧ (a 70 7).toInt ≤ 100 * K ∧ (a 70 7).toInt ≤ 1000000 := RC.pas hR (by omega)
      exact wp_iret (z := false) rfl (fun h9 => by cases h9) ⟨a, v, rfl, hR, ⟨FR.rf, ⟨(fun _ _ => rfl), Or.inl rfl⟩, trivial⟩, ⟨_, rfl, trivial⟩⟩
    | 3, hk9, c1 =>
      cases hk9
      refine w_aload rfl rfl ?_
      refine w_invV (rest := []) rfl rfl rfl rfl rfl (Nat.le_of_ble_eq_true rfl) rfl (by omega) (s_X12_netNow (K := K) a b v L  hR  (h0) (by omega)) (fun z5 h9 hq6 => ?_)
      obtain ⟨a7, v8, rfl, ha7, fa7, rfl⟩ := hq6
      show f_wp _ (84, [some (.inr (.inr (some 0))), some (.inl i)], [.inr (.inr (some 9))], cH a7 b v8) _
      refine w_invV (rest := []) rfl rfl rfl rfl rfl (Nat.le_of_ble_eq_true rfl) rfl (by omega) (s_X5_weddings (K := K) a7 b v8 L  ha7  (fa7.2.1.2) (by omega)) (fun z9 h9 hq10 => ?_)
      obtain ⟨rfl, x11, rfl, px11⟩ := hq10
      show f_wp _ (87, [some (.inr (.inr (some 0))), some (.inl i)], [.inl x11], cH a7 b v8) _
      exact wp_iret (z := false) rfl (fun h9 => by cases h9) ⟨a7, v8, rfl, ha7, ⟨FR.tr (FR.rf) (FR.sub fa7.1 (by first | exact (fun _ h9 => h9) | decide | (intro c9 h9; simp only [List.mem_cons, List.not_mem_nil, or_false] at h9 ⊢; omega) | (intro c9 h9; simp only [List.mem_cons, List.not_mem_nil, or_false] at h9; exact cA_mem (by omega)) | (intro c9 h9; simp only [List.mem_cons, List.not_mem_nil, or_false] at h9; exact cB_mem (by omega)) | (intro c9 h9; simp only [List.mem_cons, List.not_mem_nil, or_false] at h9; exact cU_mem (by omega)) | (intro c9 h9; simp only [List.mem_cons, List.not_mem_nil, or_false] at h9; exact cM_mem (by omega)) | exact cA_sub)), ⟨fun i9 h9 => (fa7.2.1.1 i9 (fun z9 => h9 (by first | exact z9 | (revert z9; simp; done) | (revert z9; simp; omega)))).trans ((show ∀ i9, i9 ∉ [5] → v i9 = v i9 from (fun _ _ => rfl)) i9 h9), Or.inr fa7.2.1.2⟩, trivial⟩, ⟨_, rfl, trivial⟩⟩
    | 4, hk9, c1 =>
      cases hk9
      refine w_aload rfl rfl ?_
      refine c_getI rfl rfl rfl rfl ?_
      have q12 : 0 ≤ (a 0 13).toInt ∧ (a 0 13).toInt ≤ 24 := hR 0 13
      exact wp_iret (z := false) rfl (fun h9 => by cases h9) ⟨a, v, rfl, hR, ⟨FR.rf, ⟨(fun _ _ => rfl), Or.inl rfl⟩, trivial⟩, ⟨_, rfl, trivial⟩⟩
    | 5, hk9, c1 =>
      cases hk9
      refine w_aload rfl rfl ?_
      refine c_getR (t := some 70) rfl rfl rfl rfl rfl ?_
      refine c_getI rfl rfl rfl rfl ?_
      have q13 : -1 ≤ (a 70 8).toInt ∧ (a 70 8).toInt ≤ 6 := RC.hei hR (by omega)
      exact wp_iret (z := false) rfl (fun h9 => by cases h9) ⟨a, v, rfl, hR, ⟨FR.rf, ⟨(fun _ _ => rfl), Or.inl rfl⟩, trivial⟩, ⟨_, rfl, trivial⟩⟩
    | 6, hk9, c1 =>
      cases hk9
      refine w_aload rfl rfl ?_
      refine c_getR (t := some 70) rfl rfl rfl rfl rfl ?_
      refine c_getI rfl rfl rfl rfl ?_
      have q14 : 0 ≤ (a 70 9).toInt ∧ (a 70 9).toInt ≤ 10 := RC.tol hR (by omega)
      exact wp_iret (z := false) rfl (fun h9 => by cases h9) ⟨a, v, rfl, hR, ⟨FR.rf, ⟨(fun _ _ => rfl), Or.inl rfl⟩, trivial⟩, ⟨_, rfl, trivial⟩⟩
    | 7, hk9, c1 =>
      cases hk9
      refine w_aload rfl rfl ?_
      refine c_getR (t := some L) rfl rfl rfl rfl h0 ?_
      refine c_getI rfl (sh_land (by omega)) rfl rfl ?_
      exact wp_iret (z := false) rfl (fun h9 => by cases h9) ⟨a, v, rfl, hR, ⟨FR.rf, ⟨(fun _ _ => rfl), Or.inl rfl⟩, trivial⟩, ⟨_, rfl, trivial⟩⟩
    | 8, hk9, c1 =>
      cases hk9
      refine w_aload rfl rfl ?_
      refine c_getI rfl rfl rfl rfl ?_
      have q15 : 0 ≤ (a 0 15).toInt ∧ (a 0 15).toInt ≤ 16 := hR 0 15
      exact wp_iret (z := false) rfl (fun h9 => by cases h9) ⟨a, v, rfl, hR, ⟨FR.rf, ⟨(fun _ _ => rfl), Or.inl rfl⟩, trivial⟩, ⟨_, rfl, trivial⟩⟩
    | 9, hk9, c1 =>
      cases hk9
      refine w_aload rfl rfl ?_
      refine c_getR (t := some 1) rfl rfl rfl rfl rfl ?_
      refine c_getI rfl rfl rfl rfl ?_
      have q16 : 0 ≤ (a 1 6).toInt ∧ (a 1 6).toInt ≤ 1000 := hR 1 6
      exact wp_iret (z := false) rfl (fun h9 => by cases h9) ⟨a, v, rfl, hR, ⟨FR.rf, ⟨(fun _ _ => rfl), Or.inl rfl⟩, trivial⟩, ⟨_, rfl, trivial⟩⟩
    | n9 + 10, hk9, c1 => simp at hk9
set_option maxRecDepth 4000 in
theorem s_X12_keepVow {K : Nat} (a : Nat → Nat → Int32) (b : Nat → Nat → Int64) (v : Nat → Option Nat) (L : Nat) (i : Int32) (hR : RC K a) (hn : v 5 = some L) (hL : L = 22 ∨ L = 46) : f_call mtC 4 129 [.inr (.inr (some 0)), .inl i] (cH a b v) (fun v9 h' => ∃ (a' : Nat → Nat → Int32), h' = cH a' b v ∧ RC K a' ∧ (FR [10, 11] a a' ∧ True) ∧ ∃ x : Int32, v9 = some (.inl x) ∧ (x.toInt = 0 ∨ x.toInt = 1)) := by
  refine f_call_of (d0 := 3) rfl (Nat.le_of_ble_eq_true rfl) (fun d hd => ?_)
  show f_wp _ (0, [some (.inr (.inr (some 0))), some (.inl i), none, none], [], cH a b v) _
  have l0 : (0 : Int32).toInt = 0 := rfl
  have l1 : (1 : Int32).toInt = 1 := rfl
  have l2 : (2 : Int32).toInt = 2 := rfl
  have l5 : (5 : Int32).toInt = 5 := rfl
  have l7 : (7 : Int32).toInt = 7 := rfl
  refine w_iload rfl rfl ?_
  refine w_const rfl ?_
  refine w_iiE rfl (fun x1 tx1 => ?_)
  refine w_const rfl ?_
  refine w_iiE rfl (fun x2 tx2 => ?_)
  refine w_istore (lo' := [some (.inr (.inr (some 0))), some (.inl i), some (.inl x2), none]) rfl rfl ?_
  refine w_iload rfl rfl ?_
  refine w_const rfl ?_
  refine w_iiE rfl (fun x3 tx3 => ?_)
  refine w_const rfl ?_
  refine w_iiE rfl (fun x4 tx4 => ?_)
  refine w_istore (lo' := [some (.inr (.inr (some 0))), some (.inl i), some (.inl x2), some (.inl x4)]) rfl rfl ?_
  refine w_iload rfl rfl ?_
  refine w_invS (rest := []) rfl (Nat.le_of_ble_eq_true rfl) rfl (Nat.le_of_ble_eq_true rfl) rfl (by omega) (s_X12_deed (K := K) a b v  i   ) (fun z5 h9 hq6 => ?_)
  obtain ⟨rfl, x7, rfl, px7⟩ := hq6
  show f_wp _ (18, [some (.inr (.inr (some 0))), some (.inl i), some (.inl x2), some (.inl x4)], [.inl x7], cH a b v) _
  refine w_const rfl ?_
  refine w_ic_ne rfl (fun c8 => ?_) (fun c8 => ?_)
  · skip
    refine w_const rfl ?_
    exact wp_iret (z := true) rfl (fun _ => by first | exact Or.inl rfl | exact Or.inr rfl | (rcases (by omega : (1 : Int32).toInt = 0 ∨ (1 : Int32).toInt = 1) with h8 | h8; exact Or.inl (ti_eq h8); exact Or.inr (ti_eq h8))) ⟨a, rfl, hR, ⟨FR.rf, trivial⟩, ⟨_, rfl, by omega⟩⟩
  · skip
    refine w_iload rfl rfl ?_
    refine w_invS (rest := []) rfl (Nat.le_of_ble_eq_true rfl) rfl (Nat.le_of_ble_eq_true rfl) rfl (by omega) (s_X12_deed (K := K) a b v  i   ) (fun z9 h9 hq10 => ?_)
    obtain ⟨rfl, x11, rfl, px11⟩ := hq10
    show f_wp _ (28, [some (.inr (.inr (some 0))), some (.inl i), some (.inl x2), some (.inl x4)], [.inl x11], cH a b v) _
    refine w_const rfl ?_
    refine w_ic_ne rfl (fun c12 => ?_) (fun c12 => ?_)
    · skip
      refine w_aload rfl rfl ?_
      refine c_getR (t := some 9) rfl rfl rfl rfl rfl ?_
      refine w_iload rfl rfl ?_
      refine w_invV (rest := []) rfl rfl rfl rfl rfl (Nat.le_of_ble_eq_true rfl) rfl (by omega) (s_X5_release (K := K) a b v L x2 hR  (hn) (by omega)) (fun z13 h9 hq14 => ?_)
      obtain ⟨a15, rfl, ha15, fa15, x16, rfl, px16⟩ := hq14
      show f_wp _ (40, [some (.inr (.inr (some 0))), some (.inl i), some (.inl x2), some (.inl x4)], [.inl x16], cH a15 b v) _
      exact wp_iret (z := true) rfl (fun _ => by first | exact Or.inl rfl | exact Or.inr rfl | (rcases (by omega : x16.toInt = 0 ∨ x16.toInt = 1) with h8 | h8; exact Or.inl (ti_eq h8); exact Or.inr (ti_eq h8))) ⟨a15, rfl, ha15, ⟨FR.tr (FR.rf) (FR.sub fa15.1 (by first | exact (fun _ h9 => h9) | decide | (intro c9 h9; simp only [List.mem_cons, List.not_mem_nil, or_false] at h9 ⊢; omega) | (intro c9 h9; simp only [List.mem_cons, List.not_mem_nil, or_false] at h9; exact cA_mem (by omega)) | (intro c9 h9; simp only [List.mem_cons, List.not_mem_nil, or_false] at h9; exact cB_mem (by omega)) | (intro c9 h9; simp only [List.mem_cons, List.not_mem_nil, or_false] at h9; exact cU_mem (by omega)) | (intro c9 h9; simp only [List.mem_cons, List.not_mem_nil, or_false] at h9; exact cM_mem (by omega)) | exact cA_sub)), trivial⟩, ⟨_, rfl, by omega⟩⟩
    · skip
      refine w_aload rfl rfl ?_
      refine c_getR (t := some 9) rfl rfl rfl rfl rfl ?_
      refine w_iload rfl rfl ?_
      refine w_iload rfl rfl ?_
      refine w_invV (rest := []) rfl rfl rfl rfl rfl (Nat.le_of_ble_eq_true rfl) rfl (by omega) (s_X5_allows (K := K) a b v L x2 x4 hR  (hn) (by omega)) (fun z17 h9 hq18 => ?_)
      obtain ⟨rfl, x19, rfl, px19⟩ := hq18
      show f_wp _ (50, [some (.inr (.inr (some 0))), some (.inl i), some (.inl x2), some (.inl x4)], [.inl x19], cH a b v) _
      refine w_if_ne rfl (fun c20 => ?_) (fun c20 => ?_)
      · skip
        refine w_const rfl ?_
        exact wp_iret (z := true) rfl (fun _ => by first | exact Or.inl rfl | exact Or.inr rfl | (rcases (by omega : (0 : Int32).toInt = 0 ∨ (0 : Int32).toInt = 1) with h8 | h8; exact Or.inl (ti_eq h8); exact Or.inr (ti_eq h8))) ⟨a, rfl, hR, ⟨FR.rf, trivial⟩, ⟨_, rfl, by omega⟩⟩
      · skip
        refine w_aload rfl rfl ?_
        refine c_getR (t := some 9) rfl rfl rfl rfl rfl ?_
        refine w_iload rfl rfl ?_
        refine w_iload rfl rfl ?_
        refine w_invV (rest := []) rfl rfl rfl rfl rfl (Nat.le_of_ble_eq_true rfl) rfl (by omega) (s_X5_join (K := K) a b v L x2 x4 hR  (hn) (by omega)) (fun z21 h9 hq22 => ?_)
        obtain ⟨a23, rfl, ha23, fa23, rfl⟩ := hq22
        show f_wp _ (64, [some (.inr (.inr (some 0))), some (.inl i), some (.inl x2), some (.inl x4)], [], cH a23 b v) _
        refine w_const rfl ?_
        exact wp_iret (z := true) rfl (fun _ => by first | exact Or.inl rfl | exact Or.inr rfl | (rcases (by omega : (1 : Int32).toInt = 0 ∨ (1 : Int32).toInt = 1) with h8 | h8; exact Or.inl (ti_eq h8); exact Or.inr (ti_eq h8))) ⟨a23, rfl, ha23, ⟨FR.tr (FR.rf) (FR.sub fa23.1 (by first | exact (fun _ h9 => h9) | decide | (intro c9 h9; simp only [List.mem_cons, List.not_mem_nil, or_false] at h9 ⊢; omega) | (intro c9 h9; simp only [List.mem_cons, List.not_mem_nil, or_false] at h9; exact cA_mem (by omega)) | (intro c9 h9; simp only [List.mem_cons, List.not_mem_nil, or_false] at h9; exact cB_mem (by omega)) | (intro c9 h9; simp only [List.mem_cons, List.not_mem_nil, or_false] at h9; exact cU_mem (by omega)) | (intro c9 h9; simp only [List.mem_cons, List.not_mem_nil, or_false] at h9; exact cM_mem (by omega)) | exact cA_sub)), trivial⟩, ⟨_, rfl, by omega⟩⟩
set_option maxHeartbeats 2000000 in
set_option maxRecDepth 4000 in
theorem s_X12_judged {K : Nat} (a : Nat → Nat → Int32) (b : Nat → Nat → Int64) (v : Nat → Option Nat) (L : Nat) (i : Int32) (hR : RC K a) (h0 : v 0 = some L) (hL : L = 22 ∨ L = 46) : f_call mtC 5 126 [.inr (.inr (some 0)), .inl i] (cH a b v) (fun v9 h' => ∃ (a' : Nat → Nat → Int32) (v' : Nat → Option Nat), h' = cH a' b v' ∧ RC K a' ∧ (FR [10, 11] a a' ∧ ((∀ i, i ∉ [5] → v' i = v i) ∧ (v' 5 = v 5 ∨ v' 5 = some L)) ∧ True) ∧ ∃ x : Int32, v9 = some (.inl x) ∧ True) := by
  refine f_call_of (d0 := 4) rfl (Nat.le_of_ble_eq_true rfl) (fun d hd => ?_)
  show f_wp _ (0, [some (.inr (.inr (some 0))), some (.inl i), none, none, none, none], [], cH a b v) _
  have lm2 : (-2 : Int32).toInt = -2 := rfl
  have lm1 : (-1 : Int32).toInt = -1 := rfl
  have l0 : (0 : Int32).toInt = 0 := rfl
  have l1 : (1 : Int32).toInt = 1 := rfl
  have l2 : (2 : Int32).toInt = 2 := rfl
  have l4 : (4 : Int32).toInt = 4 := rfl
  refine w_iload rfl rfl ?_
  refine w_if_lt rfl (fun c1 => ?_) (fun c1 => ?_)
  · skip
    refine w_const rfl ?_
    exact wp_iret (z := false) rfl (fun h9 => by cases h9) ⟨a, v, rfl, hR, ⟨FR.rf, ⟨(fun _ _ => rfl), Or.inl rfl⟩, trivial⟩, ⟨_, rfl, trivial⟩⟩
  · skip
    refine w_iload rfl rfl ?_
    refine w_const rfl ?_
    refine w_ic_le rfl (fun c2 => ?_) (fun c2 => ?_)
    · skip
      refine w_aload rfl rfl ?_
      refine c_getR (t := some 9) rfl rfl rfl rfl rfl ?_
      refine w_aload rfl rfl ?_
      refine c_getR (t := some L) rfl rfl rfl rfl h0 ?_
      refine w_invV (rest := []) rfl rfl rfl rfl rfl (Nat.le_of_ble_eq_true rfl) rfl (by omega) (s_X5_clear (K := K) a b v  L hR  (by omega)) (fun z3 h9 hq4 => ?_)
      obtain ⟨a5, v6, rfl, ha5, fa5, rfl⟩ := hq4
      show f_wp _ (23, [some (.inr (.inr (some 0))), some (.inl i), none, none, none, none], [], cH a5 b v6) _
      refine w_const rfl ?_
      refine w_istore (lo' := [some (.inr (.inr (some 0))), some (.inl i), some (.inl 0), none, none, none]) rfl rfl ?_
      refine w_const rfl ?_
      refine w_istore (lo' := [some (.inr (.inr (some 0))), some (.inl i), some (.inl 0), some (.inl (-1)), none, none]) rfl rfl ?_
      refine w_const rfl ?_
      refine w_istore (lo' := [some (.inr (.inr (some 0))), some (.inl i), some (.inl 0), some (.inl (-1)), some (.inl (-1)), none]) rfl rfl ?_
      refine w_const rfl ?_
      refine w_istore (lo' := [some (.inr (.inr (some 0))), some (.inl i), some (.inl 0), some (.inl (-1)), some (.inl (-1)), some (.inl 0)]) rfl rfl ?_
      have loop33 : ∀ (ms9 : Nat) (s : Int32) (re : Int32) (ne : Int32) (m : Int32) (a33 : Nat → Nat → Int32) , (24 - m.toInt).toNat = ms9 → RC K a33 → FR [10, 11] a a33 → (0 ≤ m.toInt ∧ m.toInt ≤ 24) → (0 ≤ s.toInt ∧ s.toInt ≤ 3) → f_wp (f_code (t_X12_judged (f_ev mtC d))) (33, [some (.inr (.inr (some 0))), some (.inl i), some (.inl s), some (.inl re), some (.inl ne), some (.inl m)], [], cH a33 b v6) (fun v9 h' => ∃ (a' : Nat → Nat → Int32) (v' : Nat → Option Nat), h' = cH a' b v' ∧ RC K a' ∧ (FR [10, 11] a a' ∧ ((∀ i, i ∉ [5] → v' i = v i) ∧ (v' 5 = v 5 ∨ v' 5 = some L)) ∧ True) ∧ ∃ x : Int32, v9 = some (.inl x) ∧ True) := by
        intro ms9
        induction ms9 using Nat.strongRecOn with
        | _ ms33 ih33 =>
          intro s re ne m a33  hm33 hR33 hF33 hm hs9
          refine w_iload rfl rfl ?_
          refine w_aload rfl rfl ?_
          refine c_getI rfl rfl rfl rfl ?_
          have q7 : 0 ≤ (a33 0 13).toInt ∧ (a33 0 13).toInt ≤ 24 := hR33 0 13
          refine w_ic_ge rfl (fun c8 => ?_) (fun c8 => ?_)
          · skip
            refine w_iload rfl rfl ?_
            refine w_const rfl ?_
            refine w_ic_ne rfl (fun c9 => ?_) (fun c9 => ?_)
            · skip
              refine w_aload rfl rfl ?_
              refine c_getR (t := some 9) rfl rfl rfl rfl rfl ?_
              refine w_invV (rest := []) rfl rfl rfl rfl rfl (Nat.le_of_ble_eq_true rfl) rfl (by omega) (s_X5_weddings (K := K) a33 b v6 L  hR33  (fa5.2.1.2) (by omega)) (fun z10 h9 hq11 => ?_)
              obtain ⟨rfl, x12, rfl, px12⟩ := hq11
              show f_wp _ (130, [some (.inr (.inr (some 0))), some (.inl i), some (.inl s), some (.inl re), some (.inl ne), some (.inl m)], [.inl x12], cH a33 b v6) _
              exact wp_iret (z := false) rfl (fun h9 => by cases h9) ⟨a33, v6, rfl, hR33, ⟨hF33, ⟨fun i9 h9 => (fa5.2.1.1 i9 (fun z9 => h9 (by first | exact z9 | (revert z9; simp; done) | (revert z9; simp; omega)))).trans ((show ∀ i9, i9 ∉ [5] → v i9 = v i9 from (fun _ _ => rfl)) i9 h9), Or.inr fa5.2.1.2⟩, trivial⟩, ⟨_, rfl, trivial⟩⟩
            · skip
              refine w_iload rfl rfl ?_
              refine w_if_ne rfl (fun c13 => ?_) (fun c13 => ?_)
              · skip
                refine w_iload rfl rfl ?_
                refine w_goto rfl ?_
                exact wp_iret (z := false) rfl (fun h9 => by cases h9) ⟨a33, v6, rfl, hR33, ⟨hF33, ⟨fun i9 h9 => (fa5.2.1.1 i9 (fun z9 => h9 (by first | exact z9 | (revert z9; simp; done) | (revert z9; simp; omega)))).trans ((show ∀ i9, i9 ∉ [5] → v i9 = v i9 from (fun _ _ => rfl)) i9 h9), Or.inr fa5.2.1.2⟩, trivial⟩, ⟨_, rfl, trivial⟩⟩
              · skip
                refine w_iload rfl rfl ?_
                exact wp_iret (z := false) rfl (fun h9 => by cases h9) ⟨a33, v6, rfl, hR33, ⟨hF33, ⟨fun i9 h9 => (fa5.2.1.1 i9 (fun z9 => h9 (by first | exact z9 | (revert z9; simp; done) | (revert z9; simp; omega)))).trans ((show ∀ i9, i9 ∉ [5] → v i9 = v i9 from (fun _ _ => rfl)) i9 h9), Or.inr fa5.2.1.2⟩, trivial⟩, ⟨_, rfl, trivial⟩⟩
          · skip
            refine w_aload rfl rfl ?_
            refine w_aload rfl rfl ?_
            refine c_getR (t := some 19) rfl rfl rfl rfl rfl ?_
            refine w_iload rfl rfl ?_
            refine c_iald rfl rfl (by omega) (fun x14 ex14 => ?_)
            refine w_invV (rest := []) rfl rfl rfl rfl rfl (Nat.le_of_ble_eq_true rfl) rfl (by omega) (s_X12_keepVow (K := K) a33 b v6 L x14 hR33  (fa5.2.1.2) (by omega)) (fun z15 h9 hq16 => ?_)
            obtain ⟨a17, rfl, ha17, fa17, x18, rfl, px18⟩ := hq16
            show f_wp _ (53, [some (.inr (.inr (some 0))), some (.inl i), some (.inl s), some (.inl re), some (.inl ne), some (.inl m)], [.inl x18], cH a17 b v6) _
            refine w_if_ne rfl (fun c19 => ?_) (fun c19 => ?_)
            · skip
              refine w_iload rfl rfl ?_
              refine w_const rfl ?_
              refine w_ic_ne rfl (fun c20 => ?_) (fun c20 => ?_)
              · skip
                refine w_iload rfl rfl ?_
                refine w_goto rfl ?_
                refine w_istore (lo' := [some (.inr (.inr (some 0))), some (.inl i), some (.inl s), some (.inl m), some (.inl ne), some (.inl m)]) rfl rfl ?_
                refine w_goto rfl ?_
                refine w_iinc (lo' := fun z9 => [some (.inr (.inr (some 0))), some (.inl i), some (.inl s), some (.inl m), some (.inl ne), some (.inl z9)]) rfl rfl (fun _ => rfl) (by omega) (fun x21 tx21 => ?_)
                refine w_goto rfl ?_
                exact ih33 (24 - x21.toInt).toNat (by omega) s m ne x21 a17 rfl ha17 (FR.tr (hF33) (FR.sub fa17.1 (by first | exact (fun _ h9 => h9) | decide | (intro c9 h9; simp only [List.mem_cons, List.not_mem_nil, or_false] at h9 ⊢; omega) | (intro c9 h9; simp only [List.mem_cons, List.not_mem_nil, or_false] at h9; exact cA_mem (by omega)) | (intro c9 h9; simp only [List.mem_cons, List.not_mem_nil, or_false] at h9; exact cB_mem (by omega)) | (intro c9 h9; simp only [List.mem_cons, List.not_mem_nil, or_false] at h9; exact cU_mem (by omega)) | (intro c9 h9; simp only [List.mem_cons, List.not_mem_nil, or_false] at h9; exact cM_mem (by omega)) | exact cA_sub))) (by omega) (by omega)
              · skip
                refine w_iload rfl rfl ?_
                refine w_istore (lo' := [some (.inr (.inr (some 0))), some (.inl i), some (.inl s), some (.inl re), some (.inl ne), some (.inl m)]) rfl rfl ?_
                refine w_goto rfl ?_
                refine w_iinc (lo' := fun z9 => [some (.inr (.inr (some 0))), some (.inl i), some (.inl s), some (.inl re), some (.inl ne), some (.inl z9)]) rfl rfl (fun _ => rfl) (by omega) (fun x22 tx22 => ?_)
                refine w_goto rfl ?_
                exact ih33 (24 - x22.toInt).toNat (by omega) s re ne x22 a17 rfl ha17 (FR.tr (hF33) (FR.sub fa17.1 (by first | exact (fun _ h9 => h9) | decide | (intro c9 h9; simp only [List.mem_cons, List.not_mem_nil, or_false] at h9 ⊢; omega) | (intro c9 h9; simp only [List.mem_cons, List.not_mem_nil, or_false] at h9; exact cA_mem (by omega)) | (intro c9 h9; simp only [List.mem_cons, List.not_mem_nil, or_false] at h9; exact cB_mem (by omega)) | (intro c9 h9; simp only [List.mem_cons, List.not_mem_nil, or_false] at h9; exact cU_mem (by omega)) | (intro c9 h9; simp only [List.mem_cons, List.not_mem_nil, or_false] at h9; exact cM_mem (by omega)) | exact cA_sub))) (by omega) (by omega)
            · skip
              refine w_aload rfl rfl ?_
              refine c_getR (t := some 19) rfl rfl rfl rfl rfl ?_
              refine w_iload rfl rfl ?_
              refine c_iald rfl rfl (by omega) (fun x23 ex23 => ?_)
              refine w_invS (rest := []) rfl (Nat.le_of_ble_eq_true rfl) rfl (Nat.le_of_ble_eq_true rfl) rfl (by omega) (s_X12_deed (K := K) a17 b v6  x23   ) (fun z24 h9 hq25 => ?_)
              obtain ⟨rfl, x26, rfl, px26⟩ := hq25
              show f_wp _ (81, [some (.inr (.inr (some 0))), some (.inl i), some (.inl s), some (.inl re), some (.inl ne), some (.inl m)], [.inl x26], cH a17 b v6) _
              refine w_const rfl ?_
              refine w_ic_ne rfl (fun c27 => ?_) (fun c27 => ?_)
              · skip
                refine w_iload rfl rfl ?_
                refine w_const rfl ?_
                first | refine w_iadd rfl (by omega) (fun x28 tx28 => ?_) | refine w_iiU rfl (fun x28 tx28 => ?_)
                refine w_const rfl ?_
                first | refine w_irem (c := 4) rfl rfl (by decide) (by omega) (fun x29 tx29 => ?_) | refine w_iidE rfl (by omega) (fun x29 tx29 => ?_)
                refine w_istore (lo' := [some (.inr (.inr (some 0))), some (.inl i), some (.inl x29), some (.inl re), some (.inl ne), some (.inl m)]) rfl rfl ?_
                refine w_iload rfl rfl ?_
                refine w_const rfl ?_
                refine w_ic_ne rfl (fun c30 => ?_) (fun c30 => ?_)
                · skip
                  refine w_aload rfl rfl ?_
                  refine c_getR (t := some 9) rfl rfl rfl rfl rfl ?_
                  refine w_iload rfl rfl ?_
                  refine w_invV (rest := []) rfl rfl rfl rfl rfl (Nat.le_of_ble_eq_true rfl) rfl (by omega) (s_X5_isNeedy (K := K) a17 b v6 L x29 ha17  (fa5.2.1.2) (by omega)) (fun z31 h9 hq32 => ?_)
                  obtain ⟨rfl, x33, rfl, px33⟩ := hq32
                  show f_wp _ (105, [some (.inr (.inr (some 0))), some (.inl i), some (.inl x29), some (.inl re), some (.inl ne), some (.inl m)], [.inl x33], cH a17 b v6) _
                  refine w_if_eq rfl (fun c34 => ?_) (fun c34 => ?_)
                  · skip
                    refine w_iinc (lo' := fun z9 => [some (.inr (.inr (some 0))), some (.inl i), some (.inl x29), some (.inl re), some (.inl ne), some (.inl z9)]) rfl rfl (fun _ => rfl) (by omega) (fun x35 tx35 => ?_)
                    refine w_goto rfl ?_
                    exact ih33 (24 - x35.toInt).toNat (by omega) x29 re ne x35 a17 rfl ha17 (FR.tr (hF33) (FR.sub fa17.1 (by first | exact (fun _ h9 => h9) | decide | (intro c9 h9; simp only [List.mem_cons, List.not_mem_nil, or_false] at h9 ⊢; omega) | (intro c9 h9; simp only [List.mem_cons, List.not_mem_nil, or_false] at h9; exact cA_mem (by omega)) | (intro c9 h9; simp only [List.mem_cons, List.not_mem_nil, or_false] at h9; exact cB_mem (by omega)) | (intro c9 h9; simp only [List.mem_cons, List.not_mem_nil, or_false] at h9; exact cU_mem (by omega)) | (intro c9 h9; simp only [List.mem_cons, List.not_mem_nil, or_false] at h9; exact cM_mem (by omega)) | exact cA_sub))) (by omega) (by omega)
                  · skip
                    refine w_iload rfl rfl ?_
                    refine w_istore (lo' := [some (.inr (.inr (some 0))), some (.inl i), some (.inl x29), some (.inl re), some (.inl m), some (.inl m)]) rfl rfl ?_
                    refine w_iinc (lo' := fun z9 => [some (.inr (.inr (some 0))), some (.inl i), some (.inl x29), some (.inl re), some (.inl m), some (.inl z9)]) rfl rfl (fun _ => rfl) (by omega) (fun x36 tx36 => ?_)
                    refine w_goto rfl ?_
                    exact ih33 (24 - x36.toInt).toNat (by omega) x29 re m x36 a17 rfl ha17 (FR.tr (hF33) (FR.sub fa17.1 (by first | exact (fun _ h9 => h9) | decide | (intro c9 h9; simp only [List.mem_cons, List.not_mem_nil, or_false] at h9 ⊢; omega) | (intro c9 h9; simp only [List.mem_cons, List.not_mem_nil, or_false] at h9; exact cA_mem (by omega)) | (intro c9 h9; simp only [List.mem_cons, List.not_mem_nil, or_false] at h9; exact cB_mem (by omega)) | (intro c9 h9; simp only [List.mem_cons, List.not_mem_nil, or_false] at h9; exact cU_mem (by omega)) | (intro c9 h9; simp only [List.mem_cons, List.not_mem_nil, or_false] at h9; exact cM_mem (by omega)) | exact cA_sub))) (by omega) (by omega)
                · skip
                  refine w_iinc (lo' := fun z9 => [some (.inr (.inr (some 0))), some (.inl i), some (.inl x29), some (.inl re), some (.inl ne), some (.inl z9)]) rfl rfl (fun _ => rfl) (by omega) (fun x37 tx37 => ?_)
                  refine w_goto rfl ?_
                  exact ih33 (24 - x37.toInt).toNat (by omega) x29 re ne x37 a17 rfl ha17 (FR.tr (hF33) (FR.sub fa17.1 (by first | exact (fun _ h9 => h9) | decide | (intro c9 h9; simp only [List.mem_cons, List.not_mem_nil, or_false] at h9 ⊢; omega) | (intro c9 h9; simp only [List.mem_cons, List.not_mem_nil, or_false] at h9; exact cA_mem (by omega)) | (intro c9 h9; simp only [List.mem_cons, List.not_mem_nil, or_false] at h9; exact cB_mem (by omega)) | (intro c9 h9; simp only [List.mem_cons, List.not_mem_nil, or_false] at h9; exact cU_mem (by omega)) | (intro c9 h9; simp only [List.mem_cons, List.not_mem_nil, or_false] at h9; exact cM_mem (by omega)) | exact cA_sub))) (by omega) (by omega)
              · skip
                refine w_iload rfl rfl ?_
                refine w_const rfl ?_
                refine w_ic_ne rfl (fun c38 => ?_) (fun c38 => ?_)
                · skip
                  refine w_aload rfl rfl ?_
                  refine c_getR (t := some 9) rfl rfl rfl rfl rfl ?_
                  refine w_iload rfl rfl ?_
                  refine w_invV (rest := []) rfl rfl rfl rfl rfl (Nat.le_of_ble_eq_true rfl) rfl (by omega) (s_X5_isNeedy (K := K) a17 b v6 L s ha17  (fa5.2.1.2) (by omega)) (fun z39 h9 hq40 => ?_)
                  obtain ⟨rfl, x41, rfl, px41⟩ := hq40
                  show f_wp _ (105, [some (.inr (.inr (some 0))), some (.inl i), some (.inl s), some (.inl re), some (.inl ne), some (.inl m)], [.inl x41], cH a17 b v6) _
                  refine w_if_eq rfl (fun c42 => ?_) (fun c42 => ?_)
                  · skip
                    refine w_iinc (lo' := fun z9 => [some (.inr (.inr (some 0))), some (.inl i), some (.inl s), some (.inl re), some (.inl ne), some (.inl z9)]) rfl rfl (fun _ => rfl) (by omega) (fun x43 tx43 => ?_)
                    refine w_goto rfl ?_
                    exact ih33 (24 - x43.toInt).toNat (by omega) s re ne x43 a17 rfl ha17 (FR.tr (hF33) (FR.sub fa17.1 (by first | exact (fun _ h9 => h9) | decide | (intro c9 h9; simp only [List.mem_cons, List.not_mem_nil, or_false] at h9 ⊢; omega) | (intro c9 h9; simp only [List.mem_cons, List.not_mem_nil, or_false] at h9; exact cA_mem (by omega)) | (intro c9 h9; simp only [List.mem_cons, List.not_mem_nil, or_false] at h9; exact cB_mem (by omega)) | (intro c9 h9; simp only [List.mem_cons, List.not_mem_nil, or_false] at h9; exact cU_mem (by omega)) | (intro c9 h9; simp only [List.mem_cons, List.not_mem_nil, or_false] at h9; exact cM_mem (by omega)) | exact cA_sub))) (by omega) (by omega)
                  · skip
                    refine w_iload rfl rfl ?_
                    refine w_istore (lo' := [some (.inr (.inr (some 0))), some (.inl i), some (.inl s), some (.inl re), some (.inl m), some (.inl m)]) rfl rfl ?_
                    refine w_iinc (lo' := fun z9 => [some (.inr (.inr (some 0))), some (.inl i), some (.inl s), some (.inl re), some (.inl m), some (.inl z9)]) rfl rfl (fun _ => rfl) (by omega) (fun x44 tx44 => ?_)
                    refine w_goto rfl ?_
                    exact ih33 (24 - x44.toInt).toNat (by omega) s re m x44 a17 rfl ha17 (FR.tr (hF33) (FR.sub fa17.1 (by first | exact (fun _ h9 => h9) | decide | (intro c9 h9; simp only [List.mem_cons, List.not_mem_nil, or_false] at h9 ⊢; omega) | (intro c9 h9; simp only [List.mem_cons, List.not_mem_nil, or_false] at h9; exact cA_mem (by omega)) | (intro c9 h9; simp only [List.mem_cons, List.not_mem_nil, or_false] at h9; exact cB_mem (by omega)) | (intro c9 h9; simp only [List.mem_cons, List.not_mem_nil, or_false] at h9; exact cU_mem (by omega)) | (intro c9 h9; simp only [List.mem_cons, List.not_mem_nil, or_false] at h9; exact cM_mem (by omega)) | exact cA_sub))) (by omega) (by omega)
                · skip
                  refine w_iinc (lo' := fun z9 => [some (.inr (.inr (some 0))), some (.inl i), some (.inl s), some (.inl re), some (.inl ne), some (.inl z9)]) rfl rfl (fun _ => rfl) (by omega) (fun x45 tx45 => ?_)
                  refine w_goto rfl ?_
                  exact ih33 (24 - x45.toInt).toNat (by omega) s re ne x45 a17 rfl ha17 (FR.tr (hF33) (FR.sub fa17.1 (by first | exact (fun _ h9 => h9) | decide | (intro c9 h9; simp only [List.mem_cons, List.not_mem_nil, or_false] at h9 ⊢; omega) | (intro c9 h9; simp only [List.mem_cons, List.not_mem_nil, or_false] at h9; exact cA_mem (by omega)) | (intro c9 h9; simp only [List.mem_cons, List.not_mem_nil, or_false] at h9; exact cB_mem (by omega)) | (intro c9 h9; simp only [List.mem_cons, List.not_mem_nil, or_false] at h9; exact cU_mem (by omega)) | (intro c9 h9; simp only [List.mem_cons, List.not_mem_nil, or_false] at h9; exact cM_mem (by omega)) | exact cA_sub))) (by omega) (by omega)
      exact loop33 _ 0 (-1) (-1) 0 a5 rfl ha5 (FR.tr (FR.rf) (FR.sub fa5.1 (by first | exact (fun _ h9 => h9) | decide | (intro c9 h9; simp only [List.mem_cons, List.not_mem_nil, or_false] at h9 ⊢; omega) | (intro c9 h9; simp only [List.mem_cons, List.not_mem_nil, or_false] at h9; exact cA_mem (by omega)) | (intro c9 h9; simp only [List.mem_cons, List.not_mem_nil, or_false] at h9; exact cB_mem (by omega)) | (intro c9 h9; simp only [List.mem_cons, List.not_mem_nil, or_false] at h9; exact cU_mem (by omega)) | (intro c9 h9; simp only [List.mem_cons, List.not_mem_nil, or_false] at h9; exact cM_mem (by omega)) | exact cA_sub))) (by omega) (by omega)
    · skip
      refine w_const rfl ?_
      exact wp_iret (z := false) rfl (fun h9 => by cases h9) ⟨a, v, rfl, hR, ⟨FR.rf, ⟨(fun _ _ => rfl), Or.inl rfl⟩, trivial⟩, ⟨_, rfl, trivial⟩⟩
