set_option maxRecDepth 4000 in
theorem s_J1_canEncode_9a6ad_1 {K : Nat} (a : Nat → Nat → Int32) (b : Nat → Nat → Int64) (v : Nat → Option Nat) (p : Int32) (hp : 0 ≤ p.toInt ∧ p.toInt ≤ 127) : f_call mtC 1 167 [.inl p] (cH a b v) (fun v9 h' => h' = cH a b v ∧ ∃ x : Int32, v9 = some (.inl x) ∧ x.toInt = 1) := by
  refine f_call_of (d0 := 0) rfl (Nat.le_of_ble_eq_true rfl) (fun d hd => ?_)
  show f_wp _ (0, [some (.inl p)], [], cH a b v) _
  have l0 : (0 : Int32).toInt = 0 := rfl
  have l1 : (1 : Int32).toInt = 1 := rfl
  have l255 : (255 : Int32).toInt = 255 := rfl
  refine w_iload rfl rfl ?_
  refine w_if_lt rfl (fun c1 => ?_) (fun c1 => ?_)
  · skip
    refine w_const rfl ?_
    exact wp_iret (z := true) rfl (fun _ => by first | exact Or.inl rfl | exact Or.inr rfl | (rcases (by omega : (0 : Int32).toInt = 0 ∨ (0 : Int32).toInt = 1) with h8 | h8; exact Or.inl (ti_eq h8); exact Or.inr (ti_eq h8))) ⟨rfl, ⟨_, rfl, by omega⟩⟩
  · skip
    refine w_iload rfl rfl ?_
    refine w_const rfl ?_
    refine w_ic_gt rfl (fun c2 => ?_) (fun c2 => ?_)
    · skip
      refine w_const rfl ?_
      exact wp_iret (z := true) rfl (fun _ => by first | exact Or.inl rfl | exact Or.inr rfl | (rcases (by omega : (0 : Int32).toInt = 0 ∨ (0 : Int32).toInt = 1) with h8 | h8; exact Or.inl (ti_eq h8); exact Or.inr (ti_eq h8))) ⟨rfl, ⟨_, rfl, by omega⟩⟩
    · skip
      refine w_const rfl ?_
      refine w_goto rfl ?_
      exact wp_iret (z := true) rfl (fun _ => by first | exact Or.inl rfl | exact Or.inr rfl | (rcases (by omega : (1 : Int32).toInt = 0 ∨ (1 : Int32).toInt = 1) with h8 | h8; exact Or.inl (ti_eq h8); exact Or.inr (ti_eq h8))) ⟨rfl, ⟨_, rfl, by omega⟩⟩
set_option maxRecDepth 4000 in
theorem s_J1_indexOfChar_4cfef_1 {K : Nat} (a : Nat → Nat → Int32) (b : Nat → Nat → Int64) (v : Nat → Option Nat) (p : Int32) (q : Int32) (r : Int32) (hq : q.toInt = 0 ∧ r.toInt = 8) (hp : 0 ≤ p.toInt ∧ p.toInt ≤ 127) : f_call mtC 1 168 [.inr (.inr (some 1034)), .inl p, .inl q, .inl r] (cH a b v) (fun v9 h' => h' = cH a b v ∧ ∃ x : Int32, v9 = some (.inl x) ∧ ((0 ≤ x.toInt ∧ lxS p = true) ∨ (x.toInt = -1 ∧ ¬ lxS p = true))) := by
  refine f_call_of (d0 := 0) rfl (Nat.le_of_ble_eq_true rfl) (fun d hd => ?_)
  show f_wp _ (0, [some (.inr (.inr (some 1034))), some (.inl p), some (.inl q), some (.inl r), none, none], [], cH a b v) _
  have lm1 : (-1 : Int32).toInt = -1 := rfl
  have l1 : (1 : Int32).toInt = 1 := rfl
  refine w_iload rfl rfl ?_
  refine w_i1U rfl (fun x1 tx1 => ?_)
  have b9 : x1.toInt = p.toInt := by_id tx1 hp
  refine w_istore (lo' := [some (.inr (.inr (some 1034))), some (.inl p), some (.inl q), some (.inl r), some (.inl x1), none]) rfl rfl ?_
  refine w_iload rfl rfl ?_
  refine w_istore (lo' := [some (.inr (.inr (some 1034))), some (.inl p), some (.inl q), some (.inl r), some (.inl x1), some (.inl q)]) rfl rfl ?_
  have loop7 : ∀ (ms9 : Nat) (i : Int32) , (8 - i.toInt).toNat = ms9 → (0 ≤ i.toInt ∧ i.toInt ≤ 8) → (∀ j : Nat, (j : Int) < i.toInt → (sgB.getD j 0).toInt ≠ p.toInt) → f_wp (f_code (t_J1_indexOfChar_4cfef (f_ev mtC d))) (7, [some (.inr (.inr (some 1034))), some (.inl p), some (.inl q), some (.inl r), some (.inl x1), some (.inl i)], [], cH a b v) (fun v9 h' => h' = cH a b v ∧ ∃ x : Int32, v9 = some (.inl x) ∧ ((0 ≤ x.toInt ∧ lxS p = true) ∨ (x.toInt = -1 ∧ ¬ lxS p = true))) := by
    intro ms9
    induction ms9 using Nat.strongRecOn with
    | _ ms7 ih7 =>
      intro i  hm7 hi hn
      refine w_iload rfl rfl ?_
      refine w_iload rfl rfl ?_
      refine w_ic_ge rfl (fun c2 => ?_) (fun c2 => ?_)
      · skip
        refine w_const rfl ?_
        exact wp_iret (z := false) rfl (fun h9 => by cases h9) ⟨rfl, ⟨_, rfl, by first | exact Or.inl ⟨by omega, sg_is (j := i.toInt.toNat) (by omega) (by omega)⟩ | exact Or.inr ⟨rfl, sg_out (fun j hj => hn j (by omega))⟩⟩⟩
      · skip
        refine w_aload rfl rfl ?_
        refine w_iload rfl rfl ?_
        refine c_sel (N := 8) rfl (by omega) ?_
        refine w_iload rfl rfl ?_
        refine w_ic_ne rfl (fun c3 => ?_) (fun c3 => ?_)
        · skip
          refine w_iload rfl rfl ?_
          exact wp_iret (z := false) rfl (fun h9 => by cases h9) ⟨rfl, ⟨_, rfl, by first | exact Or.inl ⟨by omega, sg_is (j := i.toInt.toNat) (by omega) (by omega)⟩ | exact Or.inr ⟨rfl, sg_out (fun j hj => hn j (by omega))⟩⟩⟩
        · skip
          refine w_iinc (lo' := fun z9 => [some (.inr (.inr (some 1034))), some (.inl p), some (.inl q), some (.inl r), some (.inl x1), some (.inl z9)]) rfl rfl (fun _ => rfl) (by omega) (fun x4 tx4 => ?_)
          refine w_goto rfl ?_
          exact ih7 (8 - x4.toInt).toNat (by omega) x4 rfl  (by omega) (fun j hj => by rcases (by omega : (j : Int) < i.toInt ∨ (j : Int) = i.toInt) with h | h; exact hn j h; (have e : j = i.toInt.toNat := by omega); rw [e]; omega)
  exact loop7 _ q rfl  (by omega) (fun j hj => absurd hj (by omega))
set_option maxRecDepth 4000 in
theorem s_J1_indexOf_4cfef_1 {K : Nat} (a : Nat → Nat → Int32) (b : Nat → Nat → Int64) (v : Nat → Option Nat) (p : Int32) (q : Int32) (r : Int32) (hq : q.toInt = 0 ∧ r.toInt = 8) (hp : 0 ≤ p.toInt ∧ p.toInt ≤ 127) : f_call mtC 2 166 [.inr (.inr (some 1034)), .inl p, .inl q, .inl r] (cH a b v) (fun v9 h' => h' = cH a b v ∧ ∃ x : Int32, v9 = some (.inl x) ∧ ((0 ≤ x.toInt ∧ lxS p = true) ∨ (x.toInt = -1 ∧ ¬ lxS p = true))) := by
  refine f_call_of (d0 := 1) rfl (Nat.le_of_ble_eq_true rfl) (fun d hd => ?_)
  show f_wp _ (0, [some (.inr (.inr (some 1034))), some (.inl p), some (.inl q), some (.inl r)], [], cH a b v) _
  have lm1 : (-1 : Int32).toInt = -1 := rfl
  have l0 : (0 : Int32).toInt = 0 := rfl
  have l4 : (4 : Int32).toInt = 4 := rfl
  have l6 : (6 : Int32).toInt = 6 := rfl
  have l8 : (8 : Int32).toInt = 8 := rfl
  have l16 : (16 : Int32).toInt = 16 := rfl
  have l31 : (31 : Int32).toInt = 31 := rfl
  have l384 : (384 : Int32).toInt = 384 := rfl
  have l1000 : (1000 : Int32).toInt = 1000 := rfl
  refine w_iload rfl rfl ?_
  refine w_invS (rest := []) rfl (Nat.le_of_ble_eq_true rfl) rfl (Nat.le_of_ble_eq_true rfl) rfl (by omega) (s_J1_canEncode_9a6ad_1 (K := K) a b v  p   (by omega)) (fun z1 h9 hq2 => ?_)
  obtain ⟨rfl, x3, rfl, px3⟩ := hq2
  show f_wp _ (4, [some (.inr (.inr (some 1034))), some (.inl p), some (.inl q), some (.inl r)], [.inl x3], cH a b v) _
  refine w_if_ne rfl (fun c4 => ?_) (fun c4 => ?_)
  · skip
    refine w_const rfl ?_
    exact wp_iret (z := false) rfl (fun h9 => by cases h9) ⟨rfl, ⟨_, rfl, by first | assumption | (exfalso; omega)⟩⟩
  · skip
    refine w_iload rfl rfl ?_
    refine w_const rfl ?_
    refine c_mmax rfl (Nat.le_of_ble_eq_true rfl) (fun x5 tx5 => ?_)
    refine w_istore (lo' := [some (.inr (.inr (some 1034))), some (.inl p), some (.inl x5), some (.inl r)]) rfl rfl ?_
    refine w_iload rfl rfl ?_
    refine w_aload rfl rfl ?_
    refine c_slen rfl ?_
    show f_wp _ (18, [some (.inr (.inr (some 1034))), some (.inl p), some (.inl x5), some (.inl r)], .inl 8 :: [.inl r], cH a b v) _
    refine c_mmin rfl (Nat.le_of_ble_eq_true rfl) (fun x6 tx6 => ?_)
    refine w_istore (lo' := [some (.inr (.inr (some 1034))), some (.inl p), some (.inl x5), some (.inl x6)]) rfl rfl ?_
    refine w_iload rfl rfl ?_
    refine w_iload rfl rfl ?_
    refine w_ic_lt rfl (fun c7 => ?_) (fun c7 => ?_)
    · skip
      refine w_aload rfl rfl ?_
      refine w_iload rfl rfl ?_
      refine w_iload rfl rfl ?_
      refine w_iload rfl rfl ?_
      refine w_invS (rest := []) rfl (Nat.le_of_ble_eq_true rfl) rfl (Nat.le_of_ble_eq_true rfl) rfl (by omega) (s_J1_indexOfChar_4cfef_1 (K := K) a b v  p x5 x6   (by omega) (by omega)) (fun z8 h9 hq9 => ?_)
      obtain ⟨rfl, x10, rfl, px10⟩ := hq9
      show f_wp _ (36, [some (.inr (.inr (some 1034))), some (.inl p), some (.inl x5), some (.inl x6)], [.inl x10], cH a b v) _
      exact wp_iret (z := false) rfl (fun h9 => by cases h9) ⟨rfl, ⟨_, rfl, by first | assumption | (exfalso; omega)⟩⟩
    · skip
      refine w_const rfl ?_
      exact wp_iret (z := false) rfl (fun h9 => by cases h9) ⟨rfl, ⟨_, rfl, by first | assumption | (exfalso; omega)⟩⟩
set_option maxRecDepth 4000 in
theorem s_J0_indexOf_7cf53_1 {K : Nat} (a : Nat → Nat → Int32) (b : Nat → Nat → Int64) (v : Nat → Option Nat) (p : Int32) (q : Int32) (hq : q.toInt = 0) (hp : 0 ≤ p.toInt ∧ p.toInt ≤ 127) : f_call mtC 3 162 [.inr (.inr (some 1033)), .inl p, .inl q] (cH a b v) (fun v9 h' => h' = cH a b v ∧ ∃ x : Int32, v9 = some (.inl x) ∧ ((0 ≤ x.toInt ∧ lxS p = true) ∨ (x.toInt = -1 ∧ ¬ lxS p = true))) := by
  refine f_call_of (d0 := 2) rfl (Nat.le_of_ble_eq_true rfl) (fun d hd => ?_)
  show f_wp _ (0, [some (.inr (.inr (some 1033))), some (.inl p), some (.inl q)], [], cH a b v) _
  refine w_aload rfl rfl ?_
  refine c_invW (rest := []) rfl rfl (rfl) rfl (Nat.le_of_ble_eq_true rfl) rfl (by omega) (s_J0_isLatin1_aae02 (K := K) a b v     ) (fun z1 h9 hq2 => ?_)
  obtain ⟨rfl, x3, rfl, px3⟩ := hq2
  show f_wp _ (4, [some (.inr (.inr (some 1033))), some (.inl p), some (.inl q)], [.inl x3], cH a b v) _
  refine w_if_eq rfl (fun c4 => ?_) (fun c4 => ?_)
  · exfalso; omega
  · skip
    refine w_aload rfl rfl ?_
    refine c_sfld rfl rfl ?_
    refine w_iload rfl rfl ?_
    refine w_iload rfl rfl ?_
    refine w_aload rfl rfl ?_
    refine c_invW (rest := [.inl q, .inl p, .inr (.inr (some 1034))]) rfl rfl (rfl) rfl (Nat.le_of_ble_eq_true rfl) rfl (by omega) (s_J0_length_8abf5 (K := K) a b v     ) (fun z5 h9 hq6 => ?_)
    obtain ⟨rfl, x7, rfl, px7⟩ := hq6
    show f_wp _ (17, [some (.inr (.inr (some 1033))), some (.inl p), some (.inl q)], [.inl x7, .inl q, .inl p, .inr (.inr (some 1034))], cH a b v) _
    refine w_invS (rest := []) rfl (Nat.le_of_ble_eq_true rfl) rfl (Nat.le_of_ble_eq_true rfl) rfl (by omega) (s_J1_indexOf_4cfef_1 (K := K) a b v  p q x7   (by omega) (by omega)) (fun z8 h9 hq9 => ?_)
    obtain ⟨rfl, x10, rfl, px10⟩ := hq9
    show f_wp _ (20, [some (.inr (.inr (some 1033))), some (.inl p), some (.inl q)], [.inl x10], cH a b v) _
    refine w_goto rfl ?_
    exact wp_iret (z := false) rfl (fun h9 => by cases h9) ⟨rfl, ⟨_, rfl, by assumption⟩⟩
set_option maxRecDepth 4000 in
theorem s_J0_indexOf_0f7a4_1 {K : Nat} (a : Nat → Nat → Int32) (b : Nat → Nat → Int64) (v : Nat → Option Nat) (p : Int32) (hp : 0 ≤ p.toInt ∧ p.toInt ≤ 127) : f_call mtC 4 161 [.inr (.inr (some 1033)), .inl p] (cH a b v) (fun v9 h' => h' = cH a b v ∧ ∃ x : Int32, v9 = some (.inl x) ∧ ((0 ≤ x.toInt ∧ lxS p = true) ∨ (x.toInt = -1 ∧ ¬ lxS p = true))) := by
  refine f_call_of (d0 := 3) rfl (Nat.le_of_ble_eq_true rfl) (fun d hd => ?_)
  show f_wp _ (0, [some (.inr (.inr (some 1033))), some (.inl p)], [], cH a b v) _
  have l0 : (0 : Int32).toInt = 0 := rfl
  refine w_aload rfl rfl ?_
  refine w_iload rfl rfl ?_
  refine w_const rfl ?_
  refine c_invW (rest := []) rfl rfl (rfl) rfl (Nat.le_of_ble_eq_true rfl) rfl (by omega) (s_J0_indexOf_7cf53_1 (K := K) a b v  p 0   (by omega) (by omega)) (fun z1 h9 hq2 => ?_)
  obtain ⟨rfl, x3, rfl, px3⟩ := hq2
  show f_wp _ (6, [some (.inr (.inr (some 1033))), some (.inl p)], [.inl x3], cH a b v) _
  exact wp_iret (z := false) rfl (fun h9 => by cases h9) ⟨rfl, ⟨_, rfl, by assumption⟩⟩
set_option maxRecDepth 4000 in
theorem s_X8_put_1 {K : Nat} (a : Nat → Nat → Int32) (b : Nat → Nat → Int64) (v : Nat → Option Nat) (p : Int32) (hR : RC K a) (hp : 0 ≤ p.toInt ∧ p.toInt ≤ 255) : f_call mtC 1 81 [.inr (.inr (some 1)), .inl p] (cH a b v) (fun v9 h' => ∃ (a' : Nat → Nat → Int32), h' = cH a' b v ∧ RC K a' ∧ (FR [1, 2] a a' ∧ ((∀ j, j ≠ 6 → a' 1 j = a 1 j) ∧ TL (a' 2) (a' 1 6).toInt.toNat = fT (TL (a 2) (a 1 6).toInt.toNat) p)) ∧ v9 = none) := by
  refine f_call_of (d0 := 0) rfl (Nat.le_of_ble_eq_true rfl) (fun d hd => ?_)
  show f_wp _ (0, [some (.inr (.inr (some 1))), some (.inl p), none], [], cH a b v) _
  have l0 : (0 : Int32).toInt = 0 := rfl
  have l1 : (1 : Int32).toInt = 1 := rfl
  have l10 : (10 : Int32).toInt = 10 := rfl
  have l32 : (32 : Int32).toInt = 32 := rfl
  have l126 : (126 : Int32).toInt = 126 := rfl
  have l1000 : (1000 : Int32).toInt = 1000 := rfl
  refine w_iload rfl rfl ?_
  refine w_const rfl ?_
  refine w_ic_eq rfl (fun c1 => ?_) (fun c1 => ?_)
  · skip
    refine w_const rfl ?_
    refine w_goto rfl ?_
    refine w_istore (lo' := [some (.inr (.inr (some 1))), some (.inl p), some (.inl 1)]) rfl rfl ?_
    refine w_iload rfl rfl ?_
    refine w_if_eq rfl (fun c2 => ?_) (fun c2 => ?_)
    · exfalso; omega
    · skip
      refine w_aload rfl rfl ?_
      refine c_getI rfl rfl rfl rfl ?_
      have q3 : 0 ≤ (a 1 6).toInt ∧ (a 1 6).toInt ≤ 1000 := hR 1 6
      refine w_const rfl ?_
      refine w_ic_ge rfl (fun c4 => ?_) (fun c4 => ?_)
      · skip
        exact w_ret rfl ⟨a, rfl, hR, ⟨FR.rf, ⟨fun _ _ => rfl, fT_skip (n := (a 1 6).toInt) (by rw [TL_len]; have z9 := hR 1 6; have z8 : 0 ≤ (a 1 6).toInt := z9.1; omega) (by omega)⟩⟩, rfl⟩
      · skip
        refine w_aload rfl rfl ?_
        refine c_getR (t := some 2) rfl rfl rfl rfl rfl ?_
        refine w_aload rfl rfl ?_
        refine c_getI rfl rfl rfl rfl ?_
        have q5 : 0 ≤ (a 1 6).toInt ∧ (a 1 6).toInt ≤ 1000 := hR 1 6
        refine w_iload rfl rfl ?_
        refine w_i1U rfl (fun x6 tx6 => ?_)
        have i9 := ch_id tx6 hp
        refine c_cast rfl rfl (by omega) (fun a7 ea7 => ?_)
        have ha7 : RC K a7 := RC.up hR ea7 (lc_any _ (by omega))
        have ra7_39 : (a7 1 6).toInt = (a 1 6).toInt := by rw [ea7, mU_cell (by omega)]
        refine w_aload rfl rfl ?_
        refine w_dup rfl rfl ?_
        refine c_getI rfl rfl rfl rfl ?_
        have q8 : 0 ≤ (a7 1 6).toInt ∧ (a7 1 6).toInt ≤ 1000 := ha7 1 6
        refine w_const rfl ?_
        first | refine w_iadd rfl (by omega) (fun x9 tx9 => ?_) | refine w_iiU rfl (fun x9 tx9 => ?_)
        refine c_putI (z := false) rfl rfl rfl rfl (by first | (intro h9; cases h9; done) | (intro _; first | exact Or.inl rfl | exact Or.inr rfl | assumption | (rcases (by omega : x9.toInt = 0 ∨ x9.toInt = 1) with h8 | h8; exact Or.inl (ti_eq h8); exact Or.inr (ti_eq h8)))) (fun a10 ea10 => ?_)
        have ha10 : RC K a10 := RC.up ha7 ea10 (show (0 : Int) ≤ _ ∧ _ ≤ (1000 : Int) from by omega)
        have ua10 : a10 1 6 = x9 := by rw [ea10, mU_same]
        have wa10 := congrArg Int32.toInt ua10
        exact w_ret rfl ⟨a10, rfl, ha10, ⟨FR.up (FR.up (FR.rf) (by first | decide | (simp; done) | exact cA_mem (by omega) | exact cB_mem (by omega) | exact cU_mem (by omega) | exact cM_mem (by omega)) ea7) (by first | decide | (simp; done) | exact cA_mem (by omega) | exact cB_mem (by omega) | exact cU_mem (by omega) | exact cM_mem (by omega)) ea10, ⟨fun j h9 => by rw [ea10, mU_slot h9, ea7, mU_cell (by decide)], fT_put (by rw [ea7, i9]) ea10 (by decide) (by omega) (by omega) (by omega)⟩⟩, rfl⟩
  · skip
    refine w_iload rfl rfl ?_
    refine w_const rfl ?_
    refine w_ic_lt rfl (fun c11 => ?_) (fun c11 => ?_)
    · skip
      refine w_const rfl ?_
      refine w_istore (lo' := [some (.inr (.inr (some 1))), some (.inl p), some (.inl 0)]) rfl rfl ?_
      refine w_iload rfl rfl ?_
      refine w_if_eq rfl (fun c12 => ?_) (fun c12 => ?_)
      · skip
        exact w_ret rfl ⟨a, rfl, hR, ⟨FR.rf, ⟨fun _ _ => rfl, fT_skip (n := (a 1 6).toInt) (by rw [TL_len]; have z9 := hR 1 6; have z8 : 0 ≤ (a 1 6).toInt := z9.1; omega) (by omega)⟩⟩, rfl⟩
      · exfalso; omega
    · skip
      refine w_iload rfl rfl ?_
      refine w_const rfl ?_
      refine w_ic_gt rfl (fun c13 => ?_) (fun c13 => ?_)
      · skip
        refine w_const rfl ?_
        refine w_istore (lo' := [some (.inr (.inr (some 1))), some (.inl p), some (.inl 0)]) rfl rfl ?_
        refine w_iload rfl rfl ?_
        refine w_if_eq rfl (fun c14 => ?_) (fun c14 => ?_)
        · skip
          exact w_ret rfl ⟨a, rfl, hR, ⟨FR.rf, ⟨fun _ _ => rfl, fT_skip (n := (a 1 6).toInt) (by rw [TL_len]; have z9 := hR 1 6; have z8 : 0 ≤ (a 1 6).toInt := z9.1; omega) (by omega)⟩⟩, rfl⟩
        · exfalso; omega
      · skip
        refine w_const rfl ?_
        refine w_goto rfl ?_
        refine w_istore (lo' := [some (.inr (.inr (some 1))), some (.inl p), some (.inl 1)]) rfl rfl ?_
        refine w_iload rfl rfl ?_
        refine w_if_eq rfl (fun c15 => ?_) (fun c15 => ?_)
        · exfalso; omega
        · skip
          refine w_aload rfl rfl ?_
          refine c_getI rfl rfl rfl rfl ?_
          have q16 : 0 ≤ (a 1 6).toInt ∧ (a 1 6).toInt ≤ 1000 := hR 1 6
          refine w_const rfl ?_
          refine w_ic_ge rfl (fun c17 => ?_) (fun c17 => ?_)
          · skip
            exact w_ret rfl ⟨a, rfl, hR, ⟨FR.rf, ⟨fun _ _ => rfl, fT_skip (n := (a 1 6).toInt) (by rw [TL_len]; have z9 := hR 1 6; have z8 : 0 ≤ (a 1 6).toInt := z9.1; omega) (by omega)⟩⟩, rfl⟩
          · skip
            refine w_aload rfl rfl ?_
            refine c_getR (t := some 2) rfl rfl rfl rfl rfl ?_
            refine w_aload rfl rfl ?_
            refine c_getI rfl rfl rfl rfl ?_
            have q18 : 0 ≤ (a 1 6).toInt ∧ (a 1 6).toInt ≤ 1000 := hR 1 6
            refine w_iload rfl rfl ?_
            refine w_i1U rfl (fun x19 tx19 => ?_)
            have i9 := ch_id tx19 hp
            refine c_cast rfl rfl (by omega) (fun a20 ea20 => ?_)
            have ha20 : RC K a20 := RC.up hR ea20 (lc_any _ (by omega))
            have ra20_101 : (a20 1 6).toInt = (a 1 6).toInt := by rw [ea20, mU_cell (by omega)]
            refine w_aload rfl rfl ?_
            refine w_dup rfl rfl ?_
            refine c_getI rfl rfl rfl rfl ?_
            have q21 : 0 ≤ (a20 1 6).toInt ∧ (a20 1 6).toInt ≤ 1000 := ha20 1 6
            refine w_const rfl ?_
            first | refine w_iadd rfl (by omega) (fun x22 tx22 => ?_) | refine w_iiU rfl (fun x22 tx22 => ?_)
            refine c_putI (z := false) rfl rfl rfl rfl (by first | (intro h9; cases h9; done) | (intro _; first | exact Or.inl rfl | exact Or.inr rfl | assumption | (rcases (by omega : x22.toInt = 0 ∨ x22.toInt = 1) with h8 | h8; exact Or.inl (ti_eq h8); exact Or.inr (ti_eq h8)))) (fun a23 ea23 => ?_)
            have ha23 : RC K a23 := RC.up ha20 ea23 (show (0 : Int) ≤ _ ∧ _ ≤ (1000 : Int) from by omega)
            have ua23 : a23 1 6 = x22 := by rw [ea23, mU_same]
            have wa23 := congrArg Int32.toInt ua23
            exact w_ret rfl ⟨a23, rfl, ha23, ⟨FR.up (FR.up (FR.rf) (by first | decide | (simp; done) | exact cA_mem (by omega) | exact cB_mem (by omega) | exact cU_mem (by omega) | exact cM_mem (by omega)) ea20) (by first | decide | (simp; done) | exact cA_mem (by omega) | exact cB_mem (by omega) | exact cU_mem (by omega) | exact cM_mem (by omega)) ea23, ⟨fun j h9 => by rw [ea23, mU_slot h9, ea20, mU_cell (by decide)], fT_put (by rw [ea20, i9]) ea23 (by decide) (by omega) (by omega) (by omega)⟩⟩, rfl⟩
set_option maxRecDepth 4000 in
theorem s_X8_keep_1 {K : Nat} (a : Nat → Nat → Int32) (b : Nat → Nat → Int64) (v : Nat → Option Nat) (p : Int32) (q : Int32) (k : Int64) (hR : RC K a) (h4 : 0 ≤ (a 1 4).toInt ∧ (a 1 4).toInt ≤ 1000) : f_call mtC 1 85 [.inr (.inr (some 1)), .inl p, .inl q, .inr (.inl k)] (cH a b v) (fun v9 h' => ∃ (a' : Nat → Nat → Int32) (b' : Nat → Nat → Int64), h' = cH a' b' v ∧ RC K a' ∧ (FR [1, 3, 4] a a' ∧ KEP a a' b b' p q k) ∧ v9 = none) := by
  refine f_call_of (d0 := 0) rfl (Nat.le_of_ble_eq_true rfl) (fun d hd => ?_)
  show f_wp _ (0, [some (.inr (.inr (some 1))), some (.inl p), some (.inl q), some (.inr (.inl k)), none], [], cH a b v) _
  have l1 : (1 : Int32).toInt = 1 := rfl
  have l1000 : (1000 : Int32).toInt = 1000 := rfl
  refine w_aload rfl rfl ?_
  refine c_getI rfl rfl rfl rfl ?_
  have q1 : 0 ≤ (a 1 4).toInt ∧ (a 1 4).toInt ≤ 1001 := hR 1 4
  refine w_const rfl ?_
  refine w_ic_gt rfl (fun c2 => ?_) (fun c2 => ?_)
  · skip
    exact w_ret rfl ⟨a, b, rfl, hR, ⟨FR.rf, by exfalso; omega⟩, rfl⟩
  · skip
    refine w_aload rfl rfl ?_
    refine c_getR (t := some 3) rfl rfl rfl rfl rfl ?_
    refine w_aload rfl rfl ?_
    refine c_getI rfl rfl rfl rfl ?_
    have q3 : 0 ≤ (a 1 4).toInt ∧ (a 1 4).toInt ≤ 1001 := hR 1 4
    refine w_iload rfl rfl ?_
    refine c_iast rfl rfl (by omega) (fun a4 ea4 => ?_)
    have ha4 : RC K a4 := RC.up hR ea4 (lc_any _ (by omega))
    have ra4_22 : (a4 1 4).toInt = (a 1 4).toInt := by rw [ea4, mU_cell (by omega)]
    refine w_aload rfl rfl ?_
    refine c_getR (t := some 4) rfl rfl rfl rfl rfl ?_
    refine w_aload rfl rfl ?_
    refine c_getI rfl rfl rfl rfl ?_
    have q5 : 0 ≤ (a4 1 4).toInt ∧ (a4 1 4).toInt ≤ 1001 := ha4 1 4
    refine w_iload rfl rfl ?_
    refine c_iast rfl rfl (by omega) (fun a6 ea6 => ?_)
    have ha6 : RC K a6 := RC.up ha4 ea6 (lc_any _ (by omega))
    have ra6_31 : (a6 1 4).toInt = (a4 1 4).toInt := by rw [ea6, mU_cell (by omega)]
    refine w_aload rfl rfl ?_
    refine c_getR (t := some 5) rfl rfl rfl rfl rfl ?_
    refine w_aload rfl rfl ?_
    refine c_getI rfl rfl rfl rfl ?_
    have q7 : 0 ≤ (a6 1 4).toInt ∧ (a6 1 4).toInt ≤ 1001 := ha6 1 4
    refine w_lload rfl rfl ?_
    refine c_last rfl rfl (by omega) (fun b8 eb8 => ?_)
    refine w_aload rfl rfl ?_
    refine w_dup rfl rfl ?_
    refine c_getI rfl rfl rfl rfl ?_
    have q9 : 0 ≤ (a6 1 4).toInt ∧ (a6 1 4).toInt ≤ 1001 := ha6 1 4
    refine w_const rfl ?_
    first | refine w_iadd rfl (by omega) (fun x10 tx10 => ?_) | refine w_iiU rfl (fun x10 tx10 => ?_)
    refine c_putI (z := false) rfl rfl rfl rfl (by first | (intro h9; cases h9; done) | (intro _; first | exact Or.inl rfl | exact Or.inr rfl | assumption | (rcases (by omega : x10.toInt = 0 ∨ x10.toInt = 1) with h8 | h8; exact Or.inl (ti_eq h8); exact Or.inr (ti_eq h8)))) (fun a11 ea11 => ?_)
    have ha11 : RC K a11 := RC.up ha6 ea11 (show (0 : Int) ≤ _ ∧ _ ≤ (1001 : Int) from by omega)
    have ua11 : a11 1 4 = x10 := by rw [ea11, mU_same]
    have wa11 := congrArg Int32.toInt ua11
    exact w_ret rfl ⟨a11, b8, rfl, ha11, ⟨FR.up (FR.up (FR.up (FR.rf) (by first | decide | (simp; done) | exact cA_mem (by omega) | exact cB_mem (by omega) | exact cU_mem (by omega) | exact cM_mem (by omega)) ea4) (by first | decide | (simp; done) | exact cA_mem (by omega) | exact cB_mem (by omega) | exact cU_mem (by omega) | exact cM_mem (by omega)) ea6) (by first | decide | (simp; done) | exact cA_mem (by omega) | exact cB_mem (by omega) | exact cU_mem (by omega) | exact cM_mem (by omega)) ea11, KEP.mk ea4 ea6 eb8 ea11 (by omega)⟩, rfl⟩
set_option maxRecDepth 4000 in
theorem s_X8_isLetter_1 {K : Nat} (a : Nat → Nat → Int32) (b : Nat → Nat → Int64) (v : Nat → Option Nat) (i : Int32) (hR : RC K a) (hi : 0 ≤ i.toInt ∧ i.toInt < 1000) : f_call mtC 1 87 [.inr (.inr (some 1)), .inl i] (cH a b v) (fun v9 h' => h' = cH a b v ∧ ∃ x : Int32, v9 = some (.inl x) ∧ ((x.toInt = 1 ∧ lxL (a 2 i.toInt.toNat) = true) ∨ (x.toInt = 0 ∧ ¬ lxL (a 2 i.toInt.toNat) = true))) := by
  refine f_call_of (d0 := 0) rfl (Nat.le_of_ble_eq_true rfl) (fun d hd => ?_)
  show f_wp _ (0, [some (.inr (.inr (some 1))), some (.inl i)], [], cH a b v) _
  have l0 : (0 : Int32).toInt = 0 := rfl
  have l1 : (1 : Int32).toInt = 1 := rfl
  have l97 : (97 : Int32).toInt = 97 := rfl
  have l122 : (122 : Int32).toInt = 122 := rfl
  refine w_aload rfl rfl ?_
  refine c_getR (t := some 2) rfl rfl rfl rfl rfl ?_
  refine w_iload rfl rfl ?_
  refine c_cald rfl rfl (by omega) (fun x1 ex1 => ?_)
  have T1 := congrArg Int32.toInt ex1
  refine w_const rfl ?_
  refine w_ic_lt rfl (fun c2 => ?_) (fun c2 => ?_)
  · skip
    refine w_const rfl ?_
    exact wp_iret (z := true) rfl (fun _ => by first | exact Or.inl rfl | exact Or.inr rfl | (rcases (by omega : (0 : Int32).toInt = 0 ∨ (0 : Int32).toInt = 1) with h8 | h8; exact Or.inl (ti_eq h8); exact Or.inr (ti_eq h8))) ⟨rfl, ⟨_, rfl, by rw [lxL_iff]; omega⟩⟩
  · skip
    refine w_aload rfl rfl ?_
    refine c_getR (t := some 2) rfl rfl rfl rfl rfl ?_
    refine w_iload rfl rfl ?_
    refine c_cald rfl rfl (by omega) (fun x3 ex3 => ?_)
    have T2 := congrArg Int32.toInt ex3
    refine w_const rfl ?_
    refine w_ic_gt rfl (fun c4 => ?_) (fun c4 => ?_)
    · skip
      refine w_const rfl ?_
      exact wp_iret (z := true) rfl (fun _ => by first | exact Or.inl rfl | exact Or.inr rfl | (rcases (by omega : (0 : Int32).toInt = 0 ∨ (0 : Int32).toInt = 1) with h8 | h8; exact Or.inl (ti_eq h8); exact Or.inr (ti_eq h8))) ⟨rfl, ⟨_, rfl, by rw [lxL_iff]; omega⟩⟩
    · skip
      refine w_const rfl ?_
      refine w_goto rfl ?_
      exact wp_iret (z := true) rfl (fun _ => by first | exact Or.inl rfl | exact Or.inr rfl | (rcases (by omega : (1 : Int32).toInt = 0 ∨ (1 : Int32).toInt = 1) with h8 | h8; exact Or.inl (ti_eq h8); exact Or.inr (ti_eq h8))) ⟨rfl, ⟨_, rfl, by rw [lxL_iff]; omega⟩⟩
set_option maxRecDepth 4000 in
theorem s_X8_isDigit_1 {K : Nat} (a : Nat → Nat → Int32) (b : Nat → Nat → Int64) (v : Nat → Option Nat) (i : Int32) (hR : RC K a) (hi : 0 ≤ i.toInt ∧ i.toInt < 1000) : f_call mtC 1 88 [.inr (.inr (some 1)), .inl i] (cH a b v) (fun v9 h' => h' = cH a b v ∧ ∃ x : Int32, v9 = some (.inl x) ∧ ((x.toInt = 1 ∧ lxD (a 2 i.toInt.toNat) = true) ∨ (x.toInt = 0 ∧ ¬ lxD (a 2 i.toInt.toNat) = true))) := by
  refine f_call_of (d0 := 0) rfl (Nat.le_of_ble_eq_true rfl) (fun d hd => ?_)
  show f_wp _ (0, [some (.inr (.inr (some 1))), some (.inl i)], [], cH a b v) _
  have l0 : (0 : Int32).toInt = 0 := rfl
  have l1 : (1 : Int32).toInt = 1 := rfl
  have l48 : (48 : Int32).toInt = 48 := rfl
  have l57 : (57 : Int32).toInt = 57 := rfl
  refine w_aload rfl rfl ?_
  refine c_getR (t := some 2) rfl rfl rfl rfl rfl ?_
  refine w_iload rfl rfl ?_
  refine c_cald rfl rfl (by omega) (fun x1 ex1 => ?_)
  have T1 := congrArg Int32.toInt ex1
  refine w_const rfl ?_
  refine w_ic_lt rfl (fun c2 => ?_) (fun c2 => ?_)
  · skip
    refine w_const rfl ?_
    exact wp_iret (z := true) rfl (fun _ => by first | exact Or.inl rfl | exact Or.inr rfl | (rcases (by omega : (0 : Int32).toInt = 0 ∨ (0 : Int32).toInt = 1) with h8 | h8; exact Or.inl (ti_eq h8); exact Or.inr (ti_eq h8))) ⟨rfl, ⟨_, rfl, by rw [lxD_iff]; omega⟩⟩
  · skip
    refine w_aload rfl rfl ?_
    refine c_getR (t := some 2) rfl rfl rfl rfl rfl ?_
    refine w_iload rfl rfl ?_
    refine c_cald rfl rfl (by omega) (fun x3 ex3 => ?_)
    have T2 := congrArg Int32.toInt ex3
    refine w_const rfl ?_
    refine w_ic_gt rfl (fun c4 => ?_) (fun c4 => ?_)
    · skip
      refine w_const rfl ?_
      exact wp_iret (z := true) rfl (fun _ => by first | exact Or.inl rfl | exact Or.inr rfl | (rcases (by omega : (0 : Int32).toInt = 0 ∨ (0 : Int32).toInt = 1) with h8 | h8; exact Or.inl (ti_eq h8); exact Or.inr (ti_eq h8))) ⟨rfl, ⟨_, rfl, by rw [lxD_iff]; omega⟩⟩
    · skip
      refine w_const rfl ?_
      refine w_goto rfl ?_
      exact wp_iret (z := true) rfl (fun _ => by first | exact Or.inl rfl | exact Or.inr rfl | (rcases (by omega : (1 : Int32).toInt = 0 ∨ (1 : Int32).toInt = 1) with h8 | h8; exact Or.inl (ti_eq h8); exact Or.inr (ti_eq h8))) ⟨rfl, ⟨_, rfl, by rw [lxD_iff]; omega⟩⟩
set_option maxRecDepth 4000 in
theorem s_X11_keyWith_1 {K : Nat} (a : Nat → Nat → Int32) (b : Nat → Nat → Int64) (v : Nat → Option Nat) (k : Int64) (c : Int32) (hc : 97 ≤ c.toInt ∧ c.toInt ≤ 122) : f_call mtC 1 96 [.inr (.inl k), .inl c] (cH a b v) (fun v9 h' => h' = cH a b v ∧ ∃ x : Int64, v9 = some (.inr (.inl x)) ∧ x = fC k c) := by
  refine f_call_of (d0 := 0) rfl (Nat.le_of_ble_eq_true rfl) (fun d hd => ?_)
  show f_wp _ (0, [some (.inr (.inl k)), none, some (.inl c)], [], cH a b v) _
  have l1 : (1 : Int32).toInt = 1 := rfl
  have l97 : (97 : Int32).toInt = 97 := rfl
  refine w_lload rfl rfl ?_
  refine w_const rfl ?_
  refine w_llE rfl (fun y1 ty1 => ?_)
  have Y1 := ty1
  refine w_iload rfl rfl ?_
  refine w_const rfl ?_
  first | refine w_isub rfl (by omega) (fun x2 tx2 => ?_) | refine w_iiU rfl (fun x2 tx2 => ?_)
  refine w_const rfl ?_
  first | refine w_iadd rfl (by omega) (fun x3 tx3 => ?_) | refine w_iiU rfl (fun x3 tx3 => ?_)
  have R1 : x3.toInt = c.toInt - 96 := by omega
  refine w_i2lE rfl (fun y4 ty4 => ?_)
  have Y2 := ty4
  refine w_llE rfl (fun y5 ty5 => ?_)
  have Y3 := ty5
  exact w_lret rfl ⟨rfl, ⟨_, rfl, fC_step Y1 R1 Y2 Y3⟩⟩
set_option maxRecDepth 4000 in
theorem s_X8_cutWord_1 {K : Nat} (a : Nat → Nat → Int32) (b : Nat → Nat → Int64) (v : Nat → Option Nat) (i : Int32) (hR : RC K a) (hi : 0 ≤ i.toInt ∧ i.toInt < 1000) (hz : i.toInt < (a 1 6).toInt) (h4 : 0 ≤ (a 1 4).toInt ∧ (a 1 4).toInt ≤ 1000) (hL : lxL (a 2 i.toInt.toNat) = true) : f_call mtC 2 89 [.inr (.inr (some 1)), .inl i] (cH a b v) (fun v9 h' => ∃ (a' : Nat → Nat → Int32) (b' : Nat → Nat → Int64), h' = cH a' b' v ∧ RC K a' ∧ (FR [1, 3, 4] a a' ∧ True) ∧ ∃ x : Int32, v9 = some (.inl x) ∧ CT (a 2) (a 1 6).toInt.toNat i.toInt.toNat a a' b b' x.toInt) := by
  refine f_call_of (d0 := 1) rfl (Nat.le_of_ble_eq_true rfl) (fun d hd => ?_)
  show f_wp _ (0, [some (.inr (.inr (some 1))), some (.inl i), none, none, none], [], cH a b v) _
  have l1 : (1 : Int32).toInt = 1 := rfl
  have l2 : (2 : Int32).toInt = 2 := rfl
  have l8 : (8 : Int32).toInt = 8 := rfl
  have z6 : 0 ≤ (a 1 6).toInt ∧ (a 1 6).toInt ≤ 1000 := hR 1 6
  have ck1 : ckd 1 = 2 := rfl
  have ck2 : ckd 2 = 3 := rfl
  have ck3 : ckd 3 = 4 := rfl
  have ck4 : ckd 4 = 1 := rfl
  refine w_const rfl ?_
  refine w_lstore (lo' := [some (.inr (.inr (some 1))), some (.inl i), some (.inr (.inl 0)), none, none]) rfl rfl ?_
  refine w_iload rfl rfl ?_
  refine w_istore (lo' := [some (.inr (.inr (some 1))), some (.inl i), some (.inr (.inl 0)), none, some (.inl i)]) rfl rfl ?_
  have loop5 : ∀ (ms9 : Nat) (k : Int64) (m : Int32) , (1000 - m.toInt).toNat = ms9 → (i.toInt ≤ m.toInt ∧ m.toInt ≤ (a 1 6).toInt) → (lxq lxL (a 2) (a 1 6).toInt.toNat i.toInt.toNat = lxq lxL (a 2) (a 1 6).toInt.toNat m.toInt.toNat) → (k = lxv fC (a 2) (m.toInt - i.toInt).toNat i.toInt.toNat 0) → f_wp (f_code (t_X8_cutWord (f_ev mtC d))) (5, [some (.inr (.inr (some 1))), some (.inl i), some (.inr (.inl k)), none, some (.inl m)], [], cH a b v) (fun v9 h' => ∃ (a' : Nat → Nat → Int32) (b' : Nat → Nat → Int64), h' = cH a' b' v ∧ RC K a' ∧ (FR [1, 3, 4] a a' ∧ True) ∧ ∃ x : Int32, v9 = some (.inl x) ∧ CT (a 2) (a 1 6).toInt.toNat i.toInt.toNat a a' b b' x.toInt) := by
    intro ms9
    induction ms9 using Nat.strongRecOn with
    | _ ms5 ih5 =>
      intro k m  hm5 hm hq hk
      refine w_iload rfl rfl ?_
      refine w_aload rfl rfl ?_
      refine c_getI rfl rfl rfl rfl ?_
      have q1 : 0 ≤ (a 1 6).toInt ∧ (a 1 6).toInt ≤ 1000 := hR 1 6
      refine w_ic_ge rfl (fun c2 => ?_) (fun c2 => ?_)
      · skip
        refine w_aload rfl rfl ?_
        refine w_iload rfl rfl ?_
        refine w_iload rfl rfl ?_
        first | refine w_isub rfl (by omega) (fun x3 tx3 => ?_) | refine w_iiU rfl (fun x3 tx3 => ?_)
        refine w_const rfl ?_
        refine w_ic_gt rfl (fun c4 => ?_) (fun c4 => ?_)
        · skip
          refine w_const rfl ?_
          refine w_iload rfl rfl ?_
          refine w_lload rfl rfl ?_
          refine w_invV (rest := []) rfl rfl rfl rfl rfl (Nat.le_of_ble_eq_true rfl) rfl (by omega) (s_X8_keep_1 (K := K) a b v  1 i k hR  (by omega)) (fun z5 h9 hq6 => ?_)
          obtain ⟨a7, b8, rfl, ha7, fa7, rfl⟩ := hq6
          show f_wp _ (61, [some (.inr (.inr (some 1))), some (.inl i), some (.inr (.inl k)), none, some (.inl m)], [], cH a7 b8 v) _
          refine w_iload rfl rfl ?_
          exact wp_iret (z := false) rfl (fun h9 => by cases h9) ⟨a7, b8, rfl, ha7, ⟨FR.tr (FR.rf) (FR.sub fa7.1 (by first | exact (fun _ h9 => h9) | decide | (intro c9 h9; simp only [List.mem_cons, List.not_mem_nil, or_false] at h9 ⊢; omega) | (intro c9 h9; simp only [List.mem_cons, List.not_mem_nil, or_false] at h9; exact cA_mem (by omega)) | (intro c9 h9; simp only [List.mem_cons, List.not_mem_nil, or_false] at h9; exact cB_mem (by omega)) | (intro c9 h9; simp only [List.mem_cons, List.not_mem_nil, or_false] at h9; exact cU_mem (by omega)) | (intro c9 h9; simp only [List.mem_cons, List.not_mem_nil, or_false] at h9; exact cM_mem (by omega)) | exact cA_sub)), trivial⟩, ⟨_, rfl, ⟨by rw [(lx_let hL hq (by first | exact Or.inl (by omega) | exact Or.inr (by first | exact P8 | omega)))]; omega, _, _, _, fa7.2, (by rw [lxT_let hL, (lx_let hL hq (by first | exact Or.inl (by omega) | exact Or.inr (by first | exact P8 | omega)))]; split <;> omega), by omega, fun h9 => by rw [lxU_let hL, (lx_let hL hq (by first | exact Or.inl (by omega) | exact Or.inr (by first | exact P8 | omega))), show m.toInt.toNat - i.toInt.toNat = (m.toInt - i.toInt).toNat from by omega]; exact hk⟩⟩⟩
        · skip
          refine w_const rfl ?_
          refine w_goto rfl ?_
          refine w_iload rfl rfl ?_
          refine w_lload rfl rfl ?_
          refine w_invV (rest := []) rfl rfl rfl rfl rfl (Nat.le_of_ble_eq_true rfl) rfl (by omega) (s_X8_keep_1 (K := K) a b v  2 i k hR  (by omega)) (fun z9 h9 hq10 => ?_)
          obtain ⟨a11, b12, rfl, ha11, fa11, rfl⟩ := hq10
          show f_wp _ (61, [some (.inr (.inr (some 1))), some (.inl i), some (.inr (.inl k)), none, some (.inl m)], [], cH a11 b12 v) _
          refine w_iload rfl rfl ?_
          exact wp_iret (z := false) rfl (fun h9 => by cases h9) ⟨a11, b12, rfl, ha11, ⟨FR.tr (FR.rf) (FR.sub fa11.1 (by first | exact (fun _ h9 => h9) | decide | (intro c9 h9; simp only [List.mem_cons, List.not_mem_nil, or_false] at h9 ⊢; omega) | (intro c9 h9; simp only [List.mem_cons, List.not_mem_nil, or_false] at h9; exact cA_mem (by omega)) | (intro c9 h9; simp only [List.mem_cons, List.not_mem_nil, or_false] at h9; exact cB_mem (by omega)) | (intro c9 h9; simp only [List.mem_cons, List.not_mem_nil, or_false] at h9; exact cU_mem (by omega)) | (intro c9 h9; simp only [List.mem_cons, List.not_mem_nil, or_false] at h9; exact cM_mem (by omega)) | exact cA_sub)), trivial⟩, ⟨_, rfl, ⟨by rw [(lx_let hL hq (by first | exact Or.inl (by omega) | exact Or.inr (by first | exact P8 | omega)))]; omega, _, _, _, fa11.2, (by rw [lxT_let hL, (lx_let hL hq (by first | exact Or.inl (by omega) | exact Or.inr (by first | exact P8 | omega)))]; split <;> omega), by omega, fun h9 => by rw [lxU_let hL, (lx_let hL hq (by first | exact Or.inl (by omega) | exact Or.inr (by first | exact P8 | omega))), show m.toInt.toNat - i.toInt.toNat = (m.toInt - i.toInt).toNat from by omega]; exact hk⟩⟩⟩
      · skip
        refine w_aload rfl rfl ?_
        refine w_iload rfl rfl ?_
        refine w_invV (rest := []) rfl rfl rfl rfl rfl (Nat.le_of_ble_eq_true rfl) rfl (by omega) (s_X8_isLetter_1 (K := K) a b v  m hR  (by omega)) (fun z13 h9 hq14 => ?_)
        obtain ⟨rfl, x15, rfl, px15⟩ := hq14
        show f_wp _ (20, [some (.inr (.inr (some 1))), some (.inl i), some (.inr (.inl k)), none, some (.inl m)], [.inl x15], cH a b v) _
        have P7 := px15
        refine w_if_eq rfl (fun c16 => ?_) (fun c16 => ?_)
        · skip
          have P8 : ¬ lxL (a 2 m.toInt.toNat) = true := by rcases P7 with h9 | h9; omega; exact h9.2
          refine w_aload rfl rfl ?_
          refine w_iload rfl rfl ?_
          refine w_iload rfl rfl ?_
          first | refine w_isub rfl (by omega) (fun x17 tx17 => ?_) | refine w_iiU rfl (fun x17 tx17 => ?_)
          refine w_const rfl ?_
          refine w_ic_gt rfl (fun c18 => ?_) (fun c18 => ?_)
          · skip
            refine w_const rfl ?_
            refine w_iload rfl rfl ?_
            refine w_lload rfl rfl ?_
            refine w_invV (rest := []) rfl rfl rfl rfl rfl (Nat.le_of_ble_eq_true rfl) rfl (by omega) (s_X8_keep_1 (K := K) a b v  1 i k hR  (by omega)) (fun z19 h9 hq20 => ?_)
            obtain ⟨a21, b22, rfl, ha21, fa21, rfl⟩ := hq20
            show f_wp _ (61, [some (.inr (.inr (some 1))), some (.inl i), some (.inr (.inl k)), none, some (.inl m)], [], cH a21 b22 v) _
            refine w_iload rfl rfl ?_
            exact wp_iret (z := false) rfl (fun h9 => by cases h9) ⟨a21, b22, rfl, ha21, ⟨FR.tr (FR.rf) (FR.sub fa21.1 (by first | exact (fun _ h9 => h9) | decide | (intro c9 h9; simp only [List.mem_cons, List.not_mem_nil, or_false] at h9 ⊢; omega) | (intro c9 h9; simp only [List.mem_cons, List.not_mem_nil, or_false] at h9; exact cA_mem (by omega)) | (intro c9 h9; simp only [List.mem_cons, List.not_mem_nil, or_false] at h9; exact cB_mem (by omega)) | (intro c9 h9; simp only [List.mem_cons, List.not_mem_nil, or_false] at h9; exact cU_mem (by omega)) | (intro c9 h9; simp only [List.mem_cons, List.not_mem_nil, or_false] at h9; exact cM_mem (by omega)) | exact cA_sub)), trivial⟩, ⟨_, rfl, ⟨by rw [(lx_let hL hq (by first | exact Or.inl (by omega) | exact Or.inr (by first | exact P8 | omega)))]; omega, _, _, _, fa21.2, (by rw [lxT_let hL, (lx_let hL hq (by first | exact Or.inl (by omega) | exact Or.inr (by first | exact P8 | omega)))]; split <;> omega), by omega, fun h9 => by rw [lxU_let hL, (lx_let hL hq (by first | exact Or.inl (by omega) | exact Or.inr (by first | exact P8 | omega))), show m.toInt.toNat - i.toInt.toNat = (m.toInt - i.toInt).toNat from by omega]; exact hk⟩⟩⟩
          · skip
            refine w_const rfl ?_
            refine w_goto rfl ?_
            refine w_iload rfl rfl ?_
            refine w_lload rfl rfl ?_
            refine w_invV (rest := []) rfl rfl rfl rfl rfl (Nat.le_of_ble_eq_true rfl) rfl (by omega) (s_X8_keep_1 (K := K) a b v  2 i k hR  (by omega)) (fun z23 h9 hq24 => ?_)
            obtain ⟨a25, b26, rfl, ha25, fa25, rfl⟩ := hq24
            show f_wp _ (61, [some (.inr (.inr (some 1))), some (.inl i), some (.inr (.inl k)), none, some (.inl m)], [], cH a25 b26 v) _
            refine w_iload rfl rfl ?_
            exact wp_iret (z := false) rfl (fun h9 => by cases h9) ⟨a25, b26, rfl, ha25, ⟨FR.tr (FR.rf) (FR.sub fa25.1 (by first | exact (fun _ h9 => h9) | decide | (intro c9 h9; simp only [List.mem_cons, List.not_mem_nil, or_false] at h9 ⊢; omega) | (intro c9 h9; simp only [List.mem_cons, List.not_mem_nil, or_false] at h9; exact cA_mem (by omega)) | (intro c9 h9; simp only [List.mem_cons, List.not_mem_nil, or_false] at h9; exact cB_mem (by omega)) | (intro c9 h9; simp only [List.mem_cons, List.not_mem_nil, or_false] at h9; exact cU_mem (by omega)) | (intro c9 h9; simp only [List.mem_cons, List.not_mem_nil, or_false] at h9; exact cM_mem (by omega)) | exact cA_sub)), trivial⟩, ⟨_, rfl, ⟨by rw [(lx_let hL hq (by first | exact Or.inl (by omega) | exact Or.inr (by first | exact P8 | omega)))]; omega, _, _, _, fa25.2, (by rw [lxT_let hL, (lx_let hL hq (by first | exact Or.inl (by omega) | exact Or.inr (by first | exact P8 | omega)))]; split <;> omega), by omega, fun h9 => by rw [lxU_let hL, (lx_let hL hq (by first | exact Or.inl (by omega) | exact Or.inr (by first | exact P8 | omega))), show m.toInt.toNat - i.toInt.toNat = (m.toInt - i.toInt).toNat from by omega]; exact hk⟩⟩⟩
        · skip
          have P8 : lxL (a 2 m.toInt.toNat) = true := by rcases P7 with h9 | h9; exact h9.2; omega
          have P9 := lxL_iff.mp P8
          refine w_lload rfl rfl ?_
          refine w_aload rfl rfl ?_
          refine c_getR (t := some 2) rfl rfl rfl rfl rfl ?_
          refine w_iload rfl rfl ?_
          refine c_cald rfl rfl (by omega) (fun x27 ex27 => ?_)
          have T1 := ex27
          have T1i := congrArg Int32.toInt T1
          refine w_invS (rest := []) rfl (Nat.le_of_ble_eq_true rfl) rfl (Nat.le_of_ble_eq_true rfl) rfl (by omega) (s_X11_keyWith_1 (K := K) a b v  k x27   (by omega)) (fun z28 h9 hq29 => ?_)
          obtain ⟨rfl, y30, rfl, py30⟩ := hq29
          show f_wp _ (34, [some (.inr (.inr (some 1))), some (.inl i), some (.inr (.inl k)), none, some (.inl m)], [.inr (.inl y30)], cH a b v) _
          have Q1 := py30
          refine w_lstore (lo' := [some (.inr (.inr (some 1))), some (.inl i), some (.inr (.inl y30)), none, some (.inl m)]) rfl rfl ?_
          refine w_iinc (lo' := fun z9 => [some (.inr (.inr (some 1))), some (.inl i), some (.inr (.inl y30)), none, some (.inl z9)]) rfl rfl (fun _ => rfl) (by omega) (fun x31 tx31 => ?_)
          refine w_goto rfl ?_
          exact ih5 (1000 - x31.toInt).toNat (by omega) y30 x31 rfl  (by omega) (hq.trans (lxq_next (by omega) P8 (by omega))) (by rw [show (x31.toInt - i.toInt).toNat = (m.toInt - i.toInt).toNat + 1 from by omega, lxv_succ, ← hk, show i.toInt.toNat + (m.toInt - i.toInt).toNat = m.toInt.toNat from by omega, ← T1]; exact Q1)
  exact loop5 _ 0 i rfl  (by omega) (rfl) (by rw [show (i.toInt - i.toInt).toNat = 0 from by omega]; rfl)
set_option maxRecDepth 4000 in
theorem s_X8_cutNumber_1 {K : Nat} (a : Nat → Nat → Int32) (b : Nat → Nat → Int64) (v : Nat → Option Nat) (i : Int32) (hR : RC K a) (hi : 0 ≤ i.toInt ∧ i.toInt < 1000) (hz : i.toInt < (a 1 6).toInt) (h4 : 0 ≤ (a 1 4).toInt ∧ (a 1 4).toInt ≤ 1000) (hL : ¬ lxL (a 2 i.toInt.toNat) = true) (hD : lxD (a 2 i.toInt.toNat) = true) : f_call mtC 2 90 [.inr (.inr (some 1)), .inl i] (cH a b v) (fun v9 h' => ∃ (a' : Nat → Nat → Int32) (b' : Nat → Nat → Int64), h' = cH a' b' v ∧ RC K a' ∧ (FR [1, 3, 4] a a' ∧ True) ∧ ∃ x : Int32, v9 = some (.inl x) ∧ CT (a 2) (a 1 6).toInt.toNat i.toInt.toNat a a' b b' x.toInt) := by
  refine f_call_of (d0 := 1) rfl (Nat.le_of_ble_eq_true rfl) (fun d hd => ?_)
  show f_wp _ (0, [some (.inr (.inr (some 1))), some (.inl i), none, none, none], [], cH a b v) _
  have l1 : (1 : Int32).toInt = 1 := rfl
  have l3 : (3 : Int32).toInt = 3 := rfl
  have l4 : (4 : Int32).toInt = 4 := rfl
  have l48 : (48 : Int32).toInt = 48 := rfl
  have z6 : 0 ≤ (a 1 6).toInt ∧ (a 1 6).toInt ≤ 1000 := hR 1 6
  have ck1 : ckd 1 = 2 := rfl
  have ck2 : ckd 2 = 3 := rfl
  have ck3 : ckd 3 = 4 := rfl
  have ck4 : ckd 4 = 1 := rfl
  refine w_const rfl ?_
  refine w_lstore (lo' := [some (.inr (.inr (some 1))), some (.inl i), some (.inr (.inl 0)), none, none]) rfl rfl ?_
  refine w_iload rfl rfl ?_
  refine w_istore (lo' := [some (.inr (.inr (some 1))), some (.inl i), some (.inr (.inl 0)), none, some (.inl i)]) rfl rfl ?_
  have loop5 : ∀ (ms9 : Nat) (k : Int64) (m : Int32) , (1000 - m.toInt).toNat = ms9 → (i.toInt ≤ m.toInt ∧ m.toInt ≤ (a 1 6).toInt) → (lxq lxD (a 2) (a 1 6).toInt.toNat i.toInt.toNat = lxq lxD (a 2) (a 1 6).toInt.toNat m.toInt.toNat) → (k = lxv fD (a 2) (m.toInt - i.toInt).toNat i.toInt.toNat 0) → f_wp (f_code (t_X8_cutNumber (f_ev mtC d))) (5, [some (.inr (.inr (some 1))), some (.inl i), some (.inr (.inl k)), none, some (.inl m)], [], cH a b v) (fun v9 h' => ∃ (a' : Nat → Nat → Int32) (b' : Nat → Nat → Int64), h' = cH a' b' v ∧ RC K a' ∧ (FR [1, 3, 4] a a' ∧ True) ∧ ∃ x : Int32, v9 = some (.inl x) ∧ CT (a 2) (a 1 6).toInt.toNat i.toInt.toNat a a' b b' x.toInt) := by
    intro ms9
    induction ms9 using Nat.strongRecOn with
    | _ ms5 ih5 =>
      intro k m  hm5 hm hq hk
      refine w_iload rfl rfl ?_
      refine w_aload rfl rfl ?_
      refine c_getI rfl rfl rfl rfl ?_
      have q1 : 0 ≤ (a 1 6).toInt ∧ (a 1 6).toInt ≤ 1000 := hR 1 6
      refine w_ic_ge rfl (fun c2 => ?_) (fun c2 => ?_)
      · skip
        refine w_aload rfl rfl ?_
        refine w_iload rfl rfl ?_
        refine w_iload rfl rfl ?_
        first | refine w_isub rfl (by omega) (fun x3 tx3 => ?_) | refine w_iiU rfl (fun x3 tx3 => ?_)
        refine w_const rfl ?_
        refine w_ic_gt rfl (fun c4 => ?_) (fun c4 => ?_)
        · skip
          refine w_const rfl ?_
          refine w_iload rfl rfl ?_
          refine w_lload rfl rfl ?_
          refine w_invV (rest := []) rfl rfl rfl rfl rfl (Nat.le_of_ble_eq_true rfl) rfl (by omega) (s_X8_keep_1 (K := K) a b v  1 i k hR  (by omega)) (fun z5 h9 hq6 => ?_)
          obtain ⟨a7, b8, rfl, ha7, fa7, rfl⟩ := hq6
          show f_wp _ (66, [some (.inr (.inr (some 1))), some (.inl i), some (.inr (.inl k)), none, some (.inl m)], [], cH a7 b8 v) _
          refine w_iload rfl rfl ?_
          exact wp_iret (z := false) rfl (fun h9 => by cases h9) ⟨a7, b8, rfl, ha7, ⟨FR.tr (FR.rf) (FR.sub fa7.1 (by first | exact (fun _ h9 => h9) | decide | (intro c9 h9; simp only [List.mem_cons, List.not_mem_nil, or_false] at h9 ⊢; omega) | (intro c9 h9; simp only [List.mem_cons, List.not_mem_nil, or_false] at h9; exact cA_mem (by omega)) | (intro c9 h9; simp only [List.mem_cons, List.not_mem_nil, or_false] at h9; exact cB_mem (by omega)) | (intro c9 h9; simp only [List.mem_cons, List.not_mem_nil, or_false] at h9; exact cU_mem (by omega)) | (intro c9 h9; simp only [List.mem_cons, List.not_mem_nil, or_false] at h9; exact cM_mem (by omega)) | exact cA_sub)), trivial⟩, ⟨_, rfl, ⟨by rw [(lx_dig hL hD hq (by first | exact Or.inl (by omega) | exact Or.inr (by first | exact P8 | omega)))]; omega, _, _, _, fa7.2, (by rw [lxT_dig hL hD, (lx_dig hL hD hq (by first | exact Or.inl (by omega) | exact Or.inr (by first | exact P8 | omega)))]; split <;> omega), by omega, fun h9 => by rw [lxU_dig hL hD, (lx_dig hL hD hq (by first | exact Or.inl (by omega) | exact Or.inr (by first | exact P8 | omega))), show m.toInt.toNat - i.toInt.toNat = (m.toInt - i.toInt).toNat from by omega]; exact hk⟩⟩⟩
        · skip
          refine w_const rfl ?_
          refine w_goto rfl ?_
          refine w_iload rfl rfl ?_
          refine w_lload rfl rfl ?_
          refine w_invV (rest := []) rfl rfl rfl rfl rfl (Nat.le_of_ble_eq_true rfl) rfl (by omega) (s_X8_keep_1 (K := K) a b v  3 i k hR  (by omega)) (fun z9 h9 hq10 => ?_)
          obtain ⟨a11, b12, rfl, ha11, fa11, rfl⟩ := hq10
          show f_wp _ (66, [some (.inr (.inr (some 1))), some (.inl i), some (.inr (.inl k)), none, some (.inl m)], [], cH a11 b12 v) _
          refine w_iload rfl rfl ?_
          exact wp_iret (z := false) rfl (fun h9 => by cases h9) ⟨a11, b12, rfl, ha11, ⟨FR.tr (FR.rf) (FR.sub fa11.1 (by first | exact (fun _ h9 => h9) | decide | (intro c9 h9; simp only [List.mem_cons, List.not_mem_nil, or_false] at h9 ⊢; omega) | (intro c9 h9; simp only [List.mem_cons, List.not_mem_nil, or_false] at h9; exact cA_mem (by omega)) | (intro c9 h9; simp only [List.mem_cons, List.not_mem_nil, or_false] at h9; exact cB_mem (by omega)) | (intro c9 h9; simp only [List.mem_cons, List.not_mem_nil, or_false] at h9; exact cU_mem (by omega)) | (intro c9 h9; simp only [List.mem_cons, List.not_mem_nil, or_false] at h9; exact cM_mem (by omega)) | exact cA_sub)), trivial⟩, ⟨_, rfl, ⟨by rw [(lx_dig hL hD hq (by first | exact Or.inl (by omega) | exact Or.inr (by first | exact P8 | omega)))]; omega, _, _, _, fa11.2, (by rw [lxT_dig hL hD, (lx_dig hL hD hq (by first | exact Or.inl (by omega) | exact Or.inr (by first | exact P8 | omega)))]; split <;> omega), by omega, fun h9 => by rw [lxU_dig hL hD, (lx_dig hL hD hq (by first | exact Or.inl (by omega) | exact Or.inr (by first | exact P8 | omega))), show m.toInt.toNat - i.toInt.toNat = (m.toInt - i.toInt).toNat from by omega]; exact hk⟩⟩⟩
      · skip
        refine w_aload rfl rfl ?_
        refine w_iload rfl rfl ?_
        refine w_invV (rest := []) rfl rfl rfl rfl rfl (Nat.le_of_ble_eq_true rfl) rfl (by omega) (s_X8_isDigit_1 (K := K) a b v  m hR  (by omega)) (fun z13 h9 hq14 => ?_)
        obtain ⟨rfl, x15, rfl, px15⟩ := hq14
        show f_wp _ (20, [some (.inr (.inr (some 1))), some (.inl i), some (.inr (.inl k)), none, some (.inl m)], [.inl x15], cH a b v) _
        have P7 := px15
        refine w_if_eq rfl (fun c16 => ?_) (fun c16 => ?_)
        · skip
          have P8 : ¬ lxD (a 2 m.toInt.toNat) = true := by rcases P7 with h9 | h9; omega; exact h9.2
          refine w_aload rfl rfl ?_
          refine w_iload rfl rfl ?_
          refine w_iload rfl rfl ?_
          first | refine w_isub rfl (by omega) (fun x17 tx17 => ?_) | refine w_iiU rfl (fun x17 tx17 => ?_)
          refine w_const rfl ?_
          refine w_ic_gt rfl (fun c18 => ?_) (fun c18 => ?_)
          · skip
            refine w_const rfl ?_
            refine w_iload rfl rfl ?_
            refine w_lload rfl rfl ?_
            refine w_invV (rest := []) rfl rfl rfl rfl rfl (Nat.le_of_ble_eq_true rfl) rfl (by omega) (s_X8_keep_1 (K := K) a b v  1 i k hR  (by omega)) (fun z19 h9 hq20 => ?_)
            obtain ⟨a21, b22, rfl, ha21, fa21, rfl⟩ := hq20
            show f_wp _ (66, [some (.inr (.inr (some 1))), some (.inl i), some (.inr (.inl k)), none, some (.inl m)], [], cH a21 b22 v) _
            refine w_iload rfl rfl ?_
            exact wp_iret (z := false) rfl (fun h9 => by cases h9) ⟨a21, b22, rfl, ha21, ⟨FR.tr (FR.rf) (FR.sub fa21.1 (by first | exact (fun _ h9 => h9) | decide | (intro c9 h9; simp only [List.mem_cons, List.not_mem_nil, or_false] at h9 ⊢; omega) | (intro c9 h9; simp only [List.mem_cons, List.not_mem_nil, or_false] at h9; exact cA_mem (by omega)) | (intro c9 h9; simp only [List.mem_cons, List.not_mem_nil, or_false] at h9; exact cB_mem (by omega)) | (intro c9 h9; simp only [List.mem_cons, List.not_mem_nil, or_false] at h9; exact cU_mem (by omega)) | (intro c9 h9; simp only [List.mem_cons, List.not_mem_nil, or_false] at h9; exact cM_mem (by omega)) | exact cA_sub)), trivial⟩, ⟨_, rfl, ⟨by rw [(lx_dig hL hD hq (by first | exact Or.inl (by omega) | exact Or.inr (by first | exact P8 | omega)))]; omega, _, _, _, fa21.2, (by rw [lxT_dig hL hD, (lx_dig hL hD hq (by first | exact Or.inl (by omega) | exact Or.inr (by first | exact P8 | omega)))]; split <;> omega), by omega, fun h9 => by rw [lxU_dig hL hD, (lx_dig hL hD hq (by first | exact Or.inl (by omega) | exact Or.inr (by first | exact P8 | omega))), show m.toInt.toNat - i.toInt.toNat = (m.toInt - i.toInt).toNat from by omega]; exact hk⟩⟩⟩
          · skip
            refine w_const rfl ?_
            refine w_goto rfl ?_
            refine w_iload rfl rfl ?_
            refine w_lload rfl rfl ?_
            refine w_invV (rest := []) rfl rfl rfl rfl rfl (Nat.le_of_ble_eq_true rfl) rfl (by omega) (s_X8_keep_1 (K := K) a b v  3 i k hR  (by omega)) (fun z23 h9 hq24 => ?_)
            obtain ⟨a25, b26, rfl, ha25, fa25, rfl⟩ := hq24
            show f_wp _ (66, [some (.inr (.inr (some 1))), some (.inl i), some (.inr (.inl k)), none, some (.inl m)], [], cH a25 b26 v) _
            refine w_iload rfl rfl ?_
            exact wp_iret (z := false) rfl (fun h9 => by cases h9) ⟨a25, b26, rfl, ha25, ⟨FR.tr (FR.rf) (FR.sub fa25.1 (by first | exact (fun _ h9 => h9) | decide | (intro c9 h9; simp only [List.mem_cons, List.not_mem_nil, or_false] at h9 ⊢; omega) | (intro c9 h9; simp only [List.mem_cons, List.not_mem_nil, or_false] at h9; exact cA_mem (by omega)) | (intro c9 h9; simp only [List.mem_cons, List.not_mem_nil, or_false] at h9; exact cB_mem (by omega)) | (intro c9 h9; simp only [List.mem_cons, List.not_mem_nil, or_false] at h9; exact cU_mem (by omega)) | (intro c9 h9; simp only [List.mem_cons, List.not_mem_nil, or_false] at h9; exact cM_mem (by omega)) | exact cA_sub)), trivial⟩, ⟨_, rfl, ⟨by rw [(lx_dig hL hD hq (by first | exact Or.inl (by omega) | exact Or.inr (by first | exact P8 | omega)))]; omega, _, _, _, fa25.2, (by rw [lxT_dig hL hD, (lx_dig hL hD hq (by first | exact Or.inl (by omega) | exact Or.inr (by first | exact P8 | omega)))]; split <;> omega), by omega, fun h9 => by rw [lxU_dig hL hD, (lx_dig hL hD hq (by first | exact Or.inl (by omega) | exact Or.inr (by first | exact P8 | omega))), show m.toInt.toNat - i.toInt.toNat = (m.toInt - i.toInt).toNat from by omega]; exact hk⟩⟩⟩
        · skip
          have P8 : lxD (a 2 m.toInt.toNat) = true := by rcases P7 with h9 | h9; exact h9.2; omega
          have P9 := lxD_iff.mp P8
          refine w_lload rfl rfl ?_
          refine w_const rfl ?_
          refine w_llE rfl (fun y27 ty27 => ?_)
          have Y1 := ty27
          refine w_aload rfl rfl ?_
          refine c_getR (t := some 2) rfl rfl rfl rfl rfl ?_
          refine w_iload rfl rfl ?_
          refine c_cald rfl rfl (by omega) (fun x28 ex28 => ?_)
          have T1 := ex28
          have T1i := congrArg Int32.toInt T1
          refine w_const rfl ?_
          first | refine w_isub rfl (by omega) (fun x29 tx29 => ?_) | refine w_iiU rfl (fun x29 tx29 => ?_)
          have R1 : x29.toInt = (a 2 m.toInt.toNat).toInt - 48 := by omega
          refine w_i2lE rfl (fun y30 ty30 => ?_)
          have Y2 := ty30
          refine w_llE rfl (fun y31 ty31 => ?_)
          have Y3 := ty31
          refine w_lstore (lo' := [some (.inr (.inr (some 1))), some (.inl i), some (.inr (.inl y31)), none, some (.inl m)]) rfl rfl ?_
          refine w_iinc (lo' := fun z9 => [some (.inr (.inr (some 1))), some (.inl i), some (.inr (.inl y31)), none, some (.inl z9)]) rfl rfl (fun _ => rfl) (by omega) (fun x32 tx32 => ?_)
          refine w_goto rfl ?_
          exact ih5 (1000 - x32.toInt).toNat (by omega) y31 x32 rfl  (by omega) (hq.trans (lxq_next (by omega) P8 (by omega))) (by rw [show (x32.toInt - i.toInt).toNat = (m.toInt - i.toInt).toNat + 1 from by omega, lxv_succ, ← hk, show i.toInt.toNat + (m.toInt - i.toInt).toNat = m.toInt.toNat from by omega]; exact fE_step Y1 R1 Y2 Y3)
  exact loop5 _ 0 i rfl  (by omega) (rfl) (by rw [show (i.toInt - i.toInt).toNat = 0 from by omega]; rfl)
set_option maxRecDepth 4000 in
theorem s_X8_cut_1 {K : Nat} (a : Nat → Nat → Int32) (b : Nat → Nat → Int64) (v : Nat → Option Nat) (i : Int32) (hR : RC K a) (hi : 0 ≤ i.toInt ∧ i.toInt < 1000) (hz : i.toInt < (a 1 6).toInt) (h4 : 0 ≤ (a 1 4).toInt ∧ (a 1 4).toInt ≤ 1000) (hf : 0 ≤ (a 2 i.toInt.toNat).toInt ∧ (a 2 i.toInt.toNat).toInt ≤ 127) : f_call mtC 5 86 [.inr (.inr (some 1)), .inl i] (cH a b v) (fun v9 h' => ∃ (a' : Nat → Nat → Int32) (b' : Nat → Nat → Int64), h' = cH a' b' v ∧ RC K a' ∧ (FR [1, 3, 4] a a' ∧ True) ∧ ∃ x : Int32, v9 = some (.inl x) ∧ CT (a 2) (a 1 6).toInt.toNat i.toInt.toNat a a' b b' x.toInt) := by
  refine f_call_of (d0 := 4) rfl (Nat.le_of_ble_eq_true rfl) (fun d hd => ?_)
  show f_wp _ (0, [some (.inr (.inr (some 1))), some (.inl i)], [], cH a b v) _
  have l1 : (1 : Int32).toInt = 1 := rfl
  have l4 : (4 : Int32).toInt = 4 := rfl
  have z6 : 0 ≤ (a 1 6).toInt ∧ (a 1 6).toInt ≤ 1000 := hR 1 6
  have ck1 : ckd 1 = 2 := rfl
  have ck2 : ckd 2 = 3 := rfl
  have ck3 : ckd 3 = 4 := rfl
  have ck4 : ckd 4 = 1 := rfl
  refine w_aload rfl rfl ?_
  refine w_iload rfl rfl ?_
  refine w_invV (rest := []) rfl rfl rfl rfl rfl (Nat.le_of_ble_eq_true rfl) rfl (by omega) (s_X8_isLetter_1 (K := K) a b v  i hR  (by omega)) (fun z1 h9 hq2 => ?_)
  obtain ⟨rfl, x3, rfl, px3⟩ := hq2
  show f_wp _ (5, [some (.inr (.inr (some 1))), some (.inl i)], [.inl x3], cH a b v) _
  have P6 := px3
  refine w_if_eq rfl (fun c4 => ?_) (fun c4 => ?_)
  · skip
    have HL : ¬ lxL (a 2 i.toInt.toNat) = true := by rcases P6 with h9 | h9; omega; exact h9.2
    refine w_aload rfl rfl ?_
    refine w_iload rfl rfl ?_
    refine w_invV (rest := []) rfl rfl rfl rfl rfl (Nat.le_of_ble_eq_true rfl) rfl (by omega) (s_X8_isDigit_1 (K := K) a b v  i hR  (by omega)) (fun z5 h9 hq6 => ?_)
    obtain ⟨rfl, x7, rfl, px7⟩ := hq6
    show f_wp _ (19, [some (.inr (.inr (some 1))), some (.inl i)], [.inl x7], cH a b v) _
    have P7 := px7
    refine w_if_eq rfl (fun c8 => ?_) (fun c8 => ?_)
    · skip
      have HD : ¬ lxD (a 2 i.toInt.toNat) = true := by rcases P7 with h9 | h9; omega; exact h9.2
      refine w_aload rfl rfl ?_
      refine w_const rfl ?_
      refine w_aload rfl rfl ?_
      refine c_getR (t := some 2) rfl rfl rfl rfl rfl ?_
      refine w_iload rfl rfl ?_
      refine c_cald rfl rfl (by omega) (fun x9 ex9 => ?_)
      have T0 := ex9
      have T0i := congrArg Int32.toInt T0
      refine c_invW (rest := [.inr (.inr (some 1))]) rfl rfl (rfl) rfl (Nat.le_of_ble_eq_true rfl) rfl (by omega) (s_J0_indexOf_0f7a4_1 (K := K) a b v  x9   (by omega)) (fun z10 h9 hq11 => ?_)
      obtain ⟨rfl, x12, rfl, px12⟩ := hq11
      show f_wp _ (40, [some (.inr (.inr (some 1))), some (.inl i)], [.inl x12, .inr (.inr (some 1))], cH a b v) _
      have P9 : (0 ≤ x12.toInt ∧ lxS (a 2 i.toInt.toNat) = true) ∨ (x12.toInt = -1 ∧ ¬ lxS (a 2 i.toInt.toNat) = true) := by rw [← T0]; exact px12
      refine w_if_lt rfl (fun c13 => ?_) (fun c13 => ?_)
      · skip
        refine w_const rfl ?_
        refine w_iload rfl rfl ?_
        refine w_aload rfl rfl ?_
        refine c_getR (t := some 2) rfl rfl rfl rfl rfl ?_
        refine w_iload rfl rfl ?_
        refine c_cald rfl rfl (by omega) (fun x14 ex14 => ?_)
        have T1 := ex14
        refine w_i2lE rfl (fun y15 ty15 => ?_)
        have Y9 := ty15
        refine w_invV (rest := []) rfl rfl rfl rfl rfl (Nat.le_of_ble_eq_true rfl) rfl (by omega) (s_X8_keep_1 (K := K) a b v  1 i y15 hR  (by omega)) (fun z16 h9 hq17 => ?_)
        obtain ⟨a18, b19, rfl, ha18, fa18, rfl⟩ := hq17
        show f_wp _ (59, [some (.inr (.inr (some 1))), some (.inl i)], [], cH a18 b19 v) _
        refine w_iload rfl rfl ?_
        refine w_const rfl ?_
        first | refine w_iadd rfl (by omega) (fun x20 tx20 => ?_) | refine w_iiU rfl (fun x20 tx20 => ?_)
        exact wp_iret (z := false) rfl (fun h9 => by cases h9) ⟨a18, b19, rfl, ha18, ⟨FR.tr (FR.rf) (FR.sub fa18.1 (by first | exact (fun _ h9 => h9) | decide | (intro c9 h9; simp only [List.mem_cons, List.not_mem_nil, or_false] at h9 ⊢; omega) | (intro c9 h9; simp only [List.mem_cons, List.not_mem_nil, or_false] at h9; exact cA_mem (by omega)) | (intro c9 h9; simp only [List.mem_cons, List.not_mem_nil, or_false] at h9; exact cB_mem (by omega)) | (intro c9 h9; simp only [List.mem_cons, List.not_mem_nil, or_false] at h9; exact cU_mem (by omega)) | (intro c9 h9; simp only [List.mem_cons, List.not_mem_nil, or_false] at h9; exact cM_mem (by omega)) | exact cA_sub)), trivial⟩, ⟨_, rfl, by first | assumption | exact ⟨by rw [lx_one HL HD]; omega, _, _, _, fa18.2, by rw [lxT_one HL HD]; rcases P9 with h9 | h9; (rw [if_pos h9.2]; show _ = (4 : Int); omega); (rw [if_neg h9.2]; show _ = (1 : Int); omega), by omega, fun _ => by rw [lxU_one HL HD, ← T1]; exact i64_of (i2l_ti Y9)⟩⟩⟩
      · skip
        refine w_const rfl ?_
        refine w_goto rfl ?_
        refine w_iload rfl rfl ?_
        refine w_aload rfl rfl ?_
        refine c_getR (t := some 2) rfl rfl rfl rfl rfl ?_
        refine w_iload rfl rfl ?_
        refine c_cald rfl rfl (by omega) (fun x21 ex21 => ?_)
        have T1 := ex21
        refine w_i2lE rfl (fun y22 ty22 => ?_)
        have Y9 := ty22
        refine w_invV (rest := []) rfl rfl rfl rfl rfl (Nat.le_of_ble_eq_true rfl) rfl (by omega) (s_X8_keep_1 (K := K) a b v  4 i y22 hR  (by omega)) (fun z23 h9 hq24 => ?_)
        obtain ⟨a25, b26, rfl, ha25, fa25, rfl⟩ := hq24
        show f_wp _ (59, [some (.inr (.inr (some 1))), some (.inl i)], [], cH a25 b26 v) _
        refine w_iload rfl rfl ?_
        refine w_const rfl ?_
        first | refine w_iadd rfl (by omega) (fun x27 tx27 => ?_) | refine w_iiU rfl (fun x27 tx27 => ?_)
        exact wp_iret (z := false) rfl (fun h9 => by cases h9) ⟨a25, b26, rfl, ha25, ⟨FR.tr (FR.rf) (FR.sub fa25.1 (by first | exact (fun _ h9 => h9) | decide | (intro c9 h9; simp only [List.mem_cons, List.not_mem_nil, or_false] at h9 ⊢; omega) | (intro c9 h9; simp only [List.mem_cons, List.not_mem_nil, or_false] at h9; exact cA_mem (by omega)) | (intro c9 h9; simp only [List.mem_cons, List.not_mem_nil, or_false] at h9; exact cB_mem (by omega)) | (intro c9 h9; simp only [List.mem_cons, List.not_mem_nil, or_false] at h9; exact cU_mem (by omega)) | (intro c9 h9; simp only [List.mem_cons, List.not_mem_nil, or_false] at h9; exact cM_mem (by omega)) | exact cA_sub)), trivial⟩, ⟨_, rfl, by first | assumption | exact ⟨by rw [lx_one HL HD]; omega, _, _, _, fa25.2, by rw [lxT_one HL HD]; rcases P9 with h9 | h9; (rw [if_pos h9.2]; show _ = (4 : Int); omega); (rw [if_neg h9.2]; show _ = (1 : Int); omega), by omega, fun _ => by rw [lxU_one HL HD, ← T1]; exact i64_of (i2l_ti Y9)⟩⟩⟩
    · skip
      have HD : lxD (a 2 i.toInt.toNat) = true := by rcases P7 with h9 | h9; exact h9.2; omega
      refine w_aload rfl rfl ?_
      refine w_iload rfl rfl ?_
      refine w_invV (rest := []) rfl rfl rfl rfl rfl (Nat.le_of_ble_eq_true rfl) rfl (by omega) (s_X8_cutNumber_1 (K := K) a b v  i hR  (by omega) (by omega) (by omega) (by omega) (by omega)) (fun z28 h9 hq29 => ?_)
      obtain ⟨a30, b31, rfl, ha30, fa30, x32, rfl, px32⟩ := hq29
      show f_wp _ (27, [some (.inr (.inr (some 1))), some (.inl i)], [.inl x32], cH a30 b31 v) _
      exact wp_iret (z := false) rfl (fun h9 => by cases h9) ⟨a30, b31, rfl, ha30, ⟨FR.tr (FR.rf) (FR.sub fa30.1 (by first | exact (fun _ h9 => h9) | decide | (intro c9 h9; simp only [List.mem_cons, List.not_mem_nil, or_false] at h9 ⊢; omega) | (intro c9 h9; simp only [List.mem_cons, List.not_mem_nil, or_false] at h9; exact cA_mem (by omega)) | (intro c9 h9; simp only [List.mem_cons, List.not_mem_nil, or_false] at h9; exact cB_mem (by omega)) | (intro c9 h9; simp only [List.mem_cons, List.not_mem_nil, or_false] at h9; exact cU_mem (by omega)) | (intro c9 h9; simp only [List.mem_cons, List.not_mem_nil, or_false] at h9; exact cM_mem (by omega)) | exact cA_sub)), trivial⟩, ⟨_, rfl, by first | assumption | exact ⟨by rw [lx_one HL HD]; omega, _, _, _, fa30.2, by rw [lxT_one HL HD]; rcases P9 with h9 | h9; (rw [if_pos h9.2]; show _ = (4 : Int); omega); (rw [if_neg h9.2]; show _ = (1 : Int); omega), by omega, fun _ => by rw [lxU_one HL HD, ← T1]; exact i64_of (i2l_ti Y9)⟩⟩⟩
  · skip
    have HL : lxL (a 2 i.toInt.toNat) = true := by rcases P6 with h9 | h9; exact h9.2; omega
    refine w_aload rfl rfl ?_
    refine w_iload rfl rfl ?_
    refine w_invV (rest := []) rfl rfl rfl rfl rfl (Nat.le_of_ble_eq_true rfl) rfl (by omega) (s_X8_cutWord_1 (K := K) a b v  i hR  (by omega) (by omega) (by omega) (by omega)) (fun z33 h9 hq34 => ?_)
    obtain ⟨a35, b36, rfl, ha35, fa35, x37, rfl, px37⟩ := hq34
    show f_wp _ (13, [some (.inr (.inr (some 1))), some (.inl i)], [.inl x37], cH a35 b36 v) _
    exact wp_iret (z := false) rfl (fun h9 => by cases h9) ⟨a35, b36, rfl, ha35, ⟨FR.tr (FR.rf) (FR.sub fa35.1 (by first | exact (fun _ h9 => h9) | decide | (intro c9 h9; simp only [List.mem_cons, List.not_mem_nil, or_false] at h9 ⊢; omega) | (intro c9 h9; simp only [List.mem_cons, List.not_mem_nil, or_false] at h9; exact cA_mem (by omega)) | (intro c9 h9; simp only [List.mem_cons, List.not_mem_nil, or_false] at h9; exact cB_mem (by omega)) | (intro c9 h9; simp only [List.mem_cons, List.not_mem_nil, or_false] at h9; exact cU_mem (by omega)) | (intro c9 h9; simp only [List.mem_cons, List.not_mem_nil, or_false] at h9; exact cM_mem (by omega)) | exact cA_sub)), trivial⟩, ⟨_, rfl, by first | assumption | exact ⟨by rw [lx_one HL HD]; omega, _, _, _, fa35.2, by rw [lxT_one HL HD]; rcases P9 with h9 | h9; (rw [if_pos h9.2]; show _ = (4 : Int); omega); (rw [if_neg h9.2]; show _ = (1 : Int); omega), by omega, fun _ => by rw [lxU_one HL HD, ← T1]; exact i64_of (i2l_ti Y9)⟩⟩⟩
