theorem p10_lt {k : Nat} (h : k ≤ 6) : 0 < 10 ^ k ∧ 10 ^ k ≤ 1000000 := ⟨Nat.pow_pos (by decide), Nat.le_trans (Nat.pow_le_pow_right (by decide) h) (by decide)⟩
theorem p10_s {ten y : Int64} {k : Nat} (h : ten = lN (10 ^ k)) (hy : y = ten * 10) : y = lN (10 ^ (k + 1)) := by
  rw [hy, h, show (10 : Int64) = lN 10 from rfl, lN_mul, Nat.pow_succ]
theorem p10_nz {ten : Int64} {k : Nat} (h : ten = lN (10 ^ k)) (hk : k ≤ 6) : ¬ ten = 0 := fun z => by
  have h1 := p10_lt hk
  have h2 : ten.toInt = ((10 ^ k : Nat) : Int) := by rw [h, pk_lT (by omega)]
  rw [z] at h2
  have z7 : (0 : Int64).toInt = 0 := rfl
  omega
theorem z_div {ten : Int64} {k : Nat} (h : ten = lN (10 ^ k)) (hk : k ≤ 6) : 0 / ten = 0 := by
  have h1 := p10_lt hk
  rw [h, show (0 : Int64) = lN 0 from rfl, pk_lDiv (by omega) (by omega) (by omega), Nat.zero_div]
theorem mul_594 {x y z : Int32} (hx : 0 ≤ x.toInt ∧ x.toInt ≤ 6) (hy : 0 ≤ y.toInt ∧ y.toInt ≤ 99) (hz : z = x * y) : 0 ≤ z.toInt ∧ z.toInt ≤ 594 := by
  have h1 : 0 ≤ x.toInt * y.toInt := Int.mul_nonneg hx.1 hy.1
  have h2 : x.toInt * y.toInt ≤ 6 * 99 := Int.mul_le_mul hx.2 hy.2 hy.1 (by decide)
  rw [hz, ti_mul (by omega)]
  omega
theorem RM.la4 {K : Nat} {a : Nat → Nat → Int32} (h : RM K a) : 0 ≤ (a 6 4).toInt ∧ (a 6 4).toInt ≤ 99 := h 6 4
set_option maxRecDepth 4000 in
theorem s_floods {K : Nat} (a : Nat → Nat → Int32) (b : Nat → Nat → Int64) (r : Int32) (s : Int32) (h : Int32) (hR : RM K a) (hr : 0 ≤ r.toInt ∧ r.toInt < 6) (hs : 0 ≤ s.toInt ∧ s.toInt < 4) (hA : AC a 0) : f_call mtM 11 98 [.inr (.inr (some 0)), .inl r, .inl s, .inl h] (mH a b) (fun v9 h' => h' = mH a b ∧ ∃ x : Int32, v9 = some (.inl x) ∧ (1188 ≤ h.toInt → x.toInt = 0)) := by
  refine f_call_of (d0 := 10) rfl (Nat.le_of_ble_eq_true rfl) (fun d hd => ?_)
  show f_wp _ (0, [some (.inr (.inr (some 0))), some (.inl r), some (.inl s), some (.inl h), none, none, none, none, none, none, none, none, none, none, none], [], mH a b) _
  have l0 : (0 : Int32).toInt = 0 := rfl
  have l1 : (1 : Int32).toInt = 1 := rfl
  have l3 : (3 : Int32).toInt = 3 := rfl
  have l4 : (4 : Int32).toInt = 4 := rfl
  have l10 : (10 : Int32).toInt = 10 := rfl
  have l11 : (11 : Int32).toInt = 11 := rfl
  have k4 := RM.la4 hR
  have z0 : (0 : Int64).toInt = 0 := rfl
  refine w_aload rfl rfl ?_
  refine w_iload rfl rfl ?_
  refine w_const rfl ?_
  refine w_invV (rest := []) rfl rfl rfl rfl rfl (Nat.le_of_ble_eq_true rfl) rfl (by omega) (s_riverOf (K := K) a b  r 11  (by omega) (by omega)) (fun v1 h9 hq2 => ?_)
  obtain ⟨rfl, x3, rfl, px3⟩ := hq2
  show f_wp _ (7, [some (.inr (.inr (some 0))), some (.inl r), some (.inl s), some (.inl h), none, none, none, none, none, none, none, none, none, none, none], [.inl x3], mH a b) _
  refine w_istore (lo' := [some (.inr (.inr (some 0))), some (.inl r), some (.inl s), some (.inl h), some (.inl x3), none, none, none, none, none, none, none, none, none, none]) rfl rfl ?_
  refine w_aload rfl rfl ?_
  refine w_const rfl ?_
  refine w_iload rfl rfl ?_
  refine w_iload rfl rfl ?_
  refine w_invV (rest := []) rfl rfl rfl rfl rfl (Nat.le_of_ble_eq_true rfl) rfl (by omega) (s_watersAt (K := K) a b  0 r x3 hR (by omega) (by omega) (hA)) (fun v4 h9 hq5 => ?_)
  obtain ⟨rfl, x6, rfl, px6⟩ := hq5
  show f_wp _ (17, [some (.inr (.inr (some 0))), some (.inl r), some (.inl s), some (.inl h), some (.inl x3), none, none, none, none, none, none, none, none, none, none], [.inl x6], mH a b) _
  refine w_invS (rest := []) rfl (Nat.le_of_ble_eq_true rfl) rfl (Nat.le_of_ble_eq_true rfl) rfl (by omega) (s_bits (K := K) a b  x6  ) (fun v7 h9 hq8 => ?_)
  obtain ⟨rfl, x9, rfl, px9⟩ := hq8
  show f_wp _ (20, [some (.inr (.inr (some 0))), some (.inl r), some (.inl s), some (.inl h), some (.inl x3), none, none, none, none, none, none, none, none, none, none], [.inl x9], mH a b) _
  have b9 := px9
  refine w_istore (lo' := [some (.inr (.inr (some 0))), some (.inl r), some (.inl s), some (.inl h), some (.inl x3), some (.inl x9), none, none, none, none, none, none, none, none, none]) rfl rfl ?_
  refine w_aload rfl rfl ?_
  refine w_const rfl ?_
  refine w_iload rfl rfl ?_
  refine w_iload rfl rfl ?_
  refine w_iload rfl rfl ?_
  refine w_invV (rest := []) rfl rfl rfl rfl rfl (Nat.le_of_ble_eq_true rfl) rfl (by omega) (s_flowAt (K := K) a b  0 r x3 s hR (by omega) (by omega) (by omega) (hA)) (fun v10 h9 hq11 => ?_)
  obtain ⟨rfl, x12, rfl, px12⟩ := hq11
  show f_wp _ (31, [some (.inr (.inr (some 0))), some (.inl r), some (.inl s), some (.inl h), some (.inl x3), some (.inl x9), none, none, none, none, none, none, none, none, none], [.inl x12], mH a b) _
  have f9 := px12
  refine w_istore (lo' := [some (.inr (.inr (some 0))), some (.inl r), some (.inl s), some (.inl h), some (.inl x3), some (.inl x9), some (.inl x12), none, none, none, none, none, none, none, none]) rfl rfl ?_
  refine w_const rfl ?_
  refine w_lstore (lo' := [some (.inr (.inr (some 0))), some (.inl r), some (.inl s), some (.inl h), some (.inl x3), some (.inl x9), some (.inl x12), some (.inr (.inl 0)), none, none, none, none, none, none, none]) rfl rfl ?_
  refine w_const rfl ?_
  refine w_lstore (lo' := [some (.inr (.inr (some 0))), some (.inl r), some (.inl s), some (.inl h), some (.inl x3), some (.inl x9), some (.inl x12), some (.inr (.inl 0)), none, some (.inr (.inl 1)), none, none, none, none, none]) rfl rfl ?_
  refine w_const rfl ?_
  refine w_istore (lo' := [some (.inr (.inr (some 0))), some (.inl r), some (.inl s), some (.inl h), some (.inl x3), some (.inl x9), some (.inl x12), some (.inr (.inl 0)), none, some (.inr (.inl 1)), none, some (.inl 0), none, none, none]) rfl rfl ?_
  have loop42 : ∀ (ms9 : Nat) (ten : Int64) (i : Int32) , (6 - i.toInt).toNat = ms9 → (0 ≤ i.toInt ∧ i.toInt ≤ 6) → (ten = lN (10 ^ i.toInt.toNat)) → f_wp (f_code (t_X13_floods (f_ev mtM d))) (42, [some (.inr (.inr (some 0))), some (.inl r), some (.inl s), some (.inl h), some (.inl x3), some (.inl x9), some (.inl x12), some (.inr (.inl 0)), none, some (.inr (.inl ten)), none, some (.inl i), none, none, none], [], mH a b) (fun v9 h' => h' = mH a b ∧ ∃ x : Int32, v9 = some (.inl x) ∧ (1188 ≤ h.toInt → x.toInt = 0)) := by
    intro ms9
    induction ms9 using Nat.strongRecOn with
    | _ ms42 ih42 =>
      intro ten i  hm42 hi ht
      refine w_iload rfl rfl ?_
      refine w_iload rfl rfl ?_
      refine w_ic_ge rfl (fun c13 => ?_) (fun c13 => ?_)
      · skip
        refine w_const rfl ?_
        refine w_istore (lo' := [some (.inr (.inr (some 0))), some (.inl r), some (.inl s), some (.inl h), some (.inl x3), some (.inl x9), some (.inl x12), some (.inr (.inl 0)), none, some (.inr (.inl ten)), none, some (.inl 0), none, none, none]) rfl rfl ?_
        have loop66 : ∀ (ms9 : Nat) (sum : Int64) (k : Int32) (o12_66 : Option f_V) (o14_66 : Option f_V), (7 - k.toInt).toNat = ms9 → (0 ≤ k.toInt ∧ k.toInt ≤ 7) → (1188 ≤ h.toInt → sum = 0) → f_wp (f_code (t_X13_floods (f_ev mtM d))) (66, [some (.inr (.inr (some 0))), some (.inl r), some (.inl s), some (.inl h), some (.inl x3), some (.inl x9), some (.inl x12), some (.inr (.inl sum)), none, some (.inr (.inl ten)), none, some (.inl k), o12_66, none, o14_66], [], mH a b) (fun v9 h' => h' = mH a b ∧ ∃ x : Int32, v9 = some (.inl x) ∧ (1188 ≤ h.toInt → x.toInt = 0)) := by
          intro ms9
          induction ms9 using Nat.strongRecOn with
          | _ ms66 ih66 =>
            intro sum k o12_66 o14_66 hm66 hk hs9
            refine w_iload rfl rfl ?_
            refine w_iload rfl rfl ?_
            refine w_ic_gt rfl (fun c14 => ?_) (fun c14 => ?_)
            · skip
              refine w_lload rfl rfl ?_
              refine w_const rfl ?_
              refine w_llE rfl (fun y15 ty15 => ?_)
              refine w_lload rfl rfl ?_
              refine w_lldE rfl (p10_nz ht (by omega)) (fun y16 ty16 => ?_)
              have z8 : 1188 ≤ h.toInt → y16 = 0 := fun h9 => by rw [ty16, ty15, hs9 h9, show (0 : Int64) * 1000000 = 0 from rfl]; exact z_div ht (by omega)
              refine w_l2iE rfl (fun x17 tx17 => ?_)
              have z6 : 1188 ≤ h.toInt → x17.toInt = 0 := fun h9 => by rw [tx17, z8 h9]; rfl
              exact wp_iret (z := false) rfl (fun h9 => by cases h9) ⟨rfl, ⟨_, rfl, z6⟩⟩
            · skip
              refine w_const rfl ?_
              refine w_lstore (lo' := [some (.inr (.inr (some 0))), some (.inl r), some (.inl s), some (.inl h), some (.inl x3), some (.inl x9), some (.inl x12), some (.inr (.inl sum)), none, some (.inr (.inl ten)), none, some (.inl k), some (.inr (.inl 1)), none, o14_66]) rfl rfl ?_
              refine w_const rfl ?_
              refine w_istore (lo' := [some (.inr (.inr (some 0))), some (.inl r), some (.inl s), some (.inl h), some (.inl x3), some (.inl x9), some (.inl x12), some (.inr (.inl sum)), none, some (.inr (.inl ten)), none, some (.inl k), some (.inr (.inl 1)), none, some (.inl 0)]) rfl rfl ?_
              have loop79 : ∀ (ms9 : Nat) (way : Int64) (j : Int32) , (6 - j.toInt).toNat = ms9 → (0 ≤ j.toInt ∧ j.toInt ≤ 6) → f_wp (f_code (t_X13_floods (f_ev mtM d))) (79, [some (.inr (.inr (some 0))), some (.inl r), some (.inl s), some (.inl h), some (.inl x3), some (.inl x9), some (.inl x12), some (.inr (.inl sum)), none, some (.inr (.inl ten)), none, some (.inl k), some (.inr (.inl way)), none, some (.inl j)], [], mH a b) (fun v9 h' => h' = mH a b ∧ ∃ x : Int32, v9 = some (.inl x) ∧ (1188 ≤ h.toInt → x.toInt = 0)) := by
                intro ms9
                induction ms9 using Nat.strongRecOn with
                | _ ms79 ih79 =>
                  intro way j  hm79 hj
                  refine w_iload rfl rfl ?_
                  refine w_iload rfl rfl ?_
                  refine w_ic_ge rfl (fun c18 => ?_) (fun c18 => ?_)
                  · skip
                    refine w_const rfl ?_
                    refine w_istore (lo' := [some (.inr (.inr (some 0))), some (.inl r), some (.inl s), some (.inl h), some (.inl x3), some (.inl x9), some (.inl x12), some (.inr (.inl sum)), none, some (.inr (.inl ten)), none, some (.inl k), some (.inr (.inl way)), none, some (.inl 0)]) rfl rfl ?_
                    have loop126 : ∀ (ms9 : Nat) (way : Int64) (m : Int32) , (6 - m.toInt).toNat = ms9 → (0 ≤ m.toInt ∧ m.toInt ≤ k.toInt) → f_wp (f_code (t_X13_floods (f_ev mtM d))) (126, [some (.inr (.inr (some 0))), some (.inl r), some (.inl s), some (.inl h), some (.inl x3), some (.inl x9), some (.inl x12), some (.inr (.inl sum)), none, some (.inr (.inl ten)), none, some (.inl k), some (.inr (.inl way)), none, some (.inl m)], [], mH a b) (fun v9 h' => h' = mH a b ∧ ∃ x : Int32, v9 = some (.inl x) ∧ (1188 ≤ h.toInt → x.toInt = 0)) := by
                      intro ms9
                      induction ms9 using Nat.strongRecOn with
                      | _ ms126 ih126 =>
                        intro way m  hm126 hm
                        refine w_iload rfl rfl ?_
                        refine w_iload rfl rfl ?_
                        refine w_ic_ge rfl (fun c19 => ?_) (fun c19 => ?_)
                        · skip
                          refine w_lload rfl rfl ?_
                          refine w_iload rfl rfl ?_
                          refine w_iload rfl rfl ?_
                          refine w_aload rfl rfl ?_
                          refine w_getR (v := .inr (.inr (some 6))) rfl rfl rfl rfl rfl ?_
                          refine w_const rfl ?_
                          refine m_iald rfl rfl (by omega) (fun x20 ex20 => ?_)
                          have l9 : 0 ≤ x20.toInt ∧ x20.toInt ≤ 99 := by rw [ex20]; exact k4
                          refine w_iiE rfl (fun x21 tx21 => ?_)
                          have m9 := mul_594 (by omega) l9 tx21
                          first | refine w_iadd rfl (by omega) (fun x22 tx22 => ?_) | refine w_iiU rfl (fun x22 tx22 => ?_)
                          refine w_iload rfl rfl ?_
                          refine w_ic_le rfl (fun c23 => ?_) (fun c23 => ?_)
                          · skip
                            refine w_const rfl ?_
                            refine w_llE rfl (fun y24 ty24 => ?_)
                            refine w_lstore (lo' := [some (.inr (.inr (some 0))), some (.inl r), some (.inl s), some (.inl h), some (.inl x3), some (.inl x9), some (.inl x12), some (.inr (.inl y24)), none, some (.inr (.inl ten)), none, some (.inl k), some (.inr (.inl way)), none, some (.inl m)]) rfl rfl ?_
                            refine w_iinc (lo' := fun z9 => [some (.inr (.inr (some 0))), some (.inl r), some (.inl s), some (.inl h), some (.inl x3), some (.inl x9), some (.inl x12), some (.inr (.inl y24)), none, some (.inr (.inl ten)), none, some (.inl z9), some (.inr (.inl way)), none, some (.inl m)]) rfl rfl (fun _ => rfl) (by omega) (fun x25 tx25 => ?_)
                            refine w_goto rfl ?_
                            exact ih66 (7 - x25.toInt).toNat (by omega) y24 x25 (some (.inr (.inl way))) (some (.inl m)) rfl  (by omega) (fun h9 => by first | (exfalso; omega) | (rw [ty24, hs9 h9]; rfl))
                          · skip
                            refine w_lload rfl rfl ?_
                            refine w_goto rfl ?_
                            refine w_llE rfl (fun y26 ty26 => ?_)
                            refine w_lstore (lo' := [some (.inr (.inr (some 0))), some (.inl r), some (.inl s), some (.inl h), some (.inl x3), some (.inl x9), some (.inl x12), some (.inr (.inl y26)), none, some (.inr (.inl ten)), none, some (.inl k), some (.inr (.inl way)), none, some (.inl m)]) rfl rfl ?_
                            refine w_iinc (lo' := fun z9 => [some (.inr (.inr (some 0))), some (.inl r), some (.inl s), some (.inl h), some (.inl x3), some (.inl x9), some (.inl x12), some (.inr (.inl y26)), none, some (.inr (.inl ten)), none, some (.inl z9), some (.inr (.inl way)), none, some (.inl m)]) rfl rfl (fun _ => rfl) (by omega) (fun x27 tx27 => ?_)
                            refine w_goto rfl ?_
                            exact ih66 (7 - x27.toInt).toNat (by omega) y26 x27 (some (.inr (.inl way))) (some (.inl m)) rfl  (by omega) (fun h9 => by first | (exfalso; omega) | (rw [ty26, hs9 h9]; rfl))
                        · skip
                          refine w_lload rfl rfl ?_
                          refine w_iload rfl rfl ?_
                          refine w_iload rfl rfl ?_
                          first | refine w_isub rfl (by omega) (fun x28 tx28 => ?_) | refine w_iiU rfl (fun x28 tx28 => ?_)
                          refine w_i2lE rfl (fun y29 ty29 => ?_)
                          refine w_llE rfl (fun y30 ty30 => ?_)
                          refine w_iload rfl rfl ?_
                          refine w_const rfl ?_
                          first | refine w_iadd rfl (by omega) (fun x31 tx31 => ?_) | refine w_iiU rfl (fun x31 tx31 => ?_)
                          refine w_i2lE rfl (fun y32 ty32 => ?_)
                          refine w_lldE rfl (fun z9 => by have z8 := i2l_ti ty32; rw [z9] at z8; have z7 : (0 : Int64).toInt = 0 := rfl; omega) (fun y33 ty33 => ?_)
                          refine w_lstore (lo' := [some (.inr (.inr (some 0))), some (.inl r), some (.inl s), some (.inl h), some (.inl x3), some (.inl x9), some (.inl x12), some (.inr (.inl sum)), none, some (.inr (.inl ten)), none, some (.inl k), some (.inr (.inl y33)), none, some (.inl m)]) rfl rfl ?_
                          refine w_iinc (lo' := fun z9 => [some (.inr (.inr (some 0))), some (.inl r), some (.inl s), some (.inl h), some (.inl x3), some (.inl x9), some (.inl x12), some (.inr (.inl sum)), none, some (.inr (.inl ten)), none, some (.inl k), some (.inr (.inl y33)), none, some (.inl z9)]) rfl rfl (fun _ => rfl) (by omega) (fun x34 tx34 => ?_)
                          refine w_goto rfl ?_
                          exact ih126 (6 - x34.toInt).toNat (by omega) y33 x34 rfl  (by omega)
                    exact loop126 _ way 0 rfl  (by omega)
                  · skip
                    refine w_lload rfl rfl ?_
                    refine w_iload rfl rfl ?_
                    refine w_iload rfl rfl ?_
                    refine w_ic_ge rfl (fun c35 => ?_) (fun c35 => ?_)
                    · skip
                      refine w_const rfl ?_
                      refine w_aload rfl rfl ?_
                      refine w_getR (v := .inr (.inr (some 6))) rfl rfl rfl rfl rfl ?_
                      refine w_const rfl ?_
                      refine m_iald rfl rfl (by omega) (fun x36 ex36 => ?_)
                      first | refine w_isub rfl (by omega) (fun x37 tx37 => ?_) | refine w_iiU rfl (fun x37 tx37 => ?_)
                      refine w_i2lE rfl (fun y38 ty38 => ?_)
                      refine w_llE rfl (fun y39 ty39 => ?_)
                      refine w_lstore (lo' := [some (.inr (.inr (some 0))), some (.inl r), some (.inl s), some (.inl h), some (.inl x3), some (.inl x9), some (.inl x12), some (.inr (.inl sum)), none, some (.inr (.inl ten)), none, some (.inl k), some (.inr (.inl y39)), none, some (.inl j)]) rfl rfl ?_
                      refine w_iinc (lo' := fun z9 => [some (.inr (.inr (some 0))), some (.inl r), some (.inl s), some (.inl h), some (.inl x3), some (.inl x9), some (.inl x12), some (.inr (.inl sum)), none, some (.inr (.inl ten)), none, some (.inl k), some (.inr (.inl y39)), none, some (.inl z9)]) rfl rfl (fun _ => rfl) (by omega) (fun x40 tx40 => ?_)
                      refine w_goto rfl ?_
                      exact ih79 (6 - x40.toInt).toNat (by omega) y39 x40 rfl  (by omega)
                    · skip
                      refine w_aload rfl rfl ?_
                      refine w_getR (v := .inr (.inr (some 6))) rfl rfl rfl rfl rfl ?_
                      refine w_const rfl ?_
                      refine m_iald rfl rfl (by omega) (fun x41 ex41 => ?_)
                      refine w_goto rfl ?_
                      refine w_i2lE rfl (fun y42 ty42 => ?_)
                      refine w_llE rfl (fun y43 ty43 => ?_)
                      refine w_lstore (lo' := [some (.inr (.inr (some 0))), some (.inl r), some (.inl s), some (.inl h), some (.inl x3), some (.inl x9), some (.inl x12), some (.inr (.inl sum)), none, some (.inr (.inl ten)), none, some (.inl k), some (.inr (.inl y43)), none, some (.inl j)]) rfl rfl ?_
                      refine w_iinc (lo' := fun z9 => [some (.inr (.inr (some 0))), some (.inl r), some (.inl s), some (.inl h), some (.inl x3), some (.inl x9), some (.inl x12), some (.inr (.inl sum)), none, some (.inr (.inl ten)), none, some (.inl k), some (.inr (.inl y43)), none, some (.inl z9)]) rfl rfl (fun _ => rfl) (by omega) (fun x44 tx44 => ?_)
                      refine w_goto rfl ?_
                      exact ih79 (6 - x44.toInt).toNat (by omega) y43 x44 rfl  (by omega)
              exact loop79 _ 1 0 rfl  (by omega)
        exact loop66 _ 0 0 none none rfl  (by omega) (fun _ => rfl)
      · skip
        refine w_lload rfl rfl ?_
        refine w_const rfl ?_
        refine w_llE rfl (fun y45 ty45 => ?_)
        refine w_lstore (lo' := [some (.inr (.inr (some 0))), some (.inl r), some (.inl s), some (.inl h), some (.inl x3), some (.inl x9), some (.inl x12), some (.inr (.inl 0)), none, some (.inr (.inl y45)), none, some (.inl i), none, none, none]) rfl rfl ?_
        refine w_iinc (lo' := fun z9 => [some (.inr (.inr (some 0))), some (.inl r), some (.inl s), some (.inl h), some (.inl x3), some (.inl x9), some (.inl x12), some (.inr (.inl 0)), none, some (.inr (.inl y45)), none, some (.inl z9), none, none, none]) rfl rfl (fun _ => rfl) (by omega) (fun x46 tx46 => ?_)
        refine w_goto rfl ?_
        exact ih42 (6 - x46.toInt).toNat (by omega) y45 x46 rfl  (by omega) (by rw [show x46.toInt.toNat = i.toInt.toNat + 1 from by omega]; exact p10_s ht ty45)
  exact loop42 _ 1 0 rfl  (by omega) (rfl)
set_option maxRecDepth 4000 in
theorem s_storms {K : Nat} (a : Nat → Nat → Int32) (b : Nat → Nat → Int64) (r : Int32) (s : Int32) (hR : RM K a) (hA : AC a 0) : f_call mtM 12 100 [.inr (.inr (some 0)), .inl r, .inl s] (mH a b) (fun v9 h' => ∃ (a' : Nat → Nat → Int32), h' = mH a' b ∧ RM K a' ∧ (FR [0] a a' ∧ True) ∧ ∃ x : Int32, v9 = some (.inl x) ∧ True) := by
  refine f_call_of (d0 := 11) rfl (Nat.le_of_ble_eq_true rfl) (fun d hd => ?_)
  show f_wp _ (0, [some (.inr (.inr (some 0))), some (.inl r), some (.inl s)], [], mH a b) _
  have lm1 : (-1 : Int32).toInt = -1 := rfl
  have l0 : (0 : Int32).toInt = 0 := rfl
  have l10 : (10 : Int32).toInt = 10 := rfl
  refine w_aload rfl rfl ?_
  refine w_const rfl ?_
  refine m_putI (z := false) rfl rfl rfl rfl (by first | (intro h9; cases h9; done) | (intro _; first | exact Or.inl rfl | exact Or.inr rfl | assumption)) (fun a1 ea1 => ?_)
  have ha1 : RM K a1 := RM.up hR ea1 ⟨ti_lo _, ti_hi _⟩
  have ua1_0 : a1 0 0 = (0 : Int32) := by rw [ea1, mU_same]
  have wa1_0 := congrArg Int32.toInt ua1_0
  refine w_aload rfl rfl ?_
  refine w_iload rfl rfl ?_
  refine w_iload rfl rfl ?_
  refine w_invV (rest := []) rfl rfl rfl rfl rfl (Nat.le_of_ble_eq_true rfl) rfl (by omega) (s_hasTown (K := K) a1 b  r s ha1 ) (fun v2 h9 hq3 => ?_)
  obtain ⟨rfl, x4, rfl, px4⟩ := hq3
  show f_wp _ (11, [some (.inr (.inr (some 0))), some (.inl r), some (.inl s)], [.inl x4], mH a1 b) _
  refine w_if_eq rfl (fun c5 => ?_) (fun c5 => ?_)
  · skip
    refine w_const rfl ?_
    exact wp_iret (z := false) rfl (fun h9 => by cases h9) ⟨a1, rfl, ha1, ⟨FR.up (FR.rf) (by decide) ea1, trivial⟩, ⟨_, rfl, trivial⟩⟩
  · skip
    refine w_aload rfl rfl ?_
    refine w_iload rfl rfl ?_
    refine w_iload rfl rfl ?_
    refine w_aload rfl rfl ?_
    refine w_iload rfl rfl ?_
    refine w_const rfl ?_
    refine w_invV (rest := [.inl s, .inl r, .inr (.inr (some 0))]) rfl rfl rfl rfl rfl (Nat.le_of_ble_eq_true rfl) rfl (by omega) (s_riverOf (K := K) a1 b  r 10  (by omega) (by omega)) (fun v6 h9 hq7 => ?_)
    obtain ⟨rfl, x8, rfl, px8⟩ := hq7
    show f_wp _ (24, [some (.inr (.inr (some 0))), some (.inl r), some (.inl s)], [.inl x8, .inl s, .inl r, .inr (.inr (some 0))], mH a1 b) _
    refine w_invV (rest := []) rfl rfl rfl rfl rfl (Nat.le_of_ble_eq_true rfl) rfl (by omega) (s_floods (K := K) a1 b  r s x8 ha1 (by omega) (by omega) (((fun (m9 : Nat) (l9 : m9 < 22) (h7 : ACm m9 a) => ACm.up ((fun (m9 : Nat) (l9 : m9 < 22) (h7 : ACm m9 a) => h7) m9 l9 h7) ea1 (by decide)) 0 (by decide) hA))) (fun v9 h9 hq10 => ?_)
    obtain ⟨rfl, x11, rfl, px11⟩ := hq10
    show f_wp _ (27, [some (.inr (.inr (some 0))), some (.inl r), some (.inl s)], [.inl x11], mH a1 b) _
    refine w_goto rfl ?_
    exact wp_iret (z := false) rfl (fun h9 => by cases h9) ⟨a1, rfl, ha1, ⟨FR.up (FR.rf) (by decide) ea1, trivial⟩, ⟨_, rfl, trivial⟩⟩
set_option maxRecDepth 4000 in
theorem s_walls {K : Nat} (a : Nat → Nat → Int32) (b : Nat → Nat → Int64) (r : Int32) (s : Int32) (c : Int32) (hR : RM K a) (hA : AC a 0) : f_call mtM 12 101 [.inr (.inr (some 0)), .inl r, .inl s, .inl c] (mH a b) (fun v9 h' => ∃ (a' : Nat → Nat → Int32), h' = mH a' b ∧ RM K a' ∧ (FR [0] a a' ∧ True) ∧ ∃ x : Int32, v9 = some (.inl x) ∧ True) := by
  refine f_call_of (d0 := 11) rfl (Nat.le_of_ble_eq_true rfl) (fun d hd => ?_)
  show f_wp _ (0, [some (.inr (.inr (some 0))), some (.inl r), some (.inl s), some (.inl c), none], [], mH a b) _
  have lm1 : (-1 : Int32).toInt = -1 := rfl
  have l0 : (0 : Int32).toInt = 0 := rfl
  have l1 : (1 : Int32).toInt = 1 := rfl
  have l1000000 : (1000000 : Int32).toInt = 1000000 := rfl
  refine w_aload rfl rfl ?_
  refine w_const rfl ?_
  refine m_putI (z := false) rfl rfl rfl rfl (by first | (intro h9; cases h9; done) | (intro _; first | exact Or.inl rfl | exact Or.inr rfl | assumption)) (fun a1 ea1 => ?_)
  have ha1 : RM K a1 := RM.up hR ea1 ⟨ti_lo _, ti_hi _⟩
  have ua1_0 : a1 0 0 = (0 : Int32) := by rw [ea1, mU_same]
  have wa1_0 := congrArg Int32.toInt ua1_0
  refine w_aload rfl rfl ?_
  refine w_iload rfl rfl ?_
  refine w_iload rfl rfl ?_
  refine w_invV (rest := []) rfl rfl rfl rfl rfl (Nat.le_of_ble_eq_true rfl) rfl (by omega) (s_hasTown (K := K) a1 b  r s ha1 ) (fun v2 h9 hq3 => ?_)
  obtain ⟨rfl, x4, rfl, px4⟩ := hq3
  show f_wp _ (11, [some (.inr (.inr (some 0))), some (.inl r), some (.inl s), some (.inl c), none], [.inl x4], mH a1 b) _
  refine w_if_eq rfl (fun c5 => ?_) (fun c5 => ?_)
  · skip
    refine w_const rfl ?_
    exact wp_iret (z := false) rfl (fun h9 => by cases h9) ⟨a1, rfl, ha1, ⟨FR.up (FR.rf) (by decide) ea1, trivial⟩, ⟨_, rfl, trivial⟩⟩
  · skip
    refine w_iload rfl rfl ?_
    refine w_const rfl ?_
    refine w_const rfl ?_
    refine w_invS (rest := []) rfl (Nat.le_of_ble_eq_true rfl) rfl (Nat.le_of_ble_eq_true rfl) rfl (by omega) (s_within (K := K) a1 b  c 0 (1000000)  ) (fun v6 h9 hq7 => ?_)
    obtain ⟨rfl, x8, rfl, px8⟩ := hq7
    show f_wp _ (22, [some (.inr (.inr (some 0))), some (.inl r), some (.inl s), some (.inl c), none], [.inl x8], mH a1 b) _
    refine w_if_ne rfl (fun c9 => ?_) (fun c9 => ?_)
    · skip
      refine w_const rfl ?_
      exact wp_iret (z := false) rfl (fun h9 => by cases h9) ⟨a1, rfl, ha1, ⟨FR.up (FR.rf) (by decide) ea1, trivial⟩, ⟨_, rfl, trivial⟩⟩
    · skip
      refine w_const rfl ?_
      refine w_istore (lo' := [some (.inr (.inr (some 0))), some (.inl r), some (.inl s), some (.inl c), some (.inl 0)]) rfl rfl ?_
      have loop30 : ∀ (ms9 : Nat) (h : Int32) , (1188 - h.toInt).toNat = ms9 → (0 ≤ h.toInt ∧ h.toInt ≤ 1188) → f_wp (f_code (t_X13_walls (f_ev mtM d))) (30, [some (.inr (.inr (some 0))), some (.inl r), some (.inl s), some (.inl c), some (.inl h)], [], mH a1 b) (fun v9 h' => ∃ (a' : Nat → Nat → Int32), h' = mH a' b ∧ RM K a' ∧ (FR [0] a a' ∧ True) ∧ ∃ x : Int32, v9 = some (.inl x) ∧ True) := by
        intro ms9
        induction ms9 using Nat.strongRecOn with
        | _ ms30 ih30 =>
          intro h  hm30 hh
          refine w_aload rfl rfl ?_
          refine w_iload rfl rfl ?_
          refine w_iload rfl rfl ?_
          refine w_iload rfl rfl ?_
          refine w_invV (rest := []) rfl rfl rfl rfl rfl (Nat.le_of_ble_eq_true rfl) rfl (by omega) (s_floods (K := K) a1 b  r s h ha1 (by omega) (by omega) (((fun (m9 : Nat) (l9 : m9 < 22) (h7 : ACm m9 a) => ACm.up ((fun (m9 : Nat) (l9 : m9 < 22) (h7 : ACm m9 a) => h7) m9 l9 h7) ea1 (by decide)) 0 (by decide) hA))) (fun v10 h9 hq11 => ?_)
          obtain ⟨rfl, x12, rfl, px12⟩ := hq11
          show f_wp _ (38, [some (.inr (.inr (some 0))), some (.inl r), some (.inl s), some (.inl c), some (.inl h)], [.inl x12], mH a1 b) _
          have f8 := px12
          refine w_iload rfl rfl ?_
          refine w_ic_le rfl (fun c13 => ?_) (fun c13 => ?_)
          · skip
            refine w_iload rfl rfl ?_
            exact wp_iret (z := false) rfl (fun h9 => by cases h9) ⟨a1, rfl, ha1, ⟨FR.up (FR.rf) (by decide) ea1, trivial⟩, ⟨_, rfl, trivial⟩⟩
          · skip
            refine w_iinc (lo' := fun z9 => [some (.inr (.inr (some 0))), some (.inl r), some (.inl s), some (.inl c), some (.inl z9)]) rfl rfl (fun _ => rfl) (by omega) (fun x14 tx14 => ?_)
            refine w_goto rfl ?_
            exact ih30 (1188 - x14.toInt).toNat (by omega) x14 rfl  (by omega)
      exact loop30 _ 0 rfl  (by omega)
set_option maxRecDepth 4000 in
theorem s_worst {K : Nat} (a : Nat → Nat → Int32) (b : Nat → Nat → Int64) (r : Int32) (w : Int32) (hR : RM K a) (hA : AC a 0) : f_call mtM 12 102 [.inr (.inr (some 0)), .inl r, .inl w] (mH a b) (fun v9 h' => ∃ (a' : Nat → Nat → Int32), h' = mH a' b ∧ RM K a' ∧ (FR [0] a a' ∧ True) ∧ ∃ x : Int32, v9 = some (.inl x) ∧ True) := by
  refine f_call_of (d0 := 11) rfl (Nat.le_of_ble_eq_true rfl) (fun d hd => ?_)
  show f_wp _ (0, [some (.inr (.inr (some 0))), some (.inl r), some (.inl w), none, none, none, none], [], mH a b) _
  have l0 : (0 : Int32).toInt = 0 := rfl
  have l1 : (1 : Int32).toInt = 1 := rfl
  have l3 : (3 : Int32).toInt = 3 := rfl
  have l4 : (4 : Int32).toInt = 4 := rfl
  have l10 : (10 : Int32).toInt = 10 := rfl
  have l11 : (11 : Int32).toInt = 11 := rfl
  refine w_aload rfl rfl ?_
  refine w_aload rfl rfl ?_
  refine w_iload rfl rfl ?_
  refine w_const rfl ?_
  refine w_invV (rest := [.inr (.inr (some 0))]) rfl rfl rfl rfl rfl (Nat.le_of_ble_eq_true rfl) rfl (by omega) (s_hasTown (K := K) a b  r 0 hR ) (fun v1 h9 hq2 => ?_)
  obtain ⟨rfl, x3, rfl, px3⟩ := hq2
  show f_wp _ (7, [some (.inr (.inr (some 0))), some (.inl r), some (.inl w), none, none, none, none], [.inl x3, .inr (.inr (some 0))], mH a b) _
  refine w_if_eq rfl (fun c4 => ?_) (fun c4 => ?_)
  · skip
    refine w_const rfl ?_
    refine m_putI (z := false) rfl rfl rfl rfl (by first | (intro h9; cases h9; done) | (intro _; first | exact Or.inl rfl | exact Or.inr rfl | assumption)) (fun a5 ea5 => ?_)
    have ha5 : RM K a5 := RM.up hR ea5 ⟨ti_lo _, ti_hi _⟩
    have ua5_0 : a5 0 0 = (1 : Int32) := by rw [ea5, mU_same]
    have wa5_0 := congrArg Int32.toInt ua5_0
    refine w_aload rfl rfl ?_
    refine w_getI (v := .inl (a5 0 0)) rfl rfl rfl rfl rfl ?_
    refine w_if_le rfl (fun c6 => ?_) (fun c6 => ?_)
    · skip
      refine w_aload rfl rfl ?_
      refine w_iload rfl rfl ?_
      refine w_const rfl ?_
      refine w_invV (rest := []) rfl rfl rfl rfl rfl (Nat.le_of_ble_eq_true rfl) rfl (by omega) (s_riverOf (K := K) a5 b  r 11  (by omega) (by omega)) (fun v7 h9 hq8 => ?_)
      obtain ⟨rfl, x9, rfl, px9⟩ := hq8
      show f_wp _ (43, [some (.inr (.inr (some 0))), some (.inl r), some (.inl w), none, none, none, none], [.inl x9], mH a5 b) _
      refine w_istore (lo' := [some (.inr (.inr (some 0))), some (.inl r), some (.inl w), some (.inl x9), none, none, none]) rfl rfl ?_
      refine w_aload rfl rfl ?_
      refine w_getR (v := .inr (.inr (some 6))) rfl rfl rfl rfl rfl ?_
      refine w_const rfl ?_
      refine m_iald rfl rfl (by omega) (fun x10 ex10 => ?_)
      refine w_if_le rfl (fun c11 => ?_) (fun c11 => ?_)
      · skip
        refine w_const rfl ?_
        refine w_istore (lo' := [some (.inr (.inr (some 0))), some (.inl r), some (.inl w), some (.inl x9), some (.inl 0), none, none]) rfl rfl ?_
        refine w_const rfl ?_
        refine w_istore (lo' := [some (.inr (.inr (some 0))), some (.inl r), some (.inl w), some (.inl x9), some (.inl 0), some (.inl 0), none]) rfl rfl ?_
        refine w_const rfl ?_
        refine w_istore (lo' := [some (.inr (.inr (some 0))), some (.inl r), some (.inl w), some (.inl x9), some (.inl 0), some (.inl 0), some (.inl 1)]) rfl rfl ?_
        have loop82 : ∀ (ms9 : Nat) (s : Int32) (i : Int32) , (4 - i.toInt).toNat = ms9 → (1 ≤ i.toInt ∧ i.toInt ≤ 4) → (0 ≤ s.toInt ∧ s.toInt ≤ 3) → f_wp (f_code (t_X13_worst (f_ev mtM d))) (82, [some (.inr (.inr (some 0))), some (.inl r), some (.inl w), some (.inl x9), some (.inl 0), some (.inl s), some (.inl i)], [], mH a5 b) (fun v9 h' => ∃ (a' : Nat → Nat → Int32), h' = mH a' b ∧ RM K a' ∧ (FR [0] a a' ∧ True) ∧ ∃ x : Int32, v9 = some (.inl x) ∧ True) := by
          intro ms9
          induction ms9 using Nat.strongRecOn with
          | _ ms82 ih82 =>
            intro s i  hm82 hi hs
            refine w_iload rfl rfl ?_
            refine w_const rfl ?_
            refine w_ic_ge rfl (fun c12 => ?_) (fun c12 => ?_)
            · skip
              refine w_iload rfl rfl ?_
              refine w_if_ne rfl (fun c13 => ?_) (fun c13 => ?_)
              · skip
                refine w_iload rfl rfl ?_
                refine w_goto rfl ?_
                exact wp_iret (z := false) rfl (fun h9 => by cases h9) ⟨a5, rfl, ha5, ⟨FR.up (FR.rf) (by decide) ea5, trivial⟩, ⟨_, rfl, trivial⟩⟩
              · skip
                refine w_aload rfl rfl ?_
                refine w_const rfl ?_
                refine w_iload rfl rfl ?_
                refine w_iload rfl rfl ?_
                refine w_iload rfl rfl ?_
                refine w_invV (rest := []) rfl rfl rfl rfl rfl (Nat.le_of_ble_eq_true rfl) rfl (by omega) (s_flowAt (K := K) a5 b  0 r x9 s ha5 (by omega) (by omega) (by omega) (((fun (m9 : Nat) (l9 : m9 < 22) (h7 : ACm m9 a) => ACm.up ((fun (m9 : Nat) (l9 : m9 < 22) (h7 : ACm m9 a) => h7) m9 l9 h7) ea5 (by decide)) 0 (by decide) hA))) (fun v14 h9 hq15 => ?_)
                obtain ⟨rfl, x16, rfl, px16⟩ := hq15
                show f_wp _ (142, [some (.inr (.inr (some 0))), some (.inl r), some (.inl w), some (.inl x9), some (.inl 0), some (.inl s), some (.inl i)], [.inl x16], mH a5 b) _
                refine w_iload rfl rfl ?_
                first | refine w_iadd rfl (by omega) (fun x17 tx17 => ?_) | refine w_iiU rfl (fun x17 tx17 => ?_)
                refine w_aload rfl rfl ?_
                refine w_iload rfl rfl ?_
                refine w_const rfl ?_
                refine w_invV (rest := [.inl x17]) rfl rfl rfl rfl rfl (Nat.le_of_ble_eq_true rfl) rfl (by omega) (s_riverOf (K := K) a5 b  r 10  (by omega) (by omega)) (fun v18 h9 hq19 => ?_)
                obtain ⟨rfl, x20, rfl, px20⟩ := hq19
                show f_wp _ (152, [some (.inr (.inr (some 0))), some (.inl r), some (.inl w), some (.inl x9), some (.inl 0), some (.inl s), some (.inl i)], [.inl x20, .inl x17], mH a5 b) _
                first | refine w_isub rfl (by omega) (fun x21 tx21 => ?_) | refine w_iiU rfl (fun x21 tx21 => ?_)
                exact wp_iret (z := false) rfl (fun h9 => by cases h9) ⟨a5, rfl, ha5, ⟨FR.up (FR.rf) (by decide) ea5, trivial⟩, ⟨_, rfl, trivial⟩⟩
            · skip
              refine w_aload rfl rfl ?_
              refine w_const rfl ?_
              refine w_iload rfl rfl ?_
              refine w_iload rfl rfl ?_
              refine w_iload rfl rfl ?_
              refine w_invV (rest := []) rfl rfl rfl rfl rfl (Nat.le_of_ble_eq_true rfl) rfl (by omega) (s_flowAt (K := K) a5 b  0 r x9 i ha5 (by omega) (by omega) (by omega) (((fun (m9 : Nat) (l9 : m9 < 22) (h7 : ACm m9 a) => ACm.up ((fun (m9 : Nat) (l9 : m9 < 22) (h7 : ACm m9 a) => h7) m9 l9 h7) ea5 (by decide)) 0 (by decide) hA))) (fun v22 h9 hq23 => ?_)
              obtain ⟨rfl, x24, rfl, px24⟩ := hq23
              show f_wp _ (97, [some (.inr (.inr (some 0))), some (.inl r), some (.inl w), some (.inl x9), some (.inl 0), some (.inl s), some (.inl i)], [.inl x24], mH a5 b) _
              refine w_aload rfl rfl ?_
              refine w_const rfl ?_
              refine w_iload rfl rfl ?_
              refine w_iload rfl rfl ?_
              refine w_iload rfl rfl ?_
              refine w_invV (rest := [.inl x24]) rfl rfl rfl rfl rfl (Nat.le_of_ble_eq_true rfl) rfl (by omega) (s_flowAt (K := K) a5 b  0 r x9 s ha5 (by omega) (by omega) (by omega) (((fun (m9 : Nat) (l9 : m9 < 22) (h7 : ACm m9 a) => ACm.up ((fun (m9 : Nat) (l9 : m9 < 22) (h7 : ACm m9 a) => h7) m9 l9 h7) ea5 (by decide)) 0 (by decide) hA))) (fun v25 h9 hq26 => ?_)
              obtain ⟨rfl, x27, rfl, px27⟩ := hq26
              show f_wp _ (106, [some (.inr (.inr (some 0))), some (.inl r), some (.inl w), some (.inl x9), some (.inl 0), some (.inl s), some (.inl i)], [.inl x27, .inl x24], mH a5 b) _
              refine w_ic_le rfl (fun c28 => ?_) (fun c28 => ?_)
              · skip
                refine w_iload rfl rfl ?_
                refine w_istore (lo' := [some (.inr (.inr (some 0))), some (.inl r), some (.inl w), some (.inl x9), some (.inl 0), some (.inl s), some (.inl i)]) rfl rfl ?_
                refine w_iinc (lo' := fun z9 => [some (.inr (.inr (some 0))), some (.inl r), some (.inl w), some (.inl x9), some (.inl 0), some (.inl s), some (.inl z9)]) rfl rfl (fun _ => rfl) (by omega) (fun x29 tx29 => ?_)
                refine w_goto rfl ?_
                exact ih82 (4 - x29.toInt).toNat (by omega) s x29 rfl  (by omega) (by omega)
              · skip
                refine w_iload rfl rfl ?_
                refine w_goto rfl ?_
                refine w_istore (lo' := [some (.inr (.inr (some 0))), some (.inl r), some (.inl w), some (.inl x9), some (.inl 0), some (.inl i), some (.inl i)]) rfl rfl ?_
                refine w_iinc (lo' := fun z9 => [some (.inr (.inr (some 0))), some (.inl r), some (.inl w), some (.inl x9), some (.inl 0), some (.inl i), some (.inl z9)]) rfl rfl (fun _ => rfl) (by omega) (fun x30 tx30 => ?_)
                refine w_goto rfl ?_
                exact ih82 (4 - x30.toInt).toNat (by omega) i x30 rfl  (by omega) (by omega)
        exact loop82 _ 0 1 rfl  (by omega) (by omega)
      · skip
        refine w_aload rfl rfl ?_
        refine w_getR (v := .inr (.inr (some 6))) rfl rfl rfl rfl rfl ?_
        refine w_const rfl ?_
        refine m_iald rfl rfl (by omega) (fun x31 ex31 => ?_)
        refine w_aload rfl rfl ?_
        refine w_const rfl ?_
        refine w_iload rfl rfl ?_
        refine w_iload rfl rfl ?_
        refine w_invV (rest := [.inl x31]) rfl rfl rfl rfl rfl (Nat.le_of_ble_eq_true rfl) rfl (by omega) (s_watersAt (K := K) a5 b  0 r x9 ha5 (by omega) (by omega) (((fun (m9 : Nat) (l9 : m9 < 22) (h7 : ACm m9 a) => ACm.up ((fun (m9 : Nat) (l9 : m9 < 22) (h7 : ACm m9 a) => h7) m9 l9 h7) ea5 (by decide)) 0 (by decide) hA))) (fun v32 h9 hq33 => ?_)
        obtain ⟨rfl, x34, rfl, px34⟩ := hq33
        show f_wp _ (66, [some (.inr (.inr (some 0))), some (.inl r), some (.inl w), some (.inl x9), none, none, none], [.inl x34, .inl x31], mH a5 b) _
        refine w_invS (rest := [.inl x31]) rfl (Nat.le_of_ble_eq_true rfl) rfl (Nat.le_of_ble_eq_true rfl) rfl (by omega) (s_bits (K := K) a5 b  x34  ) (fun v35 h9 hq36 => ?_)
        obtain ⟨rfl, x37, rfl, px37⟩ := hq36
        show f_wp _ (69, [some (.inr (.inr (some 0))), some (.inl r), some (.inl w), some (.inl x9), none, none, none], [.inl x37, .inl x31], mH a5 b) _
        refine w_iiU rfl (fun x38 tx38 => ?_)
        refine w_goto rfl ?_
        refine w_istore (lo' := [some (.inr (.inr (some 0))), some (.inl r), some (.inl w), some (.inl x9), some (.inl x38), none, none]) rfl rfl ?_
        refine w_const rfl ?_
        refine w_istore (lo' := [some (.inr (.inr (some 0))), some (.inl r), some (.inl w), some (.inl x9), some (.inl x38), some (.inl 0), none]) rfl rfl ?_
        refine w_const rfl ?_
        refine w_istore (lo' := [some (.inr (.inr (some 0))), some (.inl r), some (.inl w), some (.inl x9), some (.inl x38), some (.inl 0), some (.inl 1)]) rfl rfl ?_
        have loop82 : ∀ (ms9 : Nat) (s : Int32) (i : Int32) , (4 - i.toInt).toNat = ms9 → (1 ≤ i.toInt ∧ i.toInt ≤ 4) → (0 ≤ s.toInt ∧ s.toInt ≤ 3) → f_wp (f_code (t_X13_worst (f_ev mtM d))) (82, [some (.inr (.inr (some 0))), some (.inl r), some (.inl w), some (.inl x9), some (.inl x38), some (.inl s), some (.inl i)], [], mH a5 b) (fun v9 h' => ∃ (a' : Nat → Nat → Int32), h' = mH a' b ∧ RM K a' ∧ (FR [0] a a' ∧ True) ∧ ∃ x : Int32, v9 = some (.inl x) ∧ True) := by
          intro ms9
          induction ms9 using Nat.strongRecOn with
          | _ ms82 ih82 =>
            intro s i  hm82 hi hs
            refine w_iload rfl rfl ?_
            refine w_const rfl ?_
            refine w_ic_ge rfl (fun c39 => ?_) (fun c39 => ?_)
            · skip
              refine w_iload rfl rfl ?_
              refine w_if_ne rfl (fun c40 => ?_) (fun c40 => ?_)
              · skip
                refine w_iload rfl rfl ?_
                refine w_goto rfl ?_
                exact wp_iret (z := false) rfl (fun h9 => by cases h9) ⟨a5, rfl, ha5, ⟨FR.up (FR.rf) (by decide) ea5, trivial⟩, ⟨_, rfl, trivial⟩⟩
              · skip
                refine w_aload rfl rfl ?_
                refine w_const rfl ?_
                refine w_iload rfl rfl ?_
                refine w_iload rfl rfl ?_
                refine w_iload rfl rfl ?_
                refine w_invV (rest := []) rfl rfl rfl rfl rfl (Nat.le_of_ble_eq_true rfl) rfl (by omega) (s_flowAt (K := K) a5 b  0 r x9 s ha5 (by omega) (by omega) (by omega) (((fun (m9 : Nat) (l9 : m9 < 22) (h7 : ACm m9 a) => ACm.up ((fun (m9 : Nat) (l9 : m9 < 22) (h7 : ACm m9 a) => h7) m9 l9 h7) ea5 (by decide)) 0 (by decide) hA))) (fun v41 h9 hq42 => ?_)
                obtain ⟨rfl, x43, rfl, px43⟩ := hq42
                show f_wp _ (142, [some (.inr (.inr (some 0))), some (.inl r), some (.inl w), some (.inl x9), some (.inl x38), some (.inl s), some (.inl i)], [.inl x43], mH a5 b) _
                refine w_iload rfl rfl ?_
                first | refine w_iadd rfl (by omega) (fun x44 tx44 => ?_) | refine w_iiU rfl (fun x44 tx44 => ?_)
                refine w_aload rfl rfl ?_
                refine w_iload rfl rfl ?_
                refine w_const rfl ?_
                refine w_invV (rest := [.inl x44]) rfl rfl rfl rfl rfl (Nat.le_of_ble_eq_true rfl) rfl (by omega) (s_riverOf (K := K) a5 b  r 10  (by omega) (by omega)) (fun v45 h9 hq46 => ?_)
                obtain ⟨rfl, x47, rfl, px47⟩ := hq46
                show f_wp _ (152, [some (.inr (.inr (some 0))), some (.inl r), some (.inl w), some (.inl x9), some (.inl x38), some (.inl s), some (.inl i)], [.inl x47, .inl x44], mH a5 b) _
                first | refine w_isub rfl (by omega) (fun x48 tx48 => ?_) | refine w_iiU rfl (fun x48 tx48 => ?_)
                exact wp_iret (z := false) rfl (fun h9 => by cases h9) ⟨a5, rfl, ha5, ⟨FR.up (FR.rf) (by decide) ea5, trivial⟩, ⟨_, rfl, trivial⟩⟩
            · skip
              refine w_aload rfl rfl ?_
              refine w_const rfl ?_
              refine w_iload rfl rfl ?_
              refine w_iload rfl rfl ?_
              refine w_iload rfl rfl ?_
              refine w_invV (rest := []) rfl rfl rfl rfl rfl (Nat.le_of_ble_eq_true rfl) rfl (by omega) (s_flowAt (K := K) a5 b  0 r x9 i ha5 (by omega) (by omega) (by omega) (((fun (m9 : Nat) (l9 : m9 < 22) (h7 : ACm m9 a) => ACm.up ((fun (m9 : Nat) (l9 : m9 < 22) (h7 : ACm m9 a) => h7) m9 l9 h7) ea5 (by decide)) 0 (by decide) hA))) (fun v49 h9 hq50 => ?_)
              obtain ⟨rfl, x51, rfl, px51⟩ := hq50
              show f_wp _ (97, [some (.inr (.inr (some 0))), some (.inl r), some (.inl w), some (.inl x9), some (.inl x38), some (.inl s), some (.inl i)], [.inl x51], mH a5 b) _
              refine w_aload rfl rfl ?_
              refine w_const rfl ?_
              refine w_iload rfl rfl ?_
              refine w_iload rfl rfl ?_
              refine w_iload rfl rfl ?_
              refine w_invV (rest := [.inl x51]) rfl rfl rfl rfl rfl (Nat.le_of_ble_eq_true rfl) rfl (by omega) (s_flowAt (K := K) a5 b  0 r x9 s ha5 (by omega) (by omega) (by omega) (((fun (m9 : Nat) (l9 : m9 < 22) (h7 : ACm m9 a) => ACm.up ((fun (m9 : Nat) (l9 : m9 < 22) (h7 : ACm m9 a) => h7) m9 l9 h7) ea5 (by decide)) 0 (by decide) hA))) (fun v52 h9 hq53 => ?_)
              obtain ⟨rfl, x54, rfl, px54⟩ := hq53
              show f_wp _ (106, [some (.inr (.inr (some 0))), some (.inl r), some (.inl w), some (.inl x9), some (.inl x38), some (.inl s), some (.inl i)], [.inl x54, .inl x51], mH a5 b) _
              refine w_ic_le rfl (fun c55 => ?_) (fun c55 => ?_)
              · skip
                refine w_iload rfl rfl ?_
                refine w_istore (lo' := [some (.inr (.inr (some 0))), some (.inl r), some (.inl w), some (.inl x9), some (.inl x38), some (.inl s), some (.inl i)]) rfl rfl ?_
                refine w_iinc (lo' := fun z9 => [some (.inr (.inr (some 0))), some (.inl r), some (.inl w), some (.inl x9), some (.inl x38), some (.inl s), some (.inl z9)]) rfl rfl (fun _ => rfl) (by omega) (fun x56 tx56 => ?_)
                refine w_goto rfl ?_
                exact ih82 (4 - x56.toInt).toNat (by omega) s x56 rfl  (by omega) (by omega)
              · skip
                refine w_iload rfl rfl ?_
                refine w_goto rfl ?_
                refine w_istore (lo' := [some (.inr (.inr (some 0))), some (.inl r), some (.inl w), some (.inl x9), some (.inl x38), some (.inl i), some (.inl i)]) rfl rfl ?_
                refine w_iinc (lo' := fun z9 => [some (.inr (.inr (some 0))), some (.inl r), some (.inl w), some (.inl x9), some (.inl x38), some (.inl i), some (.inl z9)]) rfl rfl (fun _ => rfl) (by omega) (fun x57 tx57 => ?_)
                refine w_goto rfl ?_
                exact ih82 (4 - x57.toInt).toNat (by omega) i x57 rfl  (by omega) (by omega)
        exact loop82 _ 0 1 rfl  (by omega) (by omega)
    · skip
      refine w_const rfl ?_
      exact wp_iret (z := false) rfl (fun h9 => by cases h9) ⟨a5, rfl, ha5, ⟨FR.up (FR.rf) (by decide) ea5, trivial⟩, ⟨_, rfl, trivial⟩⟩
  · skip
    refine w_iload rfl rfl ?_
    refine w_const rfl ?_
    refine w_const rfl ?_
    refine w_invS (rest := [.inr (.inr (some 0))]) rfl (Nat.le_of_ble_eq_true rfl) rfl (Nat.le_of_ble_eq_true rfl) rfl (by omega) (s_within (K := K) a b  w 0 1  ) (fun v58 h9 hq59 => ?_)
    obtain ⟨rfl, x60, rfl, px60⟩ := hq59
    show f_wp _ (16, [some (.inr (.inr (some 0))), some (.inl r), some (.inl w), none, none, none, none], [.inl x60, .inr (.inr (some 0))], mH a b) _
    refine w_if_eq rfl (fun c61 => ?_) (fun c61 => ?_)
    · skip
      refine w_const rfl ?_
      refine m_putI (z := false) rfl rfl rfl rfl (by first | (intro h9; cases h9; done) | (intro _; first | exact Or.inl rfl | exact Or.inr rfl | assumption)) (fun a62 ea62 => ?_)
      have ha62 : RM K a62 := RM.up hR ea62 ⟨ti_lo _, ti_hi _⟩
      have ua62_0 : a62 0 0 = (1 : Int32) := by rw [ea62, mU_same]
      have wa62_0 := congrArg Int32.toInt ua62_0
      refine w_aload rfl rfl ?_
      refine w_getI (v := .inl (a62 0 0)) rfl rfl rfl rfl rfl ?_
      refine w_if_le rfl (fun c63 => ?_) (fun c63 => ?_)
      · skip
        refine w_aload rfl rfl ?_
        refine w_iload rfl rfl ?_
        refine w_const rfl ?_
        refine w_invV (rest := []) rfl rfl rfl rfl rfl (Nat.le_of_ble_eq_true rfl) rfl (by omega) (s_riverOf (K := K) a62 b  r 11  (by omega) (by omega)) (fun v64 h9 hq65 => ?_)
        obtain ⟨rfl, x66, rfl, px66⟩ := hq65
        show f_wp _ (43, [some (.inr (.inr (some 0))), some (.inl r), some (.inl w), none, none, none, none], [.inl x66], mH a62 b) _
        refine w_istore (lo' := [some (.inr (.inr (some 0))), some (.inl r), some (.inl w), some (.inl x66), none, none, none]) rfl rfl ?_
        refine w_aload rfl rfl ?_
        refine w_getR (v := .inr (.inr (some 6))) rfl rfl rfl rfl rfl ?_
        refine w_const rfl ?_
        refine m_iald rfl rfl (by omega) (fun x67 ex67 => ?_)
        refine w_if_le rfl (fun c68 => ?_) (fun c68 => ?_)
        · skip
          refine w_const rfl ?_
          refine w_istore (lo' := [some (.inr (.inr (some 0))), some (.inl r), some (.inl w), some (.inl x66), some (.inl 0), none, none]) rfl rfl ?_
          refine w_const rfl ?_
          refine w_istore (lo' := [some (.inr (.inr (some 0))), some (.inl r), some (.inl w), some (.inl x66), some (.inl 0), some (.inl 0), none]) rfl rfl ?_
          refine w_const rfl ?_
          refine w_istore (lo' := [some (.inr (.inr (some 0))), some (.inl r), some (.inl w), some (.inl x66), some (.inl 0), some (.inl 0), some (.inl 1)]) rfl rfl ?_
          have loop82 : ∀ (ms9 : Nat) (s : Int32) (i : Int32) , (4 - i.toInt).toNat = ms9 → (1 ≤ i.toInt ∧ i.toInt ≤ 4) → (0 ≤ s.toInt ∧ s.toInt ≤ 3) → f_wp (f_code (t_X13_worst (f_ev mtM d))) (82, [some (.inr (.inr (some 0))), some (.inl r), some (.inl w), some (.inl x66), some (.inl 0), some (.inl s), some (.inl i)], [], mH a62 b) (fun v9 h' => ∃ (a' : Nat → Nat → Int32), h' = mH a' b ∧ RM K a' ∧ (FR [0] a a' ∧ True) ∧ ∃ x : Int32, v9 = some (.inl x) ∧ True) := by
            intro ms9
            induction ms9 using Nat.strongRecOn with
            | _ ms82 ih82 =>
              intro s i  hm82 hi hs
              refine w_iload rfl rfl ?_
              refine w_const rfl ?_
              refine w_ic_ge rfl (fun c69 => ?_) (fun c69 => ?_)
              · skip
                refine w_iload rfl rfl ?_
                refine w_if_ne rfl (fun c70 => ?_) (fun c70 => ?_)
                · skip
                  refine w_iload rfl rfl ?_
                  refine w_goto rfl ?_
                  exact wp_iret (z := false) rfl (fun h9 => by cases h9) ⟨a62, rfl, ha62, ⟨FR.up (FR.rf) (by decide) ea62, trivial⟩, ⟨_, rfl, trivial⟩⟩
                · skip
                  refine w_aload rfl rfl ?_
                  refine w_const rfl ?_
                  refine w_iload rfl rfl ?_
                  refine w_iload rfl rfl ?_
                  refine w_iload rfl rfl ?_
                  refine w_invV (rest := []) rfl rfl rfl rfl rfl (Nat.le_of_ble_eq_true rfl) rfl (by omega) (s_flowAt (K := K) a62 b  0 r x66 s ha62 (by omega) (by omega) (by omega) (((fun (m9 : Nat) (l9 : m9 < 22) (h7 : ACm m9 a) => ACm.up ((fun (m9 : Nat) (l9 : m9 < 22) (h7 : ACm m9 a) => h7) m9 l9 h7) ea62 (by decide)) 0 (by decide) hA))) (fun v71 h9 hq72 => ?_)
                  obtain ⟨rfl, x73, rfl, px73⟩ := hq72
                  show f_wp _ (142, [some (.inr (.inr (some 0))), some (.inl r), some (.inl w), some (.inl x66), some (.inl 0), some (.inl s), some (.inl i)], [.inl x73], mH a62 b) _
                  refine w_iload rfl rfl ?_
                  first | refine w_iadd rfl (by omega) (fun x74 tx74 => ?_) | refine w_iiU rfl (fun x74 tx74 => ?_)
                  refine w_aload rfl rfl ?_
                  refine w_iload rfl rfl ?_
                  refine w_const rfl ?_
                  refine w_invV (rest := [.inl x74]) rfl rfl rfl rfl rfl (Nat.le_of_ble_eq_true rfl) rfl (by omega) (s_riverOf (K := K) a62 b  r 10  (by omega) (by omega)) (fun v75 h9 hq76 => ?_)
                  obtain ⟨rfl, x77, rfl, px77⟩ := hq76
                  show f_wp _ (152, [some (.inr (.inr (some 0))), some (.inl r), some (.inl w), some (.inl x66), some (.inl 0), some (.inl s), some (.inl i)], [.inl x77, .inl x74], mH a62 b) _
                  first | refine w_isub rfl (by omega) (fun x78 tx78 => ?_) | refine w_iiU rfl (fun x78 tx78 => ?_)
                  exact wp_iret (z := false) rfl (fun h9 => by cases h9) ⟨a62, rfl, ha62, ⟨FR.up (FR.rf) (by decide) ea62, trivial⟩, ⟨_, rfl, trivial⟩⟩
              · skip
                refine w_aload rfl rfl ?_
                refine w_const rfl ?_
                refine w_iload rfl rfl ?_
                refine w_iload rfl rfl ?_
                refine w_iload rfl rfl ?_
                refine w_invV (rest := []) rfl rfl rfl rfl rfl (Nat.le_of_ble_eq_true rfl) rfl (by omega) (s_flowAt (K := K) a62 b  0 r x66 i ha62 (by omega) (by omega) (by omega) (((fun (m9 : Nat) (l9 : m9 < 22) (h7 : ACm m9 a) => ACm.up ((fun (m9 : Nat) (l9 : m9 < 22) (h7 : ACm m9 a) => h7) m9 l9 h7) ea62 (by decide)) 0 (by decide) hA))) (fun v79 h9 hq80 => ?_)
                obtain ⟨rfl, x81, rfl, px81⟩ := hq80
                show f_wp _ (97, [some (.inr (.inr (some 0))), some (.inl r), some (.inl w), some (.inl x66), some (.inl 0), some (.inl s), some (.inl i)], [.inl x81], mH a62 b) _
                refine w_aload rfl rfl ?_
                refine w_const rfl ?_
                refine w_iload rfl rfl ?_
                refine w_iload rfl rfl ?_
                refine w_iload rfl rfl ?_
                refine w_invV (rest := [.inl x81]) rfl rfl rfl rfl rfl (Nat.le_of_ble_eq_true rfl) rfl (by omega) (s_flowAt (K := K) a62 b  0 r x66 s ha62 (by omega) (by omega) (by omega) (((fun (m9 : Nat) (l9 : m9 < 22) (h7 : ACm m9 a) => ACm.up ((fun (m9 : Nat) (l9 : m9 < 22) (h7 : ACm m9 a) => h7) m9 l9 h7) ea62 (by decide)) 0 (by decide) hA))) (fun v82 h9 hq83 => ?_)
                obtain ⟨rfl, x84, rfl, px84⟩ := hq83
                show f_wp _ (106, [some (.inr (.inr (some 0))), some (.inl r), some (.inl w), some (.inl x66), some (.inl 0), some (.inl s), some (.inl i)], [.inl x84, .inl x81], mH a62 b) _
                refine w_ic_le rfl (fun c85 => ?_) (fun c85 => ?_)
                · skip
                  refine w_iload rfl rfl ?_
                  refine w_istore (lo' := [some (.inr (.inr (some 0))), some (.inl r), some (.inl w), some (.inl x66), some (.inl 0), some (.inl s), some (.inl i)]) rfl rfl ?_
                  refine w_iinc (lo' := fun z9 => [some (.inr (.inr (some 0))), some (.inl r), some (.inl w), some (.inl x66), some (.inl 0), some (.inl s), some (.inl z9)]) rfl rfl (fun _ => rfl) (by omega) (fun x86 tx86 => ?_)
                  refine w_goto rfl ?_
                  exact ih82 (4 - x86.toInt).toNat (by omega) s x86 rfl  (by omega) (by omega)
                · skip
                  refine w_iload rfl rfl ?_
                  refine w_goto rfl ?_
                  refine w_istore (lo' := [some (.inr (.inr (some 0))), some (.inl r), some (.inl w), some (.inl x66), some (.inl 0), some (.inl i), some (.inl i)]) rfl rfl ?_
                  refine w_iinc (lo' := fun z9 => [some (.inr (.inr (some 0))), some (.inl r), some (.inl w), some (.inl x66), some (.inl 0), some (.inl i), some (.inl z9)]) rfl rfl (fun _ => rfl) (by omega) (fun x87 tx87 => ?_)
                  refine w_goto rfl ?_
                  exact ih82 (4 - x87.toInt).toNat (by omega) i x87 rfl  (by omega) (by omega)
          exact loop82 _ 0 1 rfl  (by omega) (by omega)
        · skip
          refine w_aload rfl rfl ?_
          refine w_getR (v := .inr (.inr (some 6))) rfl rfl rfl rfl rfl ?_
          refine w_const rfl ?_
          refine m_iald rfl rfl (by omega) (fun x88 ex88 => ?_)
          refine w_aload rfl rfl ?_
          refine w_const rfl ?_
          refine w_iload rfl rfl ?_
          refine w_iload rfl rfl ?_
          refine w_invV (rest := [.inl x88]) rfl rfl rfl rfl rfl (Nat.le_of_ble_eq_true rfl) rfl (by omega) (s_watersAt (K := K) a62 b  0 r x66 ha62 (by omega) (by omega) (((fun (m9 : Nat) (l9 : m9 < 22) (h7 : ACm m9 a) => ACm.up ((fun (m9 : Nat) (l9 : m9 < 22) (h7 : ACm m9 a) => h7) m9 l9 h7) ea62 (by decide)) 0 (by decide) hA))) (fun v89 h9 hq90 => ?_)
          obtain ⟨rfl, x91, rfl, px91⟩ := hq90
          show f_wp _ (66, [some (.inr (.inr (some 0))), some (.inl r), some (.inl w), some (.inl x66), none, none, none], [.inl x91, .inl x88], mH a62 b) _
          refine w_invS (rest := [.inl x88]) rfl (Nat.le_of_ble_eq_true rfl) rfl (Nat.le_of_ble_eq_true rfl) rfl (by omega) (s_bits (K := K) a62 b  x91  ) (fun v92 h9 hq93 => ?_)
          obtain ⟨rfl, x94, rfl, px94⟩ := hq93
          show f_wp _ (69, [some (.inr (.inr (some 0))), some (.inl r), some (.inl w), some (.inl x66), none, none, none], [.inl x94, .inl x88], mH a62 b) _
          refine w_iiU rfl (fun x95 tx95 => ?_)
          refine w_goto rfl ?_
          refine w_istore (lo' := [some (.inr (.inr (some 0))), some (.inl r), some (.inl w), some (.inl x66), some (.inl x95), none, none]) rfl rfl ?_
          refine w_const rfl ?_
          refine w_istore (lo' := [some (.inr (.inr (some 0))), some (.inl r), some (.inl w), some (.inl x66), some (.inl x95), some (.inl 0), none]) rfl rfl ?_
          refine w_const rfl ?_
          refine w_istore (lo' := [some (.inr (.inr (some 0))), some (.inl r), some (.inl w), some (.inl x66), some (.inl x95), some (.inl 0), some (.inl 1)]) rfl rfl ?_
          have loop82 : ∀ (ms9 : Nat) (s : Int32) (i : Int32) , (4 - i.toInt).toNat = ms9 → (1 ≤ i.toInt ∧ i.toInt ≤ 4) → (0 ≤ s.toInt ∧ s.toInt ≤ 3) → f_wp (f_code (t_X13_worst (f_ev mtM d))) (82, [some (.inr (.inr (some 0))), some (.inl r), some (.inl w), some (.inl x66), some (.inl x95), some (.inl s), some (.inl i)], [], mH a62 b) (fun v9 h' => ∃ (a' : Nat → Nat → Int32), h' = mH a' b ∧ RM K a' ∧ (FR [0] a a' ∧ True) ∧ ∃ x : Int32, v9 = some (.inl x) ∧ True) := by
            intro ms9
            induction ms9 using Nat.strongRecOn with
            | _ ms82 ih82 =>
              intro s i  hm82 hi hs
              refine w_iload rfl rfl ?_
              refine w_const rfl ?_
              refine w_ic_ge rfl (fun c96 => ?_) (fun c96 => ?_)
              · skip
                refine w_iload rfl rfl ?_
                refine w_if_ne rfl (fun c97 => ?_) (fun c97 => ?_)
                · skip
                  refine w_iload rfl rfl ?_
                  refine w_goto rfl ?_
                  exact wp_iret (z := false) rfl (fun h9 => by cases h9) ⟨a62, rfl, ha62, ⟨FR.up (FR.rf) (by decide) ea62, trivial⟩, ⟨_, rfl, trivial⟩⟩
                · skip
                  refine w_aload rfl rfl ?_
                  refine w_const rfl ?_
                  refine w_iload rfl rfl ?_
                  refine w_iload rfl rfl ?_
                  refine w_iload rfl rfl ?_
                  refine w_invV (rest := []) rfl rfl rfl rfl rfl (Nat.le_of_ble_eq_true rfl) rfl (by omega) (s_flowAt (K := K) a62 b  0 r x66 s ha62 (by omega) (by omega) (by omega) (((fun (m9 : Nat) (l9 : m9 < 22) (h7 : ACm m9 a) => ACm.up ((fun (m9 : Nat) (l9 : m9 < 22) (h7 : ACm m9 a) => h7) m9 l9 h7) ea62 (by decide)) 0 (by decide) hA))) (fun v98 h9 hq99 => ?_)
                  obtain ⟨rfl, x100, rfl, px100⟩ := hq99
                  show f_wp _ (142, [some (.inr (.inr (some 0))), some (.inl r), some (.inl w), some (.inl x66), some (.inl x95), some (.inl s), some (.inl i)], [.inl x100], mH a62 b) _
                  refine w_iload rfl rfl ?_
                  first | refine w_iadd rfl (by omega) (fun x101 tx101 => ?_) | refine w_iiU rfl (fun x101 tx101 => ?_)
                  refine w_aload rfl rfl ?_
                  refine w_iload rfl rfl ?_
                  refine w_const rfl ?_
                  refine w_invV (rest := [.inl x101]) rfl rfl rfl rfl rfl (Nat.le_of_ble_eq_true rfl) rfl (by omega) (s_riverOf (K := K) a62 b  r 10  (by omega) (by omega)) (fun v102 h9 hq103 => ?_)
                  obtain ⟨rfl, x104, rfl, px104⟩ := hq103
                  show f_wp _ (152, [some (.inr (.inr (some 0))), some (.inl r), some (.inl w), some (.inl x66), some (.inl x95), some (.inl s), some (.inl i)], [.inl x104, .inl x101], mH a62 b) _
                  first | refine w_isub rfl (by omega) (fun x105 tx105 => ?_) | refine w_iiU rfl (fun x105 tx105 => ?_)
                  exact wp_iret (z := false) rfl (fun h9 => by cases h9) ⟨a62, rfl, ha62, ⟨FR.up (FR.rf) (by decide) ea62, trivial⟩, ⟨_, rfl, trivial⟩⟩
              · skip
                refine w_aload rfl rfl ?_
                refine w_const rfl ?_
                refine w_iload rfl rfl ?_
                refine w_iload rfl rfl ?_
                refine w_iload rfl rfl ?_
                refine w_invV (rest := []) rfl rfl rfl rfl rfl (Nat.le_of_ble_eq_true rfl) rfl (by omega) (s_flowAt (K := K) a62 b  0 r x66 i ha62 (by omega) (by omega) (by omega) (((fun (m9 : Nat) (l9 : m9 < 22) (h7 : ACm m9 a) => ACm.up ((fun (m9 : Nat) (l9 : m9 < 22) (h7 : ACm m9 a) => h7) m9 l9 h7) ea62 (by decide)) 0 (by decide) hA))) (fun v106 h9 hq107 => ?_)
                obtain ⟨rfl, x108, rfl, px108⟩ := hq107
                show f_wp _ (97, [some (.inr (.inr (some 0))), some (.inl r), some (.inl w), some (.inl x66), some (.inl x95), some (.inl s), some (.inl i)], [.inl x108], mH a62 b) _
                refine w_aload rfl rfl ?_
                refine w_const rfl ?_
                refine w_iload rfl rfl ?_
                refine w_iload rfl rfl ?_
                refine w_iload rfl rfl ?_
                refine w_invV (rest := [.inl x108]) rfl rfl rfl rfl rfl (Nat.le_of_ble_eq_true rfl) rfl (by omega) (s_flowAt (K := K) a62 b  0 r x66 s ha62 (by omega) (by omega) (by omega) (((fun (m9 : Nat) (l9 : m9 < 22) (h7 : ACm m9 a) => ACm.up ((fun (m9 : Nat) (l9 : m9 < 22) (h7 : ACm m9 a) => h7) m9 l9 h7) ea62 (by decide)) 0 (by decide) hA))) (fun v109 h9 hq110 => ?_)
                obtain ⟨rfl, x111, rfl, px111⟩ := hq110
                show f_wp _ (106, [some (.inr (.inr (some 0))), some (.inl r), some (.inl w), some (.inl x66), some (.inl x95), some (.inl s), some (.inl i)], [.inl x111, .inl x108], mH a62 b) _
                refine w_ic_le rfl (fun c112 => ?_) (fun c112 => ?_)
                · skip
                  refine w_iload rfl rfl ?_
                  refine w_istore (lo' := [some (.inr (.inr (some 0))), some (.inl r), some (.inl w), some (.inl x66), some (.inl x95), some (.inl s), some (.inl i)]) rfl rfl ?_
                  refine w_iinc (lo' := fun z9 => [some (.inr (.inr (some 0))), some (.inl r), some (.inl w), some (.inl x66), some (.inl x95), some (.inl s), some (.inl z9)]) rfl rfl (fun _ => rfl) (by omega) (fun x113 tx113 => ?_)
                  refine w_goto rfl ?_
                  exact ih82 (4 - x113.toInt).toNat (by omega) s x113 rfl  (by omega) (by omega)
                · skip
                  refine w_iload rfl rfl ?_
                  refine w_goto rfl ?_
                  refine w_istore (lo' := [some (.inr (.inr (some 0))), some (.inl r), some (.inl w), some (.inl x66), some (.inl x95), some (.inl i), some (.inl i)]) rfl rfl ?_
                  refine w_iinc (lo' := fun z9 => [some (.inr (.inr (some 0))), some (.inl r), some (.inl w), some (.inl x66), some (.inl x95), some (.inl i), some (.inl z9)]) rfl rfl (fun _ => rfl) (by omega) (fun x114 tx114 => ?_)
                  refine w_goto rfl ?_
                  exact ih82 (4 - x114.toInt).toNat (by omega) i x114 rfl  (by omega) (by omega)
          exact loop82 _ 0 1 rfl  (by omega) (by omega)
      · skip
        refine w_const rfl ?_
        exact wp_iret (z := false) rfl (fun h9 => by cases h9) ⟨a62, rfl, ha62, ⟨FR.up (FR.rf) (by decide) ea62, trivial⟩, ⟨_, rfl, trivial⟩⟩
    · skip
      refine w_const rfl ?_
      refine w_goto rfl ?_
      refine m_putI (z := false) rfl rfl rfl rfl (by first | (intro h9; cases h9; done) | (intro _; first | exact Or.inl rfl | exact Or.inr rfl | assumption)) (fun a115 ea115 => ?_)
      have ha115 : RM K a115 := RM.up hR ea115 ⟨ti_lo _, ti_hi _⟩
      have ua115_0 : a115 0 0 = (0 : Int32) := by rw [ea115, mU_same]
      have wa115_0 := congrArg Int32.toInt ua115_0
      refine w_aload rfl rfl ?_
      refine w_getI (v := .inl (a115 0 0)) rfl rfl rfl rfl rfl ?_
      refine w_if_le rfl (fun c116 => ?_) (fun c116 => ?_)
      · skip
        refine w_aload rfl rfl ?_
        refine w_iload rfl rfl ?_
        refine w_const rfl ?_
        refine w_invV (rest := []) rfl rfl rfl rfl rfl (Nat.le_of_ble_eq_true rfl) rfl (by omega) (s_riverOf (K := K) a115 b  r 11  (by omega) (by omega)) (fun v117 h9 hq118 => ?_)
        obtain ⟨rfl, x119, rfl, px119⟩ := hq118
        show f_wp _ (43, [some (.inr (.inr (some 0))), some (.inl r), some (.inl w), none, none, none, none], [.inl x119], mH a115 b) _
        refine w_istore (lo' := [some (.inr (.inr (some 0))), some (.inl r), some (.inl w), some (.inl x119), none, none, none]) rfl rfl ?_
        refine w_aload rfl rfl ?_
        refine w_getR (v := .inr (.inr (some 6))) rfl rfl rfl rfl rfl ?_
        refine w_const rfl ?_
        refine m_iald rfl rfl (by omega) (fun x120 ex120 => ?_)
        refine w_if_le rfl (fun c121 => ?_) (fun c121 => ?_)
        · skip
          refine w_const rfl ?_
          refine w_istore (lo' := [some (.inr (.inr (some 0))), some (.inl r), some (.inl w), some (.inl x119), some (.inl 0), none, none]) rfl rfl ?_
          refine w_const rfl ?_
          refine w_istore (lo' := [some (.inr (.inr (some 0))), some (.inl r), some (.inl w), some (.inl x119), some (.inl 0), some (.inl 0), none]) rfl rfl ?_
          refine w_const rfl ?_
          refine w_istore (lo' := [some (.inr (.inr (some 0))), some (.inl r), some (.inl w), some (.inl x119), some (.inl 0), some (.inl 0), some (.inl 1)]) rfl rfl ?_
          have loop82 : ∀ (ms9 : Nat) (s : Int32) (i : Int32) , (4 - i.toInt).toNat = ms9 → (1 ≤ i.toInt ∧ i.toInt ≤ 4) → (0 ≤ s.toInt ∧ s.toInt ≤ 3) → f_wp (f_code (t_X13_worst (f_ev mtM d))) (82, [some (.inr (.inr (some 0))), some (.inl r), some (.inl w), some (.inl x119), some (.inl 0), some (.inl s), some (.inl i)], [], mH a115 b) (fun v9 h' => ∃ (a' : Nat → Nat → Int32), h' = mH a' b ∧ RM K a' ∧ (FR [0] a a' ∧ True) ∧ ∃ x : Int32, v9 = some (.inl x) ∧ True) := by
            intro ms9
            induction ms9 using Nat.strongRecOn with
            | _ ms82 ih82 =>
              intro s i  hm82 hi hs
              refine w_iload rfl rfl ?_
              refine w_const rfl ?_
              refine w_ic_ge rfl (fun c122 => ?_) (fun c122 => ?_)
              · skip
                refine w_iload rfl rfl ?_
                refine w_if_ne rfl (fun c123 => ?_) (fun c123 => ?_)
                · skip
                  refine w_iload rfl rfl ?_
                  refine w_goto rfl ?_
                  exact wp_iret (z := false) rfl (fun h9 => by cases h9) ⟨a115, rfl, ha115, ⟨FR.up (FR.rf) (by decide) ea115, trivial⟩, ⟨_, rfl, trivial⟩⟩
                · skip
                  refine w_aload rfl rfl ?_
                  refine w_const rfl ?_
                  refine w_iload rfl rfl ?_
                  refine w_iload rfl rfl ?_
                  refine w_iload rfl rfl ?_
                  refine w_invV (rest := []) rfl rfl rfl rfl rfl (Nat.le_of_ble_eq_true rfl) rfl (by omega) (s_flowAt (K := K) a115 b  0 r x119 s ha115 (by omega) (by omega) (by omega) (((fun (m9 : Nat) (l9 : m9 < 22) (h7 : ACm m9 a) => ACm.up ((fun (m9 : Nat) (l9 : m9 < 22) (h7 : ACm m9 a) => h7) m9 l9 h7) ea115 (by decide)) 0 (by decide) hA))) (fun v124 h9 hq125 => ?_)
                  obtain ⟨rfl, x126, rfl, px126⟩ := hq125
                  show f_wp _ (142, [some (.inr (.inr (some 0))), some (.inl r), some (.inl w), some (.inl x119), some (.inl 0), some (.inl s), some (.inl i)], [.inl x126], mH a115 b) _
                  refine w_iload rfl rfl ?_
                  first | refine w_iadd rfl (by omega) (fun x127 tx127 => ?_) | refine w_iiU rfl (fun x127 tx127 => ?_)
                  refine w_aload rfl rfl ?_
                  refine w_iload rfl rfl ?_
                  refine w_const rfl ?_
                  refine w_invV (rest := [.inl x127]) rfl rfl rfl rfl rfl (Nat.le_of_ble_eq_true rfl) rfl (by omega) (s_riverOf (K := K) a115 b  r 10  (by omega) (by omega)) (fun v128 h9 hq129 => ?_)
                  obtain ⟨rfl, x130, rfl, px130⟩ := hq129
                  show f_wp _ (152, [some (.inr (.inr (some 0))), some (.inl r), some (.inl w), some (.inl x119), some (.inl 0), some (.inl s), some (.inl i)], [.inl x130, .inl x127], mH a115 b) _
                  first | refine w_isub rfl (by omega) (fun x131 tx131 => ?_) | refine w_iiU rfl (fun x131 tx131 => ?_)
                  exact wp_iret (z := false) rfl (fun h9 => by cases h9) ⟨a115, rfl, ha115, ⟨FR.up (FR.rf) (by decide) ea115, trivial⟩, ⟨_, rfl, trivial⟩⟩
              · skip
                refine w_aload rfl rfl ?_
                refine w_const rfl ?_
                refine w_iload rfl rfl ?_
                refine w_iload rfl rfl ?_
                refine w_iload rfl rfl ?_
                refine w_invV (rest := []) rfl rfl rfl rfl rfl (Nat.le_of_ble_eq_true rfl) rfl (by omega) (s_flowAt (K := K) a115 b  0 r x119 i ha115 (by omega) (by omega) (by omega) (((fun (m9 : Nat) (l9 : m9 < 22) (h7 : ACm m9 a) => ACm.up ((fun (m9 : Nat) (l9 : m9 < 22) (h7 : ACm m9 a) => h7) m9 l9 h7) ea115 (by decide)) 0 (by decide) hA))) (fun v132 h9 hq133 => ?_)
                obtain ⟨rfl, x134, rfl, px134⟩ := hq133
                show f_wp _ (97, [some (.inr (.inr (some 0))), some (.inl r), some (.inl w), some (.inl x119), some (.inl 0), some (.inl s), some (.inl i)], [.inl x134], mH a115 b) _
                refine w_aload rfl rfl ?_
                refine w_const rfl ?_
                refine w_iload rfl rfl ?_
                refine w_iload rfl rfl ?_
                refine w_iload rfl rfl ?_
                refine w_invV (rest := [.inl x134]) rfl rfl rfl rfl rfl (Nat.le_of_ble_eq_true rfl) rfl (by omega) (s_flowAt (K := K) a115 b  0 r x119 s ha115 (by omega) (by omega) (by omega) (((fun (m9 : Nat) (l9 : m9 < 22) (h7 : ACm m9 a) => ACm.up ((fun (m9 : Nat) (l9 : m9 < 22) (h7 : ACm m9 a) => h7) m9 l9 h7) ea115 (by decide)) 0 (by decide) hA))) (fun v135 h9 hq136 => ?_)
                obtain ⟨rfl, x137, rfl, px137⟩ := hq136
                show f_wp _ (106, [some (.inr (.inr (some 0))), some (.inl r), some (.inl w), some (.inl x119), some (.inl 0), some (.inl s), some (.inl i)], [.inl x137, .inl x134], mH a115 b) _
                refine w_ic_le rfl (fun c138 => ?_) (fun c138 => ?_)
                · skip
                  refine w_iload rfl rfl ?_
                  refine w_istore (lo' := [some (.inr (.inr (some 0))), some (.inl r), some (.inl w), some (.inl x119), some (.inl 0), some (.inl s), some (.inl i)]) rfl rfl ?_
                  refine w_iinc (lo' := fun z9 => [some (.inr (.inr (some 0))), some (.inl r), some (.inl w), some (.inl x119), some (.inl 0), some (.inl s), some (.inl z9)]) rfl rfl (fun _ => rfl) (by omega) (fun x139 tx139 => ?_)
                  refine w_goto rfl ?_
                  exact ih82 (4 - x139.toInt).toNat (by omega) s x139 rfl  (by omega) (by omega)
                · skip
                  refine w_iload rfl rfl ?_
                  refine w_goto rfl ?_
                  refine w_istore (lo' := [some (.inr (.inr (some 0))), some (.inl r), some (.inl w), some (.inl x119), some (.inl 0), some (.inl i), some (.inl i)]) rfl rfl ?_
                  refine w_iinc (lo' := fun z9 => [some (.inr (.inr (some 0))), some (.inl r), some (.inl w), some (.inl x119), some (.inl 0), some (.inl i), some (.inl z9)]) rfl rfl (fun _ => rfl) (by omega) (fun x140 tx140 => ?_)
                  refine w_goto rfl ?_
                  exact ih82 (4 - x140.toInt).toNat (by omega) i x140 rfl  (by omega) (by omega)
          exact loop82 _ 0 1 rfl  (by omega) (by omega)
        · skip
          refine w_aload rfl rfl ?_
          refine w_getR (v := .inr (.inr (some 6))) rfl rfl rfl rfl rfl ?_
          refine w_const rfl ?_
          refine m_iald rfl rfl (by omega) (fun x141 ex141 => ?_)
          refine w_aload rfl rfl ?_
          refine w_const rfl ?_
          refine w_iload rfl rfl ?_
          refine w_iload rfl rfl ?_
          refine w_invV (rest := [.inl x141]) rfl rfl rfl rfl rfl (Nat.le_of_ble_eq_true rfl) rfl (by omega) (s_watersAt (K := K) a115 b  0 r x119 ha115 (by omega) (by omega) (((fun (m9 : Nat) (l9 : m9 < 22) (h7 : ACm m9 a) => ACm.up ((fun (m9 : Nat) (l9 : m9 < 22) (h7 : ACm m9 a) => h7) m9 l9 h7) ea115 (by decide)) 0 (by decide) hA))) (fun v142 h9 hq143 => ?_)
          obtain ⟨rfl, x144, rfl, px144⟩ := hq143
          show f_wp _ (66, [some (.inr (.inr (some 0))), some (.inl r), some (.inl w), some (.inl x119), none, none, none], [.inl x144, .inl x141], mH a115 b) _
          refine w_invS (rest := [.inl x141]) rfl (Nat.le_of_ble_eq_true rfl) rfl (Nat.le_of_ble_eq_true rfl) rfl (by omega) (s_bits (K := K) a115 b  x144  ) (fun v145 h9 hq146 => ?_)
          obtain ⟨rfl, x147, rfl, px147⟩ := hq146
          show f_wp _ (69, [some (.inr (.inr (some 0))), some (.inl r), some (.inl w), some (.inl x119), none, none, none], [.inl x147, .inl x141], mH a115 b) _
          refine w_iiU rfl (fun x148 tx148 => ?_)
          refine w_goto rfl ?_
          refine w_istore (lo' := [some (.inr (.inr (some 0))), some (.inl r), some (.inl w), some (.inl x119), some (.inl x148), none, none]) rfl rfl ?_
          refine w_const rfl ?_
          refine w_istore (lo' := [some (.inr (.inr (some 0))), some (.inl r), some (.inl w), some (.inl x119), some (.inl x148), some (.inl 0), none]) rfl rfl ?_
          refine w_const rfl ?_
          refine w_istore (lo' := [some (.inr (.inr (some 0))), some (.inl r), some (.inl w), some (.inl x119), some (.inl x148), some (.inl 0), some (.inl 1)]) rfl rfl ?_
          have loop82 : ∀ (ms9 : Nat) (s : Int32) (i : Int32) , (4 - i.toInt).toNat = ms9 → (1 ≤ i.toInt ∧ i.toInt ≤ 4) → (0 ≤ s.toInt ∧ s.toInt ≤ 3) → f_wp (f_code (t_X13_worst (f_ev mtM d))) (82, [some (.inr (.inr (some 0))), some (.inl r), some (.inl w), some (.inl x119), some (.inl x148), some (.inl s), some (.inl i)], [], mH a115 b) (fun v9 h' => ∃ (a' : Nat → Nat → Int32), h' = mH a' b ∧ RM K a' ∧ (FR [0] a a' ∧ True) ∧ ∃ x : Int32, v9 = some (.inl x) ∧ True) := by
            intro ms9
            induction ms9 using Nat.strongRecOn with
            | _ ms82 ih82 =>
              intro s i  hm82 hi hs
              refine w_iload rfl rfl ?_
              refine w_const rfl ?_
              refine w_ic_ge rfl (fun c149 => ?_) (fun c149 => ?_)
              · skip
                refine w_iload rfl rfl ?_
                refine w_if_ne rfl (fun c150 => ?_) (fun c150 => ?_)
                · skip
                  refine w_iload rfl rfl ?_
                  refine w_goto rfl ?_
                  exact wp_iret (z := false) rfl (fun h9 => by cases h9) ⟨a115, rfl, ha115, ⟨FR.up (FR.rf) (by decide) ea115, trivial⟩, ⟨_, rfl, trivial⟩⟩
                · skip
                  refine w_aload rfl rfl ?_
                  refine w_const rfl ?_
                  refine w_iload rfl rfl ?_
                  refine w_iload rfl rfl ?_
                  refine w_iload rfl rfl ?_
                  refine w_invV (rest := []) rfl rfl rfl rfl rfl (Nat.le_of_ble_eq_true rfl) rfl (by omega) (s_flowAt (K := K) a115 b  0 r x119 s ha115 (by omega) (by omega) (by omega) (((fun (m9 : Nat) (l9 : m9 < 22) (h7 : ACm m9 a) => ACm.up ((fun (m9 : Nat) (l9 : m9 < 22) (h7 : ACm m9 a) => h7) m9 l9 h7) ea115 (by decide)) 0 (by decide) hA))) (fun v151 h9 hq152 => ?_)
                  obtain ⟨rfl, x153, rfl, px153⟩ := hq152
                  show f_wp _ (142, [some (.inr (.inr (some 0))), some (.inl r), some (.inl w), some (.inl x119), some (.inl x148), some (.inl s), some (.inl i)], [.inl x153], mH a115 b) _
                  refine w_iload rfl rfl ?_
                  first | refine w_iadd rfl (by omega) (fun x154 tx154 => ?_) | refine w_iiU rfl (fun x154 tx154 => ?_)
                  refine w_aload rfl rfl ?_
                  refine w_iload rfl rfl ?_
                  refine w_const rfl ?_
                  refine w_invV (rest := [.inl x154]) rfl rfl rfl rfl rfl (Nat.le_of_ble_eq_true rfl) rfl (by omega) (s_riverOf (K := K) a115 b  r 10  (by omega) (by omega)) (fun v155 h9 hq156 => ?_)
                  obtain ⟨rfl, x157, rfl, px157⟩ := hq156
                  show f_wp _ (152, [some (.inr (.inr (some 0))), some (.inl r), some (.inl w), some (.inl x119), some (.inl x148), some (.inl s), some (.inl i)], [.inl x157, .inl x154], mH a115 b) _
                  first | refine w_isub rfl (by omega) (fun x158 tx158 => ?_) | refine w_iiU rfl (fun x158 tx158 => ?_)
                  exact wp_iret (z := false) rfl (fun h9 => by cases h9) ⟨a115, rfl, ha115, ⟨FR.up (FR.rf) (by decide) ea115, trivial⟩, ⟨_, rfl, trivial⟩⟩
              · skip
                refine w_aload rfl rfl ?_
                refine w_const rfl ?_
                refine w_iload rfl rfl ?_
                refine w_iload rfl rfl ?_
                refine w_iload rfl rfl ?_
                refine w_invV (rest := []) rfl rfl rfl rfl rfl (Nat.le_of_ble_eq_true rfl) rfl (by omega) (s_flowAt (K := K) a115 b  0 r x119 i ha115 (by omega) (by omega) (by omega) (((fun (m9 : Nat) (l9 : m9 < 22) (h7 : ACm m9 a) => ACm.up ((fun (m9 : Nat) (l9 : m9 < 22) (h7 : ACm m9 a) => h7) m9 l9 h7) ea115 (by decide)) 0 (by decide) hA))) (fun v159 h9 hq160 => ?_)
                obtain ⟨rfl, x161, rfl, px161⟩ := hq160
                show f_wp _ (97, [some (.inr (.inr (some 0))), some (.inl r), some (.inl w), some (.inl x119), some (.inl x148), some (.inl s), some (.inl i)], [.inl x161], mH a115 b) _
                refine w_aload rfl rfl ?_
                refine w_const rfl ?_
                refine w_iload rfl rfl ?_
                refine w_iload rfl rfl ?_
                refine w_iload rfl rfl ?_
                refine w_invV (rest := [.inl x161]) rfl rfl rfl rfl rfl (Nat.le_of_ble_eq_true rfl) rfl (by omega) (s_flowAt (K := K) a115 b  0 r x119 s ha115 (by omega) (by omega) (by omega) (((fun (m9 : Nat) (l9 : m9 < 22) (h7 : ACm m9 a) => ACm.up ((fun (m9 : Nat) (l9 : m9 < 22) (h7 : ACm m9 a) => h7) m9 l9 h7) ea115 (by decide)) 0 (by decide) hA))) (fun v162 h9 hq163 => ?_)
                obtain ⟨rfl, x164, rfl, px164⟩ := hq163
                show f_wp _ (106, [some (.inr (.inr (some 0))), some (.inl r), some (.inl w), some (.inl x119), some (.inl x148), some (.inl s), some (.inl i)], [.inl x164, .inl x161], mH a115 b) _
                refine w_ic_le rfl (fun c165 => ?_) (fun c165 => ?_)
                · skip
                  refine w_iload rfl rfl ?_
                  refine w_istore (lo' := [some (.inr (.inr (some 0))), some (.inl r), some (.inl w), some (.inl x119), some (.inl x148), some (.inl s), some (.inl i)]) rfl rfl ?_
                  refine w_iinc (lo' := fun z9 => [some (.inr (.inr (some 0))), some (.inl r), some (.inl w), some (.inl x119), some (.inl x148), some (.inl s), some (.inl z9)]) rfl rfl (fun _ => rfl) (by omega) (fun x166 tx166 => ?_)
                  refine w_goto rfl ?_
                  exact ih82 (4 - x166.toInt).toNat (by omega) s x166 rfl  (by omega) (by omega)
                · skip
                  refine w_iload rfl rfl ?_
                  refine w_goto rfl ?_
                  refine w_istore (lo' := [some (.inr (.inr (some 0))), some (.inl r), some (.inl w), some (.inl x119), some (.inl x148), some (.inl i), some (.inl i)]) rfl rfl ?_
                  refine w_iinc (lo' := fun z9 => [some (.inr (.inr (some 0))), some (.inl r), some (.inl w), some (.inl x119), some (.inl x148), some (.inl i), some (.inl z9)]) rfl rfl (fun _ => rfl) (by omega) (fun x167 tx167 => ?_)
                  refine w_goto rfl ?_
                  exact ih82 (4 - x167.toInt).toNat (by omega) i x167 rfl  (by omega) (by omega)
          exact loop82 _ 0 1 rfl  (by omega) (by omega)
      · skip
        refine w_const rfl ?_
        exact wp_iret (z := false) rfl (fun h9 => by cases h9) ⟨a115, rfl, ha115, ⟨FR.up (FR.rf) (by decide) ea115, trivial⟩, ⟨_, rfl, trivial⟩⟩
