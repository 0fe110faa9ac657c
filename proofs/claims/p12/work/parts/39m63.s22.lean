theorem ACm.wed21 {K m : Nat} {a a1 a' : Nat → Nat → Int32} {w j : Nat} {x : Int32} (h : ACm m a) (hR : RM K a) (e1 : a1 15 = a 15) (e : a' = mU a1 15 j x) (hj : j = 1260 + 1 + w) (hw : w < 6) (hx : 0 ≤ x.toInt ∧ x.toInt < 6) (hc : ∀ k, itr a 1260 k x.toInt.toNat ≠ some w) : ACm m a' := by
  subst hj
  by_cases hm1 : m = 21
  · subst hm1
    exact AC.wed (a := a) (q := 1260) (w := w) (h := x.toInt.toNat) h hw (by omega) (fun x9 _ => RM.wed hR (by omega)) hc (by rw [e, mU_same]; omega) (fun x9 h8 h9 => by rw [e, mU_slot (by omega), e1])
  · exact AC.same h (fun r _ => by rw [e, mU_slot (by omega), e1])
theorem ACm.idem {m : Nat} {a a1 a' : Nat → Nat → Int32} {j : Nat} {x : Int32} (h : ACm m a) (e1 : a1 15 = a 15) (e : a' = mU a1 15 j x) (hx : x = a1 15 j) : ACm m a' := AC.same h (fun r _ => by
  rw [e, mU_get]
  split
  · rename_i h9
    rw [hx, ← h9.2, e1]
  · rw [e1])
set_option maxRecDepth 4000 in
theorem s_centuries {K : Nat} (a : Nat → Nat → Int32) (b : Nat → Nat → Int64) (sd : Int32) (n : Int32) (w : Int32) (hR : RM K a) (hA : AC a 0) (hK : (a 15 0).toInt + 100 ≤ 100 * K ∧ K ≤ 10000) : f_call mtM 14 111 [.inr (.inr (some 0)), .inl sd, .inl n, .inl w] (mH a b) (fun v9 h' => ∃ (a' : Nat → Nat → Int32) (b' : Nat → Nat → Int64), h' = mH a' b' ∧ RM K a' ∧ (FR [0, 15, 17] a a' ∧ (∀ m9, m9 < 21 → ACm m9 a → ACm m9 a') ∧ True) ∧ ∃ x : Int32, v9 = some (.inl x) ∧ True) := by
  refine f_call_of (d0 := 13) rfl (Nat.le_of_ble_eq_true rfl) (fun d hd => ?_)
  show f_wp _ (0, [some (.inr (.inr (some 0))), some (.inl sd), some (.inl n), some (.inl w), none, none, none, none, none, none], [], mH a b) _
  have lm1 : (-1 : Int32).toInt = -1 := rfl
  have l0 : (0 : Int32).toInt = 0 := rfl
  have l1 : (1 : Int32).toInt = 1 := rfl
  have l2 : (2 : Int32).toInt = 2 := rfl
  have l10 : (10 : Int32).toInt = 10 := rfl
  have l19 : (19 : Int32).toInt = 19 := rfl
  have l100 : (100 : Int32).toInt = 100 := rfl
  have l1260 : (1260 : Int32).toInt = 1260 := rfl
  have l1261 : (1261 : Int32).toInt = 1261 := rfl
  have l9999 : (9999 : Int32).toInt = 9999 := rfl
  have k0 := RM.now hR (j := 0) (by decide)
  refine w_aload rfl rfl ?_
  refine w_const rfl ?_
  refine m_putI (z := false) rfl rfl rfl rfl (by first | (intro h9; cases h9; done) | (intro _; first | exact Or.inl rfl | exact Or.inr rfl | assumption)) (fun a1 ea1 => ?_)
  have ha1 : RM K a1 := RM.up hR ea1 ⟨ti_lo _, ti_hi _⟩
  have ua1_0 : a1 0 0 = (0 : Int32) := by rw [ea1, mU_same]
  have wa1_0 := congrArg Int32.toInt ua1_0
  refine w_iload rfl rfl ?_
  refine w_const rfl ?_
  refine w_const rfl ?_
  refine w_invS (rest := []) rfl (Nat.le_of_ble_eq_true rfl) rfl (Nat.le_of_ble_eq_true rfl) rfl (by omega) (s_within (K := K) a1 b  sd 0 9999  ) (fun v2 h9 hq3 => ?_)
  obtain ⟨rfl, x4, rfl, px4⟩ := hq3
  show f_wp _ (13, [some (.inr (.inr (some 0))), some (.inl sd), some (.inl n), some (.inl w), none, none, none, none, none, none], [.inl x4], mH a1 b) _
  refine w_if_eq rfl (fun c5 => ?_) (fun c5 => ?_)
  · skip
    refine w_const rfl ?_
    exact wp_iret (z := false) rfl (fun h9 => by cases h9) ⟨a1, b, rfl, ha1, ⟨FR.up (FR.rf) (by decide) ea1, fun (m9 : Nat) (l9 : m9 < 21) (h7 : ACm m9 a) => ACm.up ((fun (m9 : Nat) (l9 : m9 < 21) (h7 : ACm m9 a) => h7) m9 l9 h7) ea1 (by decide), trivial⟩, ⟨_, rfl, trivial⟩⟩
  · skip
    refine w_iload rfl rfl ?_
    refine w_const rfl ?_
    refine w_const rfl ?_
    refine w_invS (rest := []) rfl (Nat.le_of_ble_eq_true rfl) rfl (Nat.le_of_ble_eq_true rfl) rfl (by omega) (s_within (K := K) a1 b  n 1 100  ) (fun v6 h9 hq7 => ?_)
    obtain ⟨rfl, x8, rfl, px8⟩ := hq7
    show f_wp _ (23, [some (.inr (.inr (some 0))), some (.inl sd), some (.inl n), some (.inl w), none, none, none, none, none, none], [.inl x8], mH a1 b) _
    refine w_if_eq rfl (fun c9 => ?_) (fun c9 => ?_)
    · skip
      refine w_const rfl ?_
      exact wp_iret (z := false) rfl (fun h9 => by cases h9) ⟨a1, b, rfl, ha1, ⟨FR.up (FR.rf) (by decide) ea1, fun (m9 : Nat) (l9 : m9 < 21) (h7 : ACm m9 a) => ACm.up ((fun (m9 : Nat) (l9 : m9 < 21) (h7 : ACm m9 a) => h7) m9 l9 h7) ea1 (by decide), trivial⟩, ⟨_, rfl, trivial⟩⟩
    · skip
      refine w_iload rfl rfl ?_
      refine w_const rfl ?_
      refine w_const rfl ?_
      refine w_invS (rest := []) rfl (Nat.le_of_ble_eq_true rfl) rfl (Nat.le_of_ble_eq_true rfl) rfl (by omega) (s_within (K := K) a1 b  w 0 2  ) (fun v10 h9 hq11 => ?_)
      obtain ⟨rfl, x12, rfl, px12⟩ := hq11
      show f_wp _ (32, [some (.inr (.inr (some 0))), some (.inl sd), some (.inl n), some (.inl w), none, none, none, none, none, none], [.inl x12], mH a1 b) _
      refine w_if_eq rfl (fun c13 => ?_) (fun c13 => ?_)
      · skip
        refine w_const rfl ?_
        exact wp_iret (z := false) rfl (fun h9 => by cases h9) ⟨a1, b, rfl, ha1, ⟨FR.up (FR.rf) (by decide) ea1, fun (m9 : Nat) (l9 : m9 < 21) (h7 : ACm m9 a) => ACm.up ((fun (m9 : Nat) (l9 : m9 < 21) (h7 : ACm m9 a) => h7) m9 l9 h7) ea1 (by decide), trivial⟩, ⟨_, rfl, trivial⟩⟩
      · skip
        refine w_aload rfl rfl ?_
        refine w_invV (rest := []) rfl rfl rfl rfl rfl (Nat.le_of_ble_eq_true rfl) rfl (by omega) (s_rivers (K := K) a1 b   ha1 ) (fun v14 h9 hq15 => ?_)
        obtain ⟨rfl, x16, rfl, px16⟩ := hq15
        show f_wp _ (39, [some (.inr (.inr (some 0))), some (.inl sd), some (.inl n), some (.inl w), none, none, none, none, none, none], [.inl x16], mH a1 b) _
        have rw9_a1 : x16.toInt = (a 6 0).toInt := by rw [px16.1]; have f9 := ((FR.up (FR.rf) (by decide) ea1) : FR [0, 15, 17] a a1) 6 (by decide); rw [f9]
        refine w_if_ne rfl (fun c17 => ?_) (fun c17 => ?_)
        · skip
          refine w_const rfl ?_
          exact wp_iret (z := false) rfl (fun h9 => by cases h9) ⟨a1, b, rfl, ha1, ⟨FR.up (FR.rf) (by decide) ea1, fun (m9 : Nat) (l9 : m9 < 21) (h7 : ACm m9 a) => ACm.up ((fun (m9 : Nat) (l9 : m9 < 21) (h7 : ACm m9 a) => h7) m9 l9 h7) ea1 (by decide), trivial⟩, ⟨_, rfl, trivial⟩⟩
        · skip
          refine w_aload rfl rfl ?_
          refine w_const rfl ?_
          refine w_const rfl ?_
          refine w_const rfl ?_
          refine w_invV (rest := []) rfl rfl rfl rfl rfl (Nat.le_of_ble_eq_true rfl) rfl (by omega) (s_copies (K := K) a1 b  0 1260 19 ha1 (by omega) (by omega) (by omega) (AC.at ((fun (m9 : Nat) (l9 : m9 < 21) (h7 : ACm m9 a) => ACm.up ((fun (m9 : Nat) (l9 : m9 < 21) (h7 : ACm m9 a) => h7) m9 l9 h7) ea1 (by decide)) 0 (by decide) hA) (by decide))) (fun v18 h9 hq19 => ?_)
          obtain ⟨a20, rfl, ha20, fa20, rfl⟩ := hq19
          show f_wp _ (54, [some (.inr (.inr (some 0))), some (.inl sd), some (.inl n), some (.inl w), none, none, none, none, none, none], [], mH a20 b) _
          have n9 : (a20 15 1260).toInt = (a 15 0).toInt := by have c9 := fa20.2.2 1260; rw [c9, if_pos (by decide), ea1, mU_cell (by decide)]; rfl
          refine w_aload rfl rfl ?_
          refine w_iload rfl rfl ?_
          refine w_i2lE rfl (fun y21 ty21 => ?_)
          have i9 := i2l_ti ty21
          refine m_putL rfl rfl rfl rfl (fun b22 eb22 => ?_)
          have gb22 : b22 0 41 = y21 := by rw [eb22]; exact mV_same
          have g0 : 0 ≤ (b22 0 41).toInt ∧ (b22 0 41).toInt < 2147483648 := by rw [gb22]; omega
          refine w_const rfl ?_
          refine w_istore (lo' := [some (.inr (.inr (some 0))), some (.inl sd), some (.inl n), some (.inl w), some (.inl 0), none, none, none, none, none]) rfl rfl ?_
          refine w_const rfl ?_
          refine w_istore (lo' := [some (.inr (.inr (some 0))), some (.inl sd), some (.inl n), some (.inl w), some (.inl 0), some (.inl 0), none, none, none, none]) rfl rfl ?_
          refine w_const rfl ?_
          refine w_istore (lo' := [some (.inr (.inr (some 0))), some (.inl sd), some (.inl n), some (.inl w), some (.inl 0), some (.inl 0), some (.inl 0), none, none, none]) rfl rfl ?_
          have loop69 : ∀ (ms9 : Nat) (dr : Int32) (fd : Int32) (i : Int32) (a69 : Nat → Nat → Int32) (b69 : Nat → Nat → Int64) (o7_69 : Option f_V) (o8_69 : Option f_V) (o9_69 : Option f_V), (n.toInt - i.toInt).toNat = ms9 → RM K a69 → FR [0, 15, 17] a a69 → (∀ m9, m9 < 21 → ACm m9 a → ACm m9 a69) → (0 ≤ i.toInt ∧ i.toInt ≤ n.toInt ∧ n.toInt ≤ 100) → (0 ≤ (b69 0 41).toInt ∧ (b69 0 41).toInt < 2147483648) → ((a69 15 1260).toInt ≤ (a 15 0).toInt + i.toInt) → (1 ≤ (a 6 0).toInt ∧ (a 6 0).toInt ≤ 6) → (AC a69 1260) → f_wp (f_code (t_X13_centuries (f_ev mtM d))) (69, [some (.inr (.inr (some 0))), some (.inl sd), some (.inl n), some (.inl w), some (.inl dr), some (.inl fd), some (.inl i), o7_69, o8_69, o9_69], [], mH a69 b69) (fun v9 h' => ∃ (a' : Nat → Nat → Int32) (b' : Nat → Nat → Int64), h' = mH a' b' ∧ RM K a' ∧ (FR [0, 15, 17] a a' ∧ (∀ m9, m9 < 21 → ACm m9 a → ACm m9 a') ∧ True) ∧ ∃ x : Int32, v9 = some (.inl x) ∧ True) := by
            intro ms9
            induction ms9 using Nat.strongRecOn with
            | _ ms69 ih69 =>
              intro dr fd i a69 b69 o7_69 o8_69 o9_69 hm69 hR69 hF69 hC69 hi hg hN hz hD69
              refine w_iload rfl rfl ?_
              refine w_iload rfl rfl ?_
              refine w_ic_ge rfl (fun c23 => ?_) (fun c23 => ?_)
              · skip
                refine w_aload rfl rfl ?_
                refine w_const rfl ?_
                refine m_putI (z := true) rfl rfl rfl rfl (by first | (intro h9; cases h9; done) | (intro _; first | exact Or.inl rfl | exact Or.inr rfl | assumption)) (fun a24 ea24 => ?_)
                have ha24 : RM K a24 := RM.up hR69 ea24 (show (0 : Int) ≤ _ ∧ _ ≤ (1 : Int) from by omega)
                have ua24_25 : a24 0 25 = (0 : Int32) := by rw [ea24, mU_same]
                have wa24_25 := congrArg Int32.toInt ua24_25
                refine w_iload rfl rfl ?_
                refine w_if_ne rfl (fun c25 => ?_) (fun c25 => ?_)
                · skip
                  refine w_iload rfl rfl ?_
                  refine w_goto rfl ?_
                  exact wp_iret (z := false) rfl (fun h9 => by cases h9) ⟨a24, b69, rfl, ha24, ⟨FR.up (hF69) (by decide) ea24, fun (m9 : Nat) (l9 : m9 < 21) (h7 : ACm m9 a) => ACm.up ((hC69) m9 l9 h7) ea24 (by decide), trivial⟩, ⟨_, rfl, trivial⟩⟩
                · skip
                  refine w_iload rfl rfl ?_
                  refine w_const rfl ?_
                  refine w_ic_ne rfl (fun c26 => ?_) (fun c26 => ?_)
                  · skip
                    refine w_iload rfl rfl ?_
                    refine w_goto rfl ?_
                    exact wp_iret (z := false) rfl (fun h9 => by cases h9) ⟨a24, b69, rfl, ha24, ⟨FR.up (hF69) (by decide) ea24, fun (m9 : Nat) (l9 : m9 < 21) (h7 : ACm m9 a) => ACm.up ((hC69) m9 l9 h7) ea24 (by decide), trivial⟩, ⟨_, rfl, trivial⟩⟩
                  · skip
                    refine w_aload rfl rfl ?_
                    refine w_const rfl ?_
                    refine w_invV (rest := []) rfl rfl rfl rfl rfl (Nat.le_of_ble_eq_true rfl) rfl (by omega) (s_weddings (K := K) a24 b69  1260 ha24 (by omega)) (fun v27 h9 hq28 => ?_)
                    obtain ⟨rfl, x29, rfl, px29⟩ := hq28
                    show f_wp _ (314, [some (.inr (.inr (some 0))), some (.inl sd), some (.inl n), some (.inl w), some (.inl dr), some (.inl fd), some (.inl i), o7_69, o8_69, o9_69], [.inl x29], mH a24 b69) _
                    exact wp_iret (z := false) rfl (fun h9 => by cases h9) ⟨a24, b69, rfl, ha24, ⟨FR.up (hF69) (by decide) ea24, fun (m9 : Nat) (l9 : m9 < 21) (h7 : ACm m9 a) => ACm.up ((hC69) m9 l9 h7) ea24 (by decide), trivial⟩, ⟨_, rfl, trivial⟩⟩
              · skip
                refine w_aload rfl rfl ?_
                refine w_const rfl ?_
                refine w_invV (rest := []) rfl rfl rfl rfl rfl (Nat.le_of_ble_eq_true rfl) rfl (by omega) (s_draw (K := K) a69 b69  10 hR69 (by omega) (hg)) (fun v30 h9 hq31 => ?_)
                obtain ⟨a32, b33, rfl, ha32, fa32, x34, rfl, px34⟩ := hq31
                show f_wp _ (81, [some (.inr (.inr (some 0))), some (.inl sd), some (.inl n), some (.inl w), some (.inl dr), some (.inl fd), some (.inl i), o7_69, o8_69, o9_69], [.inl x34], mH a32 b33) _
                have g9 := fa32.2.2
                refine w_istore (lo' := [some (.inr (.inr (some 0))), some (.inl sd), some (.inl n), some (.inl w), some (.inl dr), some (.inl fd), some (.inl i), some (.inl x34), o8_69, o9_69]) rfl rfl ?_
                refine w_aload rfl rfl ?_
                refine w_iload rfl rfl ?_
                refine w_if_ne rfl (fun c35 => ?_) (fun c35 => ?_)
                · skip
                  refine w_const rfl ?_
                  refine w_goto rfl ?_
                  refine m_putI (z := true) rfl rfl rfl rfl (by first | (intro h9; cases h9; done) | (intro _; first | exact Or.inl rfl | exact Or.inr rfl | assumption)) (fun a36 ea36 => ?_)
                  have ha36 : RM K a36 := RM.up ha32 ea36 (show (0 : Int) ≤ _ ∧ _ ≤ (1 : Int) from by omega)
                  have ua36_25 : a36 0 25 = (1 : Int32) := by rw [ea36, mU_same]
                  have wa36_25 := congrArg Int32.toInt ua36_25
                  refine w_iload rfl rfl ?_
                  refine w_const rfl ?_
                  refine w_ic_ne rfl (fun c37 => ?_) (fun c37 => ?_)
                  · skip
                    refine w_aload rfl rfl ?_
                    refine w_aload rfl rfl ?_
                    refine w_invV (rest := [.inr (.inr (some 0))]) rfl rfl rfl rfl rfl (Nat.le_of_ble_eq_true rfl) rfl (by omega) (s_rivers (K := K) a36 b33   ha36 ) (fun v38 h9 hq39 => ?_)
                    obtain ⟨rfl, x40, rfl, px40⟩ := hq39
                    show f_wp _ (108, [some (.inr (.inr (some 0))), some (.inl sd), some (.inl n), some (.inl w), some (.inl dr), some (.inl fd), some (.inl i), some (.inl x34), o8_69, o9_69], [.inl x40, .inr (.inr (some 0))], mH a36 b33) _
                    have rw9_a36 : x40.toInt = (a 6 0).toInt := by rw [px40.1]; have f9 := ((FR.up (FR.tr (hF69) (FR.sub fa32.1 (by decide))) (by decide) ea36) : FR [0, 15, 17] a a36) 6 (by decide); rw [f9]
                    refine w_invV (rest := []) rfl rfl rfl rfl rfl (Nat.le_of_ble_eq_true rfl) rfl (by omega) (s_draw (K := K) a36 b33  x40 ha36 (by omega) (g9)) (fun v41 h9 hq42 => ?_)
                    obtain ⟨a43, b44, rfl, ha43, fa43, x45, rfl, px45⟩ := hq42
                    show f_wp _ (111, [some (.inr (.inr (some 0))), some (.inl sd), some (.inl n), some (.inl w), some (.inl dr), some (.inl fd), some (.inl i), some (.inl x34), o8_69, o9_69], [.inl x45], mH a43 b44) _
                    have g8 := fa43.2.2
                    refine w_istore (lo' := [some (.inr (.inr (some 0))), some (.inl sd), some (.inl n), some (.inl w), some (.inl dr), some (.inl fd), some (.inl i), some (.inl x34), some (.inl x45), o9_69]) rfl rfl ?_
                    refine w_aload rfl rfl ?_
                    refine w_aload rfl rfl ?_
                    refine w_invV (rest := [.inr (.inr (some 0))]) rfl rfl rfl rfl rfl (Nat.le_of_ble_eq_true rfl) rfl (by omega) (s_rivers (K := K) a43 b44   ha43 ) (fun v46 h9 hq47 => ?_)
                    obtain ⟨rfl, x48, rfl, px48⟩ := hq47
                    show f_wp _ (118, [some (.inr (.inr (some 0))), some (.inl sd), some (.inl n), some (.inl w), some (.inl dr), some (.inl fd), some (.inl i), some (.inl x34), some (.inl x45), o9_69], [.inl x48, .inr (.inr (some 0))], mH a43 b44) _
                    have rw9_a43 : x48.toInt = (a 6 0).toInt := by rw [px48.1]; have f9 := ((FR.tr (FR.up (FR.tr (hF69) (FR.sub fa32.1 (by decide))) (by decide) ea36) (FR.sub fa43.1 (by decide))) : FR [0, 15, 17] a a43) 6 (by decide); rw [f9]
                    refine w_invV (rest := []) rfl rfl rfl rfl rfl (Nat.le_of_ble_eq_true rfl) rfl (by omega) (s_draw (K := K) a43 b44  x48 ha43 (by omega) (g8)) (fun v49 h9 hq50 => ?_)
                    obtain ⟨a51, b52, rfl, ha51, fa51, x53, rfl, px53⟩ := hq50
                    show f_wp _ (121, [some (.inr (.inr (some 0))), some (.inl sd), some (.inl n), some (.inl w), some (.inl dr), some (.inl fd), some (.inl i), some (.inl x34), some (.inl x45), o9_69], [.inl x53], mH a51 b52) _
                    have g7 := fa51.2.2
                    refine w_istore (lo' := [some (.inr (.inr (some 0))), some (.inl sd), some (.inl n), some (.inl w), some (.inl dr), some (.inl fd), some (.inl i), some (.inl x34), some (.inl x45), some (.inl x53)]) rfl rfl ?_
                    refine w_aload rfl rfl ?_
                    refine w_getR (v := .inr (.inr (some 15))) rfl rfl rfl rfl rfl ?_
                    refine w_const rfl ?_
                    refine w_iload rfl rfl ?_
                    first | refine w_iadd rfl (by omega) (fun x54 tx54 => ?_) | refine w_iiU rfl (fun x54 tx54 => ?_)
                    refine w_aload rfl rfl ?_
                    refine w_const rfl ?_
                    refine w_iload rfl rfl ?_
                    refine w_iload rfl rfl ?_
                    have A8 : ∀ m9, m9 < 21 → ACm m9 a → ACm m9 a51 := (fun (m9 : Nat) (l9 : m9 < 21) (h7 : ACm m9 a) => ACm.fr ((fun (m9 : Nat) (l9 : m9 < 21) (h7 : ACm m9 a) => ACm.fr ((fun (m9 : Nat) (l9 : m9 < 21) (h7 : ACm m9 a) => ACm.up ((fun (m9 : Nat) (l9 : m9 < 21) (h7 : ACm m9 a) => ACm.fr ((hC69) m9 l9 h7) fa32.1 (by decide)) m9 l9 h7) ea36 (by decide)) m9 l9 h7) fa43.1 (by decide)) m9 l9 h7) fa51.1 (by decide))
                    have D8 : AC a51 1260 := (ACm.fr (m := 21) (ACm.fr (m := 21) (ACm.up (m := 21) (ACm.fr (m := 21) (hD69) fa32.1 (by decide)) ea36 (by decide)) fa43.1 (by decide)) fa51.1 (by decide))
                    have R8 := ha51
                    refine w_invV (rest := [.inl x54, .inr (.inr (some 15))]) rfl rfl rfl rfl rfl (Nat.le_of_ble_eq_true rfl) rfl (by omega) (s_mayWed (K := K) a51 b52  1260 x45 x53 ha51 (by omega) (by omega) (by omega) ((ACm.fr (m := 21) (ACm.fr (m := 21) (ACm.up (m := 21) (ACm.fr (m := 21) (hD69) fa32.1 (by decide)) ea36 (by decide)) fa43.1 (by decide)) fa51.1 (by decide)))) (fun v55 h9 hq56 => ?_)
                    obtain ⟨a57, rfl, ha57, fa57, x58, rfl, px58⟩ := hq56
                    show f_wp _ (144, [some (.inr (.inr (some 0))), some (.inl sd), some (.inl n), some (.inl w), some (.inl dr), some (.inl fd), some (.inl i), some (.inl x34), some (.inl x45), some (.inl x53)], [.inl x58, .inl x54, .inr (.inr (some 15))], mH a57 b52) _
                    have pw := px58
                    refine w_if_eq rfl (fun c59 => ?_) (fun c59 => ?_)
                    · skip
                      refine w_aload rfl rfl ?_
                      refine w_const rfl ?_
                      refine w_iload rfl rfl ?_
                      refine w_invV (rest := [.inl x54, .inr (.inr (some 15))]) rfl rfl rfl rfl rfl (Nat.le_of_ble_eq_true rfl) rfl (by omega) (s_husbandOf (K := K) a57 b52  1260 x45 ha57 (by omega) (by omega)) (fun v60 h9 hq61 => ?_)
                      obtain ⟨rfl, x62, rfl, px62⟩ := hq61
                      show f_wp _ (161, [some (.inr (.inr (some 0))), some (.inl sd), some (.inl n), some (.inl w), some (.inl dr), some (.inl fd), some (.inl i), some (.inl x34), some (.inl x45), some (.inl x53)], [.inl x62, .inl x54, .inr (.inr (some 15))], mH a57 b52) _
                      have hx9 := px62.1
                      refine m_iast rfl rfl (by omega) (fun a63 ea63 => ?_)
                      have ha63 : RM K a63 := RM.up ha57 ea63 (st_wed (by omega) (by omega))
                      have A7 : ∀ m9, ACm m9 a51 → ACm m9 a63 := fun m9 h7 => by first | exact ACm.wed21 (w := x45.toInt.toNat) h7 R8 (fa57.1 15 (by decide)) ea63 (by omega) (by omega) (by omega) m7 | exact ACm.idem h7 (fa57.1 15 (by decide)) ea63 (by rw [hx9]; congr 1; omega)
                      refine w_goto rfl ?_
                      refine w_const rfl ?_
                      refine w_istore (lo' := [some (.inr (.inr (some 0))), some (.inl sd), some (.inl n), some (.inl w), some (.inl dr), some (.inl fd), some (.inl i), some (.inl x34), some (.inl 0), some (.inl x53)]) rfl rfl ?_
                      have loop192 : ∀ (ms9 : Nat) (dr1 : Int32) (fd1 : Int32) (r : Int32) , (6 - r.toInt).toNat = ms9 → (0 ≤ r.toInt ∧ r.toInt ≤ 6) → f_wp (f_code (t_X13_centuries (f_ev mtM d))) (192, [some (.inr (.inr (some 0))), some (.inl sd), some (.inl n), some (.inl w), some (.inl dr1), some (.inl fd1), some (.inl i), some (.inl x34), some (.inl r), some (.inl x53)], [], mH a63 b52) (fun v9 h' => ∃ (a' : Nat → Nat → Int32) (b' : Nat → Nat → Int64), h' = mH a' b' ∧ RM K a' ∧ (FR [0, 15, 17] a a' ∧ (∀ m9, m9 < 21 → ACm m9 a → ACm m9 a') ∧ True) ∧ ∃ x : Int32, v9 = some (.inl x) ∧ True) := by
                        intro ms9
                        induction ms9 using Nat.strongRecOn with
                        | _ ms192 ih192 =>
                          intro dr1 fd1 r  hm192 hr
                          refine w_iload rfl rfl ?_
                          refine w_aload rfl rfl ?_
                          refine w_invV (rest := [.inl r]) rfl rfl rfl rfl rfl (Nat.le_of_ble_eq_true rfl) rfl (by omega) (s_rivers (K := K) a63 b52   ha63 ) (fun v64 h9 hq65 => ?_)
                          obtain ⟨rfl, x66, rfl, px66⟩ := hq65
                          show f_wp _ (198, [some (.inr (.inr (some 0))), some (.inl sd), some (.inl n), some (.inl w), some (.inl dr1), some (.inl fd1), some (.inl i), some (.inl x34), some (.inl r), some (.inl x53)], [.inl x66, .inl r], mH a63 b52) _
                          have rw9_a63 : x66.toInt = (a 6 0).toInt := by rw [px66.1]; have f9 := ((FR.up (FR.tr (FR.tr (FR.tr (FR.up (FR.tr (hF69) (FR.sub fa32.1 (by decide))) (by decide) ea36) (FR.sub fa43.1 (by decide))) (FR.sub fa51.1 (by decide))) (FR.sub fa57.1 (by decide))) (by decide) ea63) : FR [0, 15, 17] a a63) 6 (by decide); rw [f9]
                          refine w_ic_ge rfl (fun c67 => ?_) (fun c67 => ?_)
                          · skip
                            refine w_aload rfl rfl ?_
                            refine w_getR (v := .inr (.inr (some 15))) rfl rfl rfl rfl rfl ?_
                            refine w_const rfl ?_
                            refine w_dup2 rfl ⟨rfl, rfl⟩ ?_
                            refine m_iald rfl rfl (by omega) (fun x68 ex68 => ?_)
                            have t9 : x68.toInt = (a69 15 1260).toInt := by rw [ex68, show (1260 : Int32).toInt.toNat = 1260 from rfl, ea63, mU_slot (by omega), fa57.1 15 (by decide), fa51.1 15 (by decide), fa43.1 15 (by decide), ea36, mU_cell (by decide), fa32.1 15 (by decide)]
                            have t7 : 0 ≤ x68.toInt := by rw [ex68]; exact (RM.now ha63 (j := 1260) (by decide)).1
                            refine w_const rfl ?_
                            first | refine w_iadd rfl (by omega) (fun x69 tx69 => ?_) | refine w_iiU rfl (fun x69 tx69 => ?_)
                            refine m_iast rfl rfl (by omega) (fun a70 ea70 => ?_)
                            have ha70 : RM K a70 := RM.up ha63 ea70 (st_now (by omega) (by omega))
                            have t8 : (a70 15 1260).toInt = x69.toInt := by rw [ea70, show (1260 : Int32).toInt.toNat = 1260 from rfl, mU_same]
                            refine w_iinc (lo' := fun z9 => [some (.inr (.inr (some 0))), some (.inl sd), some (.inl n), some (.inl w), some (.inl dr1), some (.inl fd1), some (.inl z9), some (.inl x34), some (.inl r), some (.inl x53)]) rfl rfl (fun _ => rfl) (by omega) (fun x71 tx71 => ?_)
                            refine w_goto rfl ?_
                            exact ih69 (n.toInt - x71.toInt).toNat (by omega) dr1 fd1 x71 a70 b52 (some (.inl x34)) (some (.inl r)) (some (.inl x53)) rfl ha70 (FR.up (FR.up (FR.tr (FR.tr (FR.tr (FR.up (FR.tr (hF69) (FR.sub fa32.1 (by decide))) (by decide) ea36) (FR.sub fa43.1 (by decide))) (FR.sub fa51.1 (by decide))) (FR.sub fa57.1 (by decide))) (by decide) ea63) (by decide) ea70) (fun (m9 : Nat) (l9 : m9 < 21) (h7 : ACm m9 a) => ACm.put ((fun (m9 : Nat) (l9 : m9 < 21) (h7 : ACm m9 a) => A7 m9 (A8 m9 l9 h7)) m9 l9 h7) ea70 (by omega)) (by omega) (by first | exact g6 | exact g7 | exact g9) (by omega) (by omega) ((ACm.put (m := 21) (A7 21 D8) ea70 (by omega)))
                          · skip
                            refine w_iload rfl rfl ?_
                            refine w_aload rfl rfl ?_
                            refine w_const rfl ?_
                            refine w_iload rfl rfl ?_
                            refine w_aload rfl rfl ?_
                            refine w_const rfl ?_
                            refine w_invV (rest := [.inl r, .inl 1260, .inr (.inr (some 0)), .inl dr1]) rfl rfl rfl rfl rfl (Nat.le_of_ble_eq_true rfl) rfl (by omega) (s_winter (K := K) a63 b52  1260 ha63 (by omega)) (fun v72 h9 hq73 => ?_)
                            obtain ⟨rfl, x74, rfl, px74⟩ := hq73
                            show f_wp _ (216, [some (.inr (.inr (some 0))), some (.inl sd), some (.inl n), some (.inl w), some (.inl dr1), some (.inl fd1), some (.inl i), some (.inl x34), some (.inl r), some (.inl x53)], [.inl x74, .inl r, .inl 1260, .inr (.inr (some 0)), .inl dr1], mH a63 b52) _
                            refine w_invV (rest := [.inl dr1]) rfl rfl rfl rfl rfl (Nat.le_of_ble_eq_true rfl) rfl (by omega) (s_isDry (K := K) a63 b52  1260 r x74 ha63 (by omega) (by omega) (by omega) ((A7 21 D8))) (fun v75 h9 hq76 => ?_)
                            obtain ⟨rfl, x77, rfl, px77⟩ := hq76
                            show f_wp _ (219, [some (.inr (.inr (some 0))), some (.inl sd), some (.inl n), some (.inl w), some (.inl dr1), some (.inl fd1), some (.inl i), some (.inl x34), some (.inl r), some (.inl x53)], [.inl x77, .inl dr1], mH a63 b52) _
                            refine w_if_eq rfl (fun c78 => ?_) (fun c78 => ?_)
                            · skip
                              refine w_const rfl ?_
                              first | refine w_iadd rfl (by omega) (fun x79 tx79 => ?_) | refine w_iiU rfl (fun x79 tx79 => ?_)
                              refine w_istore (lo' := [some (.inr (.inr (some 0))), some (.inl sd), some (.inl n), some (.inl w), some (.inl x79), some (.inl fd1), some (.inl i), some (.inl x34), some (.inl r), some (.inl x53)]) rfl rfl ?_
                              refine w_iload rfl rfl ?_
                              refine w_aload rfl rfl ?_
                              refine w_const rfl ?_
                              refine w_iload rfl rfl ?_
                              refine w_aload rfl rfl ?_
                              refine w_const rfl ?_
                              refine w_invV (rest := [.inl r, .inl 1260, .inr (.inr (some 0)), .inl fd1]) rfl rfl rfl rfl rfl (Nat.le_of_ble_eq_true rfl) rfl (by omega) (s_winter (K := K) a63 b52  1260 ha63 (by omega)) (fun v80 h9 hq81 => ?_)
                              obtain ⟨rfl, x82, rfl, px82⟩ := hq81
                              show f_wp _ (245, [some (.inr (.inr (some 0))), some (.inl sd), some (.inl n), some (.inl w), some (.inl x79), some (.inl fd1), some (.inl i), some (.inl x34), some (.inl r), some (.inl x53)], [.inl x82, .inl r, .inl 1260, .inr (.inr (some 0)), .inl fd1], mH a63 b52) _
                              refine w_invV (rest := [.inl fd1]) rfl rfl rfl rfl rfl (Nat.le_of_ble_eq_true rfl) rfl (by omega) (s_isFlooded (K := K) a63 b52  1260 r x82 ha63 (by omega) (by omega) (by omega) ((A7 21 D8))) (fun v83 h9 hq84 => ?_)
                              obtain ⟨rfl, x85, rfl, px85⟩ := hq84
                              show f_wp _ (248, [some (.inr (.inr (some 0))), some (.inl sd), some (.inl n), some (.inl w), some (.inl x79), some (.inl fd1), some (.inl i), some (.inl x34), some (.inl r), some (.inl x53)], [.inl x85, .inl fd1], mH a63 b52) _
                              refine w_if_eq rfl (fun c86 => ?_) (fun c86 => ?_)
                              · skip
                                refine w_const rfl ?_
                                first | refine w_iadd rfl (by omega) (fun x87 tx87 => ?_) | refine w_iiU rfl (fun x87 tx87 => ?_)
                                refine w_istore (lo' := [some (.inr (.inr (some 0))), some (.inl sd), some (.inl n), some (.inl w), some (.inl x79), some (.inl x87), some (.inl i), some (.inl x34), some (.inl r), some (.inl x53)]) rfl rfl ?_
                                refine w_iinc (lo' := fun z9 => [some (.inr (.inr (some 0))), some (.inl sd), some (.inl n), some (.inl w), some (.inl x79), some (.inl x87), some (.inl i), some (.inl x34), some (.inl z9), some (.inl x53)]) rfl rfl (fun _ => rfl) (by omega) (fun x88 tx88 => ?_)
                                refine w_goto rfl ?_
                                exact ih192 (6 - x88.toInt).toNat (by omega) x79 x87 x88 rfl  (by omega)
                              · skip
                                refine w_const rfl ?_
                                refine w_goto rfl ?_
                                first | refine w_iadd rfl (by omega) (fun x89 tx89 => ?_) | refine w_iiU rfl (fun x89 tx89 => ?_)
                                refine w_istore (lo' := [some (.inr (.inr (some 0))), some (.inl sd), some (.inl n), some (.inl w), some (.inl x79), some (.inl x89), some (.inl i), some (.inl x34), some (.inl r), some (.inl x53)]) rfl rfl ?_
                                refine w_iinc (lo' := fun z9 => [some (.inr (.inr (some 0))), some (.inl sd), some (.inl n), some (.inl w), some (.inl x79), some (.inl x89), some (.inl i), some (.inl x34), some (.inl z9), some (.inl x53)]) rfl rfl (fun _ => rfl) (by omega) (fun x90 tx90 => ?_)
                                refine w_goto rfl ?_
                                exact ih192 (6 - x90.toInt).toNat (by omega) x79 x89 x90 rfl  (by omega)
                            · skip
                              refine w_const rfl ?_
                              refine w_goto rfl ?_
                              first | refine w_iadd rfl (by omega) (fun x91 tx91 => ?_) | refine w_iiU rfl (fun x91 tx91 => ?_)
                              refine w_istore (lo' := [some (.inr (.inr (some 0))), some (.inl sd), some (.inl n), some (.inl w), some (.inl x91), some (.inl fd1), some (.inl i), some (.inl x34), some (.inl r), some (.inl x53)]) rfl rfl ?_
                              refine w_iload rfl rfl ?_
                              refine w_aload rfl rfl ?_
                              refine w_const rfl ?_
                              refine w_iload rfl rfl ?_
                              refine w_aload rfl rfl ?_
                              refine w_const rfl ?_
                              refine w_invV (rest := [.inl r, .inl 1260, .inr (.inr (some 0)), .inl fd1]) rfl rfl rfl rfl rfl (Nat.le_of_ble_eq_true rfl) rfl (by omega) (s_winter (K := K) a63 b52  1260 ha63 (by omega)) (fun v92 h9 hq93 => ?_)
                              obtain ⟨rfl, x94, rfl, px94⟩ := hq93
                              show f_wp _ (245, [some (.inr (.inr (some 0))), some (.inl sd), some (.inl n), some (.inl w), some (.inl x91), some (.inl fd1), some (.inl i), some (.inl x34), some (.inl r), some (.inl x53)], [.inl x94, .inl r, .inl 1260, .inr (.inr (some 0)), .inl fd1], mH a63 b52) _
                              refine w_invV (rest := [.inl fd1]) rfl rfl rfl rfl rfl (Nat.le_of_ble_eq_true rfl) rfl (by omega) (s_isFlooded (K := K) a63 b52  1260 r x94 ha63 (by omega) (by omega) (by omega) ((A7 21 D8))) (fun v95 h9 hq96 => ?_)
                              obtain ⟨rfl, x97, rfl, px97⟩ := hq96
                              show f_wp _ (248, [some (.inr (.inr (some 0))), some (.inl sd), some (.inl n), some (.inl w), some (.inl x91), some (.inl fd1), some (.inl i), some (.inl x34), some (.inl r), some (.inl x53)], [.inl x97, .inl fd1], mH a63 b52) _
                              refine w_if_eq rfl (fun c98 => ?_) (fun c98 => ?_)
                              · skip
                                refine w_const rfl ?_
                                first | refine w_iadd rfl (by omega) (fun x99 tx99 => ?_) | refine w_iiU rfl (fun x99 tx99 => ?_)
                                refine w_istore (lo' := [some (.inr (.inr (some 0))), some (.inl sd), some (.inl n), some (.inl w), some (.inl x91), some (.inl x99), some (.inl i), some (.inl x34), some (.inl r), some (.inl x53)]) rfl rfl ?_
                                refine w_iinc (lo' := fun z9 => [some (.inr (.inr (some 0))), some (.inl sd), some (.inl n), some (.inl w), some (.inl x91), some (.inl x99), some (.inl i), some (.inl x34), some (.inl z9), some (.inl x53)]) rfl rfl (fun _ => rfl) (by omega) (fun x100 tx100 => ?_)
                                refine w_goto rfl ?_
                                exact ih192 (6 - x100.toInt).toNat (by omega) x91 x99 x100 rfl  (by omega)
                              · skip
                                refine w_const rfl ?_
                                refine w_goto rfl ?_
                                first | refine w_iadd rfl (by omega) (fun x101 tx101 => ?_) | refine w_iiU rfl (fun x101 tx101 => ?_)
                                refine w_istore (lo' := [some (.inr (.inr (some 0))), some (.inl sd), some (.inl n), some (.inl w), some (.inl x91), some (.inl x101), some (.inl i), some (.inl x34), some (.inl r), some (.inl x53)]) rfl rfl ?_
                                refine w_iinc (lo' := fun z9 => [some (.inr (.inr (some 0))), some (.inl sd), some (.inl n), some (.inl w), some (.inl x91), some (.inl x101), some (.inl i), some (.inl x34), some (.inl z9), some (.inl x53)]) rfl rfl (fun _ => rfl) (by omega) (fun x102 tx102 => ?_)
                                refine w_goto rfl ?_
                                exact ih192 (6 - x102.toInt).toNat (by omega) x91 x101 x102 rfl  (by omega)
                      exact loop192 _ dr fd 0 rfl  (by omega)
                    · skip
                      obtain ⟨-, -, -, m7⟩ := pw.resolve_right (by omega)
                      refine w_iload rfl rfl ?_
                      refine w_goto rfl ?_
                      refine m_iast rfl rfl (by omega) (fun a103 ea103 => ?_)
                      have ha103 : RM K a103 := RM.up ha57 ea103 (st_wed (by omega) (by omega))
                      have A7 : ∀ m9, ACm m9 a51 → ACm m9 a103 := fun m9 h7 => by first | exact ACm.wed21 (w := x45.toInt.toNat) h7 R8 (fa57.1 15 (by decide)) ea103 (by omega) (by omega) (by omega) m7 | exact ACm.idem h7 (fa57.1 15 (by decide)) ea103 (by rw [hx9]; congr 1; omega)
                      refine w_goto rfl ?_
                      refine w_const rfl ?_
                      refine w_istore (lo' := [some (.inr (.inr (some 0))), some (.inl sd), some (.inl n), some (.inl w), some (.inl dr), some (.inl fd), some (.inl i), some (.inl x34), some (.inl 0), some (.inl x53)]) rfl rfl ?_
                      have loop192 : ∀ (ms9 : Nat) (dr1 : Int32) (fd1 : Int32) (r : Int32) , (6 - r.toInt).toNat = ms9 → (0 ≤ r.toInt ∧ r.toInt ≤ 6) → f_wp (f_code (t_X13_centuries (f_ev mtM d))) (192, [some (.inr (.inr (some 0))), some (.inl sd), some (.inl n), some (.inl w), some (.inl dr1), some (.inl fd1), some (.inl i), some (.inl x34), some (.inl r), some (.inl x53)], [], mH a103 b52) (fun v9 h' => ∃ (a' : Nat → Nat → Int32) (b' : Nat → Nat → Int64), h' = mH a' b' ∧ RM K a' ∧ (FR [0, 15, 17] a a' ∧ (∀ m9, m9 < 21 → ACm m9 a → ACm m9 a') ∧ True) ∧ ∃ x : Int32, v9 = some (.inl x) ∧ True) := by
                        intro ms9
                        induction ms9 using Nat.strongRecOn with
                        | _ ms192 ih192 =>
                          intro dr1 fd1 r  hm192 hr
                          refine w_iload rfl rfl ?_
                          refine w_aload rfl rfl ?_
                          refine w_invV (rest := [.inl r]) rfl rfl rfl rfl rfl (Nat.le_of_ble_eq_true rfl) rfl (by omega) (s_rivers (K := K) a103 b52   ha103 ) (fun v104 h9 hq105 => ?_)
                          obtain ⟨rfl, x106, rfl, px106⟩ := hq105
                          show f_wp _ (198, [some (.inr (.inr (some 0))), some (.inl sd), some (.inl n), some (.inl w), some (.inl dr1), some (.inl fd1), some (.inl i), some (.inl x34), some (.inl r), some (.inl x53)], [.inl x106, .inl r], mH a103 b52) _
                          have rw9_a103 : x106.toInt = (a 6 0).toInt := by rw [px106.1]; have f9 := ((FR.up (FR.tr (FR.tr (FR.tr (FR.up (FR.tr (hF69) (FR.sub fa32.1 (by decide))) (by decide) ea36) (FR.sub fa43.1 (by decide))) (FR.sub fa51.1 (by decide))) (FR.sub fa57.1 (by decide))) (by decide) ea103) : FR [0, 15, 17] a a103) 6 (by decide); rw [f9]
                          refine w_ic_ge rfl (fun c107 => ?_) (fun c107 => ?_)
                          · skip
                            refine w_aload rfl rfl ?_
                            refine w_getR (v := .inr (.inr (some 15))) rfl rfl rfl rfl rfl ?_
                            refine w_const rfl ?_
                            refine w_dup2 rfl ⟨rfl, rfl⟩ ?_
                            refine m_iald rfl rfl (by omega) (fun x108 ex108 => ?_)
                            have t9 : x108.toInt = (a69 15 1260).toInt := by rw [ex108, show (1260 : Int32).toInt.toNat = 1260 from rfl, ea103, mU_slot (by omega), fa57.1 15 (by decide), fa51.1 15 (by decide), fa43.1 15 (by decide), ea36, mU_cell (by decide), fa32.1 15 (by decide)]
                            have t7 : 0 ≤ x108.toInt := by rw [ex108]; exact (RM.now ha103 (j := 1260) (by decide)).1
                            refine w_const rfl ?_
                            first | refine w_iadd rfl (by omega) (fun x109 tx109 => ?_) | refine w_iiU rfl (fun x109 tx109 => ?_)
                            refine m_iast rfl rfl (by omega) (fun a110 ea110 => ?_)
                            have ha110 : RM K a110 := RM.up ha103 ea110 (st_now (by omega) (by omega))
                            have t8 : (a110 15 1260).toInt = x109.toInt := by rw [ea110, show (1260 : Int32).toInt.toNat = 1260 from rfl, mU_same]
                            refine w_iinc (lo' := fun z9 => [some (.inr (.inr (some 0))), some (.inl sd), some (.inl n), some (.inl w), some (.inl dr1), some (.inl fd1), some (.inl z9), some (.inl x34), some (.inl r), some (.inl x53)]) rfl rfl (fun _ => rfl) (by omega) (fun x111 tx111 => ?_)
                            refine w_goto rfl ?_
                            exact ih69 (n.toInt - x111.toInt).toNat (by omega) dr1 fd1 x111 a110 b52 (some (.inl x34)) (some (.inl r)) (some (.inl x53)) rfl ha110 (FR.up (FR.up (FR.tr (FR.tr (FR.tr (FR.up (FR.tr (hF69) (FR.sub fa32.1 (by decide))) (by decide) ea36) (FR.sub fa43.1 (by decide))) (FR.sub fa51.1 (by decide))) (FR.sub fa57.1 (by decide))) (by decide) ea103) (by decide) ea110) (fun (m9 : Nat) (l9 : m9 < 21) (h7 : ACm m9 a) => ACm.put ((fun (m9 : Nat) (l9 : m9 < 21) (h7 : ACm m9 a) => A7 m9 (A8 m9 l9 h7)) m9 l9 h7) ea110 (by omega)) (by omega) (by first | exact g6 | exact g7 | exact g9) (by omega) (by omega) ((ACm.put (m := 21) (A7 21 D8) ea110 (by omega)))
                          · skip
                            refine w_iload rfl rfl ?_
                            refine w_aload rfl rfl ?_
                            refine w_const rfl ?_
                            refine w_iload rfl rfl ?_
                            refine w_aload rfl rfl ?_
                            refine w_const rfl ?_
                            refine w_invV (rest := [.inl r, .inl 1260, .inr (.inr (some 0)), .inl dr1]) rfl rfl rfl rfl rfl (Nat.le_of_ble_eq_true rfl) rfl (by omega) (s_winter (K := K) a103 b52  1260 ha103 (by omega)) (fun v112 h9 hq113 => ?_)
                            obtain ⟨rfl, x114, rfl, px114⟩ := hq113
                            show f_wp _ (216, [some (.inr (.inr (some 0))), some (.inl sd), some (.inl n), some (.inl w), some (.inl dr1), some (.inl fd1), some (.inl i), some (.inl x34), some (.inl r), some (.inl x53)], [.inl x114, .inl r, .inl 1260, .inr (.inr (some 0)), .inl dr1], mH a103 b52) _
                            refine w_invV (rest := [.inl dr1]) rfl rfl rfl rfl rfl (Nat.le_of_ble_eq_true rfl) rfl (by omega) (s_isDry (K := K) a103 b52  1260 r x114 ha103 (by omega) (by omega) (by omega) ((A7 21 D8))) (fun v115 h9 hq116 => ?_)
                            obtain ⟨rfl, x117, rfl, px117⟩ := hq116
                            show f_wp _ (219, [some (.inr (.inr (some 0))), some (.inl sd), some (.inl n), some (.inl w), some (.inl dr1), some (.inl fd1), some (.inl i), some (.inl x34), some (.inl r), some (.inl x53)], [.inl x117, .inl dr1], mH a103 b52) _
                            refine w_if_eq rfl (fun c118 => ?_) (fun c118 => ?_)
                            · skip
                              refine w_const rfl ?_
                              first | refine w_iadd rfl (by omega) (fun x119 tx119 => ?_) | refine w_iiU rfl (fun x119 tx119 => ?_)
                              refine w_istore (lo' := [some (.inr (.inr (some 0))), some (.inl sd), some (.inl n), some (.inl w), some (.inl x119), some (.inl fd1), some (.inl i), some (.inl x34), some (.inl r), some (.inl x53)]) rfl rfl ?_
                              refine w_iload rfl rfl ?_
                              refine w_aload rfl rfl ?_
                              refine w_const rfl ?_
                              refine w_iload rfl rfl ?_
                              refine w_aload rfl rfl ?_
                              refine w_const rfl ?_
                              refine w_invV (rest := [.inl r, .inl 1260, .inr (.inr (some 0)), .inl fd1]) rfl rfl rfl rfl rfl (Nat.le_of_ble_eq_true rfl) rfl (by omega) (s_winter (K := K) a103 b52  1260 ha103 (by omega)) (fun v120 h9 hq121 => ?_)
                              obtain ⟨rfl, x122, rfl, px122⟩ := hq121
                              show f_wp _ (245, [some (.inr (.inr (some 0))), some (.inl sd), some (.inl n), some (.inl w), some (.inl x119), some (.inl fd1), some (.inl i), some (.inl x34), some (.inl r), some (.inl x53)], [.inl x122, .inl r, .inl 1260, .inr (.inr (some 0)), .inl fd1], mH a103 b52) _
                              refine w_invV (rest := [.inl fd1]) rfl rfl rfl rfl rfl (Nat.le_of_ble_eq_true rfl) rfl (by omega) (s_isFlooded (K := K) a103 b52  1260 r x122 ha103 (by omega) (by omega) (by omega) ((A7 21 D8))) (fun v123 h9 hq124 => ?_)
                              obtain ⟨rfl, x125, rfl, px125⟩ := hq124
                              show f_wp _ (248, [some (.inr (.inr (some 0))), some (.inl sd), some (.inl n), some (.inl w), some (.inl x119), some (.inl fd1), some (.inl i), some (.inl x34), some (.inl r), some (.inl x53)], [.inl x125, .inl fd1], mH a103 b52) _
                              refine w_if_eq rfl (fun c126 => ?_) (fun c126 => ?_)
                              · skip
                                refine w_const rfl ?_
                                first | refine w_iadd rfl (by omega) (fun x127 tx127 => ?_) | refine w_iiU rfl (fun x127 tx127 => ?_)
                                refine w_istore (lo' := [some (.inr (.inr (some 0))), some (.inl sd), some (.inl n), some (.inl w), some (.inl x119), some (.inl x127), some (.inl i), some (.inl x34), some (.inl r), some (.inl x53)]) rfl rfl ?_
                                refine w_iinc (lo' := fun z9 => [some (.inr (.inr (some 0))), some (.inl sd), some (.inl n), some (.inl w), some (.inl x119), some (.inl x127), some (.inl i), some (.inl x34), some (.inl z9), some (.inl x53)]) rfl rfl (fun _ => rfl) (by omega) (fun x128 tx128 => ?_)
                                refine w_goto rfl ?_
                                exact ih192 (6 - x128.toInt).toNat (by omega) x119 x127 x128 rfl  (by omega)
                              · skip
                                refine w_const rfl ?_
                                refine w_goto rfl ?_
                                first | refine w_iadd rfl (by omega) (fun x129 tx129 => ?_) | refine w_iiU rfl (fun x129 tx129 => ?_)
                                refine w_istore (lo' := [some (.inr (.inr (some 0))), some (.inl sd), some (.inl n), some (.inl w), some (.inl x119), some (.inl x129), some (.inl i), some (.inl x34), some (.inl r), some (.inl x53)]) rfl rfl ?_
                                refine w_iinc (lo' := fun z9 => [some (.inr (.inr (some 0))), some (.inl sd), some (.inl n), some (.inl w), some (.inl x119), some (.inl x129), some (.inl i), some (.inl x34), some (.inl z9), some (.inl x53)]) rfl rfl (fun _ => rfl) (by omega) (fun x130 tx130 => ?_)
                                refine w_goto rfl ?_
                                exact ih192 (6 - x130.toInt).toNat (by omega) x119 x129 x130 rfl  (by omega)
                            · skip
                              refine w_const rfl ?_
                              refine w_goto rfl ?_
                              first | refine w_iadd rfl (by omega) (fun x131 tx131 => ?_) | refine w_iiU rfl (fun x131 tx131 => ?_)
                              refine w_istore (lo' := [some (.inr (.inr (some 0))), some (.inl sd), some (.inl n), some (.inl w), some (.inl x131), some (.inl fd1), some (.inl i), some (.inl x34), some (.inl r), some (.inl x53)]) rfl rfl ?_
                              refine w_iload rfl rfl ?_
                              refine w_aload rfl rfl ?_
                              refine w_const rfl ?_
                              refine w_iload rfl rfl ?_
                              refine w_aload rfl rfl ?_
                              refine w_const rfl ?_
                              refine w_invV (rest := [.inl r, .inl 1260, .inr (.inr (some 0)), .inl fd1]) rfl rfl rfl rfl rfl (Nat.le_of_ble_eq_true rfl) rfl (by omega) (s_winter (K := K) a103 b52  1260 ha103 (by omega)) (fun v132 h9 hq133 => ?_)
                              obtain ⟨rfl, x134, rfl, px134⟩ := hq133
                              show f_wp _ (245, [some (.inr (.inr (some 0))), some (.inl sd), some (.inl n), some (.inl w), some (.inl x131), some (.inl fd1), some (.inl i), some (.inl x34), some (.inl r), some (.inl x53)], [.inl x134, .inl r, .inl 1260, .inr (.inr (some 0)), .inl fd1], mH a103 b52) _
                              refine w_invV (rest := [.inl fd1]) rfl rfl rfl rfl rfl (Nat.le_of_ble_eq_true rfl) rfl (by omega) (s_isFlooded (K := K) a103 b52  1260 r x134 ha103 (by omega) (by omega) (by omega) ((A7 21 D8))) (fun v135 h9 hq136 => ?_)
                              obtain ⟨rfl, x137, rfl, px137⟩ := hq136
                              show f_wp _ (248, [some (.inr (.inr (some 0))), some (.inl sd), some (.inl n), some (.inl w), some (.inl x131), some (.inl fd1), some (.inl i), some (.inl x34), some (.inl r), some (.inl x53)], [.inl x137, .inl fd1], mH a103 b52) _
                              refine w_if_eq rfl (fun c138 => ?_) (fun c138 => ?_)
                              · skip
                                refine w_const rfl ?_
                                first | refine w_iadd rfl (by omega) (fun x139 tx139 => ?_) | refine w_iiU rfl (fun x139 tx139 => ?_)
                                refine w_istore (lo' := [some (.inr (.inr (some 0))), some (.inl sd), some (.inl n), some (.inl w), some (.inl x131), some (.inl x139), some (.inl i), some (.inl x34), some (.inl r), some (.inl x53)]) rfl rfl ?_
                                refine w_iinc (lo' := fun z9 => [some (.inr (.inr (some 0))), some (.inl sd), some (.inl n), some (.inl w), some (.inl x131), some (.inl x139), some (.inl i), some (.inl x34), some (.inl z9), some (.inl x53)]) rfl rfl (fun _ => rfl) (by omega) (fun x140 tx140 => ?_)
                                refine w_goto rfl ?_
                                exact ih192 (6 - x140.toInt).toNat (by omega) x131 x139 x140 rfl  (by omega)
                              · skip
                                refine w_const rfl ?_
                                refine w_goto rfl ?_
                                first | refine w_iadd rfl (by omega) (fun x141 tx141 => ?_) | refine w_iiU rfl (fun x141 tx141 => ?_)
                                refine w_istore (lo' := [some (.inr (.inr (some 0))), some (.inl sd), some (.inl n), some (.inl w), some (.inl x131), some (.inl x141), some (.inl i), some (.inl x34), some (.inl r), some (.inl x53)]) rfl rfl ?_
                                refine w_iinc (lo' := fun z9 => [some (.inr (.inr (some 0))), some (.inl sd), some (.inl n), some (.inl w), some (.inl x131), some (.inl x141), some (.inl i), some (.inl x34), some (.inl z9), some (.inl x53)]) rfl rfl (fun _ => rfl) (by omega) (fun x142 tx142 => ?_)
                                refine w_goto rfl ?_
                                exact ih192 (6 - x142.toInt).toNat (by omega) x131 x141 x142 rfl  (by omega)
                      exact loop192 _ dr fd 0 rfl  (by omega)
                  · skip
                    refine w_iload rfl rfl ?_
                    refine w_const rfl ?_
                    refine w_ic_ne rfl (fun c143 => ?_) (fun c143 => ?_)
                    · skip
                      refine w_aload rfl rfl ?_
                      refine w_getR (v := .inr (.inr (some 15))) rfl rfl rfl rfl rfl ?_
                      refine w_const rfl ?_
                      refine w_aload rfl rfl ?_
                      refine w_aload rfl rfl ?_
                      refine w_invV (rest := [.inr (.inr (some 0)), .inl 1261, .inr (.inr (some 15))]) rfl rfl rfl rfl rfl (Nat.le_of_ble_eq_true rfl) rfl (by omega) (s_rivers (K := K) a36 b33   ha36 ) (fun v144 h9 hq145 => ?_)
                      obtain ⟨rfl, x146, rfl, px146⟩ := hq145
                      show f_wp _ (183, [some (.inr (.inr (some 0))), some (.inl sd), some (.inl n), some (.inl w), some (.inl dr), some (.inl fd), some (.inl i), some (.inl x34), o8_69, o9_69], [.inl x146, .inr (.inr (some 0)), .inl 1261, .inr (.inr (some 15))], mH a36 b33) _
                      have rw9_a36 : x146.toInt = (a 6 0).toInt := by rw [px146.1]; have f9 := ((FR.up (FR.tr (hF69) (FR.sub fa32.1 (by decide))) (by decide) ea36) : FR [0, 15, 17] a a36) 6 (by decide); rw [f9]
                      refine w_invV (rest := [.inl 1261, .inr (.inr (some 15))]) rfl rfl rfl rfl rfl (Nat.le_of_ble_eq_true rfl) rfl (by omega) (s_draw (K := K) a36 b33  x146 ha36 (by omega) (g9)) (fun v147 h9 hq148 => ?_)
                      obtain ⟨a149, b150, rfl, ha149, fa149, x151, rfl, px151⟩ := hq148
                      show f_wp _ (186, [some (.inr (.inr (some 0))), some (.inl sd), some (.inl n), some (.inl w), some (.inl dr), some (.inl fd), some (.inl i), some (.inl x34), o8_69, o9_69], [.inl x151, .inl 1261, .inr (.inr (some 15))], mH a149 b150) _
                      have g6 := fa149.2.2
                      first | refine w_iadd rfl (by omega) (fun x152 tx152 => ?_) | refine w_iiU rfl (fun x152 tx152 => ?_)
                      refine w_const rfl ?_
                      refine m_iast rfl rfl (by omega) (fun a153 ea153 => ?_)
                      have ha153 : RM K a153 := RM.up ha149 ea153 (st_wed (by omega) (by omega))
                      refine w_const rfl ?_
                      refine w_istore (lo' := [some (.inr (.inr (some 0))), some (.inl sd), some (.inl n), some (.inl w), some (.inl dr), some (.inl fd), some (.inl i), some (.inl x34), some (.inl 0), o9_69]) rfl rfl ?_
                      have loop192 : ∀ (ms9 : Nat) (dr1 : Int32) (fd1 : Int32) (r : Int32) , (6 - r.toInt).toNat = ms9 → (0 ≤ r.toInt ∧ r.toInt ≤ 6) → f_wp (f_code (t_X13_centuries (f_ev mtM d))) (192, [some (.inr (.inr (some 0))), some (.inl sd), some (.inl n), some (.inl w), some (.inl dr1), some (.inl fd1), some (.inl i), some (.inl x34), some (.inl r), o9_69], [], mH a153 b150) (fun v9 h' => ∃ (a' : Nat → Nat → Int32) (b' : Nat → Nat → Int64), h' = mH a' b' ∧ RM K a' ∧ (FR [0, 15, 17] a a' ∧ (∀ m9, m9 < 21 → ACm m9 a → ACm m9 a') ∧ True) ∧ ∃ x : Int32, v9 = some (.inl x) ∧ True) := by
                        intro ms9
                        induction ms9 using Nat.strongRecOn with
                        | _ ms192 ih192 =>
                          intro dr1 fd1 r  hm192 hr
                          refine w_iload rfl rfl ?_
                          refine w_aload rfl rfl ?_
                          refine w_invV (rest := [.inl r]) rfl rfl rfl rfl rfl (Nat.le_of_ble_eq_true rfl) rfl (by omega) (s_rivers (K := K) a153 b150   ha153 ) (fun v154 h9 hq155 => ?_)
                          obtain ⟨rfl, x156, rfl, px156⟩ := hq155
                          show f_wp _ (198, [some (.inr (.inr (some 0))), some (.inl sd), some (.inl n), some (.inl w), some (.inl dr1), some (.inl fd1), some (.inl i), some (.inl x34), some (.inl r), o9_69], [.inl x156, .inl r], mH a153 b150) _
                          have rw9_a153 : x156.toInt = (a 6 0).toInt := by rw [px156.1]; have f9 := ((FR.up (FR.tr (FR.up (FR.tr (hF69) (FR.sub fa32.1 (by decide))) (by decide) ea36) (FR.sub fa149.1 (by decide))) (by decide) ea153) : FR [0, 15, 17] a a153) 6 (by decide); rw [f9]
                          refine w_ic_ge rfl (fun c157 => ?_) (fun c157 => ?_)
                          · skip
                            refine w_aload rfl rfl ?_
                            refine w_getR (v := .inr (.inr (some 15))) rfl rfl rfl rfl rfl ?_
                            refine w_const rfl ?_
                            refine w_dup2 rfl ⟨rfl, rfl⟩ ?_
                            refine m_iald rfl rfl (by omega) (fun x158 ex158 => ?_)
                            have t9 : x158.toInt = (a69 15 1260).toInt := by rw [ex158, show (1260 : Int32).toInt.toNat = 1260 from rfl, ea153, mU_slot (by omega), fa149.1 15 (by decide), ea36, mU_cell (by decide), fa32.1 15 (by decide)]
                            have t7 : 0 ≤ x158.toInt := by rw [ex158]; exact (RM.now ha153 (j := 1260) (by decide)).1
                            refine w_const rfl ?_
                            first | refine w_iadd rfl (by omega) (fun x159 tx159 => ?_) | refine w_iiU rfl (fun x159 tx159 => ?_)
                            refine m_iast rfl rfl (by omega) (fun a160 ea160 => ?_)
                            have ha160 : RM K a160 := RM.up ha153 ea160 (st_now (by omega) (by omega))
                            have t8 : (a160 15 1260).toInt = x159.toInt := by rw [ea160, show (1260 : Int32).toInt.toNat = 1260 from rfl, mU_same]
                            refine w_iinc (lo' := fun z9 => [some (.inr (.inr (some 0))), some (.inl sd), some (.inl n), some (.inl w), some (.inl dr1), some (.inl fd1), some (.inl z9), some (.inl x34), some (.inl r), o9_69]) rfl rfl (fun _ => rfl) (by omega) (fun x161 tx161 => ?_)
                            refine w_goto rfl ?_
                            exact ih69 (n.toInt - x161.toInt).toNat (by omega) dr1 fd1 x161 a160 b150 (some (.inl x34)) (some (.inl r)) o9_69 rfl ha160 (FR.up (FR.up (FR.tr (FR.up (FR.tr (hF69) (FR.sub fa32.1 (by decide))) (by decide) ea36) (FR.sub fa149.1 (by decide))) (by decide) ea153) (by decide) ea160) (fun (m9 : Nat) (l9 : m9 < 21) (h7 : ACm m9 a) => ACm.put ((fun (m9 : Nat) (l9 : m9 < 21) (h7 : ACm m9 a) => ACm.put ((fun (m9 : Nat) (l9 : m9 < 21) (h7 : ACm m9 a) => ACm.fr ((fun (m9 : Nat) (l9 : m9 < 21) (h7 : ACm m9 a) => ACm.up ((fun (m9 : Nat) (l9 : m9 < 21) (h7 : ACm m9 a) => ACm.fr ((hC69) m9 l9 h7) fa32.1 (by decide)) m9 l9 h7) ea36 (by decide)) m9 l9 h7) fa149.1 (by decide)) m9 l9 h7) ea153 (by omega)) m9 l9 h7) ea160 (by omega)) (by omega) (by first | exact g6 | exact g7 | exact g9) (by omega) (by omega) ((ACm.put (m := 21) (ACm.put (m := 21) (ACm.fr (m := 21) (ACm.up (m := 21) (ACm.fr (m := 21) (hD69) fa32.1 (by decide)) ea36 (by decide)) fa149.1 (by decide)) ea153 (by omega)) ea160 (by omega)))
                          · skip
                            refine w_iload rfl rfl ?_
                            refine w_aload rfl rfl ?_
                            refine w_const rfl ?_
                            refine w_iload rfl rfl ?_
                            refine w_aload rfl rfl ?_
                            refine w_const rfl ?_
                            refine w_invV (rest := [.inl r, .inl 1260, .inr (.inr (some 0)), .inl dr1]) rfl rfl rfl rfl rfl (Nat.le_of_ble_eq_true rfl) rfl (by omega) (s_winter (K := K) a153 b150  1260 ha153 (by omega)) (fun v162 h9 hq163 => ?_)
                            obtain ⟨rfl, x164, rfl, px164⟩ := hq163
                            show f_wp _ (216, [some (.inr (.inr (some 0))), some (.inl sd), some (.inl n), some (.inl w), some (.inl dr1), some (.inl fd1), some (.inl i), some (.inl x34), some (.inl r), o9_69], [.inl x164, .inl r, .inl 1260, .inr (.inr (some 0)), .inl dr1], mH a153 b150) _
                            refine w_invV (rest := [.inl dr1]) rfl rfl rfl rfl rfl (Nat.le_of_ble_eq_true rfl) rfl (by omega) (s_isDry (K := K) a153 b150  1260 r x164 ha153 (by omega) (by omega) (by omega) ((ACm.put (m := 21) (ACm.fr (m := 21) (ACm.up (m := 21) (ACm.fr (m := 21) (hD69) fa32.1 (by decide)) ea36 (by decide)) fa149.1 (by decide)) ea153 (by omega)))) (fun v165 h9 hq166 => ?_)
                            obtain ⟨rfl, x167, rfl, px167⟩ := hq166
                            show f_wp _ (219, [some (.inr (.inr (some 0))), some (.inl sd), some (.inl n), some (.inl w), some (.inl dr1), some (.inl fd1), some (.inl i), some (.inl x34), some (.inl r), o9_69], [.inl x167, .inl dr1], mH a153 b150) _
                            refine w_if_eq rfl (fun c168 => ?_) (fun c168 => ?_)
                            · skip
                              refine w_const rfl ?_
                              first | refine w_iadd rfl (by omega) (fun x169 tx169 => ?_) | refine w_iiU rfl (fun x169 tx169 => ?_)
                              refine w_istore (lo' := [some (.inr (.inr (some 0))), some (.inl sd), some (.inl n), some (.inl w), some (.inl x169), some (.inl fd1), some (.inl i), some (.inl x34), some (.inl r), o9_69]) rfl rfl ?_
                              refine w_iload rfl rfl ?_
                              refine w_aload rfl rfl ?_
                              refine w_const rfl ?_
                              refine w_iload rfl rfl ?_
                              refine w_aload rfl rfl ?_
                              refine w_const rfl ?_
                              refine w_invV (rest := [.inl r, .inl 1260, .inr (.inr (some 0)), .inl fd1]) rfl rfl rfl rfl rfl (Nat.le_of_ble_eq_true rfl) rfl (by omega) (s_winter (K := K) a153 b150  1260 ha153 (by omega)) (fun v170 h9 hq171 => ?_)
                              obtain ⟨rfl, x172, rfl, px172⟩ := hq171
                              show f_wp _ (245, [some (.inr (.inr (some 0))), some (.inl sd), some (.inl n), some (.inl w), some (.inl x169), some (.inl fd1), some (.inl i), some (.inl x34), some (.inl r), o9_69], [.inl x172, .inl r, .inl 1260, .inr (.inr (some 0)), .inl fd1], mH a153 b150) _
                              refine w_invV (rest := [.inl fd1]) rfl rfl rfl rfl rfl (Nat.le_of_ble_eq_true rfl) rfl (by omega) (s_isFlooded (K := K) a153 b150  1260 r x172 ha153 (by omega) (by omega) (by omega) ((ACm.put (m := 21) (ACm.fr (m := 21) (ACm.up (m := 21) (ACm.fr (m := 21) (hD69) fa32.1 (by decide)) ea36 (by decide)) fa149.1 (by decide)) ea153 (by omega)))) (fun v173 h9 hq174 => ?_)
                              obtain ⟨rfl, x175, rfl, px175⟩ := hq174
                              show f_wp _ (248, [some (.inr (.inr (some 0))), some (.inl sd), some (.inl n), some (.inl w), some (.inl x169), some (.inl fd1), some (.inl i), some (.inl x34), some (.inl r), o9_69], [.inl x175, .inl fd1], mH a153 b150) _
                              refine w_if_eq rfl (fun c176 => ?_) (fun c176 => ?_)
                              · skip
                                refine w_const rfl ?_
                                first | refine w_iadd rfl (by omega) (fun x177 tx177 => ?_) | refine w_iiU rfl (fun x177 tx177 => ?_)
                                refine w_istore (lo' := [some (.inr (.inr (some 0))), some (.inl sd), some (.inl n), some (.inl w), some (.inl x169), some (.inl x177), some (.inl i), some (.inl x34), some (.inl r), o9_69]) rfl rfl ?_
                                refine w_iinc (lo' := fun z9 => [some (.inr (.inr (some 0))), some (.inl sd), some (.inl n), some (.inl w), some (.inl x169), some (.inl x177), some (.inl i), some (.inl x34), some (.inl z9), o9_69]) rfl rfl (fun _ => rfl) (by omega) (fun x178 tx178 => ?_)
                                refine w_goto rfl ?_
                                exact ih192 (6 - x178.toInt).toNat (by omega) x169 x177 x178 rfl  (by omega)
                              · skip
                                refine w_const rfl ?_
                                refine w_goto rfl ?_
                                first | refine w_iadd rfl (by omega) (fun x179 tx179 => ?_) | refine w_iiU rfl (fun x179 tx179 => ?_)
                                refine w_istore (lo' := [some (.inr (.inr (some 0))), some (.inl sd), some (.inl n), some (.inl w), some (.inl x169), some (.inl x179), some (.inl i), some (.inl x34), some (.inl r), o9_69]) rfl rfl ?_
                                refine w_iinc (lo' := fun z9 => [some (.inr (.inr (some 0))), some (.inl sd), some (.inl n), some (.inl w), some (.inl x169), some (.inl x179), some (.inl i), some (.inl x34), some (.inl z9), o9_69]) rfl rfl (fun _ => rfl) (by omega) (fun x180 tx180 => ?_)
                                refine w_goto rfl ?_
                                exact ih192 (6 - x180.toInt).toNat (by omega) x169 x179 x180 rfl  (by omega)
                            · skip
                              refine w_const rfl ?_
                              refine w_goto rfl ?_
                              first | refine w_iadd rfl (by omega) (fun x181 tx181 => ?_) | refine w_iiU rfl (fun x181 tx181 => ?_)
                              refine w_istore (lo' := [some (.inr (.inr (some 0))), some (.inl sd), some (.inl n), some (.inl w), some (.inl x181), some (.inl fd1), some (.inl i), some (.inl x34), some (.inl r), o9_69]) rfl rfl ?_
                              refine w_iload rfl rfl ?_
                              refine w_aload rfl rfl ?_
                              refine w_const rfl ?_
                              refine w_iload rfl rfl ?_
                              refine w_aload rfl rfl ?_
                              refine w_const rfl ?_
                              refine w_invV (rest := [.inl r, .inl 1260, .inr (.inr (some 0)), .inl fd1]) rfl rfl rfl rfl rfl (Nat.le_of_ble_eq_true rfl) rfl (by omega) (s_winter (K := K) a153 b150  1260 ha153 (by omega)) (fun v182 h9 hq183 => ?_)
                              obtain ⟨rfl, x184, rfl, px184⟩ := hq183
                              show f_wp _ (245, [some (.inr (.inr (some 0))), some (.inl sd), some (.inl n), some (.inl w), some (.inl x181), some (.inl fd1), some (.inl i), some (.inl x34), some (.inl r), o9_69], [.inl x184, .inl r, .inl 1260, .inr (.inr (some 0)), .inl fd1], mH a153 b150) _
                              refine w_invV (rest := [.inl fd1]) rfl rfl rfl rfl rfl (Nat.le_of_ble_eq_true rfl) rfl (by omega) (s_isFlooded (K := K) a153 b150  1260 r x184 ha153 (by omega) (by omega) (by omega) ((ACm.put (m := 21) (ACm.fr (m := 21) (ACm.up (m := 21) (ACm.fr (m := 21) (hD69) fa32.1 (by decide)) ea36 (by decide)) fa149.1 (by decide)) ea153 (by omega)))) (fun v185 h9 hq186 => ?_)
                              obtain ⟨rfl, x187, rfl, px187⟩ := hq186
                              show f_wp _ (248, [some (.inr (.inr (some 0))), some (.inl sd), some (.inl n), some (.inl w), some (.inl x181), some (.inl fd1), some (.inl i), some (.inl x34), some (.inl r), o9_69], [.inl x187, .inl fd1], mH a153 b150) _
                              refine w_if_eq rfl (fun c188 => ?_) (fun c188 => ?_)
                              · skip
                                refine w_const rfl ?_
                                first | refine w_iadd rfl (by omega) (fun x189 tx189 => ?_) | refine w_iiU rfl (fun x189 tx189 => ?_)
                                refine w_istore (lo' := [some (.inr (.inr (some 0))), some (.inl sd), some (.inl n), some (.inl w), some (.inl x181), some (.inl x189), some (.inl i), some (.inl x34), some (.inl r), o9_69]) rfl rfl ?_
                                refine w_iinc (lo' := fun z9 => [some (.inr (.inr (some 0))), some (.inl sd), some (.inl n), some (.inl w), some (.inl x181), some (.inl x189), some (.inl i), some (.inl x34), some (.inl z9), o9_69]) rfl rfl (fun _ => rfl) (by omega) (fun x190 tx190 => ?_)
                                refine w_goto rfl ?_
                                exact ih192 (6 - x190.toInt).toNat (by omega) x181 x189 x190 rfl  (by omega)
                              · skip
                                refine w_const rfl ?_
                                refine w_goto rfl ?_
                                first | refine w_iadd rfl (by omega) (fun x191 tx191 => ?_) | refine w_iiU rfl (fun x191 tx191 => ?_)
                                refine w_istore (lo' := [some (.inr (.inr (some 0))), some (.inl sd), some (.inl n), some (.inl w), some (.inl x181), some (.inl x191), some (.inl i), some (.inl x34), some (.inl r), o9_69]) rfl rfl ?_
                                refine w_iinc (lo' := fun z9 => [some (.inr (.inr (some 0))), some (.inl sd), some (.inl n), some (.inl w), some (.inl x181), some (.inl x191), some (.inl i), some (.inl x34), some (.inl z9), o9_69]) rfl rfl (fun _ => rfl) (by omega) (fun x192 tx192 => ?_)
                                refine w_goto rfl ?_
                                exact ih192 (6 - x192.toInt).toNat (by omega) x181 x191 x192 rfl  (by omega)
                      exact loop192 _ dr fd 0 rfl  (by omega)
                    · skip
                      refine w_const rfl ?_
                      refine w_istore (lo' := [some (.inr (.inr (some 0))), some (.inl sd), some (.inl n), some (.inl w), some (.inl dr), some (.inl fd), some (.inl i), some (.inl x34), some (.inl 0), o9_69]) rfl rfl ?_
                      have loop192 : ∀ (ms9 : Nat) (dr1 : Int32) (fd1 : Int32) (r : Int32) , (6 - r.toInt).toNat = ms9 → (0 ≤ r.toInt ∧ r.toInt ≤ 6) → f_wp (f_code (t_X13_centuries (f_ev mtM d))) (192, [some (.inr (.inr (some 0))), some (.inl sd), some (.inl n), some (.inl w), some (.inl dr1), some (.inl fd1), some (.inl i), some (.inl x34), some (.inl r), o9_69], [], mH a36 b33) (fun v9 h' => ∃ (a' : Nat → Nat → Int32) (b' : Nat → Nat → Int64), h' = mH a' b' ∧ RM K a' ∧ (FR [0, 15, 17] a a' ∧ (∀ m9, m9 < 21 → ACm m9 a → ACm m9 a') ∧ True) ∧ ∃ x : Int32, v9 = some (.inl x) ∧ True) := by
                        intro ms9
                        induction ms9 using Nat.strongRecOn with
                        | _ ms192 ih192 =>
                          intro dr1 fd1 r  hm192 hr
                          refine w_iload rfl rfl ?_
                          refine w_aload rfl rfl ?_
                          refine w_invV (rest := [.inl r]) rfl rfl rfl rfl rfl (Nat.le_of_ble_eq_true rfl) rfl (by omega) (s_rivers (K := K) a36 b33   ha36 ) (fun v193 h9 hq194 => ?_)
                          obtain ⟨rfl, x195, rfl, px195⟩ := hq194
                          show f_wp _ (198, [some (.inr (.inr (some 0))), some (.inl sd), some (.inl n), some (.inl w), some (.inl dr1), some (.inl fd1), some (.inl i), some (.inl x34), some (.inl r), o9_69], [.inl x195, .inl r], mH a36 b33) _
                          have rw9_a36 : x195.toInt = (a 6 0).toInt := by rw [px195.1]; have f9 := ((FR.up (FR.tr (hF69) (FR.sub fa32.1 (by decide))) (by decide) ea36) : FR [0, 15, 17] a a36) 6 (by decide); rw [f9]
                          refine w_ic_ge rfl (fun c196 => ?_) (fun c196 => ?_)
                          · skip
                            refine w_aload rfl rfl ?_
                            refine w_getR (v := .inr (.inr (some 15))) rfl rfl rfl rfl rfl ?_
                            refine w_const rfl ?_
                            refine w_dup2 rfl ⟨rfl, rfl⟩ ?_
                            refine m_iald rfl rfl (by omega) (fun x197 ex197 => ?_)
                            have t9 : x197.toInt = (a69 15 1260).toInt := by rw [ex197, show (1260 : Int32).toInt.toNat = 1260 from rfl, ea36, mU_cell (by decide), fa32.1 15 (by decide)]
                            have t7 : 0 ≤ x197.toInt := by rw [ex197]; exact (RM.now ha36 (j := 1260) (by decide)).1
                            refine w_const rfl ?_
                            first | refine w_iadd rfl (by omega) (fun x198 tx198 => ?_) | refine w_iiU rfl (fun x198 tx198 => ?_)
                            refine m_iast rfl rfl (by omega) (fun a199 ea199 => ?_)
                            have ha199 : RM K a199 := RM.up ha36 ea199 (st_now (by omega) (by omega))
                            have t8 : (a199 15 1260).toInt = x198.toInt := by rw [ea199, show (1260 : Int32).toInt.toNat = 1260 from rfl, mU_same]
                            refine w_iinc (lo' := fun z9 => [some (.inr (.inr (some 0))), some (.inl sd), some (.inl n), some (.inl w), some (.inl dr1), some (.inl fd1), some (.inl z9), some (.inl x34), some (.inl r), o9_69]) rfl rfl (fun _ => rfl) (by omega) (fun x200 tx200 => ?_)
                            refine w_goto rfl ?_
                            exact ih69 (n.toInt - x200.toInt).toNat (by omega) dr1 fd1 x200 a199 b33 (some (.inl x34)) (some (.inl r)) o9_69 rfl ha199 (FR.up (FR.up (FR.tr (hF69) (FR.sub fa32.1 (by decide))) (by decide) ea36) (by decide) ea199) (fun (m9 : Nat) (l9 : m9 < 21) (h7 : ACm m9 a) => ACm.put ((fun (m9 : Nat) (l9 : m9 < 21) (h7 : ACm m9 a) => ACm.up ((fun (m9 : Nat) (l9 : m9 < 21) (h7 : ACm m9 a) => ACm.fr ((hC69) m9 l9 h7) fa32.1 (by decide)) m9 l9 h7) ea36 (by decide)) m9 l9 h7) ea199 (by omega)) (by omega) (by first | exact g6 | exact g7 | exact g9) (by omega) (by omega) ((ACm.put (m := 21) (ACm.up (m := 21) (ACm.fr (m := 21) (hD69) fa32.1 (by decide)) ea36 (by decide)) ea199 (by omega)))
                          · skip
                            refine w_iload rfl rfl ?_
                            refine w_aload rfl rfl ?_
                            refine w_const rfl ?_
                            refine w_iload rfl rfl ?_
                            refine w_aload rfl rfl ?_
                            refine w_const rfl ?_
                            refine w_invV (rest := [.inl r, .inl 1260, .inr (.inr (some 0)), .inl dr1]) rfl rfl rfl rfl rfl (Nat.le_of_ble_eq_true rfl) rfl (by omega) (s_winter (K := K) a36 b33  1260 ha36 (by omega)) (fun v201 h9 hq202 => ?_)
                            obtain ⟨rfl, x203, rfl, px203⟩ := hq202
                            show f_wp _ (216, [some (.inr (.inr (some 0))), some (.inl sd), some (.inl n), some (.inl w), some (.inl dr1), some (.inl fd1), some (.inl i), some (.inl x34), some (.inl r), o9_69], [.inl x203, .inl r, .inl 1260, .inr (.inr (some 0)), .inl dr1], mH a36 b33) _
                            refine w_invV (rest := [.inl dr1]) rfl rfl rfl rfl rfl (Nat.le_of_ble_eq_true rfl) rfl (by omega) (s_isDry (K := K) a36 b33  1260 r x203 ha36 (by omega) (by omega) (by omega) ((ACm.up (m := 21) (ACm.fr (m := 21) (hD69) fa32.1 (by decide)) ea36 (by decide)))) (fun v204 h9 hq205 => ?_)
                            obtain ⟨rfl, x206, rfl, px206⟩ := hq205
                            show f_wp _ (219, [some (.inr (.inr (some 0))), some (.inl sd), some (.inl n), some (.inl w), some (.inl dr1), some (.inl fd1), some (.inl i), some (.inl x34), some (.inl r), o9_69], [.inl x206, .inl dr1], mH a36 b33) _
                            refine w_if_eq rfl (fun c207 => ?_) (fun c207 => ?_)
                            · skip
                              refine w_const rfl ?_
                              first | refine w_iadd rfl (by omega) (fun x208 tx208 => ?_) | refine w_iiU rfl (fun x208 tx208 => ?_)
                              refine w_istore (lo' := [some (.inr (.inr (some 0))), some (.inl sd), some (.inl n), some (.inl w), some (.inl x208), some (.inl fd1), some (.inl i), some (.inl x34), some (.inl r), o9_69]) rfl rfl ?_
                              refine w_iload rfl rfl ?_
                              refine w_aload rfl rfl ?_
                              refine w_const rfl ?_
                              refine w_iload rfl rfl ?_
                              refine w_aload rfl rfl ?_
                              refine w_const rfl ?_
                              refine w_invV (rest := [.inl r, .inl 1260, .inr (.inr (some 0)), .inl fd1]) rfl rfl rfl rfl rfl (Nat.le_of_ble_eq_true rfl) rfl (by omega) (s_winter (K := K) a36 b33  1260 ha36 (by omega)) (fun v209 h9 hq210 => ?_)
                              obtain ⟨rfl, x211, rfl, px211⟩ := hq210
                              show f_wp _ (245, [some (.inr (.inr (some 0))), some (.inl sd), some (.inl n), some (.inl w), some (.inl x208), some (.inl fd1), some (.inl i), some (.inl x34), some (.inl r), o9_69], [.inl x211, .inl r, .inl 1260, .inr (.inr (some 0)), .inl fd1], mH a36 b33) _
                              refine w_invV (rest := [.inl fd1]) rfl rfl rfl rfl rfl (Nat.le_of_ble_eq_true rfl) rfl (by omega) (s_isFlooded (K := K) a36 b33  1260 r x211 ha36 (by omega) (by omega) (by omega) ((ACm.up (m := 21) (ACm.fr (m := 21) (hD69) fa32.1 (by decide)) ea36 (by decide)))) (fun v212 h9 hq213 => ?_)
                              obtain ⟨rfl, x214, rfl, px214⟩ := hq213
                              show f_wp _ (248, [some (.inr (.inr (some 0))), some (.inl sd), some (.inl n), some (.inl w), some (.inl x208), some (.inl fd1), some (.inl i), some (.inl x34), some (.inl r), o9_69], [.inl x214, .inl fd1], mH a36 b33) _
                              refine w_if_eq rfl (fun c215 => ?_) (fun c215 => ?_)
                              · skip
                                refine w_const rfl ?_
                                first | refine w_iadd rfl (by omega) (fun x216 tx216 => ?_) | refine w_iiU rfl (fun x216 tx216 => ?_)
                                refine w_istore (lo' := [some (.inr (.inr (some 0))), some (.inl sd), some (.inl n), some (.inl w), some (.inl x208), some (.inl x216), some (.inl i), some (.inl x34), some (.inl r), o9_69]) rfl rfl ?_
                                refine w_iinc (lo' := fun z9 => [some (.inr (.inr (some 0))), some (.inl sd), some (.inl n), some (.inl w), some (.inl x208), some (.inl x216), some (.inl i), some (.inl x34), some (.inl z9), o9_69]) rfl rfl (fun _ => rfl) (by omega) (fun x217 tx217 => ?_)
                                refine w_goto rfl ?_
                                exact ih192 (6 - x217.toInt).toNat (by omega) x208 x216 x217 rfl  (by omega)
                              · skip
                                refine w_const rfl ?_
                                refine w_goto rfl ?_
                                first | refine w_iadd rfl (by omega) (fun x218 tx218 => ?_) | refine w_iiU rfl (fun x218 tx218 => ?_)
                                refine w_istore (lo' := [some (.inr (.inr (some 0))), some (.inl sd), some (.inl n), some (.inl w), some (.inl x208), some (.inl x218), some (.inl i), some (.inl x34), some (.inl r), o9_69]) rfl rfl ?_
                                refine w_iinc (lo' := fun z9 => [some (.inr (.inr (some 0))), some (.inl sd), some (.inl n), some (.inl w), some (.inl x208), some (.inl x218), some (.inl i), some (.inl x34), some (.inl z9), o9_69]) rfl rfl (fun _ => rfl) (by omega) (fun x219 tx219 => ?_)
                                refine w_goto rfl ?_
                                exact ih192 (6 - x219.toInt).toNat (by omega) x208 x218 x219 rfl  (by omega)
                            · skip
                              refine w_const rfl ?_
                              refine w_goto rfl ?_
                              first | refine w_iadd rfl (by omega) (fun x220 tx220 => ?_) | refine w_iiU rfl (fun x220 tx220 => ?_)
                              refine w_istore (lo' := [some (.inr (.inr (some 0))), some (.inl sd), some (.inl n), some (.inl w), some (.inl x220), some (.inl fd1), some (.inl i), some (.inl x34), some (.inl r), o9_69]) rfl rfl ?_
                              refine w_iload rfl rfl ?_
                              refine w_aload rfl rfl ?_
                              refine w_const rfl ?_
                              refine w_iload rfl rfl ?_
                              refine w_aload rfl rfl ?_
                              refine w_const rfl ?_
                              refine w_invV (rest := [.inl r, .inl 1260, .inr (.inr (some 0)), .inl fd1]) rfl rfl rfl rfl rfl (Nat.le_of_ble_eq_true rfl) rfl (by omega) (s_winter (K := K) a36 b33  1260 ha36 (by omega)) (fun v221 h9 hq222 => ?_)
                              obtain ⟨rfl, x223, rfl, px223⟩ := hq222
                              show f_wp _ (245, [some (.inr (.inr (some 0))), some (.inl sd), some (.inl n), some (.inl w), some (.inl x220), some (.inl fd1), some (.inl i), some (.inl x34), some (.inl r), o9_69], [.inl x223, .inl r, .inl 1260, .inr (.inr (some 0)), .inl fd1], mH a36 b33) _
                              refine w_invV (rest := [.inl fd1]) rfl rfl rfl rfl rfl (Nat.le_of_ble_eq_true rfl) rfl (by omega) (s_isFlooded (K := K) a36 b33  1260 r x223 ha36 (by omega) (by omega) (by omega) ((ACm.up (m := 21) (ACm.fr (m := 21) (hD69) fa32.1 (by decide)) ea36 (by decide)))) (fun v224 h9 hq225 => ?_)
                              obtain ⟨rfl, x226, rfl, px226⟩ := hq225
                              show f_wp _ (248, [some (.inr (.inr (some 0))), some (.inl sd), some (.inl n), some (.inl w), some (.inl x220), some (.inl fd1), some (.inl i), some (.inl x34), some (.inl r), o9_69], [.inl x226, .inl fd1], mH a36 b33) _
                              refine w_if_eq rfl (fun c227 => ?_) (fun c227 => ?_)
                              · skip
                                refine w_const rfl ?_
                                first | refine w_iadd rfl (by omega) (fun x228 tx228 => ?_) | refine w_iiU rfl (fun x228 tx228 => ?_)
                                refine w_istore (lo' := [some (.inr (.inr (some 0))), some (.inl sd), some (.inl n), some (.inl w), some (.inl x220), some (.inl x228), some (.inl i), some (.inl x34), some (.inl r), o9_69]) rfl rfl ?_
                                refine w_iinc (lo' := fun z9 => [some (.inr (.inr (some 0))), some (.inl sd), some (.inl n), some (.inl w), some (.inl x220), some (.inl x228), some (.inl i), some (.inl x34), some (.inl z9), o9_69]) rfl rfl (fun _ => rfl) (by omega) (fun x229 tx229 => ?_)
                                refine w_goto rfl ?_
                                exact ih192 (6 - x229.toInt).toNat (by omega) x220 x228 x229 rfl  (by omega)
                              · skip
                                refine w_const rfl ?_
                                refine w_goto rfl ?_
                                first | refine w_iadd rfl (by omega) (fun x230 tx230 => ?_) | refine w_iiU rfl (fun x230 tx230 => ?_)
                                refine w_istore (lo' := [some (.inr (.inr (some 0))), some (.inl sd), some (.inl n), some (.inl w), some (.inl x220), some (.inl x230), some (.inl i), some (.inl x34), some (.inl r), o9_69]) rfl rfl ?_
                                refine w_iinc (lo' := fun z9 => [some (.inr (.inr (some 0))), some (.inl sd), some (.inl n), some (.inl w), some (.inl x220), some (.inl x230), some (.inl i), some (.inl x34), some (.inl z9), o9_69]) rfl rfl (fun _ => rfl) (by omega) (fun x231 tx231 => ?_)
                                refine w_goto rfl ?_
                                exact ih192 (6 - x231.toInt).toNat (by omega) x220 x230 x231 rfl  (by omega)
                      exact loop192 _ dr fd 0 rfl  (by omega)
                · skip
                  refine w_const rfl ?_
                  refine m_putI (z := true) rfl rfl rfl rfl (by first | (intro h9; cases h9; done) | (intro _; first | exact Or.inl rfl | exact Or.inr rfl | assumption)) (fun a232 ea232 => ?_)
                  have ha232 : RM K a232 := RM.up ha32 ea232 (show (0 : Int) ≤ _ ∧ _ ≤ (1 : Int) from by omega)
                  have ua232_25 : a232 0 25 = (0 : Int32) := by rw [ea232, mU_same]
                  have wa232_25 := congrArg Int32.toInt ua232_25
                  refine w_iload rfl rfl ?_
                  refine w_const rfl ?_
                  refine w_ic_ne rfl (fun c233 => ?_) (fun c233 => ?_)
                  · skip
                    refine w_aload rfl rfl ?_
                    refine w_aload rfl rfl ?_
                    refine w_invV (rest := [.inr (.inr (some 0))]) rfl rfl rfl rfl rfl (Nat.le_of_ble_eq_true rfl) rfl (by omega) (s_rivers (K := K) a232 b33   ha232 ) (fun v234 h9 hq235 => ?_)
                    obtain ⟨rfl, x236, rfl, px236⟩ := hq235
                    show f_wp _ (108, [some (.inr (.inr (some 0))), some (.inl sd), some (.inl n), some (.inl w), some (.inl dr), some (.inl fd), some (.inl i), some (.inl x34), o8_69, o9_69], [.inl x236, .inr (.inr (some 0))], mH a232 b33) _
                    have rw9_a232 : x236.toInt = (a 6 0).toInt := by rw [px236.1]; have f9 := ((FR.up (FR.tr (hF69) (FR.sub fa32.1 (by decide))) (by decide) ea232) : FR [0, 15, 17] a a232) 6 (by decide); rw [f9]
                    refine w_invV (rest := []) rfl rfl rfl rfl rfl (Nat.le_of_ble_eq_true rfl) rfl (by omega) (s_draw (K := K) a232 b33  x236 ha232 (by omega) (g9)) (fun v237 h9 hq238 => ?_)
                    obtain ⟨a239, b240, rfl, ha239, fa239, x241, rfl, px241⟩ := hq238
                    show f_wp _ (111, [some (.inr (.inr (some 0))), some (.inl sd), some (.inl n), some (.inl w), some (.inl dr), some (.inl fd), some (.inl i), some (.inl x34), o8_69, o9_69], [.inl x241], mH a239 b240) _
                    have g8 := fa239.2.2
                    refine w_istore (lo' := [some (.inr (.inr (some 0))), some (.inl sd), some (.inl n), some (.inl w), some (.inl dr), some (.inl fd), some (.inl i), some (.inl x34), some (.inl x241), o9_69]) rfl rfl ?_
                    refine w_aload rfl rfl ?_
                    refine w_aload rfl rfl ?_
                    refine w_invV (rest := [.inr (.inr (some 0))]) rfl rfl rfl rfl rfl (Nat.le_of_ble_eq_true rfl) rfl (by omega) (s_rivers (K := K) a239 b240   ha239 ) (fun v242 h9 hq243 => ?_)
                    obtain ⟨rfl, x244, rfl, px244⟩ := hq243
                    show f_wp _ (118, [some (.inr (.inr (some 0))), some (.inl sd), some (.inl n), some (.inl w), some (.inl dr), some (.inl fd), some (.inl i), some (.inl x34), some (.inl x241), o9_69], [.inl x244, .inr (.inr (some 0))], mH a239 b240) _
                    have rw9_a239 : x244.toInt = (a 6 0).toInt := by rw [px244.1]; have f9 := ((FR.tr (FR.up (FR.tr (hF69) (FR.sub fa32.1 (by decide))) (by decide) ea232) (FR.sub fa239.1 (by decide))) : FR [0, 15, 17] a a239) 6 (by decide); rw [f9]
                    refine w_invV (rest := []) rfl rfl rfl rfl rfl (Nat.le_of_ble_eq_true rfl) rfl (by omega) (s_draw (K := K) a239 b240  x244 ha239 (by omega) (g8)) (fun v245 h9 hq246 => ?_)
                    obtain ⟨a247, b248, rfl, ha247, fa247, x249, rfl, px249⟩ := hq246
                    show f_wp _ (121, [some (.inr (.inr (some 0))), some (.inl sd), some (.inl n), some (.inl w), some (.inl dr), some (.inl fd), some (.inl i), some (.inl x34), some (.inl x241), o9_69], [.inl x249], mH a247 b248) _
                    have g7 := fa247.2.2
                    refine w_istore (lo' := [some (.inr (.inr (some 0))), some (.inl sd), some (.inl n), some (.inl w), some (.inl dr), some (.inl fd), some (.inl i), some (.inl x34), some (.inl x241), some (.inl x249)]) rfl rfl ?_
                    refine w_aload rfl rfl ?_
                    refine w_getR (v := .inr (.inr (some 15))) rfl rfl rfl rfl rfl ?_
                    refine w_const rfl ?_
                    refine w_iload rfl rfl ?_
                    first | refine w_iadd rfl (by omega) (fun x250 tx250 => ?_) | refine w_iiU rfl (fun x250 tx250 => ?_)
                    refine w_aload rfl rfl ?_
                    refine w_const rfl ?_
                    refine w_iload rfl rfl ?_
                    refine w_iload rfl rfl ?_
                    have A8 : ∀ m9, m9 < 21 → ACm m9 a → ACm m9 a247 := (fun (m9 : Nat) (l9 : m9 < 21) (h7 : ACm m9 a) => ACm.fr ((fun (m9 : Nat) (l9 : m9 < 21) (h7 : ACm m9 a) => ACm.fr ((fun (m9 : Nat) (l9 : m9 < 21) (h7 : ACm m9 a) => ACm.up ((fun (m9 : Nat) (l9 : m9 < 21) (h7 : ACm m9 a) => ACm.fr ((hC69) m9 l9 h7) fa32.1 (by decide)) m9 l9 h7) ea232 (by decide)) m9 l9 h7) fa239.1 (by decide)) m9 l9 h7) fa247.1 (by decide))
                    have D8 : AC a247 1260 := (ACm.fr (m := 21) (ACm.fr (m := 21) (ACm.up (m := 21) (ACm.fr (m := 21) (hD69) fa32.1 (by decide)) ea232 (by decide)) fa239.1 (by decide)) fa247.1 (by decide))
                    have R8 := ha247
                    refine w_invV (rest := [.inl x250, .inr (.inr (some 15))]) rfl rfl rfl rfl rfl (Nat.le_of_ble_eq_true rfl) rfl (by omega) (s_mayWed (K := K) a247 b248  1260 x241 x249 ha247 (by omega) (by omega) (by omega) ((ACm.fr (m := 21) (ACm.fr (m := 21) (ACm.up (m := 21) (ACm.fr (m := 21) (hD69) fa32.1 (by decide)) ea232 (by decide)) fa239.1 (by decide)) fa247.1 (by decide)))) (fun v251 h9 hq252 => ?_)
                    obtain ⟨a253, rfl, ha253, fa253, x254, rfl, px254⟩ := hq252
                    show f_wp _ (144, [some (.inr (.inr (some 0))), some (.inl sd), some (.inl n), some (.inl w), some (.inl dr), some (.inl fd), some (.inl i), some (.inl x34), some (.inl x241), some (.inl x249)], [.inl x254, .inl x250, .inr (.inr (some 15))], mH a253 b248) _
                    have pw := px254
                    refine w_if_eq rfl (fun c255 => ?_) (fun c255 => ?_)
                    · skip
                      refine w_aload rfl rfl ?_
                      refine w_const rfl ?_
                      refine w_iload rfl rfl ?_
                      refine w_invV (rest := [.inl x250, .inr (.inr (some 15))]) rfl rfl rfl rfl rfl (Nat.le_of_ble_eq_true rfl) rfl (by omega) (s_husbandOf (K := K) a253 b248  1260 x241 ha253 (by omega) (by omega)) (fun v256 h9 hq257 => ?_)
                      obtain ⟨rfl, x258, rfl, px258⟩ := hq257
                      show f_wp _ (161, [some (.inr (.inr (some 0))), some (.inl sd), some (.inl n), some (.inl w), some (.inl dr), some (.inl fd), some (.inl i), some (.inl x34), some (.inl x241), some (.inl x249)], [.inl x258, .inl x250, .inr (.inr (some 15))], mH a253 b248) _
                      have hx9 := px258.1
                      refine m_iast rfl rfl (by omega) (fun a259 ea259 => ?_)
                      have ha259 : RM K a259 := RM.up ha253 ea259 (st_wed (by omega) (by omega))
                      have A7 : ∀ m9, ACm m9 a247 → ACm m9 a259 := fun m9 h7 => by first | exact ACm.wed21 (w := x241.toInt.toNat) h7 R8 (fa253.1 15 (by decide)) ea259 (by omega) (by omega) (by omega) m7 | exact ACm.idem h7 (fa253.1 15 (by decide)) ea259 (by rw [hx9]; congr 1; omega)
                      refine w_goto rfl ?_
                      refine w_const rfl ?_
                      refine w_istore (lo' := [some (.inr (.inr (some 0))), some (.inl sd), some (.inl n), some (.inl w), some (.inl dr), some (.inl fd), some (.inl i), some (.inl x34), some (.inl 0), some (.inl x249)]) rfl rfl ?_
                      have loop192 : ∀ (ms9 : Nat) (dr1 : Int32) (fd1 : Int32) (r : Int32) , (6 - r.toInt).toNat = ms9 → (0 ≤ r.toInt ∧ r.toInt ≤ 6) → f_wp (f_code (t_X13_centuries (f_ev mtM d))) (192, [some (.inr (.inr (some 0))), some (.inl sd), some (.inl n), some (.inl w), some (.inl dr1), some (.inl fd1), some (.inl i), some (.inl x34), some (.inl r), some (.inl x249)], [], mH a259 b248) (fun v9 h' => ∃ (a' : Nat → Nat → Int32) (b' : Nat → Nat → Int64), h' = mH a' b' ∧ RM K a' ∧ (FR [0, 15, 17] a a' ∧ (∀ m9, m9 < 21 → ACm m9 a → ACm m9 a') ∧ True) ∧ ∃ x : Int32, v9 = some (.inl x) ∧ True) := by
                        intro ms9
                        induction ms9 using Nat.strongRecOn with
                        | _ ms192 ih192 =>
                          intro dr1 fd1 r  hm192 hr
                          refine w_iload rfl rfl ?_
                          refine w_aload rfl rfl ?_
                          refine w_invV (rest := [.inl r]) rfl rfl rfl rfl rfl (Nat.le_of_ble_eq_true rfl) rfl (by omega) (s_rivers (K := K) a259 b248   ha259 ) (fun v260 h9 hq261 => ?_)
                          obtain ⟨rfl, x262, rfl, px262⟩ := hq261
                          show f_wp _ (198, [some (.inr (.inr (some 0))), some (.inl sd), some (.inl n), some (.inl w), some (.inl dr1), some (.inl fd1), some (.inl i), some (.inl x34), some (.inl r), some (.inl x249)], [.inl x262, .inl r], mH a259 b248) _
                          have rw9_a259 : x262.toInt = (a 6 0).toInt := by rw [px262.1]; have f9 := ((FR.up (FR.tr (FR.tr (FR.tr (FR.up (FR.tr (hF69) (FR.sub fa32.1 (by decide))) (by decide) ea232) (FR.sub fa239.1 (by decide))) (FR.sub fa247.1 (by decide))) (FR.sub fa253.1 (by decide))) (by decide) ea259) : FR [0, 15, 17] a a259) 6 (by decide); rw [f9]
                          refine w_ic_ge rfl (fun c263 => ?_) (fun c263 => ?_)
                          · skip
                            refine w_aload rfl rfl ?_
                            refine w_getR (v := .inr (.inr (some 15))) rfl rfl rfl rfl rfl ?_
                            refine w_const rfl ?_
                            refine w_dup2 rfl ⟨rfl, rfl⟩ ?_
                            refine m_iald rfl rfl (by omega) (fun x264 ex264 => ?_)
                            have t9 : x264.toInt = (a69 15 1260).toInt := by rw [ex264, show (1260 : Int32).toInt.toNat = 1260 from rfl, ea259, mU_slot (by omega), fa253.1 15 (by decide), fa247.1 15 (by decide), fa239.1 15 (by decide), ea232, mU_cell (by decide), fa32.1 15 (by decide)]
                            have t7 : 0 ≤ x264.toInt := by rw [ex264]; exact (RM.now ha259 (j := 1260) (by decide)).1
                            refine w_const rfl ?_
                            first | refine w_iadd rfl (by omega) (fun x265 tx265 => ?_) | refine w_iiU rfl (fun x265 tx265 => ?_)
                            refine m_iast rfl rfl (by omega) (fun a266 ea266 => ?_)
                            have ha266 : RM K a266 := RM.up ha259 ea266 (st_now (by omega) (by omega))
                            have t8 : (a266 15 1260).toInt = x265.toInt := by rw [ea266, show (1260 : Int32).toInt.toNat = 1260 from rfl, mU_same]
                            refine w_iinc (lo' := fun z9 => [some (.inr (.inr (some 0))), some (.inl sd), some (.inl n), some (.inl w), some (.inl dr1), some (.inl fd1), some (.inl z9), some (.inl x34), some (.inl r), some (.inl x249)]) rfl rfl (fun _ => rfl) (by omega) (fun x267 tx267 => ?_)
                            refine w_goto rfl ?_
                            exact ih69 (n.toInt - x267.toInt).toNat (by omega) dr1 fd1 x267 a266 b248 (some (.inl x34)) (some (.inl r)) (some (.inl x249)) rfl ha266 (FR.up (FR.up (FR.tr (FR.tr (FR.tr (FR.up (FR.tr (hF69) (FR.sub fa32.1 (by decide))) (by decide) ea232) (FR.sub fa239.1 (by decide))) (FR.sub fa247.1 (by decide))) (FR.sub fa253.1 (by decide))) (by decide) ea259) (by decide) ea266) (fun (m9 : Nat) (l9 : m9 < 21) (h7 : ACm m9 a) => ACm.put ((fun (m9 : Nat) (l9 : m9 < 21) (h7 : ACm m9 a) => A7 m9 (A8 m9 l9 h7)) m9 l9 h7) ea266 (by omega)) (by omega) (by first | exact g6 | exact g7 | exact g9) (by omega) (by omega) ((ACm.put (m := 21) (A7 21 D8) ea266 (by omega)))
                          · skip
                            refine w_iload rfl rfl ?_
                            refine w_aload rfl rfl ?_
                            refine w_const rfl ?_
                            refine w_iload rfl rfl ?_
                            refine w_aload rfl rfl ?_
                            refine w_const rfl ?_
                            refine w_invV (rest := [.inl r, .inl 1260, .inr (.inr (some 0)), .inl dr1]) rfl rfl rfl rfl rfl (Nat.le_of_ble_eq_true rfl) rfl (by omega) (s_winter (K := K) a259 b248  1260 ha259 (by omega)) (fun v268 h9 hq269 => ?_)
                            obtain ⟨rfl, x270, rfl, px270⟩ := hq269
                            show f_wp _ (216, [some (.inr (.inr (some 0))), some (.inl sd), some (.inl n), some (.inl w), some (.inl dr1), some (.inl fd1), some (.inl i), some (.inl x34), some (.inl r), some (.inl x249)], [.inl x270, .inl r, .inl 1260, .inr (.inr (some 0)), .inl dr1], mH a259 b248) _
                            refine w_invV (rest := [.inl dr1]) rfl rfl rfl rfl rfl (Nat.le_of_ble_eq_true rfl) rfl (by omega) (s_isDry (K := K) a259 b248  1260 r x270 ha259 (by omega) (by omega) (by omega) ((A7 21 D8))) (fun v271 h9 hq272 => ?_)
                            obtain ⟨rfl, x273, rfl, px273⟩ := hq272
                            show f_wp _ (219, [some (.inr (.inr (some 0))), some (.inl sd), some (.inl n), some (.inl w), some (.inl dr1), some (.inl fd1), some (.inl i), some (.inl x34), some (.inl r), some (.inl x249)], [.inl x273, .inl dr1], mH a259 b248) _
                            refine w_if_eq rfl (fun c274 => ?_) (fun c274 => ?_)
                            · skip
                              refine w_const rfl ?_
                              first | refine w_iadd rfl (by omega) (fun x275 tx275 => ?_) | refine w_iiU rfl (fun x275 tx275 => ?_)
                              refine w_istore (lo' := [some (.inr (.inr (some 0))), some (.inl sd), some (.inl n), some (.inl w), some (.inl x275), some (.inl fd1), some (.inl i), some (.inl x34), some (.inl r), some (.inl x249)]) rfl rfl ?_
                              refine w_iload rfl rfl ?_
                              refine w_aload rfl rfl ?_
                              refine w_const rfl ?_
                              refine w_iload rfl rfl ?_
                              refine w_aload rfl rfl ?_
                              refine w_const rfl ?_
                              refine w_invV (rest := [.inl r, .inl 1260, .inr (.inr (some 0)), .inl fd1]) rfl rfl rfl rfl rfl (Nat.le_of_ble_eq_true rfl) rfl (by omega) (s_winter (K := K) a259 b248  1260 ha259 (by omega)) (fun v276 h9 hq277 => ?_)
                              obtain ⟨rfl, x278, rfl, px278⟩ := hq277
                              show f_wp _ (245, [some (.inr (.inr (some 0))), some (.inl sd), some (.inl n), some (.inl w), some (.inl x275), some (.inl fd1), some (.inl i), some (.inl x34), some (.inl r), some (.inl x249)], [.inl x278, .inl r, .inl 1260, .inr (.inr (some 0)), .inl fd1], mH a259 b248) _
                              refine w_invV (rest := [.inl fd1]) rfl rfl rfl rfl rfl (Nat.le_of_ble_eq_true rfl) rfl (by omega) (s_isFlooded (K := K) a259 b248  1260 r x278 ha259 (by omega) (by omega) (by omega) ((A7 21 D8))) (fun v279 h9 hq280 => ?_)
                              obtain ⟨rfl, x281, rfl, px281⟩ := hq280
                              show f_wp _ (248, [some (.inr (.inr (some 0))), some (.inl sd), some (.inl n), some (.inl w), some (.inl x275), some (.inl fd1), some (.inl i), some (.inl x34), some (.inl r), some (.inl x249)], [.inl x281, .inl fd1], mH a259 b248) _
                              refine w_if_eq rfl (fun c282 => ?_) (fun c282 => ?_)
                              · skip
                                refine w_const rfl ?_
                                first | refine w_iadd rfl (by omega) (fun x283 tx283 => ?_) | refine w_iiU rfl (fun x283 tx283 => ?_)
                                refine w_istore (lo' := [some (.inr (.inr (some 0))), some (.inl sd), some (.inl n), some (.inl w), some (.inl x275), some (.inl x283), some (.inl i), some (.inl x34), some (.inl r), some (.inl x249)]) rfl rfl ?_
                                refine w_iinc (lo' := fun z9 => [some (.inr (.inr (some 0))), some (.inl sd), some (.inl n), some (.inl w), some (.inl x275), some (.inl x283), some (.inl i), some (.inl x34), some (.inl z9), some (.inl x249)]) rfl rfl (fun _ => rfl) (by omega) (fun x284 tx284 => ?_)
                                refine w_goto rfl ?_
                                exact ih192 (6 - x284.toInt).toNat (by omega) x275 x283 x284 rfl  (by omega)
                              · skip
                                refine w_const rfl ?_
                                refine w_goto rfl ?_
                                first | refine w_iadd rfl (by omega) (fun x285 tx285 => ?_) | refine w_iiU rfl (fun x285 tx285 => ?_)
                                refine w_istore (lo' := [some (.inr (.inr (some 0))), some (.inl sd), some (.inl n), some (.inl w), some (.inl x275), some (.inl x285), some (.inl i), some (.inl x34), some (.inl r), some (.inl x249)]) rfl rfl ?_
                                refine w_iinc (lo' := fun z9 => [some (.inr (.inr (some 0))), some (.inl sd), some (.inl n), some (.inl w), some (.inl x275), some (.inl x285), some (.inl i), some (.inl x34), some (.inl z9), some (.inl x249)]) rfl rfl (fun _ => rfl) (by omega) (fun x286 tx286 => ?_)
                                refine w_goto rfl ?_
                                exact ih192 (6 - x286.toInt).toNat (by omega) x275 x285 x286 rfl  (by omega)
                            · skip
                              refine w_const rfl ?_
                              refine w_goto rfl ?_
                              first | refine w_iadd rfl (by omega) (fun x287 tx287 => ?_) | refine w_iiU rfl (fun x287 tx287 => ?_)
                              refine w_istore (lo' := [some (.inr (.inr (some 0))), some (.inl sd), some (.inl n), some (.inl w), some (.inl x287), some (.inl fd1), some (.inl i), some (.inl x34), some (.inl r), some (.inl x249)]) rfl rfl ?_
                              refine w_iload rfl rfl ?_
                              refine w_aload rfl rfl ?_
                              refine w_const rfl ?_
                              refine w_iload rfl rfl ?_
                              refine w_aload rfl rfl ?_
                              refine w_const rfl ?_
                              refine w_invV (rest := [.inl r, .inl 1260, .inr (.inr (some 0)), .inl fd1]) rfl rfl rfl rfl rfl (Nat.le_of_ble_eq_true rfl) rfl (by omega) (s_winter (K := K) a259 b248  1260 ha259 (by omega)) (fun v288 h9 hq289 => ?_)
                              obtain ⟨rfl, x290, rfl, px290⟩ := hq289
                              show f_wp _ (245, [some (.inr (.inr (some 0))), some (.inl sd), some (.inl n), some (.inl w), some (.inl x287), some (.inl fd1), some (.inl i), some (.inl x34), some (.inl r), some (.inl x249)], [.inl x290, .inl r, .inl 1260, .inr (.inr (some 0)), .inl fd1], mH a259 b248) _
                              refine w_invV (rest := [.inl fd1]) rfl rfl rfl rfl rfl (Nat.le_of_ble_eq_true rfl) rfl (by omega) (s_isFlooded (K := K) a259 b248  1260 r x290 ha259 (by omega) (by omega) (by omega) ((A7 21 D8))) (fun v291 h9 hq292 => ?_)
                              obtain ⟨rfl, x293, rfl, px293⟩ := hq292
                              show f_wp _ (248, [some (.inr (.inr (some 0))), some (.inl sd), some (.inl n), some (.inl w), some (.inl x287), some (.inl fd1), some (.inl i), some (.inl x34), some (.inl r), some (.inl x249)], [.inl x293, .inl fd1], mH a259 b248) _
                              refine w_if_eq rfl (fun c294 => ?_) (fun c294 => ?_)
                              · skip
                                refine w_const rfl ?_
                                first | refine w_iadd rfl (by omega) (fun x295 tx295 => ?_) | refine w_iiU rfl (fun x295 tx295 => ?_)
                                refine w_istore (lo' := [some (.inr (.inr (some 0))), some (.inl sd), some (.inl n), some (.inl w), some (.inl x287), some (.inl x295), some (.inl i), some (.inl x34), some (.inl r), some (.inl x249)]) rfl rfl ?_
                                refine w_iinc (lo' := fun z9 => [some (.inr (.inr (some 0))), some (.inl sd), some (.inl n), some (.inl w), some (.inl x287), some (.inl x295), some (.inl i), some (.inl x34), some (.inl z9), some (.inl x249)]) rfl rfl (fun _ => rfl) (by omega) (fun x296 tx296 => ?_)
                                refine w_goto rfl ?_
                                exact ih192 (6 - x296.toInt).toNat (by omega) x287 x295 x296 rfl  (by omega)
                              · skip
                                refine w_const rfl ?_
                                refine w_goto rfl ?_
                                first | refine w_iadd rfl (by omega) (fun x297 tx297 => ?_) | refine w_iiU rfl (fun x297 tx297 => ?_)
                                refine w_istore (lo' := [some (.inr (.inr (some 0))), some (.inl sd), some (.inl n), some (.inl w), some (.inl x287), some (.inl x297), some (.inl i), some (.inl x34), some (.inl r), some (.inl x249)]) rfl rfl ?_
                                refine w_iinc (lo' := fun z9 => [some (.inr (.inr (some 0))), some (.inl sd), some (.inl n), some (.inl w), some (.inl x287), some (.inl x297), some (.inl i), some (.inl x34), some (.inl z9), some (.inl x249)]) rfl rfl (fun _ => rfl) (by omega) (fun x298 tx298 => ?_)
                                refine w_goto rfl ?_
                                exact ih192 (6 - x298.toInt).toNat (by omega) x287 x297 x298 rfl  (by omega)
                      exact loop192 _ dr fd 0 rfl  (by omega)
                    · skip
                      obtain ⟨-, -, -, m7⟩ := pw.resolve_right (by omega)
                      refine w_iload rfl rfl ?_
                      refine w_goto rfl ?_
                      refine m_iast rfl rfl (by omega) (fun a299 ea299 => ?_)
                      have ha299 : RM K a299 := RM.up ha253 ea299 (st_wed (by omega) (by omega))
                      have A7 : ∀ m9, ACm m9 a247 → ACm m9 a299 := fun m9 h7 => by first | exact ACm.wed21 (w := x241.toInt.toNat) h7 R8 (fa253.1 15 (by decide)) ea299 (by omega) (by omega) (by omega) m7 | exact ACm.idem h7 (fa253.1 15 (by decide)) ea299 (by rw [hx9]; congr 1; omega)
                      refine w_goto rfl ?_
                      refine w_const rfl ?_
                      refine w_istore (lo' := [some (.inr (.inr (some 0))), some (.inl sd), some (.inl n), some (.inl w), some (.inl dr), some (.inl fd), some (.inl i), some (.inl x34), some (.inl 0), some (.inl x249)]) rfl rfl ?_
                      have loop192 : ∀ (ms9 : Nat) (dr1 : Int32) (fd1 : Int32) (r : Int32) , (6 - r.toInt).toNat = ms9 → (0 ≤ r.toInt ∧ r.toInt ≤ 6) → f_wp (f_code (t_X13_centuries (f_ev mtM d))) (192, [some (.inr (.inr (some 0))), some (.inl sd), some (.inl n), some (.inl w), some (.inl dr1), some (.inl fd1), some (.inl i), some (.inl x34), some (.inl r), some (.inl x249)], [], mH a299 b248) (fun v9 h' => ∃ (a' : Nat → Nat → Int32) (b' : Nat → Nat → Int64), h' = mH a' b' ∧ RM K a' ∧ (FR [0, 15, 17] a a' ∧ (∀ m9, m9 < 21 → ACm m9 a → ACm m9 a') ∧ True) ∧ ∃ x : Int32, v9 = some (.inl x) ∧ True) := by
                        intro ms9
                        induction ms9 using Nat.strongRecOn with
                        | _ ms192 ih192 =>
                          intro dr1 fd1 r  hm192 hr
                          refine w_iload rfl rfl ?_
                          refine w_aload rfl rfl ?_
                          refine w_invV (rest := [.inl r]) rfl rfl rfl rfl rfl (Nat.le_of_ble_eq_true rfl) rfl (by omega) (s_rivers (K := K) a299 b248   ha299 ) (fun v300 h9 hq301 => ?_)
                          obtain ⟨rfl, x302, rfl, px302⟩ := hq301
                          show f_wp _ (198, [some (.inr (.inr (some 0))), some (.inl sd), some (.inl n), some (.inl w), some (.inl dr1), some (.inl fd1), some (.inl i), some (.inl x34), some (.inl r), some (.inl x249)], [.inl x302, .inl r], mH a299 b248) _
                          have rw9_a299 : x302.toInt = (a 6 0).toInt := by rw [px302.1]; have f9 := ((FR.up (FR.tr (FR.tr (FR.tr (FR.up (FR.tr (hF69) (FR.sub fa32.1 (by decide))) (by decide) ea232) (FR.sub fa239.1 (by decide))) (FR.sub fa247.1 (by decide))) (FR.sub fa253.1 (by decide))) (by decide) ea299) : FR [0, 15, 17] a a299) 6 (by decide); rw [f9]
                          refine w_ic_ge rfl (fun c303 => ?_) (fun c303 => ?_)
                          · skip
                            refine w_aload rfl rfl ?_
                            refine w_getR (v := .inr (.inr (some 15))) rfl rfl rfl rfl rfl ?_
                            refine w_const rfl ?_
                            refine w_dup2 rfl ⟨rfl, rfl⟩ ?_
                            refine m_iald rfl rfl (by omega) (fun x304 ex304 => ?_)
                            have t9 : x304.toInt = (a69 15 1260).toInt := by rw [ex304, show (1260 : Int32).toInt.toNat = 1260 from rfl, ea299, mU_slot (by omega), fa253.1 15 (by decide), fa247.1 15 (by decide), fa239.1 15 (by decide), ea232, mU_cell (by decide), fa32.1 15 (by decide)]
                            have t7 : 0 ≤ x304.toInt := by rw [ex304]; exact (RM.now ha299 (j := 1260) (by decide)).1
                            refine w_const rfl ?_
                            first | refine w_iadd rfl (by omega) (fun x305 tx305 => ?_) | refine w_iiU rfl (fun x305 tx305 => ?_)
                            refine m_iast rfl rfl (by omega) (fun a306 ea306 => ?_)
                            have ha306 : RM K a306 := RM.up ha299 ea306 (st_now (by omega) (by omega))
                            have t8 : (a306 15 1260).toInt = x305.toInt := by rw [ea306, show (1260 : Int32).toInt.toNat = 1260 from rfl, mU_same]
                            refine w_iinc (lo' := fun z9 => [some (.inr (.inr (some 0))), some (.inl sd), some (.inl n), some (.inl w), some (.inl dr1), some (.inl fd1), some (.inl z9), some (.inl x34), some (.inl r), some (.inl x249)]) rfl rfl (fun _ => rfl) (by omega) (fun x307 tx307 => ?_)
                            refine w_goto rfl ?_
                            exact ih69 (n.toInt - x307.toInt).toNat (by omega) dr1 fd1 x307 a306 b248 (some (.inl x34)) (some (.inl r)) (some (.inl x249)) rfl ha306 (FR.up (FR.up (FR.tr (FR.tr (FR.tr (FR.up (FR.tr (hF69) (FR.sub fa32.1 (by decide))) (by decide) ea232) (FR.sub fa239.1 (by decide))) (FR.sub fa247.1 (by decide))) (FR.sub fa253.1 (by decide))) (by decide) ea299) (by decide) ea306) (fun (m9 : Nat) (l9 : m9 < 21) (h7 : ACm m9 a) => ACm.put ((fun (m9 : Nat) (l9 : m9 < 21) (h7 : ACm m9 a) => A7 m9 (A8 m9 l9 h7)) m9 l9 h7) ea306 (by omega)) (by omega) (by first | exact g6 | exact g7 | exact g9) (by omega) (by omega) ((ACm.put (m := 21) (A7 21 D8) ea306 (by omega)))
                          · skip
                            refine w_iload rfl rfl ?_
                            refine w_aload rfl rfl ?_
                            refine w_const rfl ?_
                            refine w_iload rfl rfl ?_
                            refine w_aload rfl rfl ?_
                            refine w_const rfl ?_
                            refine w_invV (rest := [.inl r, .inl 1260, .inr (.inr (some 0)), .inl dr1]) rfl rfl rfl rfl rfl (Nat.le_of_ble_eq_true rfl) rfl (by omega) (s_winter (K := K) a299 b248  1260 ha299 (by omega)) (fun v308 h9 hq309 => ?_)
                            obtain ⟨rfl, x310, rfl, px310⟩ := hq309
                            show f_wp _ (216, [some (.inr (.inr (some 0))), some (.inl sd), some (.inl n), some (.inl w), some (.inl dr1), some (.inl fd1), some (.inl i), some (.inl x34), some (.inl r), some (.inl x249)], [.inl x310, .inl r, .inl 1260, .inr (.inr (some 0)), .inl dr1], mH a299 b248) _
                            refine w_invV (rest := [.inl dr1]) rfl rfl rfl rfl rfl (Nat.le_of_ble_eq_true rfl) rfl (by omega) (s_isDry (K := K) a299 b248  1260 r x310 ha299 (by omega) (by omega) (by omega) ((A7 21 D8))) (fun v311 h9 hq312 => ?_)
                            obtain ⟨rfl, x313, rfl, px313⟩ := hq312
                            show f_wp _ (219, [some (.inr (.inr (some 0))), some (.inl sd), some (.inl n), some (.inl w), some (.inl dr1), some (.inl fd1), some (.inl i), some (.inl x34), some (.inl r), some (.inl x249)], [.inl x313, .inl dr1], mH a299 b248) _
                            refine w_if_eq rfl (fun c314 => ?_) (fun c314 => ?_)
                            · skip
                              refine w_const rfl ?_
                              first | refine w_iadd rfl (by omega) (fun x315 tx315 => ?_) | refine w_iiU rfl (fun x315 tx315 => ?_)
                              refine w_istore (lo' := [some (.inr (.inr (some 0))), some (.inl sd), some (.inl n), some (.inl w), some (.inl x315), some (.inl fd1), some (.inl i), some (.inl x34), some (.inl r), some (.inl x249)]) rfl rfl ?_
                              refine w_iload rfl rfl ?_
                              refine w_aload rfl rfl ?_
                              refine w_const rfl ?_
                              refine w_iload rfl rfl ?_
                              refine w_aload rfl rfl ?_
                              refine w_const rfl ?_
                              refine w_invV (rest := [.inl r, .inl 1260, .inr (.inr (some 0)), .inl fd1]) rfl rfl rfl rfl rfl (Nat.le_of_ble_eq_true rfl) rfl (by omega) (s_winter (K := K) a299 b248  1260 ha299 (by omega)) (fun v316 h9 hq317 => ?_)
                              obtain ⟨rfl, x318, rfl, px318⟩ := hq317
                              show f_wp _ (245, [some (.inr (.inr (some 0))), some (.inl sd), some (.inl n), some (.inl w), some (.inl x315), some (.inl fd1), some (.inl i), some (.inl x34), some (.inl r), some (.inl x249)], [.inl x318, .inl r, .inl 1260, .inr (.inr (some 0)), .inl fd1], mH a299 b248) _
                              refine w_invV (rest := [.inl fd1]) rfl rfl rfl rfl rfl (Nat.le_of_ble_eq_true rfl) rfl (by omega) (s_isFlooded (K := K) a299 b248  1260 r x318 ha299 (by omega) (by omega) (by omega) ((A7 21 D8))) (fun v319 h9 hq320 => ?_)
                              obtain ⟨rfl, x321, rfl, px321⟩ := hq320
                              show f_wp _ (248, [some (.inr (.inr (some 0))), some (.inl sd), some (.inl n), some (.inl w), some (.inl x315), some (.inl fd1), some (.inl i), some (.inl x34), some (.inl r), some (.inl x249)], [.inl x321, .inl fd1], mH a299 b248) _
                              refine w_if_eq rfl (fun c322 => ?_) (fun c322 => ?_)
                              · skip
                                refine w_const rfl ?_
                                first | refine w_iadd rfl (by omega) (fun x323 tx323 => ?_) | refine w_iiU rfl (fun x323 tx323 => ?_)
                                refine w_istore (lo' := [some (.inr (.inr (some 0))), some (.inl sd), some (.inl n), some (.inl w), some (.inl x315), some (.inl x323), some (.inl i), some (.inl x34), some (.inl r), some (.inl x249)]) rfl rfl ?_
                                refine w_iinc (lo' := fun z9 => [some (.inr (.inr (some 0))), some (.inl sd), some (.inl n), some (.inl w), some (.inl x315), some (.inl x323), some (.inl i), some (.inl x34), some (.inl z9), some (.inl x249)]) rfl rfl (fun _ => rfl) (by omega) (fun x324 tx324 => ?_)
                                refine w_goto rfl ?_
                                exact ih192 (6 - x324.toInt).toNat (by omega) x315 x323 x324 rfl  (by omega)
                              · skip
                                refine w_const rfl ?_
                                refine w_goto rfl ?_
                                first | refine w_iadd rfl (by omega) (fun x325 tx325 => ?_) | refine w_iiU rfl (fun x325 tx325 => ?_)
                                refine w_istore (lo' := [some (.inr (.inr (some 0))), some (.inl sd), some (.inl n), some (.inl w), some (.inl x315), some (.inl x325), some (.inl i), some (.inl x34), some (.inl r), some (.inl x249)]) rfl rfl ?_
                                refine w_iinc (lo' := fun z9 => [some (.inr (.inr (some 0))), some (.inl sd), some (.inl n), some (.inl w), some (.inl x315), some (.inl x325), some (.inl i), some (.inl x34), some (.inl z9), some (.inl x249)]) rfl rfl (fun _ => rfl) (by omega) (fun x326 tx326 => ?_)
                                refine w_goto rfl ?_
                                exact ih192 (6 - x326.toInt).toNat (by omega) x315 x325 x326 rfl  (by omega)
                            · skip
                              refine w_const rfl ?_
                              refine w_goto rfl ?_
                              first | refine w_iadd rfl (by omega) (fun x327 tx327 => ?_) | refine w_iiU rfl (fun x327 tx327 => ?_)
                              refine w_istore (lo' := [some (.inr (.inr (some 0))), some (.inl sd), some (.inl n), some (.inl w), some (.inl x327), some (.inl fd1), some (.inl i), some (.inl x34), some (.inl r), some (.inl x249)]) rfl rfl ?_
                              refine w_iload rfl rfl ?_
                              refine w_aload rfl rfl ?_
                              refine w_const rfl ?_
                              refine w_iload rfl rfl ?_
                              refine w_aload rfl rfl ?_
                              refine w_const rfl ?_
                              refine w_invV (rest := [.inl r, .inl 1260, .inr (.inr (some 0)), .inl fd1]) rfl rfl rfl rfl rfl (Nat.le_of_ble_eq_true rfl) rfl (by omega) (s_winter (K := K) a299 b248  1260 ha299 (by omega)) (fun v328 h9 hq329 => ?_)
                              obtain ⟨rfl, x330, rfl, px330⟩ := hq329
                              show f_wp _ (245, [some (.inr (.inr (some 0))), some (.inl sd), some (.inl n), some (.inl w), some (.inl x327), some (.inl fd1), some (.inl i), some (.inl x34), some (.inl r), some (.inl x249)], [.inl x330, .inl r, .inl 1260, .inr (.inr (some 0)), .inl fd1], mH a299 b248) _
                              refine w_invV (rest := [.inl fd1]) rfl rfl rfl rfl rfl (Nat.le_of_ble_eq_true rfl) rfl (by omega) (s_isFlooded (K := K) a299 b248  1260 r x330 ha299 (by omega) (by omega) (by omega) ((A7 21 D8))) (fun v331 h9 hq332 => ?_)
                              obtain ⟨rfl, x333, rfl, px333⟩ := hq332
                              show f_wp _ (248, [some (.inr (.inr (some 0))), some (.inl sd), some (.inl n), some (.inl w), some (.inl x327), some (.inl fd1), some (.inl i), some (.inl x34), some (.inl r), some (.inl x249)], [.inl x333, .inl fd1], mH a299 b248) _
                              refine w_if_eq rfl (fun c334 => ?_) (fun c334 => ?_)
                              · skip
                                refine w_const rfl ?_
                                first | refine w_iadd rfl (by omega) (fun x335 tx335 => ?_) | refine w_iiU rfl (fun x335 tx335 => ?_)
                                refine w_istore (lo' := [some (.inr (.inr (some 0))), some (.inl sd), some (.inl n), some (.inl w), some (.inl x327), some (.inl x335), some (.inl i), some (.inl x34), some (.inl r), some (.inl x249)]) rfl rfl ?_
                                refine w_iinc (lo' := fun z9 => [some (.inr (.inr (some 0))), some (.inl sd), some (.inl n), some (.inl w), some (.inl x327), some (.inl x335), some (.inl i), some (.inl x34), some (.inl z9), some (.inl x249)]) rfl rfl (fun _ => rfl) (by omega) (fun x336 tx336 => ?_)
                                refine w_goto rfl ?_
                                exact ih192 (6 - x336.toInt).toNat (by omega) x327 x335 x336 rfl  (by omega)
                              · skip
                                refine w_const rfl ?_
                                refine w_goto rfl ?_
                                first | refine w_iadd rfl (by omega) (fun x337 tx337 => ?_) | refine w_iiU rfl (fun x337 tx337 => ?_)
                                refine w_istore (lo' := [some (.inr (.inr (some 0))), some (.inl sd), some (.inl n), some (.inl w), some (.inl x327), some (.inl x337), some (.inl i), some (.inl x34), some (.inl r), some (.inl x249)]) rfl rfl ?_
                                refine w_iinc (lo' := fun z9 => [some (.inr (.inr (some 0))), some (.inl sd), some (.inl n), some (.inl w), some (.inl x327), some (.inl x337), some (.inl i), some (.inl x34), some (.inl z9), some (.inl x249)]) rfl rfl (fun _ => rfl) (by omega) (fun x338 tx338 => ?_)
                                refine w_goto rfl ?_
                                exact ih192 (6 - x338.toInt).toNat (by omega) x327 x337 x338 rfl  (by omega)
                      exact loop192 _ dr fd 0 rfl  (by omega)
                  · skip
                    refine w_iload rfl rfl ?_
                    refine w_const rfl ?_
                    refine w_ic_ne rfl (fun c339 => ?_) (fun c339 => ?_)
                    · skip
                      refine w_aload rfl rfl ?_
                      refine w_getR (v := .inr (.inr (some 15))) rfl rfl rfl rfl rfl ?_
                      refine w_const rfl ?_
                      refine w_aload rfl rfl ?_
                      refine w_aload rfl rfl ?_
                      refine w_invV (rest := [.inr (.inr (some 0)), .inl 1261, .inr (.inr (some 15))]) rfl rfl rfl rfl rfl (Nat.le_of_ble_eq_true rfl) rfl (by omega) (s_rivers (K := K) a232 b33   ha232 ) (fun v340 h9 hq341 => ?_)
                      obtain ⟨rfl, x342, rfl, px342⟩ := hq341
                      show f_wp _ (183, [some (.inr (.inr (some 0))), some (.inl sd), some (.inl n), some (.inl w), some (.inl dr), some (.inl fd), some (.inl i), some (.inl x34), o8_69, o9_69], [.inl x342, .inr (.inr (some 0)), .inl 1261, .inr (.inr (some 15))], mH a232 b33) _
                      have rw9_a232 : x342.toInt = (a 6 0).toInt := by rw [px342.1]; have f9 := ((FR.up (FR.tr (hF69) (FR.sub fa32.1 (by decide))) (by decide) ea232) : FR [0, 15, 17] a a232) 6 (by decide); rw [f9]
                      refine w_invV (rest := [.inl 1261, .inr (.inr (some 15))]) rfl rfl rfl rfl rfl (Nat.le_of_ble_eq_true rfl) rfl (by omega) (s_draw (K := K) a232 b33  x342 ha232 (by omega) (g9)) (fun v343 h9 hq344 => ?_)
                      obtain ⟨a345, b346, rfl, ha345, fa345, x347, rfl, px347⟩ := hq344
                      show f_wp _ (186, [some (.inr (.inr (some 0))), some (.inl sd), some (.inl n), some (.inl w), some (.inl dr), some (.inl fd), some (.inl i), some (.inl x34), o8_69, o9_69], [.inl x347, .inl 1261, .inr (.inr (some 15))], mH a345 b346) _
                      have g6 := fa345.2.2
                      first | refine w_iadd rfl (by omega) (fun x348 tx348 => ?_) | refine w_iiU rfl (fun x348 tx348 => ?_)
                      refine w_const rfl ?_
                      refine m_iast rfl rfl (by omega) (fun a349 ea349 => ?_)
                      have ha349 : RM K a349 := RM.up ha345 ea349 (st_wed (by omega) (by omega))
                      refine w_const rfl ?_
                      refine w_istore (lo' := [some (.inr (.inr (some 0))), some (.inl sd), some (.inl n), some (.inl w), some (.inl dr), some (.inl fd), some (.inl i), some (.inl x34), some (.inl 0), o9_69]) rfl rfl ?_
                      have loop192 : ∀ (ms9 : Nat) (dr1 : Int32) (fd1 : Int32) (r : Int32) , (6 - r.toInt).toNat = ms9 → (0 ≤ r.toInt ∧ r.toInt ≤ 6) → f_wp (f_code (t_X13_centuries (f_ev mtM d))) (192, [some (.inr (.inr (some 0))), some (.inl sd), some (.inl n), some (.inl w), some (.inl dr1), some (.inl fd1), some (.inl i), some (.inl x34), some (.inl r), o9_69], [], mH a349 b346) (fun v9 h' => ∃ (a' : Nat → Nat → Int32) (b' : Nat → Nat → Int64), h' = mH a' b' ∧ RM K a' ∧ (FR [0, 15, 17] a a' ∧ (∀ m9, m9 < 21 → ACm m9 a → ACm m9 a') ∧ True) ∧ ∃ x : Int32, v9 = some (.inl x) ∧ True) := by
                        intro ms9
                        induction ms9 using Nat.strongRecOn with
                        | _ ms192 ih192 =>
                          intro dr1 fd1 r  hm192 hr
                          refine w_iload rfl rfl ?_
                          refine w_aload rfl rfl ?_
                          refine w_invV (rest := [.inl r]) rfl rfl rfl rfl rfl (Nat.le_of_ble_eq_true rfl) rfl (by omega) (s_rivers (K := K) a349 b346   ha349 ) (fun v350 h9 hq351 => ?_)
                          obtain ⟨rfl, x352, rfl, px352⟩ := hq351
                          show f_wp _ (198, [some (.inr (.inr (some 0))), some (.inl sd), some (.inl n), some (.inl w), some (.inl dr1), some (.inl fd1), some (.inl i), some (.inl x34), some (.inl r), o9_69], [.inl x352, .inl r], mH a349 b346) _
                          have rw9_a349 : x352.toInt = (a 6 0).toInt := by rw [px352.1]; have f9 := ((FR.up (FR.tr (FR.up (FR.tr (hF69) (FR.sub fa32.1 (by decide))) (by decide) ea232) (FR.sub fa345.1 (by decide))) (by decide) ea349) : FR [0, 15, 17] a a349) 6 (by decide); rw [f9]
                          refine w_ic_ge rfl (fun c353 => ?_) (fun c353 => ?_)
                          · skip
                            refine w_aload rfl rfl ?_
                            refine w_getR (v := .inr (.inr (some 15))) rfl rfl rfl rfl rfl ?_
                            refine w_const rfl ?_
                            refine w_dup2 rfl ⟨rfl, rfl⟩ ?_
                            refine m_iald rfl rfl (by omega) (fun x354 ex354 => ?_)
                            have t9 : x354.toInt = (a69 15 1260).toInt := by rw [ex354, show (1260 : Int32).toInt.toNat = 1260 from rfl, ea349, mU_slot (by omega), fa345.1 15 (by decide), ea232, mU_cell (by decide), fa32.1 15 (by decide)]
                            have t7 : 0 ≤ x354.toInt := by rw [ex354]; exact (RM.now ha349 (j := 1260) (by decide)).1
                            refine w_const rfl ?_
                            first | refine w_iadd rfl (by omega) (fun x355 tx355 => ?_) | refine w_iiU rfl (fun x355 tx355 => ?_)
                            refine m_iast rfl rfl (by omega) (fun a356 ea356 => ?_)
                            have ha356 : RM K a356 := RM.up ha349 ea356 (st_now (by omega) (by omega))
                            have t8 : (a356 15 1260).toInt = x355.toInt := by rw [ea356, show (1260 : Int32).toInt.toNat = 1260 from rfl, mU_same]
                            refine w_iinc (lo' := fun z9 => [some (.inr (.inr (some 0))), some (.inl sd), some (.inl n), some (.inl w), some (.inl dr1), some (.inl fd1), some (.inl z9), some (.inl x34), some (.inl r), o9_69]) rfl rfl (fun _ => rfl) (by omega) (fun x357 tx357 => ?_)
                            refine w_goto rfl ?_
                            exact ih69 (n.toInt - x357.toInt).toNat (by omega) dr1 fd1 x357 a356 b346 (some (.inl x34)) (some (.inl r)) o9_69 rfl ha356 (FR.up (FR.up (FR.tr (FR.up (FR.tr (hF69) (FR.sub fa32.1 (by decide))) (by decide) ea232) (FR.sub fa345.1 (by decide))) (by decide) ea349) (by decide) ea356) (fun (m9 : Nat) (l9 : m9 < 21) (h7 : ACm m9 a) => ACm.put ((fun (m9 : Nat) (l9 : m9 < 21) (h7 : ACm m9 a) => ACm.put ((fun (m9 : Nat) (l9 : m9 < 21) (h7 : ACm m9 a) => ACm.fr ((fun (m9 : Nat) (l9 : m9 < 21) (h7 : ACm m9 a) => ACm.up ((fun (m9 : Nat) (l9 : m9 < 21) (h7 : ACm m9 a) => ACm.fr ((hC69) m9 l9 h7) fa32.1 (by decide)) m9 l9 h7) ea232 (by decide)) m9 l9 h7) fa345.1 (by decide)) m9 l9 h7) ea349 (by omega)) m9 l9 h7) ea356 (by omega)) (by omega) (by first | exact g6 | exact g7 | exact g9) (by omega) (by omega) ((ACm.put (m := 21) (ACm.put (m := 21) (ACm.fr (m := 21) (ACm.up (m := 21) (ACm.fr (m := 21) (hD69) fa32.1 (by decide)) ea232 (by decide)) fa345.1 (by decide)) ea349 (by omega)) ea356 (by omega)))
                          · skip
                            refine w_iload rfl rfl ?_
                            refine w_aload rfl rfl ?_
                            refine w_const rfl ?_
                            refine w_iload rfl rfl ?_
                            refine w_aload rfl rfl ?_
                            refine w_const rfl ?_
                            refine w_invV (rest := [.inl r, .inl 1260, .inr (.inr (some 0)), .inl dr1]) rfl rfl rfl rfl rfl (Nat.le_of_ble_eq_true rfl) rfl (by omega) (s_winter (K := K) a349 b346  1260 ha349 (by omega)) (fun v358 h9 hq359 => ?_)
                            obtain ⟨rfl, x360, rfl, px360⟩ := hq359
                            show f_wp _ (216, [some (.inr (.inr (some 0))), some (.inl sd), some (.inl n), some (.inl w), some (.inl dr1), some (.inl fd1), some (.inl i), some (.inl x34), some (.inl r), o9_69], [.inl x360, .inl r, .inl 1260, .inr (.inr (some 0)), .inl dr1], mH a349 b346) _
                            refine w_invV (rest := [.inl dr1]) rfl rfl rfl rfl rfl (Nat.le_of_ble_eq_true rfl) rfl (by omega) (s_isDry (K := K) a349 b346  1260 r x360 ha349 (by omega) (by omega) (by omega) ((ACm.put (m := 21) (ACm.fr (m := 21) (ACm.up (m := 21) (ACm.fr (m := 21) (hD69) fa32.1 (by decide)) ea232 (by decide)) fa345.1 (by decide)) ea349 (by omega)))) (fun v361 h9 hq362 => ?_)
                            obtain ⟨rfl, x363, rfl, px363⟩ := hq362
                            show f_wp _ (219, [some (.inr (.inr (some 0))), some (.inl sd), some (.inl n), some (.inl w), some (.inl dr1), some (.inl fd1), some (.inl i), some (.inl x34), some (.inl r), o9_69], [.inl x363, .inl dr1], mH a349 b346) _
                            refine w_if_eq rfl (fun c364 => ?_) (fun c364 => ?_)
                            · skip
                              refine w_const rfl ?_
                              first | refine w_iadd rfl (by omega) (fun x365 tx365 => ?_) | refine w_iiU rfl (fun x365 tx365 => ?_)
                              refine w_istore (lo' := [some (.inr (.inr (some 0))), some (.inl sd), some (.inl n), some (.inl w), some (.inl x365), some (.inl fd1), some (.inl i), some (.inl x34), some (.inl r), o9_69]) rfl rfl ?_
                              refine w_iload rfl rfl ?_
                              refine w_aload rfl rfl ?_
                              refine w_const rfl ?_
                              refine w_iload rfl rfl ?_
                              refine w_aload rfl rfl ?_
                              refine w_const rfl ?_
                              refine w_invV (rest := [.inl r, .inl 1260, .inr (.inr (some 0)), .inl fd1]) rfl rfl rfl rfl rfl (Nat.le_of_ble_eq_true rfl) rfl (by omega) (s_winter (K := K) a349 b346  1260 ha349 (by omega)) (fun v366 h9 hq367 => ?_)
                              obtain ⟨rfl, x368, rfl, px368⟩ := hq367
                              show f_wp _ (245, [some (.inr (.inr (some 0))), some (.inl sd), some (.inl n), some (.inl w), some (.inl x365), some (.inl fd1), some (.inl i), some (.inl x34), some (.inl r), o9_69], [.inl x368, .inl r, .inl 1260, .inr (.inr (some 0)), .inl fd1], mH a349 b346) _
                              refine w_invV (rest := [.inl fd1]) rfl rfl rfl rfl rfl (Nat.le_of_ble_eq_true rfl) rfl (by omega) (s_isFlooded (K := K) a349 b346  1260 r x368 ha349 (by omega) (by omega) (by omega) ((ACm.put (m := 21) (ACm.fr (m := 21) (ACm.up (m := 21) (ACm.fr (m := 21) (hD69) fa32.1 (by decide)) ea232 (by decide)) fa345.1 (by decide)) ea349 (by omega)))) (fun v369 h9 hq370 => ?_)
                              obtain ⟨rfl, x371, rfl, px371⟩ := hq370
                              show f_wp _ (248, [some (.inr (.inr (some 0))), some (.inl sd), some (.inl n), some (.inl w), some (.inl x365), some (.inl fd1), some (.inl i), some (.inl x34), some (.inl r), o9_69], [.inl x371, .inl fd1], mH a349 b346) _
                              refine w_if_eq rfl (fun c372 => ?_) (fun c372 => ?_)
                              · skip
                                refine w_const rfl ?_
                                first | refine w_iadd rfl (by omega) (fun x373 tx373 => ?_) | refine w_iiU rfl (fun x373 tx373 => ?_)
                                refine w_istore (lo' := [some (.inr (.inr (some 0))), some (.inl sd), some (.inl n), some (.inl w), some (.inl x365), some (.inl x373), some (.inl i), some (.inl x34), some (.inl r), o9_69]) rfl rfl ?_
                                refine w_iinc (lo' := fun z9 => [some (.inr (.inr (some 0))), some (.inl sd), some (.inl n), some (.inl w), some (.inl x365), some (.inl x373), some (.inl i), some (.inl x34), some (.inl z9), o9_69]) rfl rfl (fun _ => rfl) (by omega) (fun x374 tx374 => ?_)
                                refine w_goto rfl ?_
                                exact ih192 (6 - x374.toInt).toNat (by omega) x365 x373 x374 rfl  (by omega)
                              · skip
                                refine w_const rfl ?_
                                refine w_goto rfl ?_
                                first | refine w_iadd rfl (by omega) (fun x375 tx375 => ?_) | refine w_iiU rfl (fun x375 tx375 => ?_)
                                refine w_istore (lo' := [some (.inr (.inr (some 0))), some (.inl sd), some (.inl n), some (.inl w), some (.inl x365), some (.inl x375), some (.inl i), some (.inl x34), some (.inl r), o9_69]) rfl rfl ?_
                                refine w_iinc (lo' := fun z9 => [some (.inr (.inr (some 0))), some (.inl sd), some (.inl n), some (.inl w), some (.inl x365), some (.inl x375), some (.inl i), some (.inl x34), some (.inl z9), o9_69]) rfl rfl (fun _ => rfl) (by omega) (fun x376 tx376 => ?_)
                                refine w_goto rfl ?_
                                exact ih192 (6 - x376.toInt).toNat (by omega) x365 x375 x376 rfl  (by omega)
                            · skip
                              refine w_const rfl ?_
                              refine w_goto rfl ?_
                              first | refine w_iadd rfl (by omega) (fun x377 tx377 => ?_) | refine w_iiU rfl (fun x377 tx377 => ?_)
                              refine w_istore (lo' := [some (.inr (.inr (some 0))), some (.inl sd), some (.inl n), some (.inl w), some (.inl x377), some (.inl fd1), some (.inl i), some (.inl x34), some (.inl r), o9_69]) rfl rfl ?_
                              refine w_iload rfl rfl ?_
                              refine w_aload rfl rfl ?_
                              refine w_const rfl ?_
                              refine w_iload rfl rfl ?_
                              refine w_aload rfl rfl ?_
                              refine w_const rfl ?_
                              refine w_invV (rest := [.inl r, .inl 1260, .inr (.inr (some 0)), .inl fd1]) rfl rfl rfl rfl rfl (Nat.le_of_ble_eq_true rfl) rfl (by omega) (s_winter (K := K) a349 b346  1260 ha349 (by omega)) (fun v378 h9 hq379 => ?_)
                              obtain ⟨rfl, x380, rfl, px380⟩ := hq379
                              show f_wp _ (245, [some (.inr (.inr (some 0))), some (.inl sd), some (.inl n), some (.inl w), some (.inl x377), some (.inl fd1), some (.inl i), some (.inl x34), some (.inl r), o9_69], [.inl x380, .inl r, .inl 1260, .inr (.inr (some 0)), .inl fd1], mH a349 b346) _
                              refine w_invV (rest := [.inl fd1]) rfl rfl rfl rfl rfl (Nat.le_of_ble_eq_true rfl) rfl (by omega) (s_isFlooded (K := K) a349 b346  1260 r x380 ha349 (by omega) (by omega) (by omega) ((ACm.put (m := 21) (ACm.fr (m := 21) (ACm.up (m := 21) (ACm.fr (m := 21) (hD69) fa32.1 (by decide)) ea232 (by decide)) fa345.1 (by decide)) ea349 (by omega)))) (fun v381 h9 hq382 => ?_)
                              obtain ⟨rfl, x383, rfl, px383⟩ := hq382
                              show f_wp _ (248, [some (.inr (.inr (some 0))), some (.inl sd), some (.inl n), some (.inl w), some (.inl x377), some (.inl fd1), some (.inl i), some (.inl x34), some (.inl r), o9_69], [.inl x383, .inl fd1], mH a349 b346) _
                              refine w_if_eq rfl (fun c384 => ?_) (fun c384 => ?_)
                              · skip
                                refine w_const rfl ?_
                                first | refine w_iadd rfl (by omega) (fun x385 tx385 => ?_) | refine w_iiU rfl (fun x385 tx385 => ?_)
                                refine w_istore (lo' := [some (.inr (.inr (some 0))), some (.inl sd), some (.inl n), some (.inl w), some (.inl x377), some (.inl x385), some (.inl i), some (.inl x34), some (.inl r), o9_69]) rfl rfl ?_
                                refine w_iinc (lo' := fun z9 => [some (.inr (.inr (some 0))), some (.inl sd), some (.inl n), some (.inl w), some (.inl x377), some (.inl x385), some (.inl i), some (.inl x34), some (.inl z9), o9_69]) rfl rfl (fun _ => rfl) (by omega) (fun x386 tx386 => ?_)
                                refine w_goto rfl ?_
                                exact ih192 (6 - x386.toInt).toNat (by omega) x377 x385 x386 rfl  (by omega)
                              · skip
                                refine w_const rfl ?_
                                refine w_goto rfl ?_
                                first | refine w_iadd rfl (by omega) (fun x387 tx387 => ?_) | refine w_iiU rfl (fun x387 tx387 => ?_)
                                refine w_istore (lo' := [some (.inr (.inr (some 0))), some (.inl sd), some (.inl n), some (.inl w), some (.inl x377), some (.inl x387), some (.inl i), some (.inl x34), some (.inl r), o9_69]) rfl rfl ?_
                                refine w_iinc (lo' := fun z9 => [some (.inr (.inr (some 0))), some (.inl sd), some (.inl n), some (.inl w), some (.inl x377), some (.inl x387), some (.inl i), some (.inl x34), some (.inl z9), o9_69]) rfl rfl (fun _ => rfl) (by omega) (fun x388 tx388 => ?_)
                                refine w_goto rfl ?_
                                exact ih192 (6 - x388.toInt).toNat (by omega) x377 x387 x388 rfl  (by omega)
                      exact loop192 _ dr fd 0 rfl  (by omega)
                    · skip
                      refine w_const rfl ?_
                      refine w_istore (lo' := [some (.inr (.inr (some 0))), some (.inl sd), some (.inl n), some (.inl w), some (.inl dr), some (.inl fd), some (.inl i), some (.inl x34), some (.inl 0), o9_69]) rfl rfl ?_
                      have loop192 : ∀ (ms9 : Nat) (dr1 : Int32) (fd1 : Int32) (r : Int32) , (6 - r.toInt).toNat = ms9 → (0 ≤ r.toInt ∧ r.toInt ≤ 6) → f_wp (f_code (t_X13_centuries (f_ev mtM d))) (192, [some (.inr (.inr (some 0))), some (.inl sd), some (.inl n), some (.inl w), some (.inl dr1), some (.inl fd1), some (.inl i), some (.inl x34), some (.inl r), o9_69], [], mH a232 b33) (fun v9 h' => ∃ (a' : Nat → Nat → Int32) (b' : Nat → Nat → Int64), h' = mH a' b' ∧ RM K a' ∧ (FR [0, 15, 17] a a' ∧ (∀ m9, m9 < 21 → ACm m9 a → ACm m9 a') ∧ True) ∧ ∃ x : Int32, v9 = some (.inl x) ∧ True) := by
                        intro ms9
                        induction ms9 using Nat.strongRecOn with
                        | _ ms192 ih192 =>
                          intro dr1 fd1 r  hm192 hr
                          refine w_iload rfl rfl ?_
                          refine w_aload rfl rfl ?_
                          refine w_invV (rest := [.inl r]) rfl rfl rfl rfl rfl (Nat.le_of_ble_eq_true rfl) rfl (by omega) (s_rivers (K := K) a232 b33   ha232 ) (fun v389 h9 hq390 => ?_)
                          obtain ⟨rfl, x391, rfl, px391⟩ := hq390
                          show f_wp _ (198, [some (.inr (.inr (some 0))), some (.inl sd), some (.inl n), some (.inl w), some (.inl dr1), some (.inl fd1), some (.inl i), some (.inl x34), some (.inl r), o9_69], [.inl x391, .inl r], mH a232 b33) _
                          have rw9_a232 : x391.toInt = (a 6 0).toInt := by rw [px391.1]; have f9 := ((FR.up (FR.tr (hF69) (FR.sub fa32.1 (by decide))) (by decide) ea232) : FR [0, 15, 17] a a232) 6 (by decide); rw [f9]
                          refine w_ic_ge rfl (fun c392 => ?_) (fun c392 => ?_)
                          · skip
                            refine w_aload rfl rfl ?_
                            refine w_getR (v := .inr (.inr (some 15))) rfl rfl rfl rfl rfl ?_
                            refine w_const rfl ?_
                            refine w_dup2 rfl ⟨rfl, rfl⟩ ?_
                            refine m_iald rfl rfl (by omega) (fun x393 ex393 => ?_)
                            have t9 : x393.toInt = (a69 15 1260).toInt := by rw [ex393, show (1260 : Int32).toInt.toNat = 1260 from rfl, ea232, mU_cell (by decide), fa32.1 15 (by decide)]
                            have t7 : 0 ≤ x393.toInt := by rw [ex393]; exact (RM.now ha232 (j := 1260) (by decide)).1
                            refine w_const rfl ?_
                            first | refine w_iadd rfl (by omega) (fun x394 tx394 => ?_) | refine w_iiU rfl (fun x394 tx394 => ?_)
                            refine m_iast rfl rfl (by omega) (fun a395 ea395 => ?_)
                            have ha395 : RM K a395 := RM.up ha232 ea395 (st_now (by omega) (by omega))
                            have t8 : (a395 15 1260).toInt = x394.toInt := by rw [ea395, show (1260 : Int32).toInt.toNat = 1260 from rfl, mU_same]
                            refine w_iinc (lo' := fun z9 => [some (.inr (.inr (some 0))), some (.inl sd), some (.inl n), some (.inl w), some (.inl dr1), some (.inl fd1), some (.inl z9), some (.inl x34), some (.inl r), o9_69]) rfl rfl (fun _ => rfl) (by omega) (fun x396 tx396 => ?_)
                            refine w_goto rfl ?_
                            exact ih69 (n.toInt - x396.toInt).toNat (by omega) dr1 fd1 x396 a395 b33 (some (.inl x34)) (some (.inl r)) o9_69 rfl ha395 (FR.up (FR.up (FR.tr (hF69) (FR.sub fa32.1 (by decide))) (by decide) ea232) (by decide) ea395) (fun (m9 : Nat) (l9 : m9 < 21) (h7 : ACm m9 a) => ACm.put ((fun (m9 : Nat) (l9 : m9 < 21) (h7 : ACm m9 a) => ACm.up ((fun (m9 : Nat) (l9 : m9 < 21) (h7 : ACm m9 a) => ACm.fr ((hC69) m9 l9 h7) fa32.1 (by decide)) m9 l9 h7) ea232 (by decide)) m9 l9 h7) ea395 (by omega)) (by omega) (by first | exact g6 | exact g7 | exact g9) (by omega) (by omega) ((ACm.put (m := 21) (ACm.up (m := 21) (ACm.fr (m := 21) (hD69) fa32.1 (by decide)) ea232 (by decide)) ea395 (by omega)))
                          · skip
                            refine w_iload rfl rfl ?_
                            refine w_aload rfl rfl ?_
                            refine w_const rfl ?_
                            refine w_iload rfl rfl ?_
                            refine w_aload rfl rfl ?_
                            refine w_const rfl ?_
                            refine w_invV (rest := [.inl r, .inl 1260, .inr (.inr (some 0)), .inl dr1]) rfl rfl rfl rfl rfl (Nat.le_of_ble_eq_true rfl) rfl (by omega) (s_winter (K := K) a232 b33  1260 ha232 (by omega)) (fun v397 h9 hq398 => ?_)
                            obtain ⟨rfl, x399, rfl, px399⟩ := hq398
                            show f_wp _ (216, [some (.inr (.inr (some 0))), some (.inl sd), some (.inl n), some (.inl w), some (.inl dr1), some (.inl fd1), some (.inl i), some (.inl x34), some (.inl r), o9_69], [.inl x399, .inl r, .inl 1260, .inr (.inr (some 0)), .inl dr1], mH a232 b33) _
                            refine w_invV (rest := [.inl dr1]) rfl rfl rfl rfl rfl (Nat.le_of_ble_eq_true rfl) rfl (by omega) (s_isDry (K := K) a232 b33  1260 r x399 ha232 (by omega) (by omega) (by omega) ((ACm.up (m := 21) (ACm.fr (m := 21) (hD69) fa32.1 (by decide)) ea232 (by decide)))) (fun v400 h9 hq401 => ?_)
                            obtain ⟨rfl, x402, rfl, px402⟩ := hq401
                            show f_wp _ (219, [some (.inr (.inr (some 0))), some (.inl sd), some (.inl n), some (.inl w), some (.inl dr1), some (.inl fd1), some (.inl i), some (.inl x34), some (.inl r), o9_69], [.inl x402, .inl dr1], mH a232 b33) _
                            refine w_if_eq rfl (fun c403 => ?_) (fun c403 => ?_)
                            · skip
                              refine w_const rfl ?_
                              first | refine w_iadd rfl (by omega) (fun x404 tx404 => ?_) | refine w_iiU rfl (fun x404 tx404 => ?_)
                              refine w_istore (lo' := [some (.inr (.inr (some 0))), some (.inl sd), some (.inl n), some (.inl w), some (.inl x404), some (.inl fd1), some (.inl i), some (.inl x34), some (.inl r), o9_69]) rfl rfl ?_
                              refine w_iload rfl rfl ?_
                              refine w_aload rfl rfl ?_
                              refine w_const rfl ?_
                              refine w_iload rfl rfl ?_
                              refine w_aload rfl rfl ?_
                              refine w_const rfl ?_
                              refine w_invV (rest := [.inl r, .inl 1260, .inr (.inr (some 0)), .inl fd1]) rfl rfl rfl rfl rfl (Nat.le_of_ble_eq_true rfl) rfl (by omega) (s_winter (K := K) a232 b33  1260 ha232 (by omega)) (fun v405 h9 hq406 => ?_)
                              obtain ⟨rfl, x407, rfl, px407⟩ := hq406
                              show f_wp _ (245, [some (.inr (.inr (some 0))), some (.inl sd), some (.inl n), some (.inl w), some (.inl x404), some (.inl fd1), some (.inl i), some (.inl x34), some (.inl r), o9_69], [.inl x407, .inl r, .inl 1260, .inr (.inr (some 0)), .inl fd1], mH a232 b33) _
                              refine w_invV (rest := [.inl fd1]) rfl rfl rfl rfl rfl (Nat.le_of_ble_eq_true rfl) rfl (by omega) (s_isFlooded (K := K) a232 b33  1260 r x407 ha232 (by omega) (by omega) (by omega) ((ACm.up (m := 21) (ACm.fr (m := 21) (hD69) fa32.1 (by decide)) ea232 (by decide)))) (fun v408 h9 hq409 => ?_)
                              obtain ⟨rfl, x410, rfl, px410⟩ := hq409
                              show f_wp _ (248, [some (.inr (.inr (some 0))), some (.inl sd), some (.inl n), some (.inl w), some (.inl x404), some (.inl fd1), some (.inl i), some (.inl x34), some (.inl r), o9_69], [.inl x410, .inl fd1], mH a232 b33) _
                              refine w_if_eq rfl (fun c411 => ?_) (fun c411 => ?_)
                              · skip
                                refine w_const rfl ?_
                                first | refine w_iadd rfl (by omega) (fun x412 tx412 => ?_) | refine w_iiU rfl (fun x412 tx412 => ?_)
                                refine w_istore (lo' := [some (.inr (.inr (some 0))), some (.inl sd), some (.inl n), some (.inl w), some (.inl x404), some (.inl x412), some (.inl i), some (.inl x34), some (.inl r), o9_69]) rfl rfl ?_
                                refine w_iinc (lo' := fun z9 => [some (.inr (.inr (some 0))), some (.inl sd), some (.inl n), some (.inl w), some (.inl x404), some (.inl x412), some (.inl i), some (.inl x34), some (.inl z9), o9_69]) rfl rfl (fun _ => rfl) (by omega) (fun x413 tx413 => ?_)
                                refine w_goto rfl ?_
                                exact ih192 (6 - x413.toInt).toNat (by omega) x404 x412 x413 rfl  (by omega)
                              · skip
                                refine w_const rfl ?_
                                refine w_goto rfl ?_
                                first | refine w_iadd rfl (by omega) (fun x414 tx414 => ?_) | refine w_iiU rfl (fun x414 tx414 => ?_)
                                refine w_istore (lo' := [some (.inr (.inr (some 0))), some (.inl sd), some (.inl n), some (.inl w), some (.inl x404), some (.inl x414), some (.inl i), some (.inl x34), some (.inl r), o9_69]) rfl rfl ?_
                                refine w_iinc (lo' := fun z9 => [some (.inr (.inr (some 0))), some (.inl sd), some (.inl n), some (.inl w), some (.inl x404), some (.inl x414), some (.inl i), some (.inl x34), some (.inl z9), o9_69]) rfl rfl (fun _ => rfl) (by omega) (fun x415 tx415 => ?_)
                                refine w_goto rfl ?_
                                exact ih192 (6 - x415.toInt).toNat (by omega) x404 x414 x415 rfl  (by omega)
                            · skip
                              refine w_const rfl ?_
                              refine w_goto rfl ?_
                              first | refine w_iadd rfl (by omega) (fun x416 tx416 => ?_) | refine w_iiU rfl (fun x416 tx416 => ?_)
                              refine w_istore (lo' := [some (.inr (.inr (some 0))), some (.inl sd), some (.inl n), some (.inl w), some (.inl x416), some (.inl fd1), some (.inl i), some (.inl x34), some (.inl r), o9_69]) rfl rfl ?_
                              refine w_iload rfl rfl ?_
                              refine w_aload rfl rfl ?_
                              refine w_const rfl ?_
                              refine w_iload rfl rfl ?_
                              refine w_aload rfl rfl ?_
                              refine w_const rfl ?_
                              refine w_invV (rest := [.inl r, .inl 1260, .inr (.inr (some 0)), .inl fd1]) rfl rfl rfl rfl rfl (Nat.le_of_ble_eq_true rfl) rfl (by omega) (s_winter (K := K) a232 b33  1260 ha232 (by omega)) (fun v417 h9 hq418 => ?_)
                              obtain ⟨rfl, x419, rfl, px419⟩ := hq418
                              show f_wp _ (245, [some (.inr (.inr (some 0))), some (.inl sd), some (.inl n), some (.inl w), some (.inl x416), some (.inl fd1), some (.inl i), some (.inl x34), some (.inl r), o9_69], [.inl x419, .inl r, .inl 1260, .inr (.inr (some 0)), .inl fd1], mH a232 b33) _
                              refine w_invV (rest := [.inl fd1]) rfl rfl rfl rfl rfl (Nat.le_of_ble_eq_true rfl) rfl (by omega) (s_isFlooded (K := K) a232 b33  1260 r x419 ha232 (by omega) (by omega) (by omega) ((ACm.up (m := 21) (ACm.fr (m := 21) (hD69) fa32.1 (by decide)) ea232 (by decide)))) (fun v420 h9 hq421 => ?_)
                              obtain ⟨rfl, x422, rfl, px422⟩ := hq421
                              show f_wp _ (248, [some (.inr (.inr (some 0))), some (.inl sd), some (.inl n), some (.inl w), some (.inl x416), some (.inl fd1), some (.inl i), some (.inl x34), some (.inl r), o9_69], [.inl x422, .inl fd1], mH a232 b33) _
                              refine w_if_eq rfl (fun c423 => ?_) (fun c423 => ?_)
                              · skip
                                refine w_const rfl ?_
                                first | refine w_iadd rfl (by omega) (fun x424 tx424 => ?_) | refine w_iiU rfl (fun x424 tx424 => ?_)
                                refine w_istore (lo' := [some (.inr (.inr (some 0))), some (.inl sd), some (.inl n), some (.inl w), some (.inl x416), some (.inl x424), some (.inl i), some (.inl x34), some (.inl r), o9_69]) rfl rfl ?_
                                refine w_iinc (lo' := fun z9 => [some (.inr (.inr (some 0))), some (.inl sd), some (.inl n), some (.inl w), some (.inl x416), some (.inl x424), some (.inl i), some (.inl x34), some (.inl z9), o9_69]) rfl rfl (fun _ => rfl) (by omega) (fun x425 tx425 => ?_)
                                refine w_goto rfl ?_
                                exact ih192 (6 - x425.toInt).toNat (by omega) x416 x424 x425 rfl  (by omega)
                              · skip
                                refine w_const rfl ?_
                                refine w_goto rfl ?_
                                first | refine w_iadd rfl (by omega) (fun x426 tx426 => ?_) | refine w_iiU rfl (fun x426 tx426 => ?_)
                                refine w_istore (lo' := [some (.inr (.inr (some 0))), some (.inl sd), some (.inl n), some (.inl w), some (.inl x416), some (.inl x426), some (.inl i), some (.inl x34), some (.inl r), o9_69]) rfl rfl ?_
                                refine w_iinc (lo' := fun z9 => [some (.inr (.inr (some 0))), some (.inl sd), some (.inl n), some (.inl w), some (.inl x416), some (.inl x426), some (.inl i), some (.inl x34), some (.inl z9), o9_69]) rfl rfl (fun _ => rfl) (by omega) (fun x427 tx427 => ?_)
                                refine w_goto rfl ?_
                                exact ih192 (6 - x427.toInt).toNat (by omega) x416 x426 x427 rfl  (by omega)
                      exact loop192 _ dr fd 0 rfl  (by omega)
          exact loop69 _ 0 0 0 a20 b22 none none none rfl ha20 (FR.tr (FR.up (FR.rf) (by decide) ea1) (FR.sub fa20.1 (by decide))) (fun (m9 : Nat) (l9 : m9 < 21) (h7 : ACm m9 a) => fa20.2.1 m9 (by omega) ((fun (m9 : Nat) (l9 : m9 < 21) (h7 : ACm m9 a) => ACm.up ((fun (m9 : Nat) (l9 : m9 < 21) (h7 : ACm m9 a) => h7) m9 l9 h7) ea1 (by decide)) m9 l9 h7)) (by omega) (g0) (by omega) (by omega) ((AC.at (AC.copied (q := 0) (t := 1260) (AC.at ((fun (m9 : Nat) (l9 : m9 < 21) (h7 : ACm m9 a) => ACm.up ((fun (m9 : Nat) (l9 : m9 < 21) (h7 : ACm m9 a) => h7) m9 l9 h7) ea1 (by decide)) 0 (by decide) hA) (by decide)) (by decide) fa20.2.2) (by decide)))
