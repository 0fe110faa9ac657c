def TPH (K N s m c : Nat) (e : Int32) : Prop := ∀ (h : Nat) (a : Nat → Nat → Int32) (b : Nat → Nat → Int64), RM K a → PS a N s h → f_call mtM c m [.inr (.inr (some 0)), .inl e] (mH a b) (fun v9 h' => ∃ (a' : Nat → Nat → Int32), h' = mH a' b ∧ RM K a' ∧ (FR [0, 7, 8] a a' ∧ (PS a' N s (h + 1) ∧ KP s 0 a a')) ∧ v9 = none)
set_option maxRecDepth 4000 in
theorem s_products_r {K N s c : Nat} {e : Int32} (hc : 4 ≤ c) (hX : TPH K N s 34 c e) : TPH K N s 33 (c + 1) e := by
  intro h a b hR hP
  refine f_call_of (d0 := c) rfl (Nat.le_of_ble_eq_true rfl) (fun d hd => ?_)
  show f_wp _ (0, [some (.inr (.inr (some 0))), some (.inl e)], [], mH a b) _
  have l0 : (0 : Int32).toInt = 0 := rfl
  have l6 : (6 : Int32).toInt = 6 := rfl
  have l42 : (42 : Int32).toInt = 42 := rfl
  have z7 : 0 ≤ (a 0 7).toInt ∧ (a 0 7).toInt ≤ 1000 := hR 0 7
  have z8 : 0 ≤ (a 0 8).toInt ∧ (a 0 8).toInt ≤ 2147483647 := hR 0 8
  have pp1 := hP.1
  have pp2 := hP.2.1
  have pp4 := hP.2.2.2.1
  have pp5 := hP.2.2.2.2.1
  refine w_aload rfl rfl ?_
  refine w_iload rfl rfl ?_
  refine w_invV (rest := []) rfl rfl rfl rfl rfl (Nat.le_of_ble_eq_true rfl) rfl (by omega) (hX _ a b hR hP) (fun v1 h9 hq2 => ?_)
  obtain ⟨a3, rfl, ha3, fa3, rfl⟩ := hq2
  show f_wp _ (5, [some (.inr (.inr (some 0))), some (.inl e)], [], mH a3 b) _
  have P1 := fa3.2
  have loop5 : ∀ (ms9 : Nat)  (a5 : Nat → Nat → Int32) , ((N : Int) - (a5 0 7).toInt).toNat = ms9 → RM K a5 → FR [0, 7, 8] a a5 → (PS a5 N s (h + 1)) → (KP s 0 a a5) → f_wp (f_code (t_X13_products (f_ev mtM d))) (5, [some (.inr (.inr (some 0))), some (.inl e)], [], mH a5 b) (fun v9 h' => ∃ (a' : Nat → Nat → Int32), h' = mH a' b ∧ RM K a' ∧ (FR [0, 7, 8] a a' ∧ (PS a' N s (h + 1) ∧ KP s 0 a a')) ∧ v9 = none) := by
    intro ms9
    induction ms9 using Nat.strongRecOn with
    | _ ms5 ih5 =>
      intro  a5  hm5 hR5 hF5 hP5 hK5
      have m1 := hP5.1
      have m2 := hP5.2.1
      have m4 := hP5.2.2.2.1
      have m5 := hP5.2.2.2.2.1
      refine w_aload rfl rfl ?_
      refine w_const rfl ?_
      refine w_invV (rest := []) rfl rfl rfl rfl rfl (Nat.le_of_ble_eq_true rfl) rfl (by omega) (s_hasSign_1 (K := K) a5 b N 42 hR5 (hP5.T)) (fun v4 h9 hq5 => ?_)
      obtain ⟨a6, rfl, ha6, fa6, x7, rfl, px7⟩ := hq5
      show f_wp _ (11, [some (.inr (.inr (some 0))), some (.inl e)], [.inl x7], mH a6 b) _
      have P2 := PS.tok hP5 fa6.1 fa6.2.1 (fun z => by rw [← fa6.2.2.1]; exact z)
      have s2 := px7
      have k2 := P2.2.2.2.2
      have g2 := P2.2.2.2.1
      have j2 := P2.1.2.1
      have c2 := P2.1.2.2.2.1
      refine w_if_eq rfl (fun c8 => ?_) (fun c8 => ?_)
      · skip
        exact w_ret rfl ⟨a6, rfl, ha6, ⟨FR.tr (hF5) (FR.sub fa6.1 (by decide)), ⟨P2.1, (hK5.tr P2.2).le (by omega)⟩⟩, rfl⟩
      · skip
        refine w_aload rfl rfl ?_
        refine w_iload rfl rfl ?_
        refine w_invV (rest := []) rfl rfl rfl rfl rfl (Nat.le_of_ble_eq_true rfl) rfl (by omega) (hX _ a6 b ha6 P2.1) (fun v9 h9 hq10 => ?_)
        obtain ⟨a11, rfl, ha11, fa11, rfl⟩ := hq10
        show f_wp _ (19, [some (.inr (.inr (some 0))), some (.inl e)], [], mH a11 b) _
        have P3 := fa11.2
        have k3 := P3.2.2.2.2
        have g3 := P3.2.2.2.1
        have j3 := P3.1.2.1
        have c3 := P3.1.2.2.2.1
        refine w_aload rfl rfl ?_
        refine w_const rfl ?_
        refine w_const rfl ?_
        refine w_invV (rest := []) rfl rfl rfl rfl rfl (Nat.le_of_ble_eq_true rfl) rfl (by omega) (s_emit_1 (K := K) a11 b  6 0 ha11 (by omega) (by omega)) (fun v12 h9 hq13 => ?_)
        obtain ⟨a14, rfl, ha14, fa14, rfl⟩ := hq13
        show f_wp _ (26, [some (.inr (.inr (some 0))), some (.inl e)], [], mH a14 b) _
        have P4 := PS.emit (k := h + 1) P3.1 fa14.1 fa14.2 (by omega) (fun _ => hgs_bin (by omega))
        have k4 := P4.2.2.2.2
        have g4 := P4.2.2.2.1
        have j4 := P4.1.2.1
        have c4 := P4.1.2.2.2.1
        refine w_goto rfl ?_
        exact ih5 ((N : Int) - (a14 0 7).toInt).toNat (by omega) a14 rfl ha14 (FR.tr (FR.tr (FR.tr (hF5) (FR.sub fa6.1 (by decide))) (FR.sub fa11.1 (by decide))) (FR.sub fa14.1 (by decide))) (P4.1) ((hK5.tr (P2.2.tr (P3.2.tr P4.2))).le (by omega))
  exact loop5 _ a3 rfl ha3 (FR.tr (FR.rf) (FR.sub fa3.1 (by decide))) (P1.1) (P1.2)
set_option maxRecDepth 4000 in
theorem s_sums_r {K N s c : Nat} {e : Int32} (hc : 4 ≤ c) (hX : TPH K N s 33 c e) : TPH K N s 32 (c + 1) e := by
  intro h a b hR hP
  refine f_call_of (d0 := c) rfl (Nat.le_of_ble_eq_true rfl) (fun d hd => ?_)
  show f_wp _ (0, [some (.inr (.inr (some 0))), some (.inl e), none], [], mH a b) _
  have l0 : (0 : Int32).toInt = 0 := rfl
  have l1 : (1 : Int32).toInt = 1 := rfl
  have l4 : (4 : Int32).toInt = 4 := rfl
  have l5 : (5 : Int32).toInt = 5 := rfl
  have l43 : (43 : Int32).toInt = 43 := rfl
  have l45 : (45 : Int32).toInt = 45 := rfl
  have z7 : 0 ≤ (a 0 7).toInt ∧ (a 0 7).toInt ≤ 1000 := hR 0 7
  have z8 : 0 ≤ (a 0 8).toInt ∧ (a 0 8).toInt ≤ 2147483647 := hR 0 8
  have pp1 := hP.1
  have pp2 := hP.2.1
  have pp4 := hP.2.2.2.1
  have pp5 := hP.2.2.2.2.1
  refine w_aload rfl rfl ?_
  refine w_iload rfl rfl ?_
  refine w_invV (rest := []) rfl rfl rfl rfl rfl (Nat.le_of_ble_eq_true rfl) rfl (by omega) (hX _ a b hR hP) (fun v1 h9 hq2 => ?_)
  obtain ⟨a3, rfl, ha3, fa3, rfl⟩ := hq2
  show f_wp _ (5, [some (.inr (.inr (some 0))), some (.inl e), none], [], mH a3 b) _
  have P1 := fa3.2
  have loop5 : ∀ (ms9 : Nat)  (a5 : Nat → Nat → Int32) (o2_5 : Option f_V), ((N : Int) - (a5 0 7).toInt).toNat = ms9 → RM K a5 → FR [0, 7, 8] a a5 → (PS a5 N s (h + 1)) → (KP s 0 a a5) → f_wp (f_code (t_X13_sums (f_ev mtM d))) (5, [some (.inr (.inr (some 0))), some (.inl e), o2_5], [], mH a5 b) (fun v9 h' => ∃ (a' : Nat → Nat → Int32), h' = mH a' b ∧ RM K a' ∧ (FR [0, 7, 8] a a' ∧ (PS a' N s (h + 1) ∧ KP s 0 a a')) ∧ v9 = none) := by
    intro ms9
    induction ms9 using Nat.strongRecOn with
    | _ ms5 ih5 =>
      intro  a5 o2_5 hm5 hR5 hF5 hP5 hK5
      have m1 := hP5.1
      have m2 := hP5.2.1
      have m4 := hP5.2.2.2.1
      have m5 := hP5.2.2.2.2.1
      refine w_aload rfl rfl ?_
      refine w_const rfl ?_
      refine w_invV (rest := []) rfl rfl rfl rfl rfl (Nat.le_of_ble_eq_true rfl) rfl (by omega) (s_isSign_1 (K := K) a5 b  43 hR5 ) (fun v4 h9 hq5 => ?_)
      obtain ⟨rfl, x6, rfl, px6⟩ := hq5
      show f_wp _ (11, [some (.inr (.inr (some 0))), some (.inl e), o2_5], [.inl x6], mH a5 b) _
      have s1 := px6
      refine w_if_ne rfl (fun c7 => ?_) (fun c7 => ?_)
      · skip
        refine w_aload rfl rfl ?_
        refine w_const rfl ?_
        refine w_invV (rest := []) rfl rfl rfl rfl rfl (Nat.le_of_ble_eq_true rfl) rfl (by omega) (s_isSign_1 (K := K) a5 b  45 hR5 ) (fun v8 h9 hq9 => ?_)
        obtain ⟨rfl, x10, rfl, px10⟩ := hq9
        show f_wp _ (20, [some (.inr (.inr (some 0))), some (.inl e), o2_5], [.inl x10], mH a5 b) _
        have s2 := px10
        refine w_if_eq rfl (fun c11 => ?_) (fun c11 => ?_)
        · skip
          exact w_ret rfl ⟨a5, rfl, hR5, ⟨hF5, ⟨hP5, hK5⟩⟩, rfl⟩
        · skip
          refine w_aload rfl rfl ?_
          refine w_const rfl ?_
          refine w_invV (rest := []) rfl rfl rfl rfl rfl (Nat.le_of_ble_eq_true rfl) rfl (by omega) (s_isSign_1 (K := K) a5 b  43 hR5 ) (fun v12 h9 hq13 => ?_)
          obtain ⟨rfl, x14, rfl, px14⟩ := hq13
          show f_wp _ (29, [some (.inr (.inr (some 0))), some (.inl e), o2_5], [.inl x14], mH a5 b) _
          refine w_istore (lo' := [some (.inr (.inr (some 0))), some (.inl e), some (.inl x14)]) rfl rfl ?_
          refine w_aload rfl rfl ?_
          refine w_dup rfl rfl ?_
          refine w_getI (v := .inl (a5 0 7)) rfl rfl rfl rfl rfl ?_
          have q15 : 0 ≤ (a5 0 7).toInt ∧ (a5 0 7).toInt ≤ 1000 := hR5 0 7
          have y9 : (a5 0 7).toInt < N := TK.lt hP5.T (show (0 : Int) ≤ _ from (hR5 0 7).1) (by first | (have i9 := (s1.resolve_right (by omega)).2.2.1; omega) | (have i9 := (s2.resolve_right (by omega)).2.2.1; omega))
          refine w_const rfl ?_
          first | refine w_iadd rfl (by omega) (fun x16 tx16 => ?_) | refine w_iiU rfl (fun x16 tx16 => ?_)
          refine m_putI (z := false) rfl rfl rfl rfl (by first | (intro h9; cases h9; done) | (intro _; first | exact Or.inl rfl | exact Or.inr rfl | assumption)) (fun a17 ea17 => ?_)
          have ha17 : RM K a17 := RM.up hR5 ea17 (show (0 : Int) ≤ _ ∧ _ ≤ (1000 : Int) from by omega)
          have ua17_7 : a17 0 7 = x16 := by rw [ea17, mU_same]
          have wa17_7 := congrArg Int32.toInt ua17_7
          have P2 := PS.up hP5 ea17 (by omega) y9
          have k2 := P2.2.2.2.2
          have g2 := P2.2.2.2.1
          have j2 := P2.1.2.1
          have c2 := P2.1.2.2.2.1
          refine w_aload rfl rfl ?_
          refine w_iload rfl rfl ?_
          refine w_invV (rest := []) rfl rfl rfl rfl rfl (Nat.le_of_ble_eq_true rfl) rfl (by omega) (hX _ a17 b ha17 P2.1) (fun v18 h9 hq19 => ?_)
          obtain ⟨a20, rfl, ha20, fa20, rfl⟩ := hq19
          show f_wp _ (45, [some (.inr (.inr (some 0))), some (.inl e), some (.inl x14)], [], mH a20 b) _
          have P3 := fa20.2
          have k3 := P3.2.2.2.2
          have g3 := P3.2.2.2.1
          have j3 := P3.1.2.1
          have c3 := P3.1.2.2.2.1
          refine w_aload rfl rfl ?_
          refine w_iload rfl rfl ?_
          refine w_if_eq rfl (fun c21 => ?_) (fun c21 => ?_)
          · skip
            refine w_const rfl ?_
            refine w_const rfl ?_
            refine w_invV (rest := []) rfl rfl rfl rfl rfl (Nat.le_of_ble_eq_true rfl) rfl (by omega) (s_emit_1 (K := K) a20 b  5 0 ha20 (by omega) (by omega)) (fun v22 h9 hq23 => ?_)
            obtain ⟨a24, rfl, ha24, fa24, rfl⟩ := hq23
            show f_wp _ (59, [some (.inr (.inr (some 0))), some (.inl e), some (.inl x14)], [], mH a24 b) _
            have P4 := PS.emit (k := h + 1) P3.1 fa24.1 fa24.2 (by omega) (fun _ => hgs_bin (by omega))
            have k4 := P4.2.2.2.2
            have g4 := P4.2.2.2.1
            have j4 := P4.1.2.1
            have c4 := P4.1.2.2.2.1
            refine w_goto rfl ?_
            exact ih5 ((N : Int) - (a24 0 7).toInt).toNat (by omega) a24 (some (.inl x14)) rfl ha24 (FR.tr (FR.tr (FR.up (hF5) (by decide) ea17) (FR.sub fa20.1 (by decide))) (FR.sub fa24.1 (by decide))) (P4.1) ((hK5.tr (P2.2.tr (P3.2.tr P4.2))).le (by omega))
          · skip
            refine w_const rfl ?_
            refine w_goto rfl ?_
            refine w_const rfl ?_
            refine w_invV (rest := []) rfl rfl rfl rfl rfl (Nat.le_of_ble_eq_true rfl) rfl (by omega) (s_emit_1 (K := K) a20 b  4 0 ha20 (by omega) (by omega)) (fun v25 h9 hq26 => ?_)
            obtain ⟨a27, rfl, ha27, fa27, rfl⟩ := hq26
            show f_wp _ (59, [some (.inr (.inr (some 0))), some (.inl e), some (.inl x14)], [], mH a27 b) _
            have P4 := PS.emit (k := h + 1) P3.1 fa27.1 fa27.2 (by omega) (fun _ => hgs_bin (by omega))
            have k4 := P4.2.2.2.2
            have g4 := P4.2.2.2.1
            have j4 := P4.1.2.1
            have c4 := P4.1.2.2.2.1
            refine w_goto rfl ?_
            exact ih5 ((N : Int) - (a27 0 7).toInt).toNat (by omega) a27 (some (.inl x14)) rfl ha27 (FR.tr (FR.tr (FR.up (hF5) (by decide) ea17) (FR.sub fa20.1 (by decide))) (FR.sub fa27.1 (by decide))) (P4.1) ((hK5.tr (P2.2.tr (P3.2.tr P4.2))).le (by omega))
      · skip
        refine w_aload rfl rfl ?_
        refine w_const rfl ?_
        refine w_invV (rest := []) rfl rfl rfl rfl rfl (Nat.le_of_ble_eq_true rfl) rfl (by omega) (s_isSign_1 (K := K) a5 b  43 hR5 ) (fun v28 h9 hq29 => ?_)
        obtain ⟨rfl, x30, rfl, px30⟩ := hq29
        show f_wp _ (29, [some (.inr (.inr (some 0))), some (.inl e), o2_5], [.inl x30], mH a5 b) _
        refine w_istore (lo' := [some (.inr (.inr (some 0))), some (.inl e), some (.inl x30)]) rfl rfl ?_
        refine w_aload rfl rfl ?_
        refine w_dup rfl rfl ?_
        refine w_getI (v := .inl (a5 0 7)) rfl rfl rfl rfl rfl ?_
        have q31 : 0 ≤ (a5 0 7).toInt ∧ (a5 0 7).toInt ≤ 1000 := hR5 0 7
        have y9 : (a5 0 7).toInt < N := TK.lt hP5.T (show (0 : Int) ≤ _ from (hR5 0 7).1) (by first | (have i9 := (s1.resolve_right (by omega)).2.2.1; omega) | (have i9 := (s2.resolve_right (by omega)).2.2.1; omega))
        refine w_const rfl ?_
        first | refine w_iadd rfl (by omega) (fun x32 tx32 => ?_) | refine w_iiU rfl (fun x32 tx32 => ?_)
        refine m_putI (z := false) rfl rfl rfl rfl (by first | (intro h9; cases h9; done) | (intro _; first | exact Or.inl rfl | exact Or.inr rfl | assumption)) (fun a33 ea33 => ?_)
        have ha33 : RM K a33 := RM.up hR5 ea33 (show (0 : Int) ≤ _ ∧ _ ≤ (1000 : Int) from by omega)
        have ua33_7 : a33 0 7 = x32 := by rw [ea33, mU_same]
        have wa33_7 := congrArg Int32.toInt ua33_7
        have P2 := PS.up hP5 ea33 (by omega) y9
        have k2 := P2.2.2.2.2
        have g2 := P2.2.2.2.1
        have j2 := P2.1.2.1
        have c2 := P2.1.2.2.2.1
        refine w_aload rfl rfl ?_
        refine w_iload rfl rfl ?_
        refine w_invV (rest := []) rfl rfl rfl rfl rfl (Nat.le_of_ble_eq_true rfl) rfl (by omega) (hX _ a33 b ha33 P2.1) (fun v34 h9 hq35 => ?_)
        obtain ⟨a36, rfl, ha36, fa36, rfl⟩ := hq35
        show f_wp _ (45, [some (.inr (.inr (some 0))), some (.inl e), some (.inl x30)], [], mH a36 b) _
        have P3 := fa36.2
        have k3 := P3.2.2.2.2
        have g3 := P3.2.2.2.1
        have j3 := P3.1.2.1
        have c3 := P3.1.2.2.2.1
        refine w_aload rfl rfl ?_
        refine w_iload rfl rfl ?_
        refine w_if_eq rfl (fun c37 => ?_) (fun c37 => ?_)
        · skip
          refine w_const rfl ?_
          refine w_const rfl ?_
          refine w_invV (rest := []) rfl rfl rfl rfl rfl (Nat.le_of_ble_eq_true rfl) rfl (by omega) (s_emit_1 (K := K) a36 b  5 0 ha36 (by omega) (by omega)) (fun v38 h9 hq39 => ?_)
          obtain ⟨a40, rfl, ha40, fa40, rfl⟩ := hq39
          show f_wp _ (59, [some (.inr (.inr (some 0))), some (.inl e), some (.inl x30)], [], mH a40 b) _
          have P4 := PS.emit (k := h + 1) P3.1 fa40.1 fa40.2 (by omega) (fun _ => hgs_bin (by omega))
          have k4 := P4.2.2.2.2
          have g4 := P4.2.2.2.1
          have j4 := P4.1.2.1
          have c4 := P4.1.2.2.2.1
          refine w_goto rfl ?_
          exact ih5 ((N : Int) - (a40 0 7).toInt).toNat (by omega) a40 (some (.inl x30)) rfl ha40 (FR.tr (FR.tr (FR.up (hF5) (by decide) ea33) (FR.sub fa36.1 (by decide))) (FR.sub fa40.1 (by decide))) (P4.1) ((hK5.tr (P2.2.tr (P3.2.tr P4.2))).le (by omega))
        · skip
          refine w_const rfl ?_
          refine w_goto rfl ?_
          refine w_const rfl ?_
          refine w_invV (rest := []) rfl rfl rfl rfl rfl (Nat.le_of_ble_eq_true rfl) rfl (by omega) (s_emit_1 (K := K) a36 b  4 0 ha36 (by omega) (by omega)) (fun v41 h9 hq42 => ?_)
          obtain ⟨a43, rfl, ha43, fa43, rfl⟩ := hq42
          show f_wp _ (59, [some (.inr (.inr (some 0))), some (.inl e), some (.inl x30)], [], mH a43 b) _
          have P4 := PS.emit (k := h + 1) P3.1 fa43.1 fa43.2 (by omega) (fun _ => hgs_bin (by omega))
          have k4 := P4.2.2.2.2
          have g4 := P4.2.2.2.1
          have j4 := P4.1.2.1
          have c4 := P4.1.2.2.2.1
          refine w_goto rfl ?_
          exact ih5 ((N : Int) - (a43 0 7).toInt).toNat (by omega) a43 (some (.inl x30)) rfl ha43 (FR.tr (FR.tr (FR.up (hF5) (by decide) ea33) (FR.sub fa36.1 (by decide))) (FR.sub fa43.1 (by decide))) (P4.1) ((hK5.tr (P2.2.tr (P3.2.tr P4.2))).le (by omega))
  exact loop5 _ a3 none rfl ha3 (FR.tr (FR.rf) (FR.sub fa3.1 (by decide))) (P1.1) (P1.2)
set_option maxRecDepth 4000 in
theorem s_test_r {K N s c : Nat} {e : Int32} (hc : 4 ≤ c) (hX : TPH K N s 32 c e) : TPH K N s 31 (c + 1) e := by
  intro h a b hR hP
  refine f_call_of (d0 := c) rfl (Nat.le_of_ble_eq_true rfl) (fun d hd => ?_)
  show f_wp _ (0, [some (.inr (.inr (some 0))), some (.inl e), none], [], mH a b) _
  have l0 : (0 : Int32).toInt = 0 := rfl
  have l7 : (7 : Int32).toInt = 7 := rfl
  have l8 : (8 : Int32).toInt = 8 := rfl
  have l60 : (60 : Int32).toInt = 60 := rfl
  have l61 : (61 : Int32).toInt = 61 := rfl
  have z7 : 0 ≤ (a 0 7).toInt ∧ (a 0 7).toInt ≤ 1000 := hR 0 7
  have z8 : 0 ≤ (a 0 8).toInt ∧ (a 0 8).toInt ≤ 2147483647 := hR 0 8
  have pp1 := hP.1
  have pp2 := hP.2.1
  have pp4 := hP.2.2.2.1
  have pp5 := hP.2.2.2.2.1
  refine w_aload rfl rfl ?_
  refine w_iload rfl rfl ?_
  refine w_invV (rest := []) rfl rfl rfl rfl rfl (Nat.le_of_ble_eq_true rfl) rfl (by omega) (hX _ a b hR hP) (fun v1 h9 hq2 => ?_)
  obtain ⟨a3, rfl, ha3, fa3, rfl⟩ := hq2
  show f_wp _ (5, [some (.inr (.inr (some 0))), some (.inl e), none], [], mH a3 b) _
  have P1 := fa3.2
  have k1 := P1.2.2.2.2
  have g1 := P1.2.2.2.1
  have j1 := P1.1.2.1
  have c1 := P1.1.2.2.2.1
  refine w_aload rfl rfl ?_
  refine w_const rfl ?_
  refine w_invV (rest := []) rfl rfl rfl rfl rfl (Nat.le_of_ble_eq_true rfl) rfl (by omega) (s_isSign (K := K) a3 b  60 ha3 ) (fun v4 h9 hq5 => ?_)
  obtain ⟨rfl, x6, rfl, px6⟩ := hq5
  show f_wp _ (11, [some (.inr (.inr (some 0))), some (.inl e), none], [.inl x6], mH a3 b) _
  refine w_istore (lo' := [some (.inr (.inr (some 0))), some (.inl e), some (.inl x6)]) rfl rfl ?_
  refine w_aload rfl rfl ?_
  refine w_const rfl ?_
  refine w_invV (rest := []) rfl rfl rfl rfl rfl (Nat.le_of_ble_eq_true rfl) rfl (by omega) (s_hasSign_1 (K := K) a3 b N 60 ha3 (P1.1.T)) (fun v7 h9 hq8 => ?_)
  obtain ⟨a9, rfl, ha9, fa9, x10, rfl, px10⟩ := hq8
  show f_wp _ (18, [some (.inr (.inr (some 0))), some (.inl e), some (.inl x6)], [.inl x10], mH a9 b) _
  have P2 := PS.tok P1.1 fa9.1 fa9.2.1 (fun z => by rw [← fa9.2.2.1]; exact z)
  have s2 := px10
  have k2 := P2.2.2.2.2
  have g2 := P2.2.2.2.1
  have j2 := P2.1.2.1
  have c2 := P2.1.2.2.2.1
  refine w_if_ne rfl (fun c11 => ?_) (fun c11 => ?_)
  · skip
    refine w_aload rfl rfl ?_
    refine w_const rfl ?_
    refine w_invV (rest := []) rfl rfl rfl rfl rfl (Nat.le_of_ble_eq_true rfl) rfl (by omega) (s_hasSign_1 (K := K) a9 b N 61 ha9 (P2.1.T)) (fun v12 h9 hq13 => ?_)
    obtain ⟨a14, rfl, ha14, fa14, x15, rfl, px15⟩ := hq13
    show f_wp _ (27, [some (.inr (.inr (some 0))), some (.inl e), some (.inl x6)], [.inl x15], mH a14 b) _
    have P3 := PS.tok P2.1 fa14.1 fa14.2.1 (fun z => by rw [← fa14.2.2.1]; exact z)
    have s3 := px15
    have k3 := P3.2.2.2.2
    have g3 := P3.2.2.2.1
    have j3 := P3.1.2.1
    have c3 := P3.1.2.2.2.1
    refine w_if_eq rfl (fun c16 => ?_) (fun c16 => ?_)
    · skip
      exact w_ret rfl ⟨a14, rfl, ha14, ⟨FR.tr (FR.tr (FR.tr (FR.rf) (FR.sub fa3.1 (by decide))) (FR.sub fa9.1 (by decide))) (FR.sub fa14.1 (by decide)), ⟨P3.1, ((P1.2.tr P2.2).tr P3.2).le (by omega)⟩⟩, rfl⟩
    · skip
      refine w_aload rfl rfl ?_
      refine w_iload rfl rfl ?_
      refine w_invV (rest := []) rfl rfl rfl rfl rfl (Nat.le_of_ble_eq_true rfl) rfl (by omega) (hX _ a14 b ha14 P3.1) (fun v17 h9 hq18 => ?_)
      obtain ⟨a19, rfl, ha19, fa19, rfl⟩ := hq18
      show f_wp _ (35, [some (.inr (.inr (some 0))), some (.inl e), some (.inl x6)], [], mH a19 b) _
      have P5 := fa19.2
      have k5 := P5.2.2.2.2
      have g5 := P5.2.2.2.1
      have j5 := P5.1.2.1
      have c5 := P5.1.2.2.2.1
      refine w_aload rfl rfl ?_
      refine w_iload rfl rfl ?_
      refine w_if_eq rfl (fun c20 => ?_) (fun c20 => ?_)
      · skip
        refine w_const rfl ?_
        refine w_const rfl ?_
        refine w_invV (rest := []) rfl rfl rfl rfl rfl (Nat.le_of_ble_eq_true rfl) rfl (by omega) (s_emit_1 (K := K) a19 b  8 0 ha19 (by omega) (by omega)) (fun v21 h9 hq22 => ?_)
        obtain ⟨a23, rfl, ha23, fa23, rfl⟩ := hq22
        show f_wp _ (51, [some (.inr (.inr (some 0))), some (.inl e), some (.inl x6)], [], mH a23 b) _
        have P6 := PS.emit (k := h + 1) P5.1 fa23.1 fa23.2 (by omega) (fun _ => hgs_bin (by omega))
        have k6 := P6.2.2.2.2
        have g6 := P6.2.2.2.1
        have j6 := P6.1.2.1
        have c6 := P6.1.2.2.2.1
        exact w_ret rfl ⟨a23, rfl, ha23, ⟨FR.tr (FR.tr (FR.tr (FR.tr (FR.tr (FR.rf) (FR.sub fa3.1 (by decide))) (FR.sub fa9.1 (by decide))) (FR.sub fa14.1 (by decide))) (FR.sub fa19.1 (by decide))) (FR.sub fa23.1 (by decide)), ⟨P6.1, (((P1.2.tr P2.2).tr P3.2).tr (P5.2.tr P6.2)).le (by omega)⟩⟩, rfl⟩
      · skip
        refine w_const rfl ?_
        refine w_goto rfl ?_
        refine w_const rfl ?_
        refine w_invV (rest := []) rfl rfl rfl rfl rfl (Nat.le_of_ble_eq_true rfl) rfl (by omega) (s_emit_1 (K := K) a19 b  7 0 ha19 (by omega) (by omega)) (fun v24 h9 hq25 => ?_)
        obtain ⟨a26, rfl, ha26, fa26, rfl⟩ := hq25
        show f_wp _ (51, [some (.inr (.inr (some 0))), some (.inl e), some (.inl x6)], [], mH a26 b) _
        have P6 := PS.emit (k := h + 1) P5.1 fa26.1 fa26.2 (by omega) (fun _ => hgs_bin (by omega))
        have k6 := P6.2.2.2.2
        have g6 := P6.2.2.2.1
        have j6 := P6.1.2.1
        have c6 := P6.1.2.2.2.1
        exact w_ret rfl ⟨a26, rfl, ha26, ⟨FR.tr (FR.tr (FR.tr (FR.tr (FR.tr (FR.rf) (FR.sub fa3.1 (by decide))) (FR.sub fa9.1 (by decide))) (FR.sub fa14.1 (by decide))) (FR.sub fa19.1 (by decide))) (FR.sub fa26.1 (by decide)), ⟨P6.1, (((P1.2.tr P2.2).tr P3.2).tr (P5.2.tr P6.2)).le (by omega)⟩⟩, rfl⟩
  · skip
    refine w_aload rfl rfl ?_
    refine w_iload rfl rfl ?_
    refine w_invV (rest := []) rfl rfl rfl rfl rfl (Nat.le_of_ble_eq_true rfl) rfl (by omega) (hX _ a9 b ha9 P2.1) (fun v27 h9 hq28 => ?_)
    obtain ⟨a29, rfl, ha29, fa29, rfl⟩ := hq28
    show f_wp _ (35, [some (.inr (.inr (some 0))), some (.inl e), some (.inl x6)], [], mH a29 b) _
    have P5 := fa29.2
    have k5 := P5.2.2.2.2
    have g5 := P5.2.2.2.1
    have j5 := P5.1.2.1
    have c5 := P5.1.2.2.2.1
    refine w_aload rfl rfl ?_
    refine w_iload rfl rfl ?_
    refine w_if_eq rfl (fun c30 => ?_) (fun c30 => ?_)
    · skip
      refine w_const rfl ?_
      refine w_const rfl ?_
      refine w_invV (rest := []) rfl rfl rfl rfl rfl (Nat.le_of_ble_eq_true rfl) rfl (by omega) (s_emit_1 (K := K) a29 b  8 0 ha29 (by omega) (by omega)) (fun v31 h9 hq32 => ?_)
      obtain ⟨a33, rfl, ha33, fa33, rfl⟩ := hq32
      show f_wp _ (51, [some (.inr (.inr (some 0))), some (.inl e), some (.inl x6)], [], mH a33 b) _
      have P6 := PS.emit (k := h + 1) P5.1 fa33.1 fa33.2 (by omega) (fun _ => hgs_bin (by omega))
      have k6 := P6.2.2.2.2
      have g6 := P6.2.2.2.1
      have j6 := P6.1.2.1
      have c6 := P6.1.2.2.2.1
      exact w_ret rfl ⟨a33, rfl, ha33, ⟨FR.tr (FR.tr (FR.tr (FR.tr (FR.rf) (FR.sub fa3.1 (by decide))) (FR.sub fa9.1 (by decide))) (FR.sub fa29.1 (by decide))) (FR.sub fa33.1 (by decide)), ⟨P6.1, ((P1.2.tr P2.2).tr (P5.2.tr P6.2)).le (by omega)⟩⟩, rfl⟩
    · skip
      refine w_const rfl ?_
      refine w_goto rfl ?_
      refine w_const rfl ?_
      refine w_invV (rest := []) rfl rfl rfl rfl rfl (Nat.le_of_ble_eq_true rfl) rfl (by omega) (s_emit_1 (K := K) a29 b  7 0 ha29 (by omega) (by omega)) (fun v34 h9 hq35 => ?_)
      obtain ⟨a36, rfl, ha36, fa36, rfl⟩ := hq35
      show f_wp _ (51, [some (.inr (.inr (some 0))), some (.inl e), some (.inl x6)], [], mH a36 b) _
      have P6 := PS.emit (k := h + 1) P5.1 fa36.1 fa36.2 (by omega) (fun _ => hgs_bin (by omega))
      have k6 := P6.2.2.2.2
      have g6 := P6.2.2.2.1
      have j6 := P6.1.2.1
      have c6 := P6.1.2.2.2.1
      exact w_ret rfl ⟨a36, rfl, ha36, ⟨FR.tr (FR.tr (FR.tr (FR.tr (FR.rf) (FR.sub fa3.1 (by decide))) (FR.sub fa9.1 (by decide))) (FR.sub fa29.1 (by decide))) (FR.sub fa36.1 (by decide)), ⟨P6.1, ((P1.2.tr P2.2).tr (P5.2.tr P6.2)).le (by omega)⟩⟩, rfl⟩
set_option maxRecDepth 4000 in
theorem s_all_r {K N s c : Nat} {e : Int32} (hc : 4 ≤ c) (hX : TPH K N s 31 c e) : TPH K N s 30 (c + 1) e := by
  intro h a b hR hP
  refine f_call_of (d0 := c) rfl (Nat.le_of_ble_eq_true rfl) (fun d hd => ?_)
  show f_wp _ (0, [some (.inr (.inr (some 0))), some (.inl e), none], [], mH a b) _
  have l0 : (0 : Int32).toInt = 0 := rfl
  have l1 : (1 : Int32).toInt = 1 := rfl
  have l9 : (9 : Int32).toInt = 9 := rfl
  have l10 : (10 : Int32).toInt = 10 := rfl
  have l25 : (25 : Int32).toInt = 25 := rfl
  have l26 : (26 : Int32).toInt = 26 := rfl
  have z7 : 0 ≤ (a 0 7).toInt ∧ (a 0 7).toInt ≤ 1000 := hR 0 7
  have z8 : 0 ≤ (a 0 8).toInt ∧ (a 0 8).toInt ≤ 2147483647 := hR 0 8
  have pp1 := hP.1
  have pp2 := hP.2.1
  have pp4 := hP.2.2.2.1
  have pp5 := hP.2.2.2.2.1
  refine w_aload rfl rfl ?_
  refine w_iload rfl rfl ?_
  refine w_invV (rest := []) rfl rfl rfl rfl rfl (Nat.le_of_ble_eq_true rfl) rfl (by omega) (hX _ a b hR hP) (fun v1 h9 hq2 => ?_)
  obtain ⟨a3, rfl, ha3, fa3, rfl⟩ := hq2
  show f_wp _ (5, [some (.inr (.inr (some 0))), some (.inl e), none], [], mH a3 b) _
  have P1 := fa3.2
  have loop5 : ∀ (ms9 : Nat)  (a5 : Nat → Nat → Int32) (o2_5 : Option f_V), ((N : Int) - (a5 0 7).toInt).toNat = ms9 → RM K a5 → FR [0, 7, 8] a a5 → (PS a5 N s (h + 1)) → (KP s 0 a a5) → f_wp (f_code (t_X13_all (f_ev mtM d))) (5, [some (.inr (.inr (some 0))), some (.inl e), o2_5], [], mH a5 b) (fun v9 h' => ∃ (a' : Nat → Nat → Int32), h' = mH a' b ∧ RM K a' ∧ (FR [0, 7, 8] a a' ∧ (PS a' N s (h + 1) ∧ KP s 0 a a')) ∧ v9 = none) := by
    intro ms9
    induction ms9 using Nat.strongRecOn with
    | _ ms5 ih5 =>
      intro  a5 o2_5 hm5 hR5 hF5 hP5 hK5
      have m1 := hP5.1
      have m2 := hP5.2.1
      have m4 := hP5.2.2.2.1
      have m5 := hP5.2.2.2.2.1
      refine w_aload rfl rfl ?_
      refine w_const rfl ?_
      refine w_invV (rest := []) rfl rfl rfl rfl rfl (Nat.le_of_ble_eq_true rfl) rfl (by omega) (s_isWord_1 (K := K) a5 b  25 hR5 (by omega)) (fun v4 h9 hq5 => ?_)
      obtain ⟨rfl, x6, rfl, px6⟩ := hq5
      show f_wp _ (11, [some (.inr (.inr (some 0))), some (.inl e), o2_5], [.inl x6], mH a5 b) _
      have s1 := px6
      refine w_if_ne rfl (fun c7 => ?_) (fun c7 => ?_)
      · skip
        refine w_aload rfl rfl ?_
        refine w_const rfl ?_
        refine w_invV (rest := []) rfl rfl rfl rfl rfl (Nat.le_of_ble_eq_true rfl) rfl (by omega) (s_isWord_1 (K := K) a5 b  26 hR5 (by omega)) (fun v8 h9 hq9 => ?_)
        obtain ⟨rfl, x10, rfl, px10⟩ := hq9
        show f_wp _ (20, [some (.inr (.inr (some 0))), some (.inl e), o2_5], [.inl x10], mH a5 b) _
        have s2 := px10
        refine w_if_eq rfl (fun c11 => ?_) (fun c11 => ?_)
        · skip
          exact w_ret rfl ⟨a5, rfl, hR5, ⟨hF5, ⟨hP5, hK5⟩⟩, rfl⟩
        · skip
          refine w_aload rfl rfl ?_
          refine w_const rfl ?_
          refine w_invV (rest := []) rfl rfl rfl rfl rfl (Nat.le_of_ble_eq_true rfl) rfl (by omega) (s_isWord_1 (K := K) a5 b  25 hR5 (by omega)) (fun v12 h9 hq13 => ?_)
          obtain ⟨rfl, x14, rfl, px14⟩ := hq13
          show f_wp _ (29, [some (.inr (.inr (some 0))), some (.inl e), o2_5], [.inl x14], mH a5 b) _
          refine w_istore (lo' := [some (.inr (.inr (some 0))), some (.inl e), some (.inl x14)]) rfl rfl ?_
          refine w_aload rfl rfl ?_
          refine w_dup rfl rfl ?_
          refine w_getI (v := .inl (a5 0 7)) rfl rfl rfl rfl rfl ?_
          have q15 : 0 ≤ (a5 0 7).toInt ∧ (a5 0 7).toInt ≤ 1000 := hR5 0 7
          have y9 : (a5 0 7).toInt < N := TK.lt hP5.T (show (0 : Int) ≤ _ from (hR5 0 7).1) (by first | (have i9 := (s1.resolve_right (by omega)).2.2.1; omega) | (have i9 := (s2.resolve_right (by omega)).2.2.1; omega))
          refine w_const rfl ?_
          first | refine w_iadd rfl (by omega) (fun x16 tx16 => ?_) | refine w_iiU rfl (fun x16 tx16 => ?_)
          refine m_putI (z := false) rfl rfl rfl rfl (by first | (intro h9; cases h9; done) | (intro _; first | exact Or.inl rfl | exact Or.inr rfl | assumption)) (fun a17 ea17 => ?_)
          have ha17 : RM K a17 := RM.up hR5 ea17 (show (0 : Int) ≤ _ ∧ _ ≤ (1000 : Int) from by omega)
          have ua17_7 : a17 0 7 = x16 := by rw [ea17, mU_same]
          have wa17_7 := congrArg Int32.toInt ua17_7
          have P2 := PS.up hP5 ea17 (by omega) y9
          have k2 := P2.2.2.2.2
          have g2 := P2.2.2.2.1
          have j2 := P2.1.2.1
          have c2 := P2.1.2.2.2.1
          refine w_aload rfl rfl ?_
          refine w_iload rfl rfl ?_
          refine w_invV (rest := []) rfl rfl rfl rfl rfl (Nat.le_of_ble_eq_true rfl) rfl (by omega) (hX _ a17 b ha17 P2.1) (fun v18 h9 hq19 => ?_)
          obtain ⟨a20, rfl, ha20, fa20, rfl⟩ := hq19
          show f_wp _ (45, [some (.inr (.inr (some 0))), some (.inl e), some (.inl x14)], [], mH a20 b) _
          have P3 := fa20.2
          have k3 := P3.2.2.2.2
          have g3 := P3.2.2.2.1
          have j3 := P3.1.2.1
          have c3 := P3.1.2.2.2.1
          refine w_aload rfl rfl ?_
          refine w_iload rfl rfl ?_
          refine w_if_eq rfl (fun c21 => ?_) (fun c21 => ?_)
          · skip
            refine w_const rfl ?_
            refine w_const rfl ?_
            refine w_invV (rest := []) rfl rfl rfl rfl rfl (Nat.le_of_ble_eq_true rfl) rfl (by omega) (s_emit_1 (K := K) a20 b  10 0 ha20 (by omega) (by omega)) (fun v22 h9 hq23 => ?_)
            obtain ⟨a24, rfl, ha24, fa24, rfl⟩ := hq23
            show f_wp _ (61, [some (.inr (.inr (some 0))), some (.inl e), some (.inl x14)], [], mH a24 b) _
            have P4 := PS.emit (k := h + 1) P3.1 fa24.1 fa24.2 (by omega) (fun _ => hgs_bin (by omega))
            have k4 := P4.2.2.2.2
            have g4 := P4.2.2.2.1
            have j4 := P4.1.2.1
            have c4 := P4.1.2.2.2.1
            refine w_goto rfl ?_
            exact ih5 ((N : Int) - (a24 0 7).toInt).toNat (by omega) a24 (some (.inl x14)) rfl ha24 (FR.tr (FR.tr (FR.up (hF5) (by decide) ea17) (FR.sub fa20.1 (by decide))) (FR.sub fa24.1 (by decide))) (P4.1) ((hK5.tr (P2.2.tr (P3.2.tr P4.2))).le (by omega))
          · skip
            refine w_const rfl ?_
            refine w_goto rfl ?_
            refine w_const rfl ?_
            refine w_invV (rest := []) rfl rfl rfl rfl rfl (Nat.le_of_ble_eq_true rfl) rfl (by omega) (s_emit_1 (K := K) a20 b  9 0 ha20 (by omega) (by omega)) (fun v25 h9 hq26 => ?_)
            obtain ⟨a27, rfl, ha27, fa27, rfl⟩ := hq26
            show f_wp _ (61, [some (.inr (.inr (some 0))), some (.inl e), some (.inl x14)], [], mH a27 b) _
            have P4 := PS.emit (k := h + 1) P3.1 fa27.1 fa27.2 (by omega) (fun _ => hgs_bin (by omega))
            have k4 := P4.2.2.2.2
            have g4 := P4.2.2.2.1
            have j4 := P4.1.2.1
            have c4 := P4.1.2.2.2.1
            refine w_goto rfl ?_
            exact ih5 ((N : Int) - (a27 0 7).toInt).toNat (by omega) a27 (some (.inl x14)) rfl ha27 (FR.tr (FR.tr (FR.up (hF5) (by decide) ea17) (FR.sub fa20.1 (by decide))) (FR.sub fa27.1 (by decide))) (P4.1) ((hK5.tr (P2.2.tr (P3.2.tr P4.2))).le (by omega))
      · skip
        refine w_aload rfl rfl ?_
        refine w_const rfl ?_
        refine w_invV (rest := []) rfl rfl rfl rfl rfl (Nat.le_of_ble_eq_true rfl) rfl (by omega) (s_isWord_1 (K := K) a5 b  25 hR5 (by omega)) (fun v28 h9 hq29 => ?_)
        obtain ⟨rfl, x30, rfl, px30⟩ := hq29
        show f_wp _ (29, [some (.inr (.inr (some 0))), some (.inl e), o2_5], [.inl x30], mH a5 b) _
        refine w_istore (lo' := [some (.inr (.inr (some 0))), some (.inl e), some (.inl x30)]) rfl rfl ?_
        refine w_aload rfl rfl ?_
        refine w_dup rfl rfl ?_
        refine w_getI (v := .inl (a5 0 7)) rfl rfl rfl rfl rfl ?_
        have q31 : 0 ≤ (a5 0 7).toInt ∧ (a5 0 7).toInt ≤ 1000 := hR5 0 7
        have y9 : (a5 0 7).toInt < N := TK.lt hP5.T (show (0 : Int) ≤ _ from (hR5 0 7).1) (by first | (have i9 := (s1.resolve_right (by omega)).2.2.1; omega) | (have i9 := (s2.resolve_right (by omega)).2.2.1; omega))
        refine w_const rfl ?_
        first | refine w_iadd rfl (by omega) (fun x32 tx32 => ?_) | refine w_iiU rfl (fun x32 tx32 => ?_)
        refine m_putI (z := false) rfl rfl rfl rfl (by first | (intro h9; cases h9; done) | (intro _; first | exact Or.inl rfl | exact Or.inr rfl | assumption)) (fun a33 ea33 => ?_)
        have ha33 : RM K a33 := RM.up hR5 ea33 (show (0 : Int) ≤ _ ∧ _ ≤ (1000 : Int) from by omega)
        have ua33_7 : a33 0 7 = x32 := by rw [ea33, mU_same]
        have wa33_7 := congrArg Int32.toInt ua33_7
        have P2 := PS.up hP5 ea33 (by omega) y9
        have k2 := P2.2.2.2.2
        have g2 := P2.2.2.2.1
        have j2 := P2.1.2.1
        have c2 := P2.1.2.2.2.1
        refine w_aload rfl rfl ?_
        refine w_iload rfl rfl ?_
        refine w_invV (rest := []) rfl rfl rfl rfl rfl (Nat.le_of_ble_eq_true rfl) rfl (by omega) (hX _ a33 b ha33 P2.1) (fun v34 h9 hq35 => ?_)
        obtain ⟨a36, rfl, ha36, fa36, rfl⟩ := hq35
        show f_wp _ (45, [some (.inr (.inr (some 0))), some (.inl e), some (.inl x30)], [], mH a36 b) _
        have P3 := fa36.2
        have k3 := P3.2.2.2.2
        have g3 := P3.2.2.2.1
        have j3 := P3.1.2.1
        have c3 := P3.1.2.2.2.1
        refine w_aload rfl rfl ?_
        refine w_iload rfl rfl ?_
        refine w_if_eq rfl (fun c37 => ?_) (fun c37 => ?_)
        · skip
          refine w_const rfl ?_
          refine w_const rfl ?_
          refine w_invV (rest := []) rfl rfl rfl rfl rfl (Nat.le_of_ble_eq_true rfl) rfl (by omega) (s_emit_1 (K := K) a36 b  10 0 ha36 (by omega) (by omega)) (fun v38 h9 hq39 => ?_)
          obtain ⟨a40, rfl, ha40, fa40, rfl⟩ := hq39
          show f_wp _ (61, [some (.inr (.inr (some 0))), some (.inl e), some (.inl x30)], [], mH a40 b) _
          have P4 := PS.emit (k := h + 1) P3.1 fa40.1 fa40.2 (by omega) (fun _ => hgs_bin (by omega))
          have k4 := P4.2.2.2.2
          have g4 := P4.2.2.2.1
          have j4 := P4.1.2.1
          have c4 := P4.1.2.2.2.1
          refine w_goto rfl ?_
          exact ih5 ((N : Int) - (a40 0 7).toInt).toNat (by omega) a40 (some (.inl x30)) rfl ha40 (FR.tr (FR.tr (FR.up (hF5) (by decide) ea33) (FR.sub fa36.1 (by decide))) (FR.sub fa40.1 (by decide))) (P4.1) ((hK5.tr (P2.2.tr (P3.2.tr P4.2))).le (by omega))
        · skip
          refine w_const rfl ?_
          refine w_goto rfl ?_
          refine w_const rfl ?_
          refine w_invV (rest := []) rfl rfl rfl rfl rfl (Nat.le_of_ble_eq_true rfl) rfl (by omega) (s_emit_1 (K := K) a36 b  9 0 ha36 (by omega) (by omega)) (fun v41 h9 hq42 => ?_)
          obtain ⟨a43, rfl, ha43, fa43, rfl⟩ := hq42
          show f_wp _ (61, [some (.inr (.inr (some 0))), some (.inl e), some (.inl x30)], [], mH a43 b) _
          have P4 := PS.emit (k := h + 1) P3.1 fa43.1 fa43.2 (by omega) (fun _ => hgs_bin (by omega))
          have k4 := P4.2.2.2.2
          have g4 := P4.2.2.2.1
          have j4 := P4.1.2.1
          have c4 := P4.1.2.2.2.1
          refine w_goto rfl ?_
          exact ih5 ((N : Int) - (a43 0 7).toInt).toNat (by omega) a43 (some (.inl x30)) rfl ha43 (FR.tr (FR.tr (FR.up (hF5) (by decide) ea33) (FR.sub fa36.1 (by decide))) (FR.sub fa43.1 (by decide))) (P4.1) ((hK5.tr (P2.2.tr (P3.2.tr P4.2))).le (by omega))
  exact loop5 _ a3 none rfl ha3 (FR.tr (FR.rf) (FR.sub fa3.1 (by decide))) (P1.1) (P1.2)
set_option maxRecDepth 4000 in
theorem s_takePart_r {K N s c : Nat} {e : Int32} (he : 0 ≤ e.toInt ∧ e.toInt ≤ 5) (hc : 4 ≤ c) (ihT : ∀ e1 : Int32, e.toInt < 5 → e1.toInt = e.toInt + 1 → TPH K N s 34 c e1) (ihA : ∀ e1 : Int32, e.toInt < 5 → e1.toInt = e.toInt + 1 → TPH K N s 30 c e1) : TPH K N s 34 (c + 1) e := by
  intro h a b hR hP
  refine f_call_of (d0 := c) rfl (Nat.le_of_ble_eq_true rfl) (fun d hd => ?_)
  show f_wp _ (0, [some (.inr (.inr (some 0))), some (.inl e), none, none], [], mH a b) _
  have l0 : (0 : Int32).toInt = 0 := rfl
  have l1 : (1 : Int32).toInt = 1 := rfl
  have l2 : (2 : Int32).toInt = 2 := rfl
  have l3 : (3 : Int32).toInt = 3 := rfl
  have l5 : (5 : Int32).toInt = 5 := rfl
  have l24 : (24 : Int32).toInt = 24 := rfl
  have l27 : (27 : Int32).toInt = 27 := rfl
  have l40 : (40 : Int32).toInt = 40 := rfl
  have l41 : (41 : Int32).toInt = 41 := rfl
  have z7 : 0 ≤ (a 0 7).toInt ∧ (a 0 7).toInt ≤ 1000 := hR 0 7
  have z8 : 0 ≤ (a 0 8).toInt ∧ (a 0 8).toInt ≤ 2147483647 := hR 0 8
  have pp1 := hP.1
  have pp2 := hP.2.1
  have pp4 := hP.2.2.2.1
  have pp5 := hP.2.2.2.2.1
  refine w_aload rfl rfl ?_
  refine w_getI (v := .inl (a 0 8)) rfl rfl rfl rfl rfl ?_
  have q1 : 0 ≤ (a 0 8).toInt ∧ (a 0 8).toInt ≤ 2147483647 := hR 0 8
  refine w_if_le rfl (fun c2 => ?_) (fun c2 => ?_)
  · skip
    refine w_aload rfl rfl ?_
    refine w_getR (v := .inr (.inr (some 2))) rfl rfl rfl rfl rfl ?_
    refine w_aload rfl rfl ?_
    refine w_getI (v := .inl (a 0 7)) rfl rfl rfl rfl rfl ?_
    have q3 : 0 ≤ (a 0 7).toInt ∧ (a 0 7).toInt ≤ 1000 := hR 0 7
    refine m_iald rfl rfl (by omega) (fun x4 ex4 => ?_)
    have qx4 : 0 ≤ x4.toInt ∧ x4.toInt ≤ 4 := by rw [ex4]; exact hR 2 _
    have e9 := congrArg Int32.toInt ex4
    refine w_const rfl ?_
    refine w_ic_ne rfl (fun c5 => ?_) (fun c5 => ?_)
    · skip
      refine w_const rfl ?_
      refine w_goto rfl ?_
      refine w_istore (lo' := [some (.inr (.inr (some 0))), some (.inl e), some (.inl 1), none]) rfl rfl ?_
      refine w_aload rfl rfl ?_
      refine w_const rfl ?_
      refine w_aload rfl rfl ?_
      refine w_getI (v := .inl (a 0 16)) rfl rfl rfl rfl rfl ?_
      have q6 : 0 ≤ (a 0 16).toInt ∧ (a 0 16).toInt ≤ 4 := hR 0 16
      refine w_invV (rest := []) rfl rfl rfl rfl rfl (Nat.le_of_ble_eq_true rfl) rfl (by omega) (s_wordHere (K := K) a b  27 (a 0 16) hR (by omega)) (fun v7 h9 hq8 => ?_)
      obtain ⟨rfl, x9, rfl, px9⟩ := hq8
      show f_wp _ (37, [some (.inr (.inr (some 0))), some (.inl e), some (.inl 1), none], [.inl x9], mH a b) _
      have w9 := px9
      refine w_istore (lo' := [some (.inr (.inr (some 0))), some (.inl e), some (.inl 1), some (.inl x9)]) rfl rfl ?_
      refine w_iload rfl rfl ?_
      refine w_if_ge rfl (fun c10 => ?_) (fun c10 => ?_)
      · skip
        refine w_iload rfl rfl ?_
        refine w_const rfl ?_
        refine w_ic_ne rfl (fun c11 => ?_) (fun c11 => ?_)
        · skip
          refine w_aload rfl rfl ?_
          refine w_const rfl ?_
          refine w_invV (rest := []) rfl rfl rfl rfl rfl (Nat.le_of_ble_eq_true rfl) rfl (by omega) (s_wrong (K := K) a b  5 hR (by omega)) (fun v12 h9 hq13 => ?_)
          obtain ⟨a14, rfl, ha14, fa14, rfl⟩ := hq13
          show f_wp _ (82, [some (.inr (.inr (some 0))), some (.inl e), some (.inl 1), some (.inl x9)], [], mH a14 b) _
          have Pw := PS.wrong (k := h + 1) hP fa14.1 fa14.2.1 fa14.2.2
          have wg := fa14.2.2
          refine w_aload rfl rfl ?_
          refine w_getI (v := .inl (a14 0 8)) rfl rfl rfl rfl rfl ?_
          have q15 : 0 ≤ (a14 0 8).toInt ∧ (a14 0 8).toInt ≤ 2147483647 := ha14 0 8
          refine w_if_le rfl (fun c16 => ?_) (fun c16 => ?_)
          · exfalso; omega
          · skip
            exact w_ret rfl ⟨a14, rfl, ha14, ⟨FR.tr (FR.rf) (FR.sub fa14.1 (by decide)), Pw⟩, rfl⟩
        · skip
          refine w_aload rfl rfl ?_
          refine w_getI (v := .inl (a 0 8)) rfl rfl rfl rfl rfl ?_
          have q17 : 0 ≤ (a 0 8).toInt ∧ (a 0 8).toInt ≤ 2147483647 := hR 0 8
          refine w_if_le rfl (fun c18 => ?_) (fun c18 => ?_)
          · skip
            refine w_aload rfl rfl ?_
            refine w_const rfl ?_
            refine w_invV (rest := []) rfl rfl rfl rfl rfl (Nat.le_of_ble_eq_true rfl) rfl (by omega) (s_hasWord_1 (K := K) a b N 24 hR (by omega) (hP.T)) (fun v19 h9 hq20 => ?_)
            obtain ⟨a21, rfl, ha21, fa21, x22, rfl, px22⟩ := hq20
            show f_wp _ (96, [some (.inr (.inr (some 0))), some (.inl e), some (.inl 1), some (.inl x9)], [.inl x22], mH a21 b) _
            have Q1 := PS.tok hP fa21.1 fa21.2.1 (fun z => by rw [← fa21.2.2.1]; exact z)
            have u8 := px22
            have k1 := Q1.2.2.2.2
            have g1 := Q1.2.2.2.1
            have j1 := Q1.1.2.1
            have c1 := Q1.1.2.2.2.1
            refine w_if_eq rfl (fun c23 => ?_) (fun c23 => ?_)
            · skip
              have nW : ¬ iW a b 24 := (u8.resolve_left (by omega)).2.2
              refine w_aload rfl rfl ?_
              refine w_const rfl ?_
              refine w_invV (rest := []) rfl rfl rfl rfl rfl (Nat.le_of_ble_eq_true rfl) rfl (by omega) (s_hasSign_1 (K := K) a21 b N 40 ha21 (Q1.1.T)) (fun v24 h9 hq25 => ?_)
              obtain ⟨a26, rfl, ha26, fa26, x27, rfl, px27⟩ := hq25
              show f_wp _ (121, [some (.inr (.inr (some 0))), some (.inl e), some (.inl 1), some (.inl x9)], [.inl x27], mH a26 b) _
              have Q4 := PS.tok Q1.1 fa26.1 fa26.2.1 (fun z => by rw [← fa26.2.2.1]; exact z)
              have s8 := px27
              have k4 := Q4.2.2.2.2
              have g4 := Q4.2.2.2.1
              have j4 := Q4.1.2.1
              have c4 := Q4.1.2.2.2.1
              refine w_if_eq rfl (fun c28 => ?_) (fun c28 => ?_)
              · skip
                have nS : ¬ iS a b 40 := fun z => (s8.resolve_left (by omega)).2.2 ((iS.same (by rw [fa21.2.2.1]) (by omega) (fa21.1 2 (by decide))).mpr z)
                have G9 : 0 ≤ x9.toInt ∨ (1 : Int32).toInt = 1 := by first | (left; omega) | (right; omega) | exact absurd (s9.resolve_right (by omega)).2 nS | exact absurd (u9.resolve_right (by omega)).2 nW
                have y9 : (a 0 7).toInt < N := TK.lt hP.T z7.1 (by omega)
                have d13 : (a26 0 13).toInt = (a 0 13).toInt := by rw [fa26.2.1.1 13 (by decide) (by decide), fa21.2.1.1 13 (by decide) (by decide)]
                have d7 : (a26 0 7).toInt = (a 0 7).toInt := by omega
                refine w_aload rfl rfl ?_
                refine w_iload rfl rfl ?_
                refine w_if_eq rfl (fun c29 => ?_) (fun c29 => ?_)
                · skip
                  refine w_const rfl ?_
                  refine w_iload rfl rfl ?_
                  refine w_if_eq rfl (fun c30 => ?_) (fun c30 => ?_)
                  · skip
                    refine w_iload rfl rfl ?_
                    refine w_invV (rest := []) rfl rfl rfl rfl rfl (Nat.le_of_ble_eq_true rfl) rfl (by omega) (s_emit_1 (K := K) a26 b  2 x9 ha26 (by omega) (by omega)) (fun v31 h9 hq32 => ?_)
                    obtain ⟨a33, rfl, ha33, fa33, rfl⟩ := hq32
                    show f_wp _ (171, [some (.inr (.inr (some 0))), some (.inl e), some (.inl 1), some (.inl x9)], [], mH a33 b) _
                    have d8 : (a33 0 7).toInt = (a 0 7).toInt := by rw [fa33.2.1 7 (by decide)]; omega
                    refine w_aload rfl rfl ?_
                    refine w_dup rfl rfl ?_
                    refine w_getI (v := .inl (a33 0 7)) rfl rfl rfl rfl rfl ?_
                    have q34 : 0 ≤ (a33 0 7).toInt ∧ (a33 0 7).toInt ≤ 1000 := ha33 0 7
                    refine w_const rfl ?_
                    first | refine w_iadd rfl (by omega) (fun x35 tx35 => ?_) | refine w_iiU rfl (fun x35 tx35 => ?_)
                    refine m_putI (z := false) rfl rfl rfl rfl (by first | (intro h9; cases h9; done) | (intro _; first | exact Or.inl rfl | exact Or.inr rfl | assumption)) (fun a36 ea36 => ?_)
                    have ha36 : RM K a36 := RM.up ha33 ea36 (show (0 : Int) ≤ _ ∧ _ ≤ (1000 : Int) from by omega)
                    have ua36_7 : a36 0 7 = x35 := by rw [ea36, mU_same]
                    have wa36_7 := congrArg Int32.toInt ua36_7
                    have ua36_8 : (a36 0 8).toInt = (a33 0 8).toInt := by rw [ea36, mU_slot (by decide)]
                    have ua36_16 : (a36 0 16).toInt = (a33 0 16).toInt := by rw [ea36, mU_slot (by decide)]
                    have Q7 := PS.lit (k := h + 1) Q4.1 fa33.1 fa33.2 ea36 (by omega) (by omega) (fun _ => hgs_lit (by omega))
                    exact w_ret rfl ⟨a36, rfl, ha36, ⟨FR.up (FR.tr (FR.tr (FR.tr (FR.rf) (FR.sub fa21.1 (by decide))) (FR.sub fa26.1 (by decide))) (FR.sub fa33.1 (by decide))) (by decide) ea36, ⟨Q7.1, ((Q1.2.tr Q4.2).tr Q7.2).le (by omega)⟩⟩, rfl⟩
                  · skip
                    refine w_aload rfl rfl ?_
                    refine w_getR (v := .inr (.inr (some 4))) rfl rfl rfl rfl rfl ?_
                    refine w_aload rfl rfl ?_
                    refine w_getI (v := .inl (a26 0 7)) rfl rfl rfl rfl rfl ?_
                    have q37 : 0 ≤ (a26 0 7).toInt ∧ (a26 0 7).toInt ≤ 1000 := ha26 0 7
                    refine m_lald rfl rfl (by omega) (fun y38 ey38 => ?_)
                    refine w_l2iE rfl (fun x39 tx39 => ?_)
                    refine w_goto rfl ?_
                    refine w_invV (rest := []) rfl rfl rfl rfl rfl (Nat.le_of_ble_eq_true rfl) rfl (by omega) (s_emit_1 (K := K) a26 b  2 x39 ha26 (by omega) (by omega)) (fun v40 h9 hq41 => ?_)
                    obtain ⟨a42, rfl, ha42, fa42, rfl⟩ := hq41
                    show f_wp _ (171, [some (.inr (.inr (some 0))), some (.inl e), some (.inl 1), some (.inl x9)], [], mH a42 b) _
                    have d8 : (a42 0 7).toInt = (a 0 7).toInt := by rw [fa42.2.1 7 (by decide)]; omega
                    refine w_aload rfl rfl ?_
                    refine w_dup rfl rfl ?_
                    refine w_getI (v := .inl (a42 0 7)) rfl rfl rfl rfl rfl ?_
                    have q43 : 0 ≤ (a42 0 7).toInt ∧ (a42 0 7).toInt ≤ 1000 := ha42 0 7
                    refine w_const rfl ?_
                    first | refine w_iadd rfl (by omega) (fun x44 tx44 => ?_) | refine w_iiU rfl (fun x44 tx44 => ?_)
                    refine m_putI (z := false) rfl rfl rfl rfl (by first | (intro h9; cases h9; done) | (intro _; first | exact Or.inl rfl | exact Or.inr rfl | assumption)) (fun a45 ea45 => ?_)
                    have ha45 : RM K a45 := RM.up ha42 ea45 (show (0 : Int) ≤ _ ∧ _ ≤ (1000 : Int) from by omega)
                    have ua45_7 : a45 0 7 = x44 := by rw [ea45, mU_same]
                    have wa45_7 := congrArg Int32.toInt ua45_7
                    have ua45_8 : (a45 0 8).toInt = (a42 0 8).toInt := by rw [ea45, mU_slot (by decide)]
                    have ua45_16 : (a45 0 16).toInt = (a42 0 16).toInt := by rw [ea45, mU_slot (by decide)]
                    have Q7 := PS.lit (k := h + 1) Q4.1 fa42.1 fa42.2 ea45 (by omega) (by omega) (fun _ => hgs_lit (by omega))
                    exact w_ret rfl ⟨a45, rfl, ha45, ⟨FR.up (FR.tr (FR.tr (FR.tr (FR.rf) (FR.sub fa21.1 (by decide))) (FR.sub fa26.1 (by decide))) (FR.sub fa42.1 (by decide))) (by decide) ea45, ⟨Q7.1, ((Q1.2.tr Q4.2).tr Q7.2).le (by omega)⟩⟩, rfl⟩
                · skip
                  refine w_const rfl ?_
                  refine w_goto rfl ?_
                  refine w_iload rfl rfl ?_
                  refine w_if_eq rfl (fun c46 => ?_) (fun c46 => ?_)
                  · skip
                    refine w_iload rfl rfl ?_
                    refine w_invV (rest := []) rfl rfl rfl rfl rfl (Nat.le_of_ble_eq_true rfl) rfl (by omega) (s_emit_1 (K := K) a26 b  1 x9 ha26 (by omega) (by omega)) (fun v47 h9 hq48 => ?_)
                    obtain ⟨a49, rfl, ha49, fa49, rfl⟩ := hq48
                    show f_wp _ (171, [some (.inr (.inr (some 0))), some (.inl e), some (.inl 1), some (.inl x9)], [], mH a49 b) _
                    have d8 : (a49 0 7).toInt = (a 0 7).toInt := by rw [fa49.2.1 7 (by decide)]; omega
                    refine w_aload rfl rfl ?_
                    refine w_dup rfl rfl ?_
                    refine w_getI (v := .inl (a49 0 7)) rfl rfl rfl rfl rfl ?_
                    have q50 : 0 ≤ (a49 0 7).toInt ∧ (a49 0 7).toInt ≤ 1000 := ha49 0 7
                    refine w_const rfl ?_
                    first | refine w_iadd rfl (by omega) (fun x51 tx51 => ?_) | refine w_iiU rfl (fun x51 tx51 => ?_)
                    refine m_putI (z := false) rfl rfl rfl rfl (by first | (intro h9; cases h9; done) | (intro _; first | exact Or.inl rfl | exact Or.inr rfl | assumption)) (fun a52 ea52 => ?_)
                    have ha52 : RM K a52 := RM.up ha49 ea52 (show (0 : Int) ≤ _ ∧ _ ≤ (1000 : Int) from by omega)
                    have ua52_7 : a52 0 7 = x51 := by rw [ea52, mU_same]
                    have wa52_7 := congrArg Int32.toInt ua52_7
                    have ua52_8 : (a52 0 8).toInt = (a49 0 8).toInt := by rw [ea52, mU_slot (by decide)]
                    have ua52_16 : (a52 0 16).toInt = (a49 0 16).toInt := by rw [ea52, mU_slot (by decide)]
                    have Q7 := PS.lit (k := h + 1) Q4.1 fa49.1 fa49.2 ea52 (by omega) (by omega) (fun _ => hgs_lit (by omega))
                    exact w_ret rfl ⟨a52, rfl, ha52, ⟨FR.up (FR.tr (FR.tr (FR.tr (FR.rf) (FR.sub fa21.1 (by decide))) (FR.sub fa26.1 (by decide))) (FR.sub fa49.1 (by decide))) (by decide) ea52, ⟨Q7.1, ((Q1.2.tr Q4.2).tr Q7.2).le (by omega)⟩⟩, rfl⟩
                  · skip
                    refine w_aload rfl rfl ?_
                    refine w_getR (v := .inr (.inr (some 4))) rfl rfl rfl rfl rfl ?_
                    refine w_aload rfl rfl ?_
                    refine w_getI (v := .inl (a26 0 7)) rfl rfl rfl rfl rfl ?_
                    have q53 : 0 ≤ (a26 0 7).toInt ∧ (a26 0 7).toInt ≤ 1000 := ha26 0 7
                    refine m_lald rfl rfl (by omega) (fun y54 ey54 => ?_)
                    refine w_l2iE rfl (fun x55 tx55 => ?_)
                    refine w_goto rfl ?_
                    refine w_invV (rest := []) rfl rfl rfl rfl rfl (Nat.le_of_ble_eq_true rfl) rfl (by omega) (s_emit_1 (K := K) a26 b  1 x55 ha26 (by omega) (by omega)) (fun v56 h9 hq57 => ?_)
                    obtain ⟨a58, rfl, ha58, fa58, rfl⟩ := hq57
                    show f_wp _ (171, [some (.inr (.inr (some 0))), some (.inl e), some (.inl 1), some (.inl x9)], [], mH a58 b) _
                    have d8 : (a58 0 7).toInt = (a 0 7).toInt := by rw [fa58.2.1 7 (by decide)]; omega
                    refine w_aload rfl rfl ?_
                    refine w_dup rfl rfl ?_
                    refine w_getI (v := .inl (a58 0 7)) rfl rfl rfl rfl rfl ?_
                    have q59 : 0 ≤ (a58 0 7).toInt ∧ (a58 0 7).toInt ≤ 1000 := ha58 0 7
                    refine w_const rfl ?_
                    first | refine w_iadd rfl (by omega) (fun x60 tx60 => ?_) | refine w_iiU rfl (fun x60 tx60 => ?_)
                    refine m_putI (z := false) rfl rfl rfl rfl (by first | (intro h9; cases h9; done) | (intro _; first | exact Or.inl rfl | exact Or.inr rfl | assumption)) (fun a61 ea61 => ?_)
                    have ha61 : RM K a61 := RM.up ha58 ea61 (show (0 : Int) ≤ _ ∧ _ ≤ (1000 : Int) from by omega)
                    have ua61_7 : a61 0 7 = x60 := by rw [ea61, mU_same]
                    have wa61_7 := congrArg Int32.toInt ua61_7
                    have ua61_8 : (a61 0 8).toInt = (a58 0 8).toInt := by rw [ea61, mU_slot (by decide)]
                    have ua61_16 : (a61 0 16).toInt = (a58 0 16).toInt := by rw [ea61, mU_slot (by decide)]
                    have Q7 := PS.lit (k := h + 1) Q4.1 fa58.1 fa58.2 ea61 (by omega) (by omega) (fun _ => hgs_lit (by omega))
                    exact w_ret rfl ⟨a61, rfl, ha61, ⟨FR.up (FR.tr (FR.tr (FR.tr (FR.rf) (FR.sub fa21.1 (by decide))) (FR.sub fa26.1 (by decide))) (FR.sub fa58.1 (by decide))) (by decide) ea61, ⟨Q7.1, ((Q1.2.tr Q4.2).tr Q7.2).le (by omega)⟩⟩, rfl⟩
              · skip
                refine w_aload rfl rfl ?_
                refine w_iload rfl rfl ?_
                refine w_const rfl ?_
                first | refine w_iadd rfl (by omega) (fun x62 tx62 => ?_) | refine w_iiU rfl (fun x62 tx62 => ?_)
                refine w_invV (rest := []) rfl rfl rfl rfl rfl (Nat.le_of_ble_eq_true rfl) rfl (by omega) (ihA x62 (by omega) (by omega) _ a26 b ha26 Q4.1) (fun v63 h9 hq64 => ?_)
                obtain ⟨a65, rfl, ha65, fa65, rfl⟩ := hq64
                show f_wp _ (131, [some (.inr (.inr (some 0))), some (.inl e), some (.inl 1), some (.inl x9)], [], mH a65 b) _
                have Q5 := fa65.2
                have k5 := Q5.2.2.2.2
                have g5 := Q5.2.2.2.1
                have j5 := Q5.1.2.1
                have c5 := Q5.1.2.2.2.1
                refine w_aload rfl rfl ?_
                refine w_const rfl ?_
                refine w_invV (rest := []) rfl rfl rfl rfl rfl (Nat.le_of_ble_eq_true rfl) rfl (by omega) (s_takeSign (K := K) a65 b N 41 ha65 (Q5.1.T)) (fun v66 h9 hq67 => ?_)
                obtain ⟨a68, rfl, ha68, fa68, rfl⟩ := hq67
                show f_wp _ (137, [some (.inr (.inr (some 0))), some (.inl e), some (.inl 1), some (.inl x9)], [], mH a68 b) _
                have Q6 := PS.tok Q5.1 fa68.1 fa68.2.1 (fun z => by have o9 := fa68.2.2; omega)
                have k6 := Q6.2.2.2.2
                have g6 := Q6.2.2.2.1
                have j6 := Q6.1.2.1
                have c6 := Q6.1.2.2.2.1
                refine w_goto rfl ?_
                exact w_ret rfl ⟨a68, rfl, ha68, ⟨FR.tr (FR.tr (FR.tr (FR.tr (FR.rf) (FR.sub fa21.1 (by decide))) (FR.sub fa26.1 (by decide))) (FR.sub fa65.1 (by decide))) (FR.sub fa68.1 (by decide)), ⟨Q6.1, (((Q1.2.tr Q4.2).tr Q5.2).tr Q6.2).le (by omega)⟩⟩, rfl⟩
            · skip
              refine w_aload rfl rfl ?_
              refine w_iload rfl rfl ?_
              refine w_const rfl ?_
              first | refine w_iadd rfl (by omega) (fun x69 tx69 => ?_) | refine w_iiU rfl (fun x69 tx69 => ?_)
              refine w_invV (rest := []) rfl rfl rfl rfl rfl (Nat.le_of_ble_eq_true rfl) rfl (by omega) (ihT x69 (by omega) (by omega) _ a21 b ha21 Q1.1) (fun v70 h9 hq71 => ?_)
              obtain ⟨a72, rfl, ha72, fa72, rfl⟩ := hq71
              show f_wp _ (106, [some (.inr (.inr (some 0))), some (.inl e), some (.inl 1), some (.inl x9)], [], mH a72 b) _
              have Q2 := fa72.2
              have k2 := Q2.2.2.2.2
              have g2 := Q2.2.2.2.1
              have j2 := Q2.1.2.1
              have c2 := Q2.1.2.2.2.1
              refine w_aload rfl rfl ?_
              refine w_const rfl ?_
              refine w_const rfl ?_
              refine w_invV (rest := []) rfl rfl rfl rfl rfl (Nat.le_of_ble_eq_true rfl) rfl (by omega) (s_emit_1 (K := K) a72 b  3 0 ha72 (by omega) (by omega)) (fun v73 h9 hq74 => ?_)
              obtain ⟨a75, rfl, ha75, fa75, rfl⟩ := hq74
              show f_wp _ (112, [some (.inr (.inr (some 0))), some (.inl e), some (.inl 1), some (.inl x9)], [], mH a75 b) _
              have Q3 := PS.emit (k := h + 1) Q2.1 fa75.1 fa75.2 (by omega) (fun _ => by rw [l3]; exact hgs_not)
              have k3 := Q3.2.2.2.2
              have g3 := Q3.2.2.2.1
              have j3 := Q3.1.2.1
              have c3 := Q3.1.2.2.2.1
              refine w_goto rfl ?_
              exact w_ret rfl ⟨a75, rfl, ha75, ⟨FR.tr (FR.tr (FR.tr (FR.rf) (FR.sub fa21.1 (by decide))) (FR.sub fa72.1 (by decide))) (FR.sub fa75.1 (by decide)), ⟨Q3.1, ((Q1.2.tr Q2.2).tr Q3.2).le (by omega)⟩⟩, rfl⟩
          · skip
            exact w_ret rfl ⟨a, rfl, hR, ⟨FR.rf, ⟨PS.bad hP (by omega), KP.rf⟩⟩, rfl⟩
      · skip
        refine w_iload rfl rfl ?_
        refine w_if_ne rfl (fun c76 => ?_) (fun c76 => ?_)
        · skip
          refine w_aload rfl rfl ?_
          refine w_const rfl ?_
          refine w_invV (rest := []) rfl rfl rfl rfl rfl (Nat.le_of_ble_eq_true rfl) rfl (by omega) (s_isSign_1 (K := K) a b  40 hR ) (fun v77 h9 hq78 => ?_)
          obtain ⟨rfl, x79, rfl, px79⟩ := hq78
          show f_wp _ (52, [some (.inr (.inr (some 0))), some (.inl e), some (.inl 1), some (.inl x9)], [.inl x79], mH a b) _
          have s9 := px79
          refine w_if_ne rfl (fun c80 => ?_) (fun c80 => ?_)
          · skip
            refine w_aload rfl rfl ?_
            refine w_const rfl ?_
            refine w_invV (rest := []) rfl rfl rfl rfl rfl (Nat.le_of_ble_eq_true rfl) rfl (by omega) (s_isWord_1 (K := K) a b  24 hR (by omega)) (fun v81 h9 hq82 => ?_)
            obtain ⟨rfl, x83, rfl, px83⟩ := hq82
            show f_wp _ (61, [some (.inr (.inr (some 0))), some (.inl e), some (.inl 1), some (.inl x9)], [.inl x83], mH a b) _
            have u9 := px83
            refine w_if_ne rfl (fun c84 => ?_) (fun c84 => ?_)
            · skip
              refine w_aload rfl rfl ?_
              refine w_const rfl ?_
              refine w_invV (rest := []) rfl rfl rfl rfl rfl (Nat.le_of_ble_eq_true rfl) rfl (by omega) (s_wrong (K := K) a b  1 hR (by omega)) (fun v85 h9 hq86 => ?_)
              obtain ⟨a87, rfl, ha87, fa87, rfl⟩ := hq86
              show f_wp _ (69, [some (.inr (.inr (some 0))), some (.inl e), some (.inl 1), some (.inl x9)], [], mH a87 b) _
              have Pw := PS.wrong (k := h + 1) hP fa87.1 fa87.2.1 fa87.2.2
              have wg := fa87.2.2
              refine w_goto rfl ?_
              refine w_aload rfl rfl ?_
              refine w_getI (v := .inl (a87 0 8)) rfl rfl rfl rfl rfl ?_
              have q88 : 0 ≤ (a87 0 8).toInt ∧ (a87 0 8).toInt ≤ 2147483647 := ha87 0 8
              refine w_if_le rfl (fun c89 => ?_) (fun c89 => ?_)
              · exfalso; omega
              · skip
                exact w_ret rfl ⟨a87, rfl, ha87, ⟨FR.tr (FR.rf) (FR.sub fa87.1 (by decide)), Pw⟩, rfl⟩
            · skip
              refine w_iload rfl rfl ?_
              refine w_const rfl ?_
              refine w_ic_ne rfl (fun c90 => ?_) (fun c90 => ?_)
              · skip
                refine w_aload rfl rfl ?_
                refine w_const rfl ?_
                refine w_invV (rest := []) rfl rfl rfl rfl rfl (Nat.le_of_ble_eq_true rfl) rfl (by omega) (s_wrong (K := K) a b  5 hR (by omega)) (fun v91 h9 hq92 => ?_)
                obtain ⟨a93, rfl, ha93, fa93, rfl⟩ := hq92
                show f_wp _ (82, [some (.inr (.inr (some 0))), some (.inl e), some (.inl 1), some (.inl x9)], [], mH a93 b) _
                have Pw := PS.wrong (k := h + 1) hP fa93.1 fa93.2.1 fa93.2.2
                have wg := fa93.2.2
                refine w_aload rfl rfl ?_
                refine w_getI (v := .inl (a93 0 8)) rfl rfl rfl rfl rfl ?_
                have q94 : 0 ≤ (a93 0 8).toInt ∧ (a93 0 8).toInt ≤ 2147483647 := ha93 0 8
                refine w_if_le rfl (fun c95 => ?_) (fun c95 => ?_)
                · exfalso; omega
                · skip
                  exact w_ret rfl ⟨a93, rfl, ha93, ⟨FR.tr (FR.rf) (FR.sub fa93.1 (by decide)), Pw⟩, rfl⟩
              · skip
                refine w_aload rfl rfl ?_
                refine w_getI (v := .inl (a 0 8)) rfl rfl rfl rfl rfl ?_
                have q96 : 0 ≤ (a 0 8).toInt ∧ (a 0 8).toInt ≤ 2147483647 := hR 0 8
                refine w_if_le rfl (fun c97 => ?_) (fun c97 => ?_)
                · skip
                  refine w_aload rfl rfl ?_
                  refine w_const rfl ?_
                  refine w_invV (rest := []) rfl rfl rfl rfl rfl (Nat.le_of_ble_eq_true rfl) rfl (by omega) (s_hasWord_1 (K := K) a b N 24 hR (by omega) (hP.T)) (fun v98 h9 hq99 => ?_)
                  obtain ⟨a100, rfl, ha100, fa100, x101, rfl, px101⟩ := hq99
                  show f_wp _ (96, [some (.inr (.inr (some 0))), some (.inl e), some (.inl 1), some (.inl x9)], [.inl x101], mH a100 b) _
                  have Q1 := PS.tok hP fa100.1 fa100.2.1 (fun z => by rw [← fa100.2.2.1]; exact z)
                  have u8 := px101
                  have k1 := Q1.2.2.2.2
                  have g1 := Q1.2.2.2.1
                  have j1 := Q1.1.2.1
                  have c1 := Q1.1.2.2.2.1
                  refine w_if_eq rfl (fun c102 => ?_) (fun c102 => ?_)
                  · skip
                    have nW : ¬ iW a b 24 := (u8.resolve_left (by omega)).2.2
                    refine w_aload rfl rfl ?_
                    refine w_const rfl ?_
                    refine w_invV (rest := []) rfl rfl rfl rfl rfl (Nat.le_of_ble_eq_true rfl) rfl (by omega) (s_hasSign_1 (K := K) a100 b N 40 ha100 (Q1.1.T)) (fun v103 h9 hq104 => ?_)
                    obtain ⟨a105, rfl, ha105, fa105, x106, rfl, px106⟩ := hq104
                    show f_wp _ (121, [some (.inr (.inr (some 0))), some (.inl e), some (.inl 1), some (.inl x9)], [.inl x106], mH a105 b) _
                    have Q4 := PS.tok Q1.1 fa105.1 fa105.2.1 (fun z => by rw [← fa105.2.2.1]; exact z)
                    have s8 := px106
                    have k4 := Q4.2.2.2.2
                    have g4 := Q4.2.2.2.1
                    have j4 := Q4.1.2.1
                    have c4 := Q4.1.2.2.2.1
                    refine w_if_eq rfl (fun c107 => ?_) (fun c107 => ?_)
                    · skip
                      have nS : ¬ iS a b 40 := fun z => (s8.resolve_left (by omega)).2.2 ((iS.same (by rw [fa100.2.2.1]) (by omega) (fa100.1 2 (by decide))).mpr z)
                      have G9 : 0 ≤ x9.toInt ∨ (1 : Int32).toInt = 1 := by first | (left; omega) | (right; omega) | exact absurd (s9.resolve_right (by omega)).2 nS | exact absurd (u9.resolve_right (by omega)).2 nW
                      have y9 : (a 0 7).toInt < N := TK.lt hP.T z7.1 (by omega)
                      have d13 : (a105 0 13).toInt = (a 0 13).toInt := by rw [fa105.2.1.1 13 (by decide) (by decide), fa100.2.1.1 13 (by decide) (by decide)]
                      have d7 : (a105 0 7).toInt = (a 0 7).toInt := by omega
                      refine w_aload rfl rfl ?_
                      refine w_iload rfl rfl ?_
                      refine w_if_eq rfl (fun c108 => ?_) (fun c108 => ?_)
                      · skip
                        refine w_const rfl ?_
                        refine w_iload rfl rfl ?_
                        refine w_if_eq rfl (fun c109 => ?_) (fun c109 => ?_)
                        · skip
                          refine w_iload rfl rfl ?_
                          refine w_invV (rest := []) rfl rfl rfl rfl rfl (Nat.le_of_ble_eq_true rfl) rfl (by omega) (s_emit_1 (K := K) a105 b  2 x9 ha105 (by omega) (by omega)) (fun v110 h9 hq111 => ?_)
                          obtain ⟨a112, rfl, ha112, fa112, rfl⟩ := hq111
                          show f_wp _ (171, [some (.inr (.inr (some 0))), some (.inl e), some (.inl 1), some (.inl x9)], [], mH a112 b) _
                          have d8 : (a112 0 7).toInt = (a 0 7).toInt := by rw [fa112.2.1 7 (by decide)]; omega
                          refine w_aload rfl rfl ?_
                          refine w_dup rfl rfl ?_
                          refine w_getI (v := .inl (a112 0 7)) rfl rfl rfl rfl rfl ?_
                          have q113 : 0 ≤ (a112 0 7).toInt ∧ (a112 0 7).toInt ≤ 1000 := ha112 0 7
                          refine w_const rfl ?_
                          first | refine w_iadd rfl (by omega) (fun x114 tx114 => ?_) | refine w_iiU rfl (fun x114 tx114 => ?_)
                          refine m_putI (z := false) rfl rfl rfl rfl (by first | (intro h9; cases h9; done) | (intro _; first | exact Or.inl rfl | exact Or.inr rfl | assumption)) (fun a115 ea115 => ?_)
                          have ha115 : RM K a115 := RM.up ha112 ea115 (show (0 : Int) ≤ _ ∧ _ ≤ (1000 : Int) from by omega)
                          have ua115_7 : a115 0 7 = x114 := by rw [ea115, mU_same]
                          have wa115_7 := congrArg Int32.toInt ua115_7
                          have ua115_8 : (a115 0 8).toInt = (a112 0 8).toInt := by rw [ea115, mU_slot (by decide)]
                          have ua115_16 : (a115 0 16).toInt = (a112 0 16).toInt := by rw [ea115, mU_slot (by decide)]
                          have Q7 := PS.lit (k := h + 1) Q4.1 fa112.1 fa112.2 ea115 (by omega) (by omega) (fun _ => hgs_lit (by omega))
                          exact w_ret rfl ⟨a115, rfl, ha115, ⟨FR.up (FR.tr (FR.tr (FR.tr (FR.rf) (FR.sub fa100.1 (by decide))) (FR.sub fa105.1 (by decide))) (FR.sub fa112.1 (by decide))) (by decide) ea115, ⟨Q7.1, ((Q1.2.tr Q4.2).tr Q7.2).le (by omega)⟩⟩, rfl⟩
                        · skip
                          refine w_aload rfl rfl ?_
                          refine w_getR (v := .inr (.inr (some 4))) rfl rfl rfl rfl rfl ?_
                          refine w_aload rfl rfl ?_
                          refine w_getI (v := .inl (a105 0 7)) rfl rfl rfl rfl rfl ?_
                          have q116 : 0 ≤ (a105 0 7).toInt ∧ (a105 0 7).toInt ≤ 1000 := ha105 0 7
                          refine m_lald rfl rfl (by omega) (fun y117 ey117 => ?_)
                          refine w_l2iE rfl (fun x118 tx118 => ?_)
                          refine w_goto rfl ?_
                          refine w_invV (rest := []) rfl rfl rfl rfl rfl (Nat.le_of_ble_eq_true rfl) rfl (by omega) (s_emit_1 (K := K) a105 b  2 x118 ha105 (by omega) (by omega)) (fun v119 h9 hq120 => ?_)
                          obtain ⟨a121, rfl, ha121, fa121, rfl⟩ := hq120
                          show f_wp _ (171, [some (.inr (.inr (some 0))), some (.inl e), some (.inl 1), some (.inl x9)], [], mH a121 b) _
                          have d8 : (a121 0 7).toInt = (a 0 7).toInt := by rw [fa121.2.1 7 (by decide)]; omega
                          refine w_aload rfl rfl ?_
                          refine w_dup rfl rfl ?_
                          refine w_getI (v := .inl (a121 0 7)) rfl rfl rfl rfl rfl ?_
                          have q122 : 0 ≤ (a121 0 7).toInt ∧ (a121 0 7).toInt ≤ 1000 := ha121 0 7
                          refine w_const rfl ?_
                          first | refine w_iadd rfl (by omega) (fun x123 tx123 => ?_) | refine w_iiU rfl (fun x123 tx123 => ?_)
                          refine m_putI (z := false) rfl rfl rfl rfl (by first | (intro h9; cases h9; done) | (intro _; first | exact Or.inl rfl | exact Or.inr rfl | assumption)) (fun a124 ea124 => ?_)
                          have ha124 : RM K a124 := RM.up ha121 ea124 (show (0 : Int) ≤ _ ∧ _ ≤ (1000 : Int) from by omega)
                          have ua124_7 : a124 0 7 = x123 := by rw [ea124, mU_same]
                          have wa124_7 := congrArg Int32.toInt ua124_7
                          have ua124_8 : (a124 0 8).toInt = (a121 0 8).toInt := by rw [ea124, mU_slot (by decide)]
                          have ua124_16 : (a124 0 16).toInt = (a121 0 16).toInt := by rw [ea124, mU_slot (by decide)]
                          have Q7 := PS.lit (k := h + 1) Q4.1 fa121.1 fa121.2 ea124 (by omega) (by omega) (fun _ => hgs_lit (by omega))
                          exact w_ret rfl ⟨a124, rfl, ha124, ⟨FR.up (FR.tr (FR.tr (FR.tr (FR.rf) (FR.sub fa100.1 (by decide))) (FR.sub fa105.1 (by decide))) (FR.sub fa121.1 (by decide))) (by decide) ea124, ⟨Q7.1, ((Q1.2.tr Q4.2).tr Q7.2).le (by omega)⟩⟩, rfl⟩
                      · skip
                        refine w_const rfl ?_
                        refine w_goto rfl ?_
                        refine w_iload rfl rfl ?_
                        refine w_if_eq rfl (fun c125 => ?_) (fun c125 => ?_)
                        · skip
                          refine w_iload rfl rfl ?_
                          refine w_invV (rest := []) rfl rfl rfl rfl rfl (Nat.le_of_ble_eq_true rfl) rfl (by omega) (s_emit_1 (K := K) a105 b  1 x9 ha105 (by omega) (by omega)) (fun v126 h9 hq127 => ?_)
                          obtain ⟨a128, rfl, ha128, fa128, rfl⟩ := hq127
                          show f_wp _ (171, [some (.inr (.inr (some 0))), some (.inl e), some (.inl 1), some (.inl x9)], [], mH a128 b) _
                          have d8 : (a128 0 7).toInt = (a 0 7).toInt := by rw [fa128.2.1 7 (by decide)]; omega
                          refine w_aload rfl rfl ?_
                          refine w_dup rfl rfl ?_
                          refine w_getI (v := .inl (a128 0 7)) rfl rfl rfl rfl rfl ?_
                          have q129 : 0 ≤ (a128 0 7).toInt ∧ (a128 0 7).toInt ≤ 1000 := ha128 0 7
                          refine w_const rfl ?_
                          first | refine w_iadd rfl (by omega) (fun x130 tx130 => ?_) | refine w_iiU rfl (fun x130 tx130 => ?_)
                          refine m_putI (z := false) rfl rfl rfl rfl (by first | (intro h9; cases h9; done) | (intro _; first | exact Or.inl rfl | exact Or.inr rfl | assumption)) (fun a131 ea131 => ?_)
                          have ha131 : RM K a131 := RM.up ha128 ea131 (show (0 : Int) ≤ _ ∧ _ ≤ (1000 : Int) from by omega)
                          have ua131_7 : a131 0 7 = x130 := by rw [ea131, mU_same]
                          have wa131_7 := congrArg Int32.toInt ua131_7
                          have ua131_8 : (a131 0 8).toInt = (a128 0 8).toInt := by rw [ea131, mU_slot (by decide)]
                          have ua131_16 : (a131 0 16).toInt = (a128 0 16).toInt := by rw [ea131, mU_slot (by decide)]
                          have Q7 := PS.lit (k := h + 1) Q4.1 fa128.1 fa128.2 ea131 (by omega) (by omega) (fun _ => hgs_lit (by omega))
                          exact w_ret rfl ⟨a131, rfl, ha131, ⟨FR.up (FR.tr (FR.tr (FR.tr (FR.rf) (FR.sub fa100.1 (by decide))) (FR.sub fa105.1 (by decide))) (FR.sub fa128.1 (by decide))) (by decide) ea131, ⟨Q7.1, ((Q1.2.tr Q4.2).tr Q7.2).le (by omega)⟩⟩, rfl⟩
                        · skip
                          refine w_aload rfl rfl ?_
                          refine w_getR (v := .inr (.inr (some 4))) rfl rfl rfl rfl rfl ?_
                          refine w_aload rfl rfl ?_
                          refine w_getI (v := .inl (a105 0 7)) rfl rfl rfl rfl rfl ?_
                          have q132 : 0 ≤ (a105 0 7).toInt ∧ (a105 0 7).toInt ≤ 1000 := ha105 0 7
                          refine m_lald rfl rfl (by omega) (fun y133 ey133 => ?_)
                          refine w_l2iE rfl (fun x134 tx134 => ?_)
                          refine w_goto rfl ?_
                          refine w_invV (rest := []) rfl rfl rfl rfl rfl (Nat.le_of_ble_eq_true rfl) rfl (by omega) (s_emit_1 (K := K) a105 b  1 x134 ha105 (by omega) (by omega)) (fun v135 h9 hq136 => ?_)
                          obtain ⟨a137, rfl, ha137, fa137, rfl⟩ := hq136
                          show f_wp _ (171, [some (.inr (.inr (some 0))), some (.inl e), some (.inl 1), some (.inl x9)], [], mH a137 b) _
                          have d8 : (a137 0 7).toInt = (a 0 7).toInt := by rw [fa137.2.1 7 (by decide)]; omega
                          refine w_aload rfl rfl ?_
                          refine w_dup rfl rfl ?_
                          refine w_getI (v := .inl (a137 0 7)) rfl rfl rfl rfl rfl ?_
                          have q138 : 0 ≤ (a137 0 7).toInt ∧ (a137 0 7).toInt ≤ 1000 := ha137 0 7
                          refine w_const rfl ?_
                          first | refine w_iadd rfl (by omega) (fun x139 tx139 => ?_) | refine w_iiU rfl (fun x139 tx139 => ?_)
                          refine m_putI (z := false) rfl rfl rfl rfl (by first | (intro h9; cases h9; done) | (intro _; first | exact Or.inl rfl | exact Or.inr rfl | assumption)) (fun a140 ea140 => ?_)
                          have ha140 : RM K a140 := RM.up ha137 ea140 (show (0 : Int) ≤ _ ∧ _ ≤ (1000 : Int) from by omega)
                          have ua140_7 : a140 0 7 = x139 := by rw [ea140, mU_same]
                          have wa140_7 := congrArg Int32.toInt ua140_7
                          have ua140_8 : (a140 0 8).toInt = (a137 0 8).toInt := by rw [ea140, mU_slot (by decide)]
                          have ua140_16 : (a140 0 16).toInt = (a137 0 16).toInt := by rw [ea140, mU_slot (by decide)]
                          have Q7 := PS.lit (k := h + 1) Q4.1 fa137.1 fa137.2 ea140 (by omega) (by omega) (fun _ => hgs_lit (by omega))
                          exact w_ret rfl ⟨a140, rfl, ha140, ⟨FR.up (FR.tr (FR.tr (FR.tr (FR.rf) (FR.sub fa100.1 (by decide))) (FR.sub fa105.1 (by decide))) (FR.sub fa137.1 (by decide))) (by decide) ea140, ⟨Q7.1, ((Q1.2.tr Q4.2).tr Q7.2).le (by omega)⟩⟩, rfl⟩
                    · skip
                      refine w_aload rfl rfl ?_
                      refine w_iload rfl rfl ?_
                      refine w_const rfl ?_
                      first | refine w_iadd rfl (by omega) (fun x141 tx141 => ?_) | refine w_iiU rfl (fun x141 tx141 => ?_)
                      refine w_invV (rest := []) rfl rfl rfl rfl rfl (Nat.le_of_ble_eq_true rfl) rfl (by omega) (ihA x141 (by omega) (by omega) _ a105 b ha105 Q4.1) (fun v142 h9 hq143 => ?_)
                      obtain ⟨a144, rfl, ha144, fa144, rfl⟩ := hq143
                      show f_wp _ (131, [some (.inr (.inr (some 0))), some (.inl e), some (.inl 1), some (.inl x9)], [], mH a144 b) _
                      have Q5 := fa144.2
                      have k5 := Q5.2.2.2.2
                      have g5 := Q5.2.2.2.1
                      have j5 := Q5.1.2.1
                      have c5 := Q5.1.2.2.2.1
                      refine w_aload rfl rfl ?_
                      refine w_const rfl ?_
                      refine w_invV (rest := []) rfl rfl rfl rfl rfl (Nat.le_of_ble_eq_true rfl) rfl (by omega) (s_takeSign (K := K) a144 b N 41 ha144 (Q5.1.T)) (fun v145 h9 hq146 => ?_)
                      obtain ⟨a147, rfl, ha147, fa147, rfl⟩ := hq146
                      show f_wp _ (137, [some (.inr (.inr (some 0))), some (.inl e), some (.inl 1), some (.inl x9)], [], mH a147 b) _
                      have Q6 := PS.tok Q5.1 fa147.1 fa147.2.1 (fun z => by have o9 := fa147.2.2; omega)
                      have k6 := Q6.2.2.2.2
                      have g6 := Q6.2.2.2.1
                      have j6 := Q6.1.2.1
                      have c6 := Q6.1.2.2.2.1
                      refine w_goto rfl ?_
                      exact w_ret rfl ⟨a147, rfl, ha147, ⟨FR.tr (FR.tr (FR.tr (FR.tr (FR.rf) (FR.sub fa100.1 (by decide))) (FR.sub fa105.1 (by decide))) (FR.sub fa144.1 (by decide))) (FR.sub fa147.1 (by decide)), ⟨Q6.1, (((Q1.2.tr Q4.2).tr Q5.2).tr Q6.2).le (by omega)⟩⟩, rfl⟩
                  · skip
                    refine w_aload rfl rfl ?_
                    refine w_iload rfl rfl ?_
                    refine w_const rfl ?_
                    first | refine w_iadd rfl (by omega) (fun x148 tx148 => ?_) | refine w_iiU rfl (fun x148 tx148 => ?_)
                    refine w_invV (rest := []) rfl rfl rfl rfl rfl (Nat.le_of_ble_eq_true rfl) rfl (by omega) (ihT x148 (by omega) (by omega) _ a100 b ha100 Q1.1) (fun v149 h9 hq150 => ?_)
                    obtain ⟨a151, rfl, ha151, fa151, rfl⟩ := hq150
                    show f_wp _ (106, [some (.inr (.inr (some 0))), some (.inl e), some (.inl 1), some (.inl x9)], [], mH a151 b) _
                    have Q2 := fa151.2
                    have k2 := Q2.2.2.2.2
                    have g2 := Q2.2.2.2.1
                    have j2 := Q2.1.2.1
                    have c2 := Q2.1.2.2.2.1
                    refine w_aload rfl rfl ?_
                    refine w_const rfl ?_
                    refine w_const rfl ?_
                    refine w_invV (rest := []) rfl rfl rfl rfl rfl (Nat.le_of_ble_eq_true rfl) rfl (by omega) (s_emit_1 (K := K) a151 b  3 0 ha151 (by omega) (by omega)) (fun v152 h9 hq153 => ?_)
                    obtain ⟨a154, rfl, ha154, fa154, rfl⟩ := hq153
                    show f_wp _ (112, [some (.inr (.inr (some 0))), some (.inl e), some (.inl 1), some (.inl x9)], [], mH a154 b) _
                    have Q3 := PS.emit (k := h + 1) Q2.1 fa154.1 fa154.2 (by omega) (fun _ => by rw [l3]; exact hgs_not)
                    have k3 := Q3.2.2.2.2
                    have g3 := Q3.2.2.2.1
                    have j3 := Q3.1.2.1
                    have c3 := Q3.1.2.2.2.1
                    refine w_goto rfl ?_
                    exact w_ret rfl ⟨a154, rfl, ha154, ⟨FR.tr (FR.tr (FR.tr (FR.rf) (FR.sub fa100.1 (by decide))) (FR.sub fa151.1 (by decide))) (FR.sub fa154.1 (by decide)), ⟨Q3.1, ((Q1.2.tr Q2.2).tr Q3.2).le (by omega)⟩⟩, rfl⟩
                · skip
                  exact w_ret rfl ⟨a, rfl, hR, ⟨FR.rf, ⟨PS.bad hP (by omega), KP.rf⟩⟩, rfl⟩
          · skip
            refine w_iload rfl rfl ?_
            refine w_const rfl ?_
            refine w_ic_ne rfl (fun c155 => ?_) (fun c155 => ?_)
            · skip
              refine w_aload rfl rfl ?_
              refine w_const rfl ?_
              refine w_invV (rest := []) rfl rfl rfl rfl rfl (Nat.le_of_ble_eq_true rfl) rfl (by omega) (s_wrong (K := K) a b  5 hR (by omega)) (fun v156 h9 hq157 => ?_)
              obtain ⟨a158, rfl, ha158, fa158, rfl⟩ := hq157
              show f_wp _ (82, [some (.inr (.inr (some 0))), some (.inl e), some (.inl 1), some (.inl x9)], [], mH a158 b) _
              have Pw := PS.wrong (k := h + 1) hP fa158.1 fa158.2.1 fa158.2.2
              have wg := fa158.2.2
              refine w_aload rfl rfl ?_
              refine w_getI (v := .inl (a158 0 8)) rfl rfl rfl rfl rfl ?_
              have q159 : 0 ≤ (a158 0 8).toInt ∧ (a158 0 8).toInt ≤ 2147483647 := ha158 0 8
              refine w_if_le rfl (fun c160 => ?_) (fun c160 => ?_)
              · exfalso; omega
              · skip
                exact w_ret rfl ⟨a158, rfl, ha158, ⟨FR.tr (FR.rf) (FR.sub fa158.1 (by decide)), Pw⟩, rfl⟩
            · skip
              refine w_aload rfl rfl ?_
              refine w_getI (v := .inl (a 0 8)) rfl rfl rfl rfl rfl ?_
              have q161 : 0 ≤ (a 0 8).toInt ∧ (a 0 8).toInt ≤ 2147483647 := hR 0 8
              refine w_if_le rfl (fun c162 => ?_) (fun c162 => ?_)
              · skip
                refine w_aload rfl rfl ?_
                refine w_const rfl ?_
                refine w_invV (rest := []) rfl rfl rfl rfl rfl (Nat.le_of_ble_eq_true rfl) rfl (by omega) (s_hasWord_1 (K := K) a b N 24 hR (by omega) (hP.T)) (fun v163 h9 hq164 => ?_)
                obtain ⟨a165, rfl, ha165, fa165, x166, rfl, px166⟩ := hq164
                show f_wp _ (96, [some (.inr (.inr (some 0))), some (.inl e), some (.inl 1), some (.inl x9)], [.inl x166], mH a165 b) _
                have Q1 := PS.tok hP fa165.1 fa165.2.1 (fun z => by rw [← fa165.2.2.1]; exact z)
                have u8 := px166
                have k1 := Q1.2.2.2.2
                have g1 := Q1.2.2.2.1
                have j1 := Q1.1.2.1
                have c1 := Q1.1.2.2.2.1
                refine w_if_eq rfl (fun c167 => ?_) (fun c167 => ?_)
                · skip
                  have nW : ¬ iW a b 24 := (u8.resolve_left (by omega)).2.2
                  refine w_aload rfl rfl ?_
                  refine w_const rfl ?_
                  refine w_invV (rest := []) rfl rfl rfl rfl rfl (Nat.le_of_ble_eq_true rfl) rfl (by omega) (s_hasSign_1 (K := K) a165 b N 40 ha165 (Q1.1.T)) (fun v168 h9 hq169 => ?_)
                  obtain ⟨a170, rfl, ha170, fa170, x171, rfl, px171⟩ := hq169
                  show f_wp _ (121, [some (.inr (.inr (some 0))), some (.inl e), some (.inl 1), some (.inl x9)], [.inl x171], mH a170 b) _
                  have Q4 := PS.tok Q1.1 fa170.1 fa170.2.1 (fun z => by rw [← fa170.2.2.1]; exact z)
                  have s8 := px171
                  have k4 := Q4.2.2.2.2
                  have g4 := Q4.2.2.2.1
                  have j4 := Q4.1.2.1
                  have c4 := Q4.1.2.2.2.1
                  refine w_if_eq rfl (fun c172 => ?_) (fun c172 => ?_)
                  · skip
                    have nS : ¬ iS a b 40 := fun z => (s8.resolve_left (by omega)).2.2 ((iS.same (by rw [fa165.2.2.1]) (by omega) (fa165.1 2 (by decide))).mpr z)
                    have G9 : 0 ≤ x9.toInt ∨ (1 : Int32).toInt = 1 := by first | (left; omega) | (right; omega) | exact absurd (s9.resolve_right (by omega)).2 nS | exact absurd (u9.resolve_right (by omega)).2 nW
                    have y9 : (a 0 7).toInt < N := TK.lt hP.T z7.1 (by omega)
                    have d13 : (a170 0 13).toInt = (a 0 13).toInt := by rw [fa170.2.1.1 13 (by decide) (by decide), fa165.2.1.1 13 (by decide) (by decide)]
                    have d7 : (a170 0 7).toInt = (a 0 7).toInt := by omega
                    refine w_aload rfl rfl ?_
                    refine w_iload rfl rfl ?_
                    refine w_if_eq rfl (fun c173 => ?_) (fun c173 => ?_)
                    · skip
                      refine w_const rfl ?_
                      refine w_iload rfl rfl ?_
                      refine w_if_eq rfl (fun c174 => ?_) (fun c174 => ?_)
                      · skip
                        refine w_iload rfl rfl ?_
                        refine w_invV (rest := []) rfl rfl rfl rfl rfl (Nat.le_of_ble_eq_true rfl) rfl (by omega) (s_emit_1 (K := K) a170 b  2 x9 ha170 (by omega) (by omega)) (fun v175 h9 hq176 => ?_)
                        obtain ⟨a177, rfl, ha177, fa177, rfl⟩ := hq176
                        show f_wp _ (171, [some (.inr (.inr (some 0))), some (.inl e), some (.inl 1), some (.inl x9)], [], mH a177 b) _
                        have d8 : (a177 0 7).toInt = (a 0 7).toInt := by rw [fa177.2.1 7 (by decide)]; omega
                        refine w_aload rfl rfl ?_
                        refine w_dup rfl rfl ?_
                        refine w_getI (v := .inl (a177 0 7)) rfl rfl rfl rfl rfl ?_
                        have q178 : 0 ≤ (a177 0 7).toInt ∧ (a177 0 7).toInt ≤ 1000 := ha177 0 7
                        refine w_const rfl ?_
                        first | refine w_iadd rfl (by omega) (fun x179 tx179 => ?_) | refine w_iiU rfl (fun x179 tx179 => ?_)
                        refine m_putI (z := false) rfl rfl rfl rfl (by first | (intro h9; cases h9; done) | (intro _; first | exact Or.inl rfl | exact Or.inr rfl | assumption)) (fun a180 ea180 => ?_)
                        have ha180 : RM K a180 := RM.up ha177 ea180 (show (0 : Int) ≤ _ ∧ _ ≤ (1000 : Int) from by omega)
                        have ua180_7 : a180 0 7 = x179 := by rw [ea180, mU_same]
                        have wa180_7 := congrArg Int32.toInt ua180_7
                        have ua180_8 : (a180 0 8).toInt = (a177 0 8).toInt := by rw [ea180, mU_slot (by decide)]
                        have ua180_16 : (a180 0 16).toInt = (a177 0 16).toInt := by rw [ea180, mU_slot (by decide)]
                        have Q7 := PS.lit (k := h + 1) Q4.1 fa177.1 fa177.2 ea180 (by omega) (by omega) (fun _ => hgs_lit (by omega))
                        exact w_ret rfl ⟨a180, rfl, ha180, ⟨FR.up (FR.tr (FR.tr (FR.tr (FR.rf) (FR.sub fa165.1 (by decide))) (FR.sub fa170.1 (by decide))) (FR.sub fa177.1 (by decide))) (by decide) ea180, ⟨Q7.1, ((Q1.2.tr Q4.2).tr Q7.2).le (by omega)⟩⟩, rfl⟩
                      · skip
                        refine w_aload rfl rfl ?_
                        refine w_getR (v := .inr (.inr (some 4))) rfl rfl rfl rfl rfl ?_
                        refine w_aload rfl rfl ?_
                        refine w_getI (v := .inl (a170 0 7)) rfl rfl rfl rfl rfl ?_
                        have q181 : 0 ≤ (a170 0 7).toInt ∧ (a170 0 7).toInt ≤ 1000 := ha170 0 7
                        refine m_lald rfl rfl (by omega) (fun y182 ey182 => ?_)
                        refine w_l2iE rfl (fun x183 tx183 => ?_)
                        refine w_goto rfl ?_
                        refine w_invV (rest := []) rfl rfl rfl rfl rfl (Nat.le_of_ble_eq_true rfl) rfl (by omega) (s_emit_1 (K := K) a170 b  2 x183 ha170 (by omega) (by omega)) (fun v184 h9 hq185 => ?_)
                        obtain ⟨a186, rfl, ha186, fa186, rfl⟩ := hq185
                        show f_wp _ (171, [some (.inr (.inr (some 0))), some (.inl e), some (.inl 1), some (.inl x9)], [], mH a186 b) _
                        have d8 : (a186 0 7).toInt = (a 0 7).toInt := by rw [fa186.2.1 7 (by decide)]; omega
                        refine w_aload rfl rfl ?_
                        refine w_dup rfl rfl ?_
                        refine w_getI (v := .inl (a186 0 7)) rfl rfl rfl rfl rfl ?_
                        have q187 : 0 ≤ (a186 0 7).toInt ∧ (a186 0 7).toInt ≤ 1000 := ha186 0 7
                        refine w_const rfl ?_
                        first | refine w_iadd rfl (by omega) (fun x188 tx188 => ?_) | refine w_iiU rfl (fun x188 tx188 => ?_)
                        refine m_putI (z := false) rfl rfl rfl rfl (by first | (intro h9; cases h9; done) | (intro _; first | exact Or.inl rfl | exact Or.inr rfl | assumption)) (fun a189 ea189 => ?_)
                        have ha189 : RM K a189 := RM.up ha186 ea189 (show (0 : Int) ≤ _ ∧ _ ≤ (1000 : Int) from by omega)
                        have ua189_7 : a189 0 7 = x188 := by rw [ea189, mU_same]
                        have wa189_7 := congrArg Int32.toInt ua189_7
                        have ua189_8 : (a189 0 8).toInt = (a186 0 8).toInt := by rw [ea189, mU_slot (by decide)]
                        have ua189_16 : (a189 0 16).toInt = (a186 0 16).toInt := by rw [ea189, mU_slot (by decide)]
                        have Q7 := PS.lit (k := h + 1) Q4.1 fa186.1 fa186.2 ea189 (by omega) (by omega) (fun _ => hgs_lit (by omega))
                        exact w_ret rfl ⟨a189, rfl, ha189, ⟨FR.up (FR.tr (FR.tr (FR.tr (FR.rf) (FR.sub fa165.1 (by decide))) (FR.sub fa170.1 (by decide))) (FR.sub fa186.1 (by decide))) (by decide) ea189, ⟨Q7.1, ((Q1.2.tr Q4.2).tr Q7.2).le (by omega)⟩⟩, rfl⟩
                    · skip
                      refine w_const rfl ?_
                      refine w_goto rfl ?_
                      refine w_iload rfl rfl ?_
                      refine w_if_eq rfl (fun c190 => ?_) (fun c190 => ?_)
                      · skip
                        refine w_iload rfl rfl ?_
                        refine w_invV (rest := []) rfl rfl rfl rfl rfl (Nat.le_of_ble_eq_true rfl) rfl (by omega) (s_emit_1 (K := K) a170 b  1 x9 ha170 (by omega) (by omega)) (fun v191 h9 hq192 => ?_)
                        obtain ⟨a193, rfl, ha193, fa193, rfl⟩ := hq192
                        show f_wp _ (171, [some (.inr (.inr (some 0))), some (.inl e), some (.inl 1), some (.inl x9)], [], mH a193 b) _
                        have d8 : (a193 0 7).toInt = (a 0 7).toInt := by rw [fa193.2.1 7 (by decide)]; omega
                        refine w_aload rfl rfl ?_
                        refine w_dup rfl rfl ?_
                        refine w_getI (v := .inl (a193 0 7)) rfl rfl rfl rfl rfl ?_
                        have q194 : 0 ≤ (a193 0 7).toInt ∧ (a193 0 7).toInt ≤ 1000 := ha193 0 7
                        refine w_const rfl ?_
                        first | refine w_iadd rfl (by omega) (fun x195 tx195 => ?_) | refine w_iiU rfl (fun x195 tx195 => ?_)
                        refine m_putI (z := false) rfl rfl rfl rfl (by first | (intro h9; cases h9; done) | (intro _; first | exact Or.inl rfl | exact Or.inr rfl | assumption)) (fun a196 ea196 => ?_)
                        have ha196 : RM K a196 := RM.up ha193 ea196 (show (0 : Int) ≤ _ ∧ _ ≤ (1000 : Int) from by omega)
                        have ua196_7 : a196 0 7 = x195 := by rw [ea196, mU_same]
                        have wa196_7 := congrArg Int32.toInt ua196_7
                        have ua196_8 : (a196 0 8).toInt = (a193 0 8).toInt := by rw [ea196, mU_slot (by decide)]
                        have ua196_16 : (a196 0 16).toInt = (a193 0 16).toInt := by rw [ea196, mU_slot (by decide)]
                        have Q7 := PS.lit (k := h + 1) Q4.1 fa193.1 fa193.2 ea196 (by omega) (by omega) (fun _ => hgs_lit (by omega))
                        exact w_ret rfl ⟨a196, rfl, ha196, ⟨FR.up (FR.tr (FR.tr (FR.tr (FR.rf) (FR.sub fa165.1 (by decide))) (FR.sub fa170.1 (by decide))) (FR.sub fa193.1 (by decide))) (by decide) ea196, ⟨Q7.1, ((Q1.2.tr Q4.2).tr Q7.2).le (by omega)⟩⟩, rfl⟩
                      · skip
                        refine w_aload rfl rfl ?_
                        refine w_getR (v := .inr (.inr (some 4))) rfl rfl rfl rfl rfl ?_
                        refine w_aload rfl rfl ?_
                        refine w_getI (v := .inl (a170 0 7)) rfl rfl rfl rfl rfl ?_
                        have q197 : 0 ≤ (a170 0 7).toInt ∧ (a170 0 7).toInt ≤ 1000 := ha170 0 7
                        refine m_lald rfl rfl (by omega) (fun y198 ey198 => ?_)
                        refine w_l2iE rfl (fun x199 tx199 => ?_)
                        refine w_goto rfl ?_
                        refine w_invV (rest := []) rfl rfl rfl rfl rfl (Nat.le_of_ble_eq_true rfl) rfl (by omega) (s_emit_1 (K := K) a170 b  1 x199 ha170 (by omega) (by omega)) (fun v200 h9 hq201 => ?_)
                        obtain ⟨a202, rfl, ha202, fa202, rfl⟩ := hq201
                        show f_wp _ (171, [some (.inr (.inr (some 0))), some (.inl e), some (.inl 1), some (.inl x9)], [], mH a202 b) _
                        have d8 : (a202 0 7).toInt = (a 0 7).toInt := by rw [fa202.2.1 7 (by decide)]; omega
                        refine w_aload rfl rfl ?_
                        refine w_dup rfl rfl ?_
                        refine w_getI (v := .inl (a202 0 7)) rfl rfl rfl rfl rfl ?_
                        have q203 : 0 ≤ (a202 0 7).toInt ∧ (a202 0 7).toInt ≤ 1000 := ha202 0 7
                        refine w_const rfl ?_
                        first | refine w_iadd rfl (by omega) (fun x204 tx204 => ?_) | refine w_iiU rfl (fun x204 tx204 => ?_)
                        refine m_putI (z := false) rfl rfl rfl rfl (by first | (intro h9; cases h9; done) | (intro _; first | exact Or.inl rfl | exact Or.inr rfl | assumption)) (fun a205 ea205 => ?_)
                        have ha205 : RM K a205 := RM.up ha202 ea205 (show (0 : Int) ≤ _ ∧ _ ≤ (1000 : Int) from by omega)
                        have ua205_7 : a205 0 7 = x204 := by rw [ea205, mU_same]
                        have wa205_7 := congrArg Int32.toInt ua205_7
                        have ua205_8 : (a205 0 8).toInt = (a202 0 8).toInt := by rw [ea205, mU_slot (by decide)]
                        have ua205_16 : (a205 0 16).toInt = (a202 0 16).toInt := by rw [ea205, mU_slot (by decide)]
                        have Q7 := PS.lit (k := h + 1) Q4.1 fa202.1 fa202.2 ea205 (by omega) (by omega) (fun _ => hgs_lit (by omega))
                        exact w_ret rfl ⟨a205, rfl, ha205, ⟨FR.up (FR.tr (FR.tr (FR.tr (FR.rf) (FR.sub fa165.1 (by decide))) (FR.sub fa170.1 (by decide))) (FR.sub fa202.1 (by decide))) (by decide) ea205, ⟨Q7.1, ((Q1.2.tr Q4.2).tr Q7.2).le (by omega)⟩⟩, rfl⟩
                  · skip
                    refine w_aload rfl rfl ?_
                    refine w_iload rfl rfl ?_
                    refine w_const rfl ?_
                    first | refine w_iadd rfl (by omega) (fun x206 tx206 => ?_) | refine w_iiU rfl (fun x206 tx206 => ?_)
                    refine w_invV (rest := []) rfl rfl rfl rfl rfl (Nat.le_of_ble_eq_true rfl) rfl (by omega) (ihA x206 (by omega) (by omega) _ a170 b ha170 Q4.1) (fun v207 h9 hq208 => ?_)
                    obtain ⟨a209, rfl, ha209, fa209, rfl⟩ := hq208
                    show f_wp _ (131, [some (.inr (.inr (some 0))), some (.inl e), some (.inl 1), some (.inl x9)], [], mH a209 b) _
                    have Q5 := fa209.2
                    have k5 := Q5.2.2.2.2
                    have g5 := Q5.2.2.2.1
                    have j5 := Q5.1.2.1
                    have c5 := Q5.1.2.2.2.1
                    refine w_aload rfl rfl ?_
                    refine w_const rfl ?_
                    refine w_invV (rest := []) rfl rfl rfl rfl rfl (Nat.le_of_ble_eq_true rfl) rfl (by omega) (s_takeSign (K := K) a209 b N 41 ha209 (Q5.1.T)) (fun v210 h9 hq211 => ?_)
                    obtain ⟨a212, rfl, ha212, fa212, rfl⟩ := hq211
                    show f_wp _ (137, [some (.inr (.inr (some 0))), some (.inl e), some (.inl 1), some (.inl x9)], [], mH a212 b) _
                    have Q6 := PS.tok Q5.1 fa212.1 fa212.2.1 (fun z => by have o9 := fa212.2.2; omega)
                    have k6 := Q6.2.2.2.2
                    have g6 := Q6.2.2.2.1
                    have j6 := Q6.1.2.1
                    have c6 := Q6.1.2.2.2.1
                    refine w_goto rfl ?_
                    exact w_ret rfl ⟨a212, rfl, ha212, ⟨FR.tr (FR.tr (FR.tr (FR.tr (FR.rf) (FR.sub fa165.1 (by decide))) (FR.sub fa170.1 (by decide))) (FR.sub fa209.1 (by decide))) (FR.sub fa212.1 (by decide)), ⟨Q6.1, (((Q1.2.tr Q4.2).tr Q5.2).tr Q6.2).le (by omega)⟩⟩, rfl⟩
                · skip
                  refine w_aload rfl rfl ?_
                  refine w_iload rfl rfl ?_
                  refine w_const rfl ?_
                  first | refine w_iadd rfl (by omega) (fun x213 tx213 => ?_) | refine w_iiU rfl (fun x213 tx213 => ?_)
                  refine w_invV (rest := []) rfl rfl rfl rfl rfl (Nat.le_of_ble_eq_true rfl) rfl (by omega) (ihT x213 (by omega) (by omega) _ a165 b ha165 Q1.1) (fun v214 h9 hq215 => ?_)
                  obtain ⟨a216, rfl, ha216, fa216, rfl⟩ := hq215
                  show f_wp _ (106, [some (.inr (.inr (some 0))), some (.inl e), some (.inl 1), some (.inl x9)], [], mH a216 b) _
                  have Q2 := fa216.2
                  have k2 := Q2.2.2.2.2
                  have g2 := Q2.2.2.2.1
                  have j2 := Q2.1.2.1
                  have c2 := Q2.1.2.2.2.1
                  refine w_aload rfl rfl ?_
                  refine w_const rfl ?_
                  refine w_const rfl ?_
                  refine w_invV (rest := []) rfl rfl rfl rfl rfl (Nat.le_of_ble_eq_true rfl) rfl (by omega) (s_emit_1 (K := K) a216 b  3 0 ha216 (by omega) (by omega)) (fun v217 h9 hq218 => ?_)
                  obtain ⟨a219, rfl, ha219, fa219, rfl⟩ := hq218
                  show f_wp _ (112, [some (.inr (.inr (some 0))), some (.inl e), some (.inl 1), some (.inl x9)], [], mH a219 b) _
                  have Q3 := PS.emit (k := h + 1) Q2.1 fa219.1 fa219.2 (by omega) (fun _ => by rw [l3]; exact hgs_not)
                  have k3 := Q3.2.2.2.2
                  have g3 := Q3.2.2.2.1
                  have j3 := Q3.1.2.1
                  have c3 := Q3.1.2.2.2.1
                  refine w_goto rfl ?_
                  exact w_ret rfl ⟨a219, rfl, ha219, ⟨FR.tr (FR.tr (FR.tr (FR.rf) (FR.sub fa165.1 (by decide))) (FR.sub fa216.1 (by decide))) (FR.sub fa219.1 (by decide)), ⟨Q3.1, ((Q1.2.tr Q2.2).tr Q3.2).le (by omega)⟩⟩, rfl⟩
              · skip
                exact w_ret rfl ⟨a, rfl, hR, ⟨FR.rf, ⟨PS.bad hP (by omega), KP.rf⟩⟩, rfl⟩
        · skip
          refine w_iload rfl rfl ?_
          refine w_const rfl ?_
          refine w_ic_ne rfl (fun c220 => ?_) (fun c220 => ?_)
          · skip
            refine w_aload rfl rfl ?_
            refine w_const rfl ?_
            refine w_invV (rest := []) rfl rfl rfl rfl rfl (Nat.le_of_ble_eq_true rfl) rfl (by omega) (s_wrong (K := K) a b  5 hR (by omega)) (fun v221 h9 hq222 => ?_)
            obtain ⟨a223, rfl, ha223, fa223, rfl⟩ := hq222
            show f_wp _ (82, [some (.inr (.inr (some 0))), some (.inl e), some (.inl 1), some (.inl x9)], [], mH a223 b) _
            have Pw := PS.wrong (k := h + 1) hP fa223.1 fa223.2.1 fa223.2.2
            have wg := fa223.2.2
            refine w_aload rfl rfl ?_
            refine w_getI (v := .inl (a223 0 8)) rfl rfl rfl rfl rfl ?_
            have q224 : 0 ≤ (a223 0 8).toInt ∧ (a223 0 8).toInt ≤ 2147483647 := ha223 0 8
            refine w_if_le rfl (fun c225 => ?_) (fun c225 => ?_)
            · exfalso; omega
            · skip
              exact w_ret rfl ⟨a223, rfl, ha223, ⟨FR.tr (FR.rf) (FR.sub fa223.1 (by decide)), Pw⟩, rfl⟩
          · skip
            refine w_aload rfl rfl ?_
            refine w_getI (v := .inl (a 0 8)) rfl rfl rfl rfl rfl ?_
            have q226 : 0 ≤ (a 0 8).toInt ∧ (a 0 8).toInt ≤ 2147483647 := hR 0 8
            refine w_if_le rfl (fun c227 => ?_) (fun c227 => ?_)
            · skip
              refine w_aload rfl rfl ?_
              refine w_const rfl ?_
              refine w_invV (rest := []) rfl rfl rfl rfl rfl (Nat.le_of_ble_eq_true rfl) rfl (by omega) (s_hasWord_1 (K := K) a b N 24 hR (by omega) (hP.T)) (fun v228 h9 hq229 => ?_)
              obtain ⟨a230, rfl, ha230, fa230, x231, rfl, px231⟩ := hq229
              show f_wp _ (96, [some (.inr (.inr (some 0))), some (.inl e), some (.inl 1), some (.inl x9)], [.inl x231], mH a230 b) _
              have Q1 := PS.tok hP fa230.1 fa230.2.1 (fun z => by rw [← fa230.2.2.1]; exact z)
              have u8 := px231
              have k1 := Q1.2.2.2.2
              have g1 := Q1.2.2.2.1
              have j1 := Q1.1.2.1
              have c1 := Q1.1.2.2.2.1
              refine w_if_eq rfl (fun c232 => ?_) (fun c232 => ?_)
              · skip
                have nW : ¬ iW a b 24 := (u8.resolve_left (by omega)).2.2
                refine w_aload rfl rfl ?_
                refine w_const rfl ?_
                refine w_invV (rest := []) rfl rfl rfl rfl rfl (Nat.le_of_ble_eq_true rfl) rfl (by omega) (s_hasSign_1 (K := K) a230 b N 40 ha230 (Q1.1.T)) (fun v233 h9 hq234 => ?_)
                obtain ⟨a235, rfl, ha235, fa235, x236, rfl, px236⟩ := hq234
                show f_wp _ (121, [some (.inr (.inr (some 0))), some (.inl e), some (.inl 1), some (.inl x9)], [.inl x236], mH a235 b) _
                have Q4 := PS.tok Q1.1 fa235.1 fa235.2.1 (fun z => by rw [← fa235.2.2.1]; exact z)
                have s8 := px236
                have k4 := Q4.2.2.2.2
                have g4 := Q4.2.2.2.1
                have j4 := Q4.1.2.1
                have c4 := Q4.1.2.2.2.1
                refine w_if_eq rfl (fun c237 => ?_) (fun c237 => ?_)
                · skip
                  have nS : ¬ iS a b 40 := fun z => (s8.resolve_left (by omega)).2.2 ((iS.same (by rw [fa230.2.2.1]) (by omega) (fa230.1 2 (by decide))).mpr z)
                  have G9 : 0 ≤ x9.toInt ∨ (1 : Int32).toInt = 1 := by first | (left; omega) | (right; omega) | exact absurd (s9.resolve_right (by omega)).2 nS | exact absurd (u9.resolve_right (by omega)).2 nW
                  have y9 : (a 0 7).toInt < N := TK.lt hP.T z7.1 (by omega)
                  have d13 : (a235 0 13).toInt = (a 0 13).toInt := by rw [fa235.2.1.1 13 (by decide) (by decide), fa230.2.1.1 13 (by decide) (by decide)]
                  have d7 : (a235 0 7).toInt = (a 0 7).toInt := by omega
                  refine w_aload rfl rfl ?_
                  refine w_iload rfl rfl ?_
                  refine w_if_eq rfl (fun c238 => ?_) (fun c238 => ?_)
                  · skip
                    refine w_const rfl ?_
                    refine w_iload rfl rfl ?_
                    refine w_if_eq rfl (fun c239 => ?_) (fun c239 => ?_)
                    · skip
                      refine w_iload rfl rfl ?_
                      refine w_invV (rest := []) rfl rfl rfl rfl rfl (Nat.le_of_ble_eq_true rfl) rfl (by omega) (s_emit_1 (K := K) a235 b  2 x9 ha235 (by omega) (by omega)) (fun v240 h9 hq241 => ?_)
                      obtain ⟨a242, rfl, ha242, fa242, rfl⟩ := hq241
                      show f_wp _ (171, [some (.inr (.inr (some 0))), some (.inl e), some (.inl 1), some (.inl x9)], [], mH a242 b) _
                      have d8 : (a242 0 7).toInt = (a 0 7).toInt := by rw [fa242.2.1 7 (by decide)]; omega
                      refine w_aload rfl rfl ?_
                      refine w_dup rfl rfl ?_
                      refine w_getI (v := .inl (a242 0 7)) rfl rfl rfl rfl rfl ?_
                      have q243 : 0 ≤ (a242 0 7).toInt ∧ (a242 0 7).toInt ≤ 1000 := ha242 0 7
                      refine w_const rfl ?_
                      first | refine w_iadd rfl (by omega) (fun x244 tx244 => ?_) | refine w_iiU rfl (fun x244 tx244 => ?_)
                      refine m_putI (z := false) rfl rfl rfl rfl (by first | (intro h9; cases h9; done) | (intro _; first | exact Or.inl rfl | exact Or.inr rfl | assumption)) (fun a245 ea245 => ?_)
                      have ha245 : RM K a245 := RM.up ha242 ea245 (show (0 : Int) ≤ _ ∧ _ ≤ (1000 : Int) from by omega)
                      have ua245_7 : a245 0 7 = x244 := by rw [ea245, mU_same]
                      have wa245_7 := congrArg Int32.toInt ua245_7
                      have ua245_8 : (a245 0 8).toInt = (a242 0 8).toInt := by rw [ea245, mU_slot (by decide)]
                      have ua245_16 : (a245 0 16).toInt = (a242 0 16).toInt := by rw [ea245, mU_slot (by decide)]
                      have Q7 := PS.lit (k := h + 1) Q4.1 fa242.1 fa242.2 ea245 (by omega) (by omega) (fun _ => hgs_lit (by omega))
                      exact w_ret rfl ⟨a245, rfl, ha245, ⟨FR.up (FR.tr (FR.tr (FR.tr (FR.rf) (FR.sub fa230.1 (by decide))) (FR.sub fa235.1 (by decide))) (FR.sub fa242.1 (by decide))) (by decide) ea245, ⟨Q7.1, ((Q1.2.tr Q4.2).tr Q7.2).le (by omega)⟩⟩, rfl⟩
                    · skip
                      refine w_aload rfl rfl ?_
                      refine w_getR (v := .inr (.inr (some 4))) rfl rfl rfl rfl rfl ?_
                      refine w_aload rfl rfl ?_
                      refine w_getI (v := .inl (a235 0 7)) rfl rfl rfl rfl rfl ?_
                      have q246 : 0 ≤ (a235 0 7).toInt ∧ (a235 0 7).toInt ≤ 1000 := ha235 0 7
                      refine m_lald rfl rfl (by omega) (fun y247 ey247 => ?_)
                      refine w_l2iE rfl (fun x248 tx248 => ?_)
                      refine w_goto rfl ?_
                      refine w_invV (rest := []) rfl rfl rfl rfl rfl (Nat.le_of_ble_eq_true rfl) rfl (by omega) (s_emit_1 (K := K) a235 b  2 x248 ha235 (by omega) (by omega)) (fun v249 h9 hq250 => ?_)
                      obtain ⟨a251, rfl, ha251, fa251, rfl⟩ := hq250
                      show f_wp _ (171, [some (.inr (.inr (some 0))), some (.inl e), some (.inl 1), some (.inl x9)], [], mH a251 b) _
                      have d8 : (a251 0 7).toInt = (a 0 7).toInt := by rw [fa251.2.1 7 (by decide)]; omega
                      refine w_aload rfl rfl ?_
                      refine w_dup rfl rfl ?_
                      refine w_getI (v := .inl (a251 0 7)) rfl rfl rfl rfl rfl ?_
                      have q252 : 0 ≤ (a251 0 7).toInt ∧ (a251 0 7).toInt ≤ 1000 := ha251 0 7
                      refine w_const rfl ?_
                      first | refine w_iadd rfl (by omega) (fun x253 tx253 => ?_) | refine w_iiU rfl (fun x253 tx253 => ?_)
                      refine m_putI (z := false) rfl rfl rfl rfl (by first | (intro h9; cases h9; done) | (intro _; first | exact Or.inl rfl | exact Or.inr rfl | assumption)) (fun a254 ea254 => ?_)
                      have ha254 : RM K a254 := RM.up ha251 ea254 (show (0 : Int) ≤ _ ∧ _ ≤ (1000 : Int) from by omega)
                      have ua254_7 : a254 0 7 = x253 := by rw [ea254, mU_same]
                      have wa254_7 := congrArg Int32.toInt ua254_7
                      have ua254_8 : (a254 0 8).toInt = (a251 0 8).toInt := by rw [ea254, mU_slot (by decide)]
                      have ua254_16 : (a254 0 16).toInt = (a251 0 16).toInt := by rw [ea254, mU_slot (by decide)]
                      have Q7 := PS.lit (k := h + 1) Q4.1 fa251.1 fa251.2 ea254 (by omega) (by omega) (fun _ => hgs_lit (by omega))
                      exact w_ret rfl ⟨a254, rfl, ha254, ⟨FR.up (FR.tr (FR.tr (FR.tr (FR.rf) (FR.sub fa230.1 (by decide))) (FR.sub fa235.1 (by decide))) (FR.sub fa251.1 (by decide))) (by decide) ea254, ⟨Q7.1, ((Q1.2.tr Q4.2).tr Q7.2).le (by omega)⟩⟩, rfl⟩
                  · skip
                    refine w_const rfl ?_
                    refine w_goto rfl ?_
                    refine w_iload rfl rfl ?_
                    refine w_if_eq rfl (fun c255 => ?_) (fun c255 => ?_)
                    · skip
                      refine w_iload rfl rfl ?_
                      refine w_invV (rest := []) rfl rfl rfl rfl rfl (Nat.le_of_ble_eq_true rfl) rfl (by omega) (s_emit_1 (K := K) a235 b  1 x9 ha235 (by omega) (by omega)) (fun v256 h9 hq257 => ?_)
                      obtain ⟨a258, rfl, ha258, fa258, rfl⟩ := hq257
                      show f_wp _ (171, [some (.inr (.inr (some 0))), some (.inl e), some (.inl 1), some (.inl x9)], [], mH a258 b) _
                      have d8 : (a258 0 7).toInt = (a 0 7).toInt := by rw [fa258.2.1 7 (by decide)]; omega
                      refine w_aload rfl rfl ?_
                      refine w_dup rfl rfl ?_
                      refine w_getI (v := .inl (a258 0 7)) rfl rfl rfl rfl rfl ?_
                      have q259 : 0 ≤ (a258 0 7).toInt ∧ (a258 0 7).toInt ≤ 1000 := ha258 0 7
                      refine w_const rfl ?_
                      first | refine w_iadd rfl (by omega) (fun x260 tx260 => ?_) | refine w_iiU rfl (fun x260 tx260 => ?_)
                      refine m_putI (z := false) rfl rfl rfl rfl (by first | (intro h9; cases h9; done) | (intro _; first | exact Or.inl rfl | exact Or.inr rfl | assumption)) (fun a261 ea261 => ?_)
                      have ha261 : RM K a261 := RM.up ha258 ea261 (show (0 : Int) ≤ _ ∧ _ ≤ (1000 : Int) from by omega)
                      have ua261_7 : a261 0 7 = x260 := by rw [ea261, mU_same]
                      have wa261_7 := congrArg Int32.toInt ua261_7
                      have ua261_8 : (a261 0 8).toInt = (a258 0 8).toInt := by rw [ea261, mU_slot (by decide)]
                      have ua261_16 : (a261 0 16).toInt = (a258 0 16).toInt := by rw [ea261, mU_slot (by decide)]
                      have Q7 := PS.lit (k := h + 1) Q4.1 fa258.1 fa258.2 ea261 (by omega) (by omega) (fun _ => hgs_lit (by omega))
                      exact w_ret rfl ⟨a261, rfl, ha261, ⟨FR.up (FR.tr (FR.tr (FR.tr (FR.rf) (FR.sub fa230.1 (by decide))) (FR.sub fa235.1 (by decide))) (FR.sub fa258.1 (by decide))) (by decide) ea261, ⟨Q7.1, ((Q1.2.tr Q4.2).tr Q7.2).le (by omega)⟩⟩, rfl⟩
                    · skip
                      refine w_aload rfl rfl ?_
                      refine w_getR (v := .inr (.inr (some 4))) rfl rfl rfl rfl rfl ?_
                      refine w_aload rfl rfl ?_
                      refine w_getI (v := .inl (a235 0 7)) rfl rfl rfl rfl rfl ?_
                      have q262 : 0 ≤ (a235 0 7).toInt ∧ (a235 0 7).toInt ≤ 1000 := ha235 0 7
                      refine m_lald rfl rfl (by omega) (fun y263 ey263 => ?_)
                      refine w_l2iE rfl (fun x264 tx264 => ?_)
                      refine w_goto rfl ?_
                      refine w_invV (rest := []) rfl rfl rfl rfl rfl (Nat.le_of_ble_eq_true rfl) rfl (by omega) (s_emit_1 (K := K) a235 b  1 x264 ha235 (by omega) (by omega)) (fun v265 h9 hq266 => ?_)
                      obtain ⟨a267, rfl, ha267, fa267, rfl⟩ := hq266
                      show f_wp _ (171, [some (.inr (.inr (some 0))), some (.inl e), some (.inl 1), some (.inl x9)], [], mH a267 b) _
                      have d8 : (a267 0 7).toInt = (a 0 7).toInt := by rw [fa267.2.1 7 (by decide)]; omega
                      refine w_aload rfl rfl ?_
                      refine w_dup rfl rfl ?_
                      refine w_getI (v := .inl (a267 0 7)) rfl rfl rfl rfl rfl ?_
                      have q268 : 0 ≤ (a267 0 7).toInt ∧ (a267 0 7).toInt ≤ 1000 := ha267 0 7
                      refine w_const rfl ?_
                      first | refine w_iadd rfl (by omega) (fun x269 tx269 => ?_) | refine w_iiU rfl (fun x269 tx269 => ?_)
                      refine m_putI (z := false) rfl rfl rfl rfl (by first | (intro h9; cases h9; done) | (intro _; first | exact Or.inl rfl | exact Or.inr rfl | assumption)) (fun a270 ea270 => ?_)
                      have ha270 : RM K a270 := RM.up ha267 ea270 (show (0 : Int) ≤ _ ∧ _ ≤ (1000 : Int) from by omega)
                      have ua270_7 : a270 0 7 = x269 := by rw [ea270, mU_same]
                      have wa270_7 := congrArg Int32.toInt ua270_7
                      have ua270_8 : (a270 0 8).toInt = (a267 0 8).toInt := by rw [ea270, mU_slot (by decide)]
                      have ua270_16 : (a270 0 16).toInt = (a267 0 16).toInt := by rw [ea270, mU_slot (by decide)]
                      have Q7 := PS.lit (k := h + 1) Q4.1 fa267.1 fa267.2 ea270 (by omega) (by omega) (fun _ => hgs_lit (by omega))
                      exact w_ret rfl ⟨a270, rfl, ha270, ⟨FR.up (FR.tr (FR.tr (FR.tr (FR.rf) (FR.sub fa230.1 (by decide))) (FR.sub fa235.1 (by decide))) (FR.sub fa267.1 (by decide))) (by decide) ea270, ⟨Q7.1, ((Q1.2.tr Q4.2).tr Q7.2).le (by omega)⟩⟩, rfl⟩
                · skip
                  refine w_aload rfl rfl ?_
                  refine w_iload rfl rfl ?_
                  refine w_const rfl ?_
                  first | refine w_iadd rfl (by omega) (fun x271 tx271 => ?_) | refine w_iiU rfl (fun x271 tx271 => ?_)
                  refine w_invV (rest := []) rfl rfl rfl rfl rfl (Nat.le_of_ble_eq_true rfl) rfl (by omega) (ihA x271 (by omega) (by omega) _ a235 b ha235 Q4.1) (fun v272 h9 hq273 => ?_)
                  obtain ⟨a274, rfl, ha274, fa274, rfl⟩ := hq273
                  show f_wp _ (131, [some (.inr (.inr (some 0))), some (.inl e), some (.inl 1), some (.inl x9)], [], mH a274 b) _
                  have Q5 := fa274.2
                  have k5 := Q5.2.2.2.2
                  have g5 := Q5.2.2.2.1
                  have j5 := Q5.1.2.1
                  have c5 := Q5.1.2.2.2.1
                  refine w_aload rfl rfl ?_
                  refine w_const rfl ?_
                  refine w_invV (rest := []) rfl rfl rfl rfl rfl (Nat.le_of_ble_eq_true rfl) rfl (by omega) (s_takeSign (K := K) a274 b N 41 ha274 (Q5.1.T)) (fun v275 h9 hq276 => ?_)
                  obtain ⟨a277, rfl, ha277, fa277, rfl⟩ := hq276
                  show f_wp _ (137, [some (.inr (.inr (some 0))), some (.inl e), some (.inl 1), some (.inl x9)], [], mH a277 b) _
                  have Q6 := PS.tok Q5.1 fa277.1 fa277.2.1 (fun z => by have o9 := fa277.2.2; omega)
                  have k6 := Q6.2.2.2.2
                  have g6 := Q6.2.2.2.1
                  have j6 := Q6.1.2.1
                  have c6 := Q6.1.2.2.2.1
                  refine w_goto rfl ?_
                  exact w_ret rfl ⟨a277, rfl, ha277, ⟨FR.tr (FR.tr (FR.tr (FR.tr (FR.rf) (FR.sub fa230.1 (by decide))) (FR.sub fa235.1 (by decide))) (FR.sub fa274.1 (by decide))) (FR.sub fa277.1 (by decide)), ⟨Q6.1, (((Q1.2.tr Q4.2).tr Q5.2).tr Q6.2).le (by omega)⟩⟩, rfl⟩
              · skip
                refine w_aload rfl rfl ?_
                refine w_iload rfl rfl ?_
                refine w_const rfl ?_
                first | refine w_iadd rfl (by omega) (fun x278 tx278 => ?_) | refine w_iiU rfl (fun x278 tx278 => ?_)
                refine w_invV (rest := []) rfl rfl rfl rfl rfl (Nat.le_of_ble_eq_true rfl) rfl (by omega) (ihT x278 (by omega) (by omega) _ a230 b ha230 Q1.1) (fun v279 h9 hq280 => ?_)
                obtain ⟨a281, rfl, ha281, fa281, rfl⟩ := hq280
                show f_wp _ (106, [some (.inr (.inr (some 0))), some (.inl e), some (.inl 1), some (.inl x9)], [], mH a281 b) _
                have Q2 := fa281.2
                have k2 := Q2.2.2.2.2
                have g2 := Q2.2.2.2.1
                have j2 := Q2.1.2.1
                have c2 := Q2.1.2.2.2.1
                refine w_aload rfl rfl ?_
                refine w_const rfl ?_
                refine w_const rfl ?_
                refine w_invV (rest := []) rfl rfl rfl rfl rfl (Nat.le_of_ble_eq_true rfl) rfl (by omega) (s_emit_1 (K := K) a281 b  3 0 ha281 (by omega) (by omega)) (fun v282 h9 hq283 => ?_)
                obtain ⟨a284, rfl, ha284, fa284, rfl⟩ := hq283
                show f_wp _ (112, [some (.inr (.inr (some 0))), some (.inl e), some (.inl 1), some (.inl x9)], [], mH a284 b) _
                have Q3 := PS.emit (k := h + 1) Q2.1 fa284.1 fa284.2 (by omega) (fun _ => by rw [l3]; exact hgs_not)
                have k3 := Q3.2.2.2.2
                have g3 := Q3.2.2.2.1
                have j3 := Q3.1.2.1
                have c3 := Q3.1.2.2.2.1
                refine w_goto rfl ?_
                exact w_ret rfl ⟨a284, rfl, ha284, ⟨FR.tr (FR.tr (FR.tr (FR.rf) (FR.sub fa230.1 (by decide))) (FR.sub fa281.1 (by decide))) (FR.sub fa284.1 (by decide)), ⟨Q3.1, ((Q1.2.tr Q2.2).tr Q3.2).le (by omega)⟩⟩, rfl⟩
            · skip
              exact w_ret rfl ⟨a, rfl, hR, ⟨FR.rf, ⟨PS.bad hP (by omega), KP.rf⟩⟩, rfl⟩
    · skip
      refine w_const rfl ?_
      refine w_istore (lo' := [some (.inr (.inr (some 0))), some (.inl e), some (.inl 0), none]) rfl rfl ?_
      refine w_aload rfl rfl ?_
      refine w_const rfl ?_
      refine w_aload rfl rfl ?_
      refine w_getI (v := .inl (a 0 16)) rfl rfl rfl rfl rfl ?_
      have q285 : 0 ≤ (a 0 16).toInt ∧ (a 0 16).toInt ≤ 4 := hR 0 16
      refine w_invV (rest := []) rfl rfl rfl rfl rfl (Nat.le_of_ble_eq_true rfl) rfl (by omega) (s_wordHere (K := K) a b  27 (a 0 16) hR (by omega)) (fun v286 h9 hq287 => ?_)
      obtain ⟨rfl, x288, rfl, px288⟩ := hq287
      show f_wp _ (37, [some (.inr (.inr (some 0))), some (.inl e), some (.inl 0), none], [.inl x288], mH a b) _
      have w9 := px288
      refine w_istore (lo' := [some (.inr (.inr (some 0))), some (.inl e), some (.inl 0), some (.inl x288)]) rfl rfl ?_
      refine w_iload rfl rfl ?_
      refine w_if_ge rfl (fun c289 => ?_) (fun c289 => ?_)
      · skip
        refine w_iload rfl rfl ?_
        refine w_const rfl ?_
        refine w_ic_ne rfl (fun c290 => ?_) (fun c290 => ?_)
        · skip
          refine w_aload rfl rfl ?_
          refine w_const rfl ?_
          refine w_invV (rest := []) rfl rfl rfl rfl rfl (Nat.le_of_ble_eq_true rfl) rfl (by omega) (s_wrong (K := K) a b  5 hR (by omega)) (fun v291 h9 hq292 => ?_)
          obtain ⟨a293, rfl, ha293, fa293, rfl⟩ := hq292
          show f_wp _ (82, [some (.inr (.inr (some 0))), some (.inl e), some (.inl 0), some (.inl x288)], [], mH a293 b) _
          have Pw := PS.wrong (k := h + 1) hP fa293.1 fa293.2.1 fa293.2.2
          have wg := fa293.2.2
          refine w_aload rfl rfl ?_
          refine w_getI (v := .inl (a293 0 8)) rfl rfl rfl rfl rfl ?_
          have q294 : 0 ≤ (a293 0 8).toInt ∧ (a293 0 8).toInt ≤ 2147483647 := ha293 0 8
          refine w_if_le rfl (fun c295 => ?_) (fun c295 => ?_)
          · exfalso; omega
          · skip
            exact w_ret rfl ⟨a293, rfl, ha293, ⟨FR.tr (FR.rf) (FR.sub fa293.1 (by decide)), Pw⟩, rfl⟩
        · skip
          refine w_aload rfl rfl ?_
          refine w_getI (v := .inl (a 0 8)) rfl rfl rfl rfl rfl ?_
          have q296 : 0 ≤ (a 0 8).toInt ∧ (a 0 8).toInt ≤ 2147483647 := hR 0 8
          refine w_if_le rfl (fun c297 => ?_) (fun c297 => ?_)
          · skip
            refine w_aload rfl rfl ?_
            refine w_const rfl ?_
            refine w_invV (rest := []) rfl rfl rfl rfl rfl (Nat.le_of_ble_eq_true rfl) rfl (by omega) (s_hasWord_1 (K := K) a b N 24 hR (by omega) (hP.T)) (fun v298 h9 hq299 => ?_)
            obtain ⟨a300, rfl, ha300, fa300, x301, rfl, px301⟩ := hq299
            show f_wp _ (96, [some (.inr (.inr (some 0))), some (.inl e), some (.inl 0), some (.inl x288)], [.inl x301], mH a300 b) _
            have Q1 := PS.tok hP fa300.1 fa300.2.1 (fun z => by rw [← fa300.2.2.1]; exact z)
            have u8 := px301
            have k1 := Q1.2.2.2.2
            have g1 := Q1.2.2.2.1
            have j1 := Q1.1.2.1
            have c1 := Q1.1.2.2.2.1
            refine w_if_eq rfl (fun c302 => ?_) (fun c302 => ?_)
            · skip
              have nW : ¬ iW a b 24 := (u8.resolve_left (by omega)).2.2
              refine w_aload rfl rfl ?_
              refine w_const rfl ?_
              refine w_invV (rest := []) rfl rfl rfl rfl rfl (Nat.le_of_ble_eq_true rfl) rfl (by omega) (s_hasSign_1 (K := K) a300 b N 40 ha300 (Q1.1.T)) (fun v303 h9 hq304 => ?_)
              obtain ⟨a305, rfl, ha305, fa305, x306, rfl, px306⟩ := hq304
              show f_wp _ (121, [some (.inr (.inr (some 0))), some (.inl e), some (.inl 0), some (.inl x288)], [.inl x306], mH a305 b) _
              have Q4 := PS.tok Q1.1 fa305.1 fa305.2.1 (fun z => by rw [← fa305.2.2.1]; exact z)
              have s8 := px306
              have k4 := Q4.2.2.2.2
              have g4 := Q4.2.2.2.1
              have j4 := Q4.1.2.1
              have c4 := Q4.1.2.2.2.1
              refine w_if_eq rfl (fun c307 => ?_) (fun c307 => ?_)
              · skip
                have nS : ¬ iS a b 40 := fun z => (s8.resolve_left (by omega)).2.2 ((iS.same (by rw [fa300.2.2.1]) (by omega) (fa300.1 2 (by decide))).mpr z)
                have G9 : 0 ≤ x288.toInt ∨ (0 : Int32).toInt = 1 := by first | (left; omega) | (right; omega) | exact absurd (s9.resolve_right (by omega)).2 nS | exact absurd (u9.resolve_right (by omega)).2 nW
                have y9 : (a 0 7).toInt < N := TK.lt hP.T z7.1 (by omega)
                have d13 : (a305 0 13).toInt = (a 0 13).toInt := by rw [fa305.2.1.1 13 (by decide) (by decide), fa300.2.1.1 13 (by decide) (by decide)]
                have d7 : (a305 0 7).toInt = (a 0 7).toInt := by omega
                refine w_aload rfl rfl ?_
                refine w_iload rfl rfl ?_
                refine w_if_eq rfl (fun c308 => ?_) (fun c308 => ?_)
                · skip
                  refine w_const rfl ?_
                  refine w_iload rfl rfl ?_
                  refine w_if_eq rfl (fun c309 => ?_) (fun c309 => ?_)
                  · skip
                    refine w_iload rfl rfl ?_
                    refine w_invV (rest := []) rfl rfl rfl rfl rfl (Nat.le_of_ble_eq_true rfl) rfl (by omega) (s_emit_1 (K := K) a305 b  2 x288 ha305 (by omega) (by omega)) (fun v310 h9 hq311 => ?_)
                    obtain ⟨a312, rfl, ha312, fa312, rfl⟩ := hq311
                    show f_wp _ (171, [some (.inr (.inr (some 0))), some (.inl e), some (.inl 0), some (.inl x288)], [], mH a312 b) _
                    have d8 : (a312 0 7).toInt = (a 0 7).toInt := by rw [fa312.2.1 7 (by decide)]; omega
                    refine w_aload rfl rfl ?_
                    refine w_dup rfl rfl ?_
                    refine w_getI (v := .inl (a312 0 7)) rfl rfl rfl rfl rfl ?_
                    have q313 : 0 ≤ (a312 0 7).toInt ∧ (a312 0 7).toInt ≤ 1000 := ha312 0 7
                    refine w_const rfl ?_
                    first | refine w_iadd rfl (by omega) (fun x314 tx314 => ?_) | refine w_iiU rfl (fun x314 tx314 => ?_)
                    refine m_putI (z := false) rfl rfl rfl rfl (by first | (intro h9; cases h9; done) | (intro _; first | exact Or.inl rfl | exact Or.inr rfl | assumption)) (fun a315 ea315 => ?_)
                    have ha315 : RM K a315 := RM.up ha312 ea315 (show (0 : Int) ≤ _ ∧ _ ≤ (1000 : Int) from by omega)
                    have ua315_7 : a315 0 7 = x314 := by rw [ea315, mU_same]
                    have wa315_7 := congrArg Int32.toInt ua315_7
                    have ua315_8 : (a315 0 8).toInt = (a312 0 8).toInt := by rw [ea315, mU_slot (by decide)]
                    have ua315_16 : (a315 0 16).toInt = (a312 0 16).toInt := by rw [ea315, mU_slot (by decide)]
                    have Q7 := PS.lit (k := h + 1) Q4.1 fa312.1 fa312.2 ea315 (by omega) (by omega) (fun _ => hgs_lit (by omega))
                    exact w_ret rfl ⟨a315, rfl, ha315, ⟨FR.up (FR.tr (FR.tr (FR.tr (FR.rf) (FR.sub fa300.1 (by decide))) (FR.sub fa305.1 (by decide))) (FR.sub fa312.1 (by decide))) (by decide) ea315, ⟨Q7.1, ((Q1.2.tr Q4.2).tr Q7.2).le (by omega)⟩⟩, rfl⟩
                  · skip
                    refine w_aload rfl rfl ?_
                    refine w_getR (v := .inr (.inr (some 4))) rfl rfl rfl rfl rfl ?_
                    refine w_aload rfl rfl ?_
                    refine w_getI (v := .inl (a305 0 7)) rfl rfl rfl rfl rfl ?_
                    have q316 : 0 ≤ (a305 0 7).toInt ∧ (a305 0 7).toInt ≤ 1000 := ha305 0 7
                    refine m_lald rfl rfl (by omega) (fun y317 ey317 => ?_)
                    refine w_l2iE rfl (fun x318 tx318 => ?_)
                    refine w_goto rfl ?_
                    refine w_invV (rest := []) rfl rfl rfl rfl rfl (Nat.le_of_ble_eq_true rfl) rfl (by omega) (s_emit_1 (K := K) a305 b  2 x318 ha305 (by omega) (by omega)) (fun v319 h9 hq320 => ?_)
                    obtain ⟨a321, rfl, ha321, fa321, rfl⟩ := hq320
                    show f_wp _ (171, [some (.inr (.inr (some 0))), some (.inl e), some (.inl 0), some (.inl x288)], [], mH a321 b) _
                    have d8 : (a321 0 7).toInt = (a 0 7).toInt := by rw [fa321.2.1 7 (by decide)]; omega
                    refine w_aload rfl rfl ?_
                    refine w_dup rfl rfl ?_
                    refine w_getI (v := .inl (a321 0 7)) rfl rfl rfl rfl rfl ?_
                    have q322 : 0 ≤ (a321 0 7).toInt ∧ (a321 0 7).toInt ≤ 1000 := ha321 0 7
                    refine w_const rfl ?_
                    first | refine w_iadd rfl (by omega) (fun x323 tx323 => ?_) | refine w_iiU rfl (fun x323 tx323 => ?_)
                    refine m_putI (z := false) rfl rfl rfl rfl (by first | (intro h9; cases h9; done) | (intro _; first | exact Or.inl rfl | exact Or.inr rfl | assumption)) (fun a324 ea324 => ?_)
                    have ha324 : RM K a324 := RM.up ha321 ea324 (show (0 : Int) ≤ _ ∧ _ ≤ (1000 : Int) from by omega)
                    have ua324_7 : a324 0 7 = x323 := by rw [ea324, mU_same]
                    have wa324_7 := congrArg Int32.toInt ua324_7
                    have ua324_8 : (a324 0 8).toInt = (a321 0 8).toInt := by rw [ea324, mU_slot (by decide)]
                    have ua324_16 : (a324 0 16).toInt = (a321 0 16).toInt := by rw [ea324, mU_slot (by decide)]
                    have Q7 := PS.lit (k := h + 1) Q4.1 fa321.1 fa321.2 ea324 (by omega) (by omega) (fun _ => hgs_lit (by omega))
                    exact w_ret rfl ⟨a324, rfl, ha324, ⟨FR.up (FR.tr (FR.tr (FR.tr (FR.rf) (FR.sub fa300.1 (by decide))) (FR.sub fa305.1 (by decide))) (FR.sub fa321.1 (by decide))) (by decide) ea324, ⟨Q7.1, ((Q1.2.tr Q4.2).tr Q7.2).le (by omega)⟩⟩, rfl⟩
                · skip
                  refine w_const rfl ?_
                  refine w_goto rfl ?_
                  refine w_iload rfl rfl ?_
                  refine w_if_eq rfl (fun c325 => ?_) (fun c325 => ?_)
                  · skip
                    refine w_iload rfl rfl ?_
                    refine w_invV (rest := []) rfl rfl rfl rfl rfl (Nat.le_of_ble_eq_true rfl) rfl (by omega) (s_emit_1 (K := K) a305 b  1 x288 ha305 (by omega) (by omega)) (fun v326 h9 hq327 => ?_)
                    obtain ⟨a328, rfl, ha328, fa328, rfl⟩ := hq327
                    show f_wp _ (171, [some (.inr (.inr (some 0))), some (.inl e), some (.inl 0), some (.inl x288)], [], mH a328 b) _
                    have d8 : (a328 0 7).toInt = (a 0 7).toInt := by rw [fa328.2.1 7 (by decide)]; omega
                    refine w_aload rfl rfl ?_
                    refine w_dup rfl rfl ?_
                    refine w_getI (v := .inl (a328 0 7)) rfl rfl rfl rfl rfl ?_
                    have q329 : 0 ≤ (a328 0 7).toInt ∧ (a328 0 7).toInt ≤ 1000 := ha328 0 7
                    refine w_const rfl ?_
                    first | refine w_iadd rfl (by omega) (fun x330 tx330 => ?_) | refine w_iiU rfl (fun x330 tx330 => ?_)
                    refine m_putI (z := false) rfl rfl rfl rfl (by first | (intro h9; cases h9; done) | (intro _; first | exact Or.inl rfl | exact Or.inr rfl | assumption)) (fun a331 ea331 => ?_)
                    have ha331 : RM K a331 := RM.up ha328 ea331 (show (0 : Int) ≤ _ ∧ _ ≤ (1000 : Int) from by omega)
                    have ua331_7 : a331 0 7 = x330 := by rw [ea331, mU_same]
                    have wa331_7 := congrArg Int32.toInt ua331_7
                    have ua331_8 : (a331 0 8).toInt = (a328 0 8).toInt := by rw [ea331, mU_slot (by decide)]
                    have ua331_16 : (a331 0 16).toInt = (a328 0 16).toInt := by rw [ea331, mU_slot (by decide)]
                    have Q7 := PS.lit (k := h + 1) Q4.1 fa328.1 fa328.2 ea331 (by omega) (by omega) (fun _ => hgs_lit (by omega))
                    exact w_ret rfl ⟨a331, rfl, ha331, ⟨FR.up (FR.tr (FR.tr (FR.tr (FR.rf) (FR.sub fa300.1 (by decide))) (FR.sub fa305.1 (by decide))) (FR.sub fa328.1 (by decide))) (by decide) ea331, ⟨Q7.1, ((Q1.2.tr Q4.2).tr Q7.2).le (by omega)⟩⟩, rfl⟩
                  · skip
                    refine w_aload rfl rfl ?_
                    refine w_getR (v := .inr (.inr (some 4))) rfl rfl rfl rfl rfl ?_
                    refine w_aload rfl rfl ?_
                    refine w_getI (v := .inl (a305 0 7)) rfl rfl rfl rfl rfl ?_
                    have q332 : 0 ≤ (a305 0 7).toInt ∧ (a305 0 7).toInt ≤ 1000 := ha305 0 7
                    refine m_lald rfl rfl (by omega) (fun y333 ey333 => ?_)
                    refine w_l2iE rfl (fun x334 tx334 => ?_)
                    refine w_goto rfl ?_
                    refine w_invV (rest := []) rfl rfl rfl rfl rfl (Nat.le_of_ble_eq_true rfl) rfl (by omega) (s_emit_1 (K := K) a305 b  1 x334 ha305 (by omega) (by omega)) (fun v335 h9 hq336 => ?_)
                    obtain ⟨a337, rfl, ha337, fa337, rfl⟩ := hq336
                    show f_wp _ (171, [some (.inr (.inr (some 0))), some (.inl e), some (.inl 0), some (.inl x288)], [], mH a337 b) _
                    have d8 : (a337 0 7).toInt = (a 0 7).toInt := by rw [fa337.2.1 7 (by decide)]; omega
                    refine w_aload rfl rfl ?_
                    refine w_dup rfl rfl ?_
                    refine w_getI (v := .inl (a337 0 7)) rfl rfl rfl rfl rfl ?_
                    have q338 : 0 ≤ (a337 0 7).toInt ∧ (a337 0 7).toInt ≤ 1000 := ha337 0 7
                    refine w_const rfl ?_
                    first | refine w_iadd rfl (by omega) (fun x339 tx339 => ?_) | refine w_iiU rfl (fun x339 tx339 => ?_)
                    refine m_putI (z := false) rfl rfl rfl rfl (by first | (intro h9; cases h9; done) | (intro _; first | exact Or.inl rfl | exact Or.inr rfl | assumption)) (fun a340 ea340 => ?_)
                    have ha340 : RM K a340 := RM.up ha337 ea340 (show (0 : Int) ≤ _ ∧ _ ≤ (1000 : Int) from by omega)
                    have ua340_7 : a340 0 7 = x339 := by rw [ea340, mU_same]
                    have wa340_7 := congrArg Int32.toInt ua340_7
                    have ua340_8 : (a340 0 8).toInt = (a337 0 8).toInt := by rw [ea340, mU_slot (by decide)]
                    have ua340_16 : (a340 0 16).toInt = (a337 0 16).toInt := by rw [ea340, mU_slot (by decide)]
                    have Q7 := PS.lit (k := h + 1) Q4.1 fa337.1 fa337.2 ea340 (by omega) (by omega) (fun _ => hgs_lit (by omega))
                    exact w_ret rfl ⟨a340, rfl, ha340, ⟨FR.up (FR.tr (FR.tr (FR.tr (FR.rf) (FR.sub fa300.1 (by decide))) (FR.sub fa305.1 (by decide))) (FR.sub fa337.1 (by decide))) (by decide) ea340, ⟨Q7.1, ((Q1.2.tr Q4.2).tr Q7.2).le (by omega)⟩⟩, rfl⟩
              · skip
                refine w_aload rfl rfl ?_
                refine w_iload rfl rfl ?_
                refine w_const rfl ?_
                first | refine w_iadd rfl (by omega) (fun x341 tx341 => ?_) | refine w_iiU rfl (fun x341 tx341 => ?_)
                refine w_invV (rest := []) rfl rfl rfl rfl rfl (Nat.le_of_ble_eq_true rfl) rfl (by omega) (ihA x341 (by omega) (by omega) _ a305 b ha305 Q4.1) (fun v342 h9 hq343 => ?_)
                obtain ⟨a344, rfl, ha344, fa344, rfl⟩ := hq343
                show f_wp _ (131, [some (.inr (.inr (some 0))), some (.inl e), some (.inl 0), some (.inl x288)], [], mH a344 b) _
                have Q5 := fa344.2
                have k5 := Q5.2.2.2.2
                have g5 := Q5.2.2.2.1
                have j5 := Q5.1.2.1
                have c5 := Q5.1.2.2.2.1
                refine w_aload rfl rfl ?_
                refine w_const rfl ?_
                refine w_invV (rest := []) rfl rfl rfl rfl rfl (Nat.le_of_ble_eq_true rfl) rfl (by omega) (s_takeSign (K := K) a344 b N 41 ha344 (Q5.1.T)) (fun v345 h9 hq346 => ?_)
                obtain ⟨a347, rfl, ha347, fa347, rfl⟩ := hq346
                show f_wp _ (137, [some (.inr (.inr (some 0))), some (.inl e), some (.inl 0), some (.inl x288)], [], mH a347 b) _
                have Q6 := PS.tok Q5.1 fa347.1 fa347.2.1 (fun z => by have o9 := fa347.2.2; omega)
                have k6 := Q6.2.2.2.2
                have g6 := Q6.2.2.2.1
                have j6 := Q6.1.2.1
                have c6 := Q6.1.2.2.2.1
                refine w_goto rfl ?_
                exact w_ret rfl ⟨a347, rfl, ha347, ⟨FR.tr (FR.tr (FR.tr (FR.tr (FR.rf) (FR.sub fa300.1 (by decide))) (FR.sub fa305.1 (by decide))) (FR.sub fa344.1 (by decide))) (FR.sub fa347.1 (by decide)), ⟨Q6.1, (((Q1.2.tr Q4.2).tr Q5.2).tr Q6.2).le (by omega)⟩⟩, rfl⟩
            · skip
              refine w_aload rfl rfl ?_
              refine w_iload rfl rfl ?_
              refine w_const rfl ?_
              first | refine w_iadd rfl (by omega) (fun x348 tx348 => ?_) | refine w_iiU rfl (fun x348 tx348 => ?_)
              refine w_invV (rest := []) rfl rfl rfl rfl rfl (Nat.le_of_ble_eq_true rfl) rfl (by omega) (ihT x348 (by omega) (by omega) _ a300 b ha300 Q1.1) (fun v349 h9 hq350 => ?_)
              obtain ⟨a351, rfl, ha351, fa351, rfl⟩ := hq350
              show f_wp _ (106, [some (.inr (.inr (some 0))), some (.inl e), some (.inl 0), some (.inl x288)], [], mH a351 b) _
              have Q2 := fa351.2
              have k2 := Q2.2.2.2.2
              have g2 := Q2.2.2.2.1
              have j2 := Q2.1.2.1
              have c2 := Q2.1.2.2.2.1
              refine w_aload rfl rfl ?_
              refine w_const rfl ?_
              refine w_const rfl ?_
              refine w_invV (rest := []) rfl rfl rfl rfl rfl (Nat.le_of_ble_eq_true rfl) rfl (by omega) (s_emit_1 (K := K) a351 b  3 0 ha351 (by omega) (by omega)) (fun v352 h9 hq353 => ?_)
              obtain ⟨a354, rfl, ha354, fa354, rfl⟩ := hq353
              show f_wp _ (112, [some (.inr (.inr (some 0))), some (.inl e), some (.inl 0), some (.inl x288)], [], mH a354 b) _
              have Q3 := PS.emit (k := h + 1) Q2.1 fa354.1 fa354.2 (by omega) (fun _ => by rw [l3]; exact hgs_not)
              have k3 := Q3.2.2.2.2
              have g3 := Q3.2.2.2.1
              have j3 := Q3.1.2.1
              have c3 := Q3.1.2.2.2.1
              refine w_goto rfl ?_
              exact w_ret rfl ⟨a354, rfl, ha354, ⟨FR.tr (FR.tr (FR.tr (FR.rf) (FR.sub fa300.1 (by decide))) (FR.sub fa351.1 (by decide))) (FR.sub fa354.1 (by decide)), ⟨Q3.1, ((Q1.2.tr Q2.2).tr Q3.2).le (by omega)⟩⟩, rfl⟩
          · skip
            exact w_ret rfl ⟨a, rfl, hR, ⟨FR.rf, ⟨PS.bad hP (by omega), KP.rf⟩⟩, rfl⟩
      · skip
        refine w_iload rfl rfl ?_
        refine w_if_ne rfl (fun c355 => ?_) (fun c355 => ?_)
        · skip
          refine w_aload rfl rfl ?_
          refine w_const rfl ?_
          refine w_invV (rest := []) rfl rfl rfl rfl rfl (Nat.le_of_ble_eq_true rfl) rfl (by omega) (s_isSign_1 (K := K) a b  40 hR ) (fun v356 h9 hq357 => ?_)
          obtain ⟨rfl, x358, rfl, px358⟩ := hq357
          show f_wp _ (52, [some (.inr (.inr (some 0))), some (.inl e), some (.inl 0), some (.inl x288)], [.inl x358], mH a b) _
          have s9 := px358
          refine w_if_ne rfl (fun c359 => ?_) (fun c359 => ?_)
          · skip
            refine w_aload rfl rfl ?_
            refine w_const rfl ?_
            refine w_invV (rest := []) rfl rfl rfl rfl rfl (Nat.le_of_ble_eq_true rfl) rfl (by omega) (s_isWord_1 (K := K) a b  24 hR (by omega)) (fun v360 h9 hq361 => ?_)
            obtain ⟨rfl, x362, rfl, px362⟩ := hq361
            show f_wp _ (61, [some (.inr (.inr (some 0))), some (.inl e), some (.inl 0), some (.inl x288)], [.inl x362], mH a b) _
            have u9 := px362
            refine w_if_ne rfl (fun c363 => ?_) (fun c363 => ?_)
            · skip
              refine w_aload rfl rfl ?_
              refine w_const rfl ?_
              refine w_invV (rest := []) rfl rfl rfl rfl rfl (Nat.le_of_ble_eq_true rfl) rfl (by omega) (s_wrong (K := K) a b  1 hR (by omega)) (fun v364 h9 hq365 => ?_)
              obtain ⟨a366, rfl, ha366, fa366, rfl⟩ := hq365
              show f_wp _ (69, [some (.inr (.inr (some 0))), some (.inl e), some (.inl 0), some (.inl x288)], [], mH a366 b) _
              have Pw := PS.wrong (k := h + 1) hP fa366.1 fa366.2.1 fa366.2.2
              have wg := fa366.2.2
              refine w_goto rfl ?_
              refine w_aload rfl rfl ?_
              refine w_getI (v := .inl (a366 0 8)) rfl rfl rfl rfl rfl ?_
              have q367 : 0 ≤ (a366 0 8).toInt ∧ (a366 0 8).toInt ≤ 2147483647 := ha366 0 8
              refine w_if_le rfl (fun c368 => ?_) (fun c368 => ?_)
              · exfalso; omega
              · skip
                exact w_ret rfl ⟨a366, rfl, ha366, ⟨FR.tr (FR.rf) (FR.sub fa366.1 (by decide)), Pw⟩, rfl⟩
            · skip
              refine w_iload rfl rfl ?_
              refine w_const rfl ?_
              refine w_ic_ne rfl (fun c369 => ?_) (fun c369 => ?_)
              · skip
                refine w_aload rfl rfl ?_
                refine w_const rfl ?_
                refine w_invV (rest := []) rfl rfl rfl rfl rfl (Nat.le_of_ble_eq_true rfl) rfl (by omega) (s_wrong (K := K) a b  5 hR (by omega)) (fun v370 h9 hq371 => ?_)
                obtain ⟨a372, rfl, ha372, fa372, rfl⟩ := hq371
                show f_wp _ (82, [some (.inr (.inr (some 0))), some (.inl e), some (.inl 0), some (.inl x288)], [], mH a372 b) _
                have Pw := PS.wrong (k := h + 1) hP fa372.1 fa372.2.1 fa372.2.2
                have wg := fa372.2.2
                refine w_aload rfl rfl ?_
                refine w_getI (v := .inl (a372 0 8)) rfl rfl rfl rfl rfl ?_
                have q373 : 0 ≤ (a372 0 8).toInt ∧ (a372 0 8).toInt ≤ 2147483647 := ha372 0 8
                refine w_if_le rfl (fun c374 => ?_) (fun c374 => ?_)
                · exfalso; omega
                · skip
                  exact w_ret rfl ⟨a372, rfl, ha372, ⟨FR.tr (FR.rf) (FR.sub fa372.1 (by decide)), Pw⟩, rfl⟩
              · skip
                refine w_aload rfl rfl ?_
                refine w_getI (v := .inl (a 0 8)) rfl rfl rfl rfl rfl ?_
                have q375 : 0 ≤ (a 0 8).toInt ∧ (a 0 8).toInt ≤ 2147483647 := hR 0 8
                refine w_if_le rfl (fun c376 => ?_) (fun c376 => ?_)
                · skip
                  refine w_aload rfl rfl ?_
                  refine w_const rfl ?_
                  refine w_invV (rest := []) rfl rfl rfl rfl rfl (Nat.le_of_ble_eq_true rfl) rfl (by omega) (s_hasWord_1 (K := K) a b N 24 hR (by omega) (hP.T)) (fun v377 h9 hq378 => ?_)
                  obtain ⟨a379, rfl, ha379, fa379, x380, rfl, px380⟩ := hq378
                  show f_wp _ (96, [some (.inr (.inr (some 0))), some (.inl e), some (.inl 0), some (.inl x288)], [.inl x380], mH a379 b) _
                  have Q1 := PS.tok hP fa379.1 fa379.2.1 (fun z => by rw [← fa379.2.2.1]; exact z)
                  have u8 := px380
                  have k1 := Q1.2.2.2.2
                  have g1 := Q1.2.2.2.1
                  have j1 := Q1.1.2.1
                  have c1 := Q1.1.2.2.2.1
                  refine w_if_eq rfl (fun c381 => ?_) (fun c381 => ?_)
                  · skip
                    have nW : ¬ iW a b 24 := (u8.resolve_left (by omega)).2.2
                    refine w_aload rfl rfl ?_
                    refine w_const rfl ?_
                    refine w_invV (rest := []) rfl rfl rfl rfl rfl (Nat.le_of_ble_eq_true rfl) rfl (by omega) (s_hasSign_1 (K := K) a379 b N 40 ha379 (Q1.1.T)) (fun v382 h9 hq383 => ?_)
                    obtain ⟨a384, rfl, ha384, fa384, x385, rfl, px385⟩ := hq383
                    show f_wp _ (121, [some (.inr (.inr (some 0))), some (.inl e), some (.inl 0), some (.inl x288)], [.inl x385], mH a384 b) _
                    have Q4 := PS.tok Q1.1 fa384.1 fa384.2.1 (fun z => by rw [← fa384.2.2.1]; exact z)
                    have s8 := px385
                    have k4 := Q4.2.2.2.2
                    have g4 := Q4.2.2.2.1
                    have j4 := Q4.1.2.1
                    have c4 := Q4.1.2.2.2.1
                    refine w_if_eq rfl (fun c386 => ?_) (fun c386 => ?_)
                    · skip
                      have nS : ¬ iS a b 40 := fun z => (s8.resolve_left (by omega)).2.2 ((iS.same (by rw [fa379.2.2.1]) (by omega) (fa379.1 2 (by decide))).mpr z)
                      have G9 : 0 ≤ x288.toInt ∨ (0 : Int32).toInt = 1 := by first | (left; omega) | (right; omega) | exact absurd (s9.resolve_right (by omega)).2 nS | exact absurd (u9.resolve_right (by omega)).2 nW
                      have y9 : (a 0 7).toInt < N := TK.lt hP.T z7.1 (by omega)
                      have d13 : (a384 0 13).toInt = (a 0 13).toInt := by rw [fa384.2.1.1 13 (by decide) (by decide), fa379.2.1.1 13 (by decide) (by decide)]
                      have d7 : (a384 0 7).toInt = (a 0 7).toInt := by omega
                      refine w_aload rfl rfl ?_
                      refine w_iload rfl rfl ?_
                      refine w_if_eq rfl (fun c387 => ?_) (fun c387 => ?_)
                      · skip
                        refine w_const rfl ?_
                        refine w_iload rfl rfl ?_
                        refine w_if_eq rfl (fun c388 => ?_) (fun c388 => ?_)
                        · skip
                          refine w_iload rfl rfl ?_
                          refine w_invV (rest := []) rfl rfl rfl rfl rfl (Nat.le_of_ble_eq_true rfl) rfl (by omega) (s_emit_1 (K := K) a384 b  2 x288 ha384 (by omega) (by omega)) (fun v389 h9 hq390 => ?_)
                          obtain ⟨a391, rfl, ha391, fa391, rfl⟩ := hq390
                          show f_wp _ (171, [some (.inr (.inr (some 0))), some (.inl e), some (.inl 0), some (.inl x288)], [], mH a391 b) _
                          have d8 : (a391 0 7).toInt = (a 0 7).toInt := by rw [fa391.2.1 7 (by decide)]; omega
                          refine w_aload rfl rfl ?_
                          refine w_dup rfl rfl ?_
                          refine w_getI (v := .inl (a391 0 7)) rfl rfl rfl rfl rfl ?_
                          have q392 : 0 ≤ (a391 0 7).toInt ∧ (a391 0 7).toInt ≤ 1000 := ha391 0 7
                          refine w_const rfl ?_
                          first | refine w_iadd rfl (by omega) (fun x393 tx393 => ?_) | refine w_iiU rfl (fun x393 tx393 => ?_)
                          refine m_putI (z := false) rfl rfl rfl rfl (by first | (intro h9; cases h9; done) | (intro _; first | exact Or.inl rfl | exact Or.inr rfl | assumption)) (fun a394 ea394 => ?_)
                          have ha394 : RM K a394 := RM.up ha391 ea394 (show (0 : Int) ≤ _ ∧ _ ≤ (1000 : Int) from by omega)
                          have ua394_7 : a394 0 7 = x393 := by rw [ea394, mU_same]
                          have wa394_7 := congrArg Int32.toInt ua394_7
                          have ua394_8 : (a394 0 8).toInt = (a391 0 8).toInt := by rw [ea394, mU_slot (by decide)]
                          have ua394_16 : (a394 0 16).toInt = (a391 0 16).toInt := by rw [ea394, mU_slot (by decide)]
                          have Q7 := PS.lit (k := h + 1) Q4.1 fa391.1 fa391.2 ea394 (by omega) (by omega) (fun _ => hgs_lit (by omega))
                          exact w_ret rfl ⟨a394, rfl, ha394, ⟨FR.up (FR.tr (FR.tr (FR.tr (FR.rf) (FR.sub fa379.1 (by decide))) (FR.sub fa384.1 (by decide))) (FR.sub fa391.1 (by decide))) (by decide) ea394, ⟨Q7.1, ((Q1.2.tr Q4.2).tr Q7.2).le (by omega)⟩⟩, rfl⟩
                        · skip
                          refine w_aload rfl rfl ?_
                          refine w_getR (v := .inr (.inr (some 4))) rfl rfl rfl rfl rfl ?_
                          refine w_aload rfl rfl ?_
                          refine w_getI (v := .inl (a384 0 7)) rfl rfl rfl rfl rfl ?_
                          have q395 : 0 ≤ (a384 0 7).toInt ∧ (a384 0 7).toInt ≤ 1000 := ha384 0 7
                          refine m_lald rfl rfl (by omega) (fun y396 ey396 => ?_)
                          refine w_l2iE rfl (fun x397 tx397 => ?_)
                          refine w_goto rfl ?_
                          refine w_invV (rest := []) rfl rfl rfl rfl rfl (Nat.le_of_ble_eq_true rfl) rfl (by omega) (s_emit_1 (K := K) a384 b  2 x397 ha384 (by omega) (by omega)) (fun v398 h9 hq399 => ?_)
                          obtain ⟨a400, rfl, ha400, fa400, rfl⟩ := hq399
                          show f_wp _ (171, [some (.inr (.inr (some 0))), some (.inl e), some (.inl 0), some (.inl x288)], [], mH a400 b) _
                          have d8 : (a400 0 7).toInt = (a 0 7).toInt := by rw [fa400.2.1 7 (by decide)]; omega
                          refine w_aload rfl rfl ?_
                          refine w_dup rfl rfl ?_
                          refine w_getI (v := .inl (a400 0 7)) rfl rfl rfl rfl rfl ?_
                          have q401 : 0 ≤ (a400 0 7).toInt ∧ (a400 0 7).toInt ≤ 1000 := ha400 0 7
                          refine w_const rfl ?_
                          first | refine w_iadd rfl (by omega) (fun x402 tx402 => ?_) | refine w_iiU rfl (fun x402 tx402 => ?_)
                          refine m_putI (z := false) rfl rfl rfl rfl (by first | (intro h9; cases h9; done) | (intro _; first | exact Or.inl rfl | exact Or.inr rfl | assumption)) (fun a403 ea403 => ?_)
                          have ha403 : RM K a403 := RM.up ha400 ea403 (show (0 : Int) ≤ _ ∧ _ ≤ (1000 : Int) from by omega)
                          have ua403_7 : a403 0 7 = x402 := by rw [ea403, mU_same]
                          have wa403_7 := congrArg Int32.toInt ua403_7
                          have ua403_8 : (a403 0 8).toInt = (a400 0 8).toInt := by rw [ea403, mU_slot (by decide)]
                          have ua403_16 : (a403 0 16).toInt = (a400 0 16).toInt := by rw [ea403, mU_slot (by decide)]
                          have Q7 := PS.lit (k := h + 1) Q4.1 fa400.1 fa400.2 ea403 (by omega) (by omega) (fun _ => hgs_lit (by omega))
                          exact w_ret rfl ⟨a403, rfl, ha403, ⟨FR.up (FR.tr (FR.tr (FR.tr (FR.rf) (FR.sub fa379.1 (by decide))) (FR.sub fa384.1 (by decide))) (FR.sub fa400.1 (by decide))) (by decide) ea403, ⟨Q7.1, ((Q1.2.tr Q4.2).tr Q7.2).le (by omega)⟩⟩, rfl⟩
                      · skip
                        refine w_const rfl ?_
                        refine w_goto rfl ?_
                        refine w_iload rfl rfl ?_
                        refine w_if_eq rfl (fun c404 => ?_) (fun c404 => ?_)
                        · skip
                          refine w_iload rfl rfl ?_
                          refine w_invV (rest := []) rfl rfl rfl rfl rfl (Nat.le_of_ble_eq_true rfl) rfl (by omega) (s_emit_1 (K := K) a384 b  1 x288 ha384 (by omega) (by omega)) (fun v405 h9 hq406 => ?_)
                          obtain ⟨a407, rfl, ha407, fa407, rfl⟩ := hq406
                          show f_wp _ (171, [some (.inr (.inr (some 0))), some (.inl e), some (.inl 0), some (.inl x288)], [], mH a407 b) _
                          have d8 : (a407 0 7).toInt = (a 0 7).toInt := by rw [fa407.2.1 7 (by decide)]; omega
                          refine w_aload rfl rfl ?_
                          refine w_dup rfl rfl ?_
                          refine w_getI (v := .inl (a407 0 7)) rfl rfl rfl rfl rfl ?_
                          have q408 : 0 ≤ (a407 0 7).toInt ∧ (a407 0 7).toInt ≤ 1000 := ha407 0 7
                          refine w_const rfl ?_
                          first | refine w_iadd rfl (by omega) (fun x409 tx409 => ?_) | refine w_iiU rfl (fun x409 tx409 => ?_)
                          refine m_putI (z := false) rfl rfl rfl rfl (by first | (intro h9; cases h9; done) | (intro _; first | exact Or.inl rfl | exact Or.inr rfl | assumption)) (fun a410 ea410 => ?_)
                          have ha410 : RM K a410 := RM.up ha407 ea410 (show (0 : Int) ≤ _ ∧ _ ≤ (1000 : Int) from by omega)
                          have ua410_7 : a410 0 7 = x409 := by rw [ea410, mU_same]
                          have wa410_7 := congrArg Int32.toInt ua410_7
                          have ua410_8 : (a410 0 8).toInt = (a407 0 8).toInt := by rw [ea410, mU_slot (by decide)]
                          have ua410_16 : (a410 0 16).toInt = (a407 0 16).toInt := by rw [ea410, mU_slot (by decide)]
                          have Q7 := PS.lit (k := h + 1) Q4.1 fa407.1 fa407.2 ea410 (by omega) (by omega) (fun _ => hgs_lit (by omega))
                          exact w_ret rfl ⟨a410, rfl, ha410, ⟨FR.up (FR.tr (FR.tr (FR.tr (FR.rf) (FR.sub fa379.1 (by decide))) (FR.sub fa384.1 (by decide))) (FR.sub fa407.1 (by decide))) (by decide) ea410, ⟨Q7.1, ((Q1.2.tr Q4.2).tr Q7.2).le (by omega)⟩⟩, rfl⟩
                        · skip
                          refine w_aload rfl rfl ?_
                          refine w_getR (v := .inr (.inr (some 4))) rfl rfl rfl rfl rfl ?_
                          refine w_aload rfl rfl ?_
                          refine w_getI (v := .inl (a384 0 7)) rfl rfl rfl rfl rfl ?_
                          have q411 : 0 ≤ (a384 0 7).toInt ∧ (a384 0 7).toInt ≤ 1000 := ha384 0 7
                          refine m_lald rfl rfl (by omega) (fun y412 ey412 => ?_)
                          refine w_l2iE rfl (fun x413 tx413 => ?_)
                          refine w_goto rfl ?_
                          refine w_invV (rest := []) rfl rfl rfl rfl rfl (Nat.le_of_ble_eq_true rfl) rfl (by omega) (s_emit_1 (K := K) a384 b  1 x413 ha384 (by omega) (by omega)) (fun v414 h9 hq415 => ?_)
                          obtain ⟨a416, rfl, ha416, fa416, rfl⟩ := hq415
                          show f_wp _ (171, [some (.inr (.inr (some 0))), some (.inl e), some (.inl 0), some (.inl x288)], [], mH a416 b) _
                          have d8 : (a416 0 7).toInt = (a 0 7).toInt := by rw [fa416.2.1 7 (by decide)]; omega
                          refine w_aload rfl rfl ?_
                          refine w_dup rfl rfl ?_
                          refine w_getI (v := .inl (a416 0 7)) rfl rfl rfl rfl rfl ?_
                          have q417 : 0 ≤ (a416 0 7).toInt ∧ (a416 0 7).toInt ≤ 1000 := ha416 0 7
                          refine w_const rfl ?_
                          first | refine w_iadd rfl (by omega) (fun x418 tx418 => ?_) | refine w_iiU rfl (fun x418 tx418 => ?_)
                          refine m_putI (z := false) rfl rfl rfl rfl (by first | (intro h9; cases h9; done) | (intro _; first | exact Or.inl rfl | exact Or.inr rfl | assumption)) (fun a419 ea419 => ?_)
                          have ha419 : RM K a419 := RM.up ha416 ea419 (show (0 : Int) ≤ _ ∧ _ ≤ (1000 : Int) from by omega)
                          have ua419_7 : a419 0 7 = x418 := by rw [ea419, mU_same]
                          have wa419_7 := congrArg Int32.toInt ua419_7
                          have ua419_8 : (a419 0 8).toInt = (a416 0 8).toInt := by rw [ea419, mU_slot (by decide)]
                          have ua419_16 : (a419 0 16).toInt = (a416 0 16).toInt := by rw [ea419, mU_slot (by decide)]
                          have Q7 := PS.lit (k := h + 1) Q4.1 fa416.1 fa416.2 ea419 (by omega) (by omega) (fun _ => hgs_lit (by omega))
                          exact w_ret rfl ⟨a419, rfl, ha419, ⟨FR.up (FR.tr (FR.tr (FR.tr (FR.rf) (FR.sub fa379.1 (by decide))) (FR.sub fa384.1 (by decide))) (FR.sub fa416.1 (by decide))) (by decide) ea419, ⟨Q7.1, ((Q1.2.tr Q4.2).tr Q7.2).le (by omega)⟩⟩, rfl⟩
                    · skip
                      refine w_aload rfl rfl ?_
                      refine w_iload rfl rfl ?_
                      refine w_const rfl ?_
                      first | refine w_iadd rfl (by omega) (fun x420 tx420 => ?_) | refine w_iiU rfl (fun x420 tx420 => ?_)
                      refine w_invV (rest := []) rfl rfl rfl rfl rfl (Nat.le_of_ble_eq_true rfl) rfl (by omega) (ihA x420 (by omega) (by omega) _ a384 b ha384 Q4.1) (fun v421 h9 hq422 => ?_)
                      obtain ⟨a423, rfl, ha423, fa423, rfl⟩ := hq422
                      show f_wp _ (131, [some (.inr (.inr (some 0))), some (.inl e), some (.inl 0), some (.inl x288)], [], mH a423 b) _
                      have Q5 := fa423.2
                      have k5 := Q5.2.2.2.2
                      have g5 := Q5.2.2.2.1
                      have j5 := Q5.1.2.1
                      have c5 := Q5.1.2.2.2.1
                      refine w_aload rfl rfl ?_
                      refine w_const rfl ?_
                      refine w_invV (rest := []) rfl rfl rfl rfl rfl (Nat.le_of_ble_eq_true rfl) rfl (by omega) (s_takeSign (K := K) a423 b N 41 ha423 (Q5.1.T)) (fun v424 h9 hq425 => ?_)
                      obtain ⟨a426, rfl, ha426, fa426, rfl⟩ := hq425
                      show f_wp _ (137, [some (.inr (.inr (some 0))), some (.inl e), some (.inl 0), some (.inl x288)], [], mH a426 b) _
                      have Q6 := PS.tok Q5.1 fa426.1 fa426.2.1 (fun z => by have o9 := fa426.2.2; omega)
                      have k6 := Q6.2.2.2.2
                      have g6 := Q6.2.2.2.1
                      have j6 := Q6.1.2.1
                      have c6 := Q6.1.2.2.2.1
                      refine w_goto rfl ?_
                      exact w_ret rfl ⟨a426, rfl, ha426, ⟨FR.tr (FR.tr (FR.tr (FR.tr (FR.rf) (FR.sub fa379.1 (by decide))) (FR.sub fa384.1 (by decide))) (FR.sub fa423.1 (by decide))) (FR.sub fa426.1 (by decide)), ⟨Q6.1, (((Q1.2.tr Q4.2).tr Q5.2).tr Q6.2).le (by omega)⟩⟩, rfl⟩
                  · skip
                    refine w_aload rfl rfl ?_
                    refine w_iload rfl rfl ?_
                    refine w_const rfl ?_
                    first | refine w_iadd rfl (by omega) (fun x427 tx427 => ?_) | refine w_iiU rfl (fun x427 tx427 => ?_)
                    refine w_invV (rest := []) rfl rfl rfl rfl rfl (Nat.le_of_ble_eq_true rfl) rfl (by omega) (ihT x427 (by omega) (by omega) _ a379 b ha379 Q1.1) (fun v428 h9 hq429 => ?_)
                    obtain ⟨a430, rfl, ha430, fa430, rfl⟩ := hq429
                    show f_wp _ (106, [some (.inr (.inr (some 0))), some (.inl e), some (.inl 0), some (.inl x288)], [], mH a430 b) _
                    have Q2 := fa430.2
                    have k2 := Q2.2.2.2.2
                    have g2 := Q2.2.2.2.1
                    have j2 := Q2.1.2.1
                    have c2 := Q2.1.2.2.2.1
                    refine w_aload rfl rfl ?_
                    refine w_const rfl ?_
                    refine w_const rfl ?_
                    refine w_invV (rest := []) rfl rfl rfl rfl rfl (Nat.le_of_ble_eq_true rfl) rfl (by omega) (s_emit_1 (K := K) a430 b  3 0 ha430 (by omega) (by omega)) (fun v431 h9 hq432 => ?_)
                    obtain ⟨a433, rfl, ha433, fa433, rfl⟩ := hq432
                    show f_wp _ (112, [some (.inr (.inr (some 0))), some (.inl e), some (.inl 0), some (.inl x288)], [], mH a433 b) _
                    have Q3 := PS.emit (k := h + 1) Q2.1 fa433.1 fa433.2 (by omega) (fun _ => by rw [l3]; exact hgs_not)
                    have k3 := Q3.2.2.2.2
                    have g3 := Q3.2.2.2.1
                    have j3 := Q3.1.2.1
                    have c3 := Q3.1.2.2.2.1
                    refine w_goto rfl ?_
                    exact w_ret rfl ⟨a433, rfl, ha433, ⟨FR.tr (FR.tr (FR.tr (FR.rf) (FR.sub fa379.1 (by decide))) (FR.sub fa430.1 (by decide))) (FR.sub fa433.1 (by decide)), ⟨Q3.1, ((Q1.2.tr Q2.2).tr Q3.2).le (by omega)⟩⟩, rfl⟩
                · skip
                  exact w_ret rfl ⟨a, rfl, hR, ⟨FR.rf, ⟨PS.bad hP (by omega), KP.rf⟩⟩, rfl⟩
          · skip
            refine w_iload rfl rfl ?_
            refine w_const rfl ?_
            refine w_ic_ne rfl (fun c434 => ?_) (fun c434 => ?_)
            · skip
              refine w_aload rfl rfl ?_
              refine w_const rfl ?_
              refine w_invV (rest := []) rfl rfl rfl rfl rfl (Nat.le_of_ble_eq_true rfl) rfl (by omega) (s_wrong (K := K) a b  5 hR (by omega)) (fun v435 h9 hq436 => ?_)
              obtain ⟨a437, rfl, ha437, fa437, rfl⟩ := hq436
              show f_wp _ (82, [some (.inr (.inr (some 0))), some (.inl e), some (.inl 0), some (.inl x288)], [], mH a437 b) _
              have Pw := PS.wrong (k := h + 1) hP fa437.1 fa437.2.1 fa437.2.2
              have wg := fa437.2.2
              refine w_aload rfl rfl ?_
              refine w_getI (v := .inl (a437 0 8)) rfl rfl rfl rfl rfl ?_
              have q438 : 0 ≤ (a437 0 8).toInt ∧ (a437 0 8).toInt ≤ 2147483647 := ha437 0 8
              refine w_if_le rfl (fun c439 => ?_) (fun c439 => ?_)
              · exfalso; omega
              · skip
                exact w_ret rfl ⟨a437, rfl, ha437, ⟨FR.tr (FR.rf) (FR.sub fa437.1 (by decide)), Pw⟩, rfl⟩
            · skip
              refine w_aload rfl rfl ?_
              refine w_getI (v := .inl (a 0 8)) rfl rfl rfl rfl rfl ?_
              have q440 : 0 ≤ (a 0 8).toInt ∧ (a 0 8).toInt ≤ 2147483647 := hR 0 8
              refine w_if_le rfl (fun c441 => ?_) (fun c441 => ?_)
              · skip
                refine w_aload rfl rfl ?_
                refine w_const rfl ?_
                refine w_invV (rest := []) rfl rfl rfl rfl rfl (Nat.le_of_ble_eq_true rfl) rfl (by omega) (s_hasWord_1 (K := K) a b N 24 hR (by omega) (hP.T)) (fun v442 h9 hq443 => ?_)
                obtain ⟨a444, rfl, ha444, fa444, x445, rfl, px445⟩ := hq443
                show f_wp _ (96, [some (.inr (.inr (some 0))), some (.inl e), some (.inl 0), some (.inl x288)], [.inl x445], mH a444 b) _
                have Q1 := PS.tok hP fa444.1 fa444.2.1 (fun z => by rw [← fa444.2.2.1]; exact z)
                have u8 := px445
                have k1 := Q1.2.2.2.2
                have g1 := Q1.2.2.2.1
                have j1 := Q1.1.2.1
                have c1 := Q1.1.2.2.2.1
                refine w_if_eq rfl (fun c446 => ?_) (fun c446 => ?_)
                · skip
                  have nW : ¬ iW a b 24 := (u8.resolve_left (by omega)).2.2
                  refine w_aload rfl rfl ?_
                  refine w_const rfl ?_
                  refine w_invV (rest := []) rfl rfl rfl rfl rfl (Nat.le_of_ble_eq_true rfl) rfl (by omega) (s_hasSign_1 (K := K) a444 b N 40 ha444 (Q1.1.T)) (fun v447 h9 hq448 => ?_)
                  obtain ⟨a449, rfl, ha449, fa449, x450, rfl, px450⟩ := hq448
                  show f_wp _ (121, [some (.inr (.inr (some 0))), some (.inl e), some (.inl 0), some (.inl x288)], [.inl x450], mH a449 b) _
                  have Q4 := PS.tok Q1.1 fa449.1 fa449.2.1 (fun z => by rw [← fa449.2.2.1]; exact z)
                  have s8 := px450
                  have k4 := Q4.2.2.2.2
                  have g4 := Q4.2.2.2.1
                  have j4 := Q4.1.2.1
                  have c4 := Q4.1.2.2.2.1
                  refine w_if_eq rfl (fun c451 => ?_) (fun c451 => ?_)
                  · skip
                    have nS : ¬ iS a b 40 := fun z => (s8.resolve_left (by omega)).2.2 ((iS.same (by rw [fa444.2.2.1]) (by omega) (fa444.1 2 (by decide))).mpr z)
                    have G9 : 0 ≤ x288.toInt ∨ (0 : Int32).toInt = 1 := by first | (left; omega) | (right; omega) | exact absurd (s9.resolve_right (by omega)).2 nS | exact absurd (u9.resolve_right (by omega)).2 nW
                    have y9 : (a 0 7).toInt < N := TK.lt hP.T z7.1 (by omega)
                    have d13 : (a449 0 13).toInt = (a 0 13).toInt := by rw [fa449.2.1.1 13 (by decide) (by decide), fa444.2.1.1 13 (by decide) (by decide)]
                    have d7 : (a449 0 7).toInt = (a 0 7).toInt := by omega
                    refine w_aload rfl rfl ?_
                    refine w_iload rfl rfl ?_
                    refine w_if_eq rfl (fun c452 => ?_) (fun c452 => ?_)
                    · skip
                      refine w_const rfl ?_
                      refine w_iload rfl rfl ?_
                      refine w_if_eq rfl (fun c453 => ?_) (fun c453 => ?_)
                      · skip
                        refine w_iload rfl rfl ?_
                        refine w_invV (rest := []) rfl rfl rfl rfl rfl (Nat.le_of_ble_eq_true rfl) rfl (by omega) (s_emit_1 (K := K) a449 b  2 x288 ha449 (by omega) (by omega)) (fun v454 h9 hq455 => ?_)
                        obtain ⟨a456, rfl, ha456, fa456, rfl⟩ := hq455
                        show f_wp _ (171, [some (.inr (.inr (some 0))), some (.inl e), some (.inl 0), some (.inl x288)], [], mH a456 b) _
                        have d8 : (a456 0 7).toInt = (a 0 7).toInt := by rw [fa456.2.1 7 (by decide)]; omega
                        refine w_aload rfl rfl ?_
                        refine w_dup rfl rfl ?_
                        refine w_getI (v := .inl (a456 0 7)) rfl rfl rfl rfl rfl ?_
                        have q457 : 0 ≤ (a456 0 7).toInt ∧ (a456 0 7).toInt ≤ 1000 := ha456 0 7
                        refine w_const rfl ?_
                        first | refine w_iadd rfl (by omega) (fun x458 tx458 => ?_) | refine w_iiU rfl (fun x458 tx458 => ?_)
                        refine m_putI (z := false) rfl rfl rfl rfl (by first | (intro h9; cases h9; done) | (intro _; first | exact Or.inl rfl | exact Or.inr rfl | assumption)) (fun a459 ea459 => ?_)
                        have ha459 : RM K a459 := RM.up ha456 ea459 (show (0 : Int) ≤ _ ∧ _ ≤ (1000 : Int) from by omega)
                        have ua459_7 : a459 0 7 = x458 := by rw [ea459, mU_same]
                        have wa459_7 := congrArg Int32.toInt ua459_7
                        have ua459_8 : (a459 0 8).toInt = (a456 0 8).toInt := by rw [ea459, mU_slot (by decide)]
                        have ua459_16 : (a459 0 16).toInt = (a456 0 16).toInt := by rw [ea459, mU_slot (by decide)]
                        have Q7 := PS.lit (k := h + 1) Q4.1 fa456.1 fa456.2 ea459 (by omega) (by omega) (fun _ => hgs_lit (by omega))
                        exact w_ret rfl ⟨a459, rfl, ha459, ⟨FR.up (FR.tr (FR.tr (FR.tr (FR.rf) (FR.sub fa444.1 (by decide))) (FR.sub fa449.1 (by decide))) (FR.sub fa456.1 (by decide))) (by decide) ea459, ⟨Q7.1, ((Q1.2.tr Q4.2).tr Q7.2).le (by omega)⟩⟩, rfl⟩
                      · skip
                        refine w_aload rfl rfl ?_
                        refine w_getR (v := .inr (.inr (some 4))) rfl rfl rfl rfl rfl ?_
                        refine w_aload rfl rfl ?_
                        refine w_getI (v := .inl (a449 0 7)) rfl rfl rfl rfl rfl ?_
                        have q460 : 0 ≤ (a449 0 7).toInt ∧ (a449 0 7).toInt ≤ 1000 := ha449 0 7
                        refine m_lald rfl rfl (by omega) (fun y461 ey461 => ?_)
                        refine w_l2iE rfl (fun x462 tx462 => ?_)
                        refine w_goto rfl ?_
                        refine w_invV (rest := []) rfl rfl rfl rfl rfl (Nat.le_of_ble_eq_true rfl) rfl (by omega) (s_emit_1 (K := K) a449 b  2 x462 ha449 (by omega) (by omega)) (fun v463 h9 hq464 => ?_)
                        obtain ⟨a465, rfl, ha465, fa465, rfl⟩ := hq464
                        show f_wp _ (171, [some (.inr (.inr (some 0))), some (.inl e), some (.inl 0), some (.inl x288)], [], mH a465 b) _
                        have d8 : (a465 0 7).toInt = (a 0 7).toInt := by rw [fa465.2.1 7 (by decide)]; omega
                        refine w_aload rfl rfl ?_
                        refine w_dup rfl rfl ?_
                        refine w_getI (v := .inl (a465 0 7)) rfl rfl rfl rfl rfl ?_
                        have q466 : 0 ≤ (a465 0 7).toInt ∧ (a465 0 7).toInt ≤ 1000 := ha465 0 7
                        refine w_const rfl ?_
                        first | refine w_iadd rfl (by omega) (fun x467 tx467 => ?_) | refine w_iiU rfl (fun x467 tx467 => ?_)
                        refine m_putI (z := false) rfl rfl rfl rfl (by first | (intro h9; cases h9; done) | (intro _; first | exact Or.inl rfl | exact Or.inr rfl | assumption)) (fun a468 ea468 => ?_)
                        have ha468 : RM K a468 := RM.up ha465 ea468 (show (0 : Int) ≤ _ ∧ _ ≤ (1000 : Int) from by omega)
                        have ua468_7 : a468 0 7 = x467 := by rw [ea468, mU_same]
                        have wa468_7 := congrArg Int32.toInt ua468_7
                        have ua468_8 : (a468 0 8).toInt = (a465 0 8).toInt := by rw [ea468, mU_slot (by decide)]
                        have ua468_16 : (a468 0 16).toInt = (a465 0 16).toInt := by rw [ea468, mU_slot (by decide)]
                        have Q7 := PS.lit (k := h + 1) Q4.1 fa465.1 fa465.2 ea468 (by omega) (by omega) (fun _ => hgs_lit (by omega))
                        exact w_ret rfl ⟨a468, rfl, ha468, ⟨FR.up (FR.tr (FR.tr (FR.tr (FR.rf) (FR.sub fa444.1 (by decide))) (FR.sub fa449.1 (by decide))) (FR.sub fa465.1 (by decide))) (by decide) ea468, ⟨Q7.1, ((Q1.2.tr Q4.2).tr Q7.2).le (by omega)⟩⟩, rfl⟩
                    · skip
                      refine w_const rfl ?_
                      refine w_goto rfl ?_
                      refine w_iload rfl rfl ?_
                      refine w_if_eq rfl (fun c469 => ?_) (fun c469 => ?_)
                      · skip
                        refine w_iload rfl rfl ?_
                        refine w_invV (rest := []) rfl rfl rfl rfl rfl (Nat.le_of_ble_eq_true rfl) rfl (by omega) (s_emit_1 (K := K) a449 b  1 x288 ha449 (by omega) (by omega)) (fun v470 h9 hq471 => ?_)
                        obtain ⟨a472, rfl, ha472, fa472, rfl⟩ := hq471
                        show f_wp _ (171, [some (.inr (.inr (some 0))), some (.inl e), some (.inl 0), some (.inl x288)], [], mH a472 b) _
                        have d8 : (a472 0 7).toInt = (a 0 7).toInt := by rw [fa472.2.1 7 (by decide)]; omega
                        refine w_aload rfl rfl ?_
                        refine w_dup rfl rfl ?_
                        refine w_getI (v := .inl (a472 0 7)) rfl rfl rfl rfl rfl ?_
                        have q473 : 0 ≤ (a472 0 7).toInt ∧ (a472 0 7).toInt ≤ 1000 := ha472 0 7
                        refine w_const rfl ?_
                        first | refine w_iadd rfl (by omega) (fun x474 tx474 => ?_) | refine w_iiU rfl (fun x474 tx474 => ?_)
                        refine m_putI (z := false) rfl rfl rfl rfl (by first | (intro h9; cases h9; done) | (intro _; first | exact Or.inl rfl | exact Or.inr rfl | assumption)) (fun a475 ea475 => ?_)
                        have ha475 : RM K a475 := RM.up ha472 ea475 (show (0 : Int) ≤ _ ∧ _ ≤ (1000 : Int) from by omega)
                        have ua475_7 : a475 0 7 = x474 := by rw [ea475, mU_same]
                        have wa475_7 := congrArg Int32.toInt ua475_7
                        have ua475_8 : (a475 0 8).toInt = (a472 0 8).toInt := by rw [ea475, mU_slot (by decide)]
                        have ua475_16 : (a475 0 16).toInt = (a472 0 16).toInt := by rw [ea475, mU_slot (by decide)]
                        have Q7 := PS.lit (k := h + 1) Q4.1 fa472.1 fa472.2 ea475 (by omega) (by omega) (fun _ => hgs_lit (by omega))
                        exact w_ret rfl ⟨a475, rfl, ha475, ⟨FR.up (FR.tr (FR.tr (FR.tr (FR.rf) (FR.sub fa444.1 (by decide))) (FR.sub fa449.1 (by decide))) (FR.sub fa472.1 (by decide))) (by decide) ea475, ⟨Q7.1, ((Q1.2.tr Q4.2).tr Q7.2).le (by omega)⟩⟩, rfl⟩
                      · skip
                        refine w_aload rfl rfl ?_
                        refine w_getR (v := .inr (.inr (some 4))) rfl rfl rfl rfl rfl ?_
                        refine w_aload rfl rfl ?_
                        refine w_getI (v := .inl (a449 0 7)) rfl rfl rfl rfl rfl ?_
                        have q476 : 0 ≤ (a449 0 7).toInt ∧ (a449 0 7).toInt ≤ 1000 := ha449 0 7
                        refine m_lald rfl rfl (by omega) (fun y477 ey477 => ?_)
                        refine w_l2iE rfl (fun x478 tx478 => ?_)
                        refine w_goto rfl ?_
                        refine w_invV (rest := []) rfl rfl rfl rfl rfl (Nat.le_of_ble_eq_true rfl) rfl (by omega) (s_emit_1 (K := K) a449 b  1 x478 ha449 (by omega) (by omega)) (fun v479 h9 hq480 => ?_)
                        obtain ⟨a481, rfl, ha481, fa481, rfl⟩ := hq480
                        show f_wp _ (171, [some (.inr (.inr (some 0))), some (.inl e), some (.inl 0), some (.inl x288)], [], mH a481 b) _
                        have d8 : (a481 0 7).toInt = (a 0 7).toInt := by rw [fa481.2.1 7 (by decide)]; omega
                        refine w_aload rfl rfl ?_
                        refine w_dup rfl rfl ?_
                        refine w_getI (v := .inl (a481 0 7)) rfl rfl rfl rfl rfl ?_
                        have q482 : 0 ≤ (a481 0 7).toInt ∧ (a481 0 7).toInt ≤ 1000 := ha481 0 7
                        refine w_const rfl ?_
                        first | refine w_iadd rfl (by omega) (fun x483 tx483 => ?_) | refine w_iiU rfl (fun x483 tx483 => ?_)
                        refine m_putI (z := false) rfl rfl rfl rfl (by first | (intro h9; cases h9; done) | (intro _; first | exact Or.inl rfl | exact Or.inr rfl | assumption)) (fun a484 ea484 => ?_)
                        have ha484 : RM K a484 := RM.up ha481 ea484 (show (0 : Int) ≤ _ ∧ _ ≤ (1000 : Int) from by omega)
                        have ua484_7 : a484 0 7 = x483 := by rw [ea484, mU_same]
                        have wa484_7 := congrArg Int32.toInt ua484_7
                        have ua484_8 : (a484 0 8).toInt = (a481 0 8).toInt := by rw [ea484, mU_slot (by decide)]
                        have ua484_16 : (a484 0 16).toInt = (a481 0 16).toInt := by rw [ea484, mU_slot (by decide)]
                        have Q7 := PS.lit (k := h + 1) Q4.1 fa481.1 fa481.2 ea484 (by omega) (by omega) (fun _ => hgs_lit (by omega))
                        exact w_ret rfl ⟨a484, rfl, ha484, ⟨FR.up (FR.tr (FR.tr (FR.tr (FR.rf) (FR.sub fa444.1 (by decide))) (FR.sub fa449.1 (by decide))) (FR.sub fa481.1 (by decide))) (by decide) ea484, ⟨Q7.1, ((Q1.2.tr Q4.2).tr Q7.2).le (by omega)⟩⟩, rfl⟩
                  · skip
                    refine w_aload rfl rfl ?_
                    refine w_iload rfl rfl ?_
                    refine w_const rfl ?_
                    first | refine w_iadd rfl (by omega) (fun x485 tx485 => ?_) | refine w_iiU rfl (fun x485 tx485 => ?_)
                    refine w_invV (rest := []) rfl rfl rfl rfl rfl (Nat.le_of_ble_eq_true rfl) rfl (by omega) (ihA x485 (by omega) (by omega) _ a449 b ha449 Q4.1) (fun v486 h9 hq487 => ?_)
                    obtain ⟨a488, rfl, ha488, fa488, rfl⟩ := hq487
                    show f_wp _ (131, [some (.inr (.inr (some 0))), some (.inl e), some (.inl 0), some (.inl x288)], [], mH a488 b) _
                    have Q5 := fa488.2
                    have k5 := Q5.2.2.2.2
                    have g5 := Q5.2.2.2.1
                    have j5 := Q5.1.2.1
                    have c5 := Q5.1.2.2.2.1
                    refine w_aload rfl rfl ?_
                    refine w_const rfl ?_
                    refine w_invV (rest := []) rfl rfl rfl rfl rfl (Nat.le_of_ble_eq_true rfl) rfl (by omega) (s_takeSign (K := K) a488 b N 41 ha488 (Q5.1.T)) (fun v489 h9 hq490 => ?_)
                    obtain ⟨a491, rfl, ha491, fa491, rfl⟩ := hq490
                    show f_wp _ (137, [some (.inr (.inr (some 0))), some (.inl e), some (.inl 0), some (.inl x288)], [], mH a491 b) _
                    have Q6 := PS.tok Q5.1 fa491.1 fa491.2.1 (fun z => by have o9 := fa491.2.2; omega)
                    have k6 := Q6.2.2.2.2
                    have g6 := Q6.2.2.2.1
                    have j6 := Q6.1.2.1
                    have c6 := Q6.1.2.2.2.1
                    refine w_goto rfl ?_
                    exact w_ret rfl ⟨a491, rfl, ha491, ⟨FR.tr (FR.tr (FR.tr (FR.tr (FR.rf) (FR.sub fa444.1 (by decide))) (FR.sub fa449.1 (by decide))) (FR.sub fa488.1 (by decide))) (FR.sub fa491.1 (by decide)), ⟨Q6.1, (((Q1.2.tr Q4.2).tr Q5.2).tr Q6.2).le (by omega)⟩⟩, rfl⟩
                · skip
                  refine w_aload rfl rfl ?_
                  refine w_iload rfl rfl ?_
                  refine w_const rfl ?_
                  first | refine w_iadd rfl (by omega) (fun x492 tx492 => ?_) | refine w_iiU rfl (fun x492 tx492 => ?_)
                  refine w_invV (rest := []) rfl rfl rfl rfl rfl (Nat.le_of_ble_eq_true rfl) rfl (by omega) (ihT x492 (by omega) (by omega) _ a444 b ha444 Q1.1) (fun v493 h9 hq494 => ?_)
                  obtain ⟨a495, rfl, ha495, fa495, rfl⟩ := hq494
                  show f_wp _ (106, [some (.inr (.inr (some 0))), some (.inl e), some (.inl 0), some (.inl x288)], [], mH a495 b) _
                  have Q2 := fa495.2
                  have k2 := Q2.2.2.2.2
                  have g2 := Q2.2.2.2.1
                  have j2 := Q2.1.2.1
                  have c2 := Q2.1.2.2.2.1
                  refine w_aload rfl rfl ?_
                  refine w_const rfl ?_
                  refine w_const rfl ?_
                  refine w_invV (rest := []) rfl rfl rfl rfl rfl (Nat.le_of_ble_eq_true rfl) rfl (by omega) (s_emit_1 (K := K) a495 b  3 0 ha495 (by omega) (by omega)) (fun v496 h9 hq497 => ?_)
                  obtain ⟨a498, rfl, ha498, fa498, rfl⟩ := hq497
                  show f_wp _ (112, [some (.inr (.inr (some 0))), some (.inl e), some (.inl 0), some (.inl x288)], [], mH a498 b) _
                  have Q3 := PS.emit (k := h + 1) Q2.1 fa498.1 fa498.2 (by omega) (fun _ => by rw [l3]; exact hgs_not)
                  have k3 := Q3.2.2.2.2
                  have g3 := Q3.2.2.2.1
                  have j3 := Q3.1.2.1
                  have c3 := Q3.1.2.2.2.1
                  refine w_goto rfl ?_
                  exact w_ret rfl ⟨a498, rfl, ha498, ⟨FR.tr (FR.tr (FR.tr (FR.rf) (FR.sub fa444.1 (by decide))) (FR.sub fa495.1 (by decide))) (FR.sub fa498.1 (by decide)), ⟨Q3.1, ((Q1.2.tr Q2.2).tr Q3.2).le (by omega)⟩⟩, rfl⟩
              · skip
                exact w_ret rfl ⟨a, rfl, hR, ⟨FR.rf, ⟨PS.bad hP (by omega), KP.rf⟩⟩, rfl⟩
        · skip
          refine w_iload rfl rfl ?_
          refine w_const rfl ?_
          refine w_ic_ne rfl (fun c499 => ?_) (fun c499 => ?_)
          · skip
            refine w_aload rfl rfl ?_
            refine w_const rfl ?_
            refine w_invV (rest := []) rfl rfl rfl rfl rfl (Nat.le_of_ble_eq_true rfl) rfl (by omega) (s_wrong (K := K) a b  5 hR (by omega)) (fun v500 h9 hq501 => ?_)
            obtain ⟨a502, rfl, ha502, fa502, rfl⟩ := hq501
            show f_wp _ (82, [some (.inr (.inr (some 0))), some (.inl e), some (.inl 0), some (.inl x288)], [], mH a502 b) _
            have Pw := PS.wrong (k := h + 1) hP fa502.1 fa502.2.1 fa502.2.2
            have wg := fa502.2.2
            refine w_aload rfl rfl ?_
            refine w_getI (v := .inl (a502 0 8)) rfl rfl rfl rfl rfl ?_
            have q503 : 0 ≤ (a502 0 8).toInt ∧ (a502 0 8).toInt ≤ 2147483647 := ha502 0 8
            refine w_if_le rfl (fun c504 => ?_) (fun c504 => ?_)
            · exfalso; omega
            · skip
              exact w_ret rfl ⟨a502, rfl, ha502, ⟨FR.tr (FR.rf) (FR.sub fa502.1 (by decide)), Pw⟩, rfl⟩
          · skip
            refine w_aload rfl rfl ?_
            refine w_getI (v := .inl (a 0 8)) rfl rfl rfl rfl rfl ?_
            have q505 : 0 ≤ (a 0 8).toInt ∧ (a 0 8).toInt ≤ 2147483647 := hR 0 8
            refine w_if_le rfl (fun c506 => ?_) (fun c506 => ?_)
            · skip
              refine w_aload rfl rfl ?_
              refine w_const rfl ?_
              refine w_invV (rest := []) rfl rfl rfl rfl rfl (Nat.le_of_ble_eq_true rfl) rfl (by omega) (s_hasWord_1 (K := K) a b N 24 hR (by omega) (hP.T)) (fun v507 h9 hq508 => ?_)
              obtain ⟨a509, rfl, ha509, fa509, x510, rfl, px510⟩ := hq508
              show f_wp _ (96, [some (.inr (.inr (some 0))), some (.inl e), some (.inl 0), some (.inl x288)], [.inl x510], mH a509 b) _
              have Q1 := PS.tok hP fa509.1 fa509.2.1 (fun z => by rw [← fa509.2.2.1]; exact z)
              have u8 := px510
              have k1 := Q1.2.2.2.2
              have g1 := Q1.2.2.2.1
              have j1 := Q1.1.2.1
              have c1 := Q1.1.2.2.2.1
              refine w_if_eq rfl (fun c511 => ?_) (fun c511 => ?_)
              · skip
                have nW : ¬ iW a b 24 := (u8.resolve_left (by omega)).2.2
                refine w_aload rfl rfl ?_
                refine w_const rfl ?_
                refine w_invV (rest := []) rfl rfl rfl rfl rfl (Nat.le_of_ble_eq_true rfl) rfl (by omega) (s_hasSign_1 (K := K) a509 b N 40 ha509 (Q1.1.T)) (fun v512 h9 hq513 => ?_)
                obtain ⟨a514, rfl, ha514, fa514, x515, rfl, px515⟩ := hq513
                show f_wp _ (121, [some (.inr (.inr (some 0))), some (.inl e), some (.inl 0), some (.inl x288)], [.inl x515], mH a514 b) _
                have Q4 := PS.tok Q1.1 fa514.1 fa514.2.1 (fun z => by rw [← fa514.2.2.1]; exact z)
                have s8 := px515
                have k4 := Q4.2.2.2.2
                have g4 := Q4.2.2.2.1
                have j4 := Q4.1.2.1
                have c4 := Q4.1.2.2.2.1
                refine w_if_eq rfl (fun c516 => ?_) (fun c516 => ?_)
                · skip
                  have nS : ¬ iS a b 40 := fun z => (s8.resolve_left (by omega)).2.2 ((iS.same (by rw [fa509.2.2.1]) (by omega) (fa509.1 2 (by decide))).mpr z)
                  have G9 : 0 ≤ x288.toInt ∨ (0 : Int32).toInt = 1 := by first | (left; omega) | (right; omega) | exact absurd (s9.resolve_right (by omega)).2 nS | exact absurd (u9.resolve_right (by omega)).2 nW
                  have y9 : (a 0 7).toInt < N := TK.lt hP.T z7.1 (by omega)
                  have d13 : (a514 0 13).toInt = (a 0 13).toInt := by rw [fa514.2.1.1 13 (by decide) (by decide), fa509.2.1.1 13 (by decide) (by decide)]
                  have d7 : (a514 0 7).toInt = (a 0 7).toInt := by omega
                  refine w_aload rfl rfl ?_
                  refine w_iload rfl rfl ?_
                  refine w_if_eq rfl (fun c517 => ?_) (fun c517 => ?_)
                  · skip
                    refine w_const rfl ?_
                    refine w_iload rfl rfl ?_
                    refine w_if_eq rfl (fun c518 => ?_) (fun c518 => ?_)
                    · skip
                      refine w_iload rfl rfl ?_
                      refine w_invV (rest := []) rfl rfl rfl rfl rfl (Nat.le_of_ble_eq_true rfl) rfl (by omega) (s_emit_1 (K := K) a514 b  2 x288 ha514 (by omega) (by omega)) (fun v519 h9 hq520 => ?_)
                      obtain ⟨a521, rfl, ha521, fa521, rfl⟩ := hq520
                      show f_wp _ (171, [some (.inr (.inr (some 0))), some (.inl e), some (.inl 0), some (.inl x288)], [], mH a521 b) _
                      have d8 : (a521 0 7).toInt = (a 0 7).toInt := by rw [fa521.2.1 7 (by decide)]; omega
                      refine w_aload rfl rfl ?_
                      refine w_dup rfl rfl ?_
                      refine w_getI (v := .inl (a521 0 7)) rfl rfl rfl rfl rfl ?_
                      have q522 : 0 ≤ (a521 0 7).toInt ∧ (a521 0 7).toInt ≤ 1000 := ha521 0 7
                      refine w_const rfl ?_
                      first | refine w_iadd rfl (by omega) (fun x523 tx523 => ?_) | refine w_iiU rfl (fun x523 tx523 => ?_)
                      refine m_putI (z := false) rfl rfl rfl rfl (by first | (intro h9; cases h9; done) | (intro _; first | exact Or.inl rfl | exact Or.inr rfl | assumption)) (fun a524 ea524 => ?_)
                      have ha524 : RM K a524 := RM.up ha521 ea524 (show (0 : Int) ≤ _ ∧ _ ≤ (1000 : Int) from by omega)
                      have ua524_7 : a524 0 7 = x523 := by rw [ea524, mU_same]
                      have wa524_7 := congrArg Int32.toInt ua524_7
                      have ua524_8 : (a524 0 8).toInt = (a521 0 8).toInt := by rw [ea524, mU_slot (by decide)]
                      have ua524_16 : (a524 0 16).toInt = (a521 0 16).toInt := by rw [ea524, mU_slot (by decide)]
                      have Q7 := PS.lit (k := h + 1) Q4.1 fa521.1 fa521.2 ea524 (by omega) (by omega) (fun _ => hgs_lit (by omega))
                      exact w_ret rfl ⟨a524, rfl, ha524, ⟨FR.up (FR.tr (FR.tr (FR.tr (FR.rf) (FR.sub fa509.1 (by decide))) (FR.sub fa514.1 (by decide))) (FR.sub fa521.1 (by decide))) (by decide) ea524, ⟨Q7.1, ((Q1.2.tr Q4.2).tr Q7.2).le (by omega)⟩⟩, rfl⟩
                    · skip
                      refine w_aload rfl rfl ?_
                      refine w_getR (v := .inr (.inr (some 4))) rfl rfl rfl rfl rfl ?_
                      refine w_aload rfl rfl ?_
                      refine w_getI (v := .inl (a514 0 7)) rfl rfl rfl rfl rfl ?_
                      have q525 : 0 ≤ (a514 0 7).toInt ∧ (a514 0 7).toInt ≤ 1000 := ha514 0 7
                      refine m_lald rfl rfl (by omega) (fun y526 ey526 => ?_)
                      refine w_l2iE rfl (fun x527 tx527 => ?_)
                      refine w_goto rfl ?_
                      refine w_invV (rest := []) rfl rfl rfl rfl rfl (Nat.le_of_ble_eq_true rfl) rfl (by omega) (s_emit_1 (K := K) a514 b  2 x527 ha514 (by omega) (by omega)) (fun v528 h9 hq529 => ?_)
                      obtain ⟨a530, rfl, ha530, fa530, rfl⟩ := hq529
                      show f_wp _ (171, [some (.inr (.inr (some 0))), some (.inl e), some (.inl 0), some (.inl x288)], [], mH a530 b) _
                      have d8 : (a530 0 7).toInt = (a 0 7).toInt := by rw [fa530.2.1 7 (by decide)]; omega
                      refine w_aload rfl rfl ?_
                      refine w_dup rfl rfl ?_
                      refine w_getI (v := .inl (a530 0 7)) rfl rfl rfl rfl rfl ?_
                      have q531 : 0 ≤ (a530 0 7).toInt ∧ (a530 0 7).toInt ≤ 1000 := ha530 0 7
                      refine w_const rfl ?_
                      first | refine w_iadd rfl (by omega) (fun x532 tx532 => ?_) | refine w_iiU rfl (fun x532 tx532 => ?_)
                      refine m_putI (z := false) rfl rfl rfl rfl (by first | (intro h9; cases h9; done) | (intro _; first | exact Or.inl rfl | exact Or.inr rfl | assumption)) (fun a533 ea533 => ?_)
                      have ha533 : RM K a533 := RM.up ha530 ea533 (show (0 : Int) ≤ _ ∧ _ ≤ (1000 : Int) from by omega)
                      have ua533_7 : a533 0 7 = x532 := by rw [ea533, mU_same]
                      have wa533_7 := congrArg Int32.toInt ua533_7
                      have ua533_8 : (a533 0 8).toInt = (a530 0 8).toInt := by rw [ea533, mU_slot (by decide)]
                      have ua533_16 : (a533 0 16).toInt = (a530 0 16).toInt := by rw [ea533, mU_slot (by decide)]
                      have Q7 := PS.lit (k := h + 1) Q4.1 fa530.1 fa530.2 ea533 (by omega) (by omega) (fun _ => hgs_lit (by omega))
                      exact w_ret rfl ⟨a533, rfl, ha533, ⟨FR.up (FR.tr (FR.tr (FR.tr (FR.rf) (FR.sub fa509.1 (by decide))) (FR.sub fa514.1 (by decide))) (FR.sub fa530.1 (by decide))) (by decide) ea533, ⟨Q7.1, ((Q1.2.tr Q4.2).tr Q7.2).le (by omega)⟩⟩, rfl⟩
                  · skip
                    refine w_const rfl ?_
                    refine w_goto rfl ?_
                    refine w_iload rfl rfl ?_
                    refine w_if_eq rfl (fun c534 => ?_) (fun c534 => ?_)
                    · skip
                      refine w_iload rfl rfl ?_
                      refine w_invV (rest := []) rfl rfl rfl rfl rfl (Nat.le_of_ble_eq_true rfl) rfl (by omega) (s_emit_1 (K := K) a514 b  1 x288 ha514 (by omega) (by omega)) (fun v535 h9 hq536 => ?_)
                      obtain ⟨a537, rfl, ha537, fa537, rfl⟩ := hq536
                      show f_wp _ (171, [some (.inr (.inr (some 0))), some (.inl e), some (.inl 0), some (.inl x288)], [], mH a537 b) _
                      have d8 : (a537 0 7).toInt = (a 0 7).toInt := by rw [fa537.2.1 7 (by decide)]; omega
                      refine w_aload rfl rfl ?_
                      refine w_dup rfl rfl ?_
                      refine w_getI (v := .inl (a537 0 7)) rfl rfl rfl rfl rfl ?_
                      have q538 : 0 ≤ (a537 0 7).toInt ∧ (a537 0 7).toInt ≤ 1000 := ha537 0 7
                      refine w_const rfl ?_
                      first | refine w_iadd rfl (by omega) (fun x539 tx539 => ?_) | refine w_iiU rfl (fun x539 tx539 => ?_)
                      refine m_putI (z := false) rfl rfl rfl rfl (by first | (intro h9; cases h9; done) | (intro _; first | exact Or.inl rfl | exact Or.inr rfl | assumption)) (fun a540 ea540 => ?_)
                      have ha540 : RM K a540 := RM.up ha537 ea540 (show (0 : Int) ≤ _ ∧ _ ≤ (1000 : Int) from by omega)
                      have ua540_7 : a540 0 7 = x539 := by rw [ea540, mU_same]
                      have wa540_7 := congrArg Int32.toInt ua540_7
                      have ua540_8 : (a540 0 8).toInt = (a537 0 8).toInt := by rw [ea540, mU_slot (by decide)]
                      have ua540_16 : (a540 0 16).toInt = (a537 0 16).toInt := by rw [ea540, mU_slot (by decide)]
                      have Q7 := PS.lit (k := h + 1) Q4.1 fa537.1 fa537.2 ea540 (by omega) (by omega) (fun _ => hgs_lit (by omega))
                      exact w_ret rfl ⟨a540, rfl, ha540, ⟨FR.up (FR.tr (FR.tr (FR.tr (FR.rf) (FR.sub fa509.1 (by decide))) (FR.sub fa514.1 (by decide))) (FR.sub fa537.1 (by decide))) (by decide) ea540, ⟨Q7.1, ((Q1.2.tr Q4.2).tr Q7.2).le (by omega)⟩⟩, rfl⟩
                    · skip
                      refine w_aload rfl rfl ?_
                      refine w_getR (v := .inr (.inr (some 4))) rfl rfl rfl rfl rfl ?_
                      refine w_aload rfl rfl ?_
                      refine w_getI (v := .inl (a514 0 7)) rfl rfl rfl rfl rfl ?_
                      have q541 : 0 ≤ (a514 0 7).toInt ∧ (a514 0 7).toInt ≤ 1000 := ha514 0 7
                      refine m_lald rfl rfl (by omega) (fun y542 ey542 => ?_)
                      refine w_l2iE rfl (fun x543 tx543 => ?_)
                      refine w_goto rfl ?_
                      refine w_invV (rest := []) rfl rfl rfl rfl rfl (Nat.le_of_ble_eq_true rfl) rfl (by omega) (s_emit_1 (K := K) a514 b  1 x543 ha514 (by omega) (by omega)) (fun v544 h9 hq545 => ?_)
                      obtain ⟨a546, rfl, ha546, fa546, rfl⟩ := hq545
                      show f_wp _ (171, [some (.inr (.inr (some 0))), some (.inl e), some (.inl 0), some (.inl x288)], [], mH a546 b) _
                      have d8 : (a546 0 7).toInt = (a 0 7).toInt := by rw [fa546.2.1 7 (by decide)]; omega
                      refine w_aload rfl rfl ?_
                      refine w_dup rfl rfl ?_
                      refine w_getI (v := .inl (a546 0 7)) rfl rfl rfl rfl rfl ?_
                      have q547 : 0 ≤ (a546 0 7).toInt ∧ (a546 0 7).toInt ≤ 1000 := ha546 0 7
                      refine w_const rfl ?_
                      first | refine w_iadd rfl (by omega) (fun x548 tx548 => ?_) | refine w_iiU rfl (fun x548 tx548 => ?_)
                      refine m_putI (z := false) rfl rfl rfl rfl (by first | (intro h9; cases h9; done) | (intro _; first | exact Or.inl rfl | exact Or.inr rfl | assumption)) (fun a549 ea549 => ?_)
                      have ha549 : RM K a549 := RM.up ha546 ea549 (show (0 : Int) ≤ _ ∧ _ ≤ (1000 : Int) from by omega)
                      have ua549_7 : a549 0 7 = x548 := by rw [ea549, mU_same]
                      have wa549_7 := congrArg Int32.toInt ua549_7
                      have ua549_8 : (a549 0 8).toInt = (a546 0 8).toInt := by rw [ea549, mU_slot (by decide)]
                      have ua549_16 : (a549 0 16).toInt = (a546 0 16).toInt := by rw [ea549, mU_slot (by decide)]
                      have Q7 := PS.lit (k := h + 1) Q4.1 fa546.1 fa546.2 ea549 (by omega) (by omega) (fun _ => hgs_lit (by omega))
                      exact w_ret rfl ⟨a549, rfl, ha549, ⟨FR.up (FR.tr (FR.tr (FR.tr (FR.rf) (FR.sub fa509.1 (by decide))) (FR.sub fa514.1 (by decide))) (FR.sub fa546.1 (by decide))) (by decide) ea549, ⟨Q7.1, ((Q1.2.tr Q4.2).tr Q7.2).le (by omega)⟩⟩, rfl⟩
                · skip
                  refine w_aload rfl rfl ?_
                  refine w_iload rfl rfl ?_
                  refine w_const rfl ?_
                  first | refine w_iadd rfl (by omega) (fun x550 tx550 => ?_) | refine w_iiU rfl (fun x550 tx550 => ?_)
                  refine w_invV (rest := []) rfl rfl rfl rfl rfl (Nat.le_of_ble_eq_true rfl) rfl (by omega) (ihA x550 (by omega) (by omega) _ a514 b ha514 Q4.1) (fun v551 h9 hq552 => ?_)
                  obtain ⟨a553, rfl, ha553, fa553, rfl⟩ := hq552
                  show f_wp _ (131, [some (.inr (.inr (some 0))), some (.inl e), some (.inl 0), some (.inl x288)], [], mH a553 b) _
                  have Q5 := fa553.2
                  have k5 := Q5.2.2.2.2
                  have g5 := Q5.2.2.2.1
                  have j5 := Q5.1.2.1
                  have c5 := Q5.1.2.2.2.1
                  refine w_aload rfl rfl ?_
                  refine w_const rfl ?_
                  refine w_invV (rest := []) rfl rfl rfl rfl rfl (Nat.le_of_ble_eq_true rfl) rfl (by omega) (s_takeSign (K := K) a553 b N 41 ha553 (Q5.1.T)) (fun v554 h9 hq555 => ?_)
                  obtain ⟨a556, rfl, ha556, fa556, rfl⟩ := hq555
                  show f_wp _ (137, [some (.inr (.inr (some 0))), some (.inl e), some (.inl 0), some (.inl x288)], [], mH a556 b) _
                  have Q6 := PS.tok Q5.1 fa556.1 fa556.2.1 (fun z => by have o9 := fa556.2.2; omega)
                  have k6 := Q6.2.2.2.2
                  have g6 := Q6.2.2.2.1
                  have j6 := Q6.1.2.1
                  have c6 := Q6.1.2.2.2.1
                  refine w_goto rfl ?_
                  exact w_ret rfl ⟨a556, rfl, ha556, ⟨FR.tr (FR.tr (FR.tr (FR.tr (FR.rf) (FR.sub fa509.1 (by decide))) (FR.sub fa514.1 (by decide))) (FR.sub fa553.1 (by decide))) (FR.sub fa556.1 (by decide)), ⟨Q6.1, (((Q1.2.tr Q4.2).tr Q5.2).tr Q6.2).le (by omega)⟩⟩, rfl⟩
              · skip
                refine w_aload rfl rfl ?_
                refine w_iload rfl rfl ?_
                refine w_const rfl ?_
                first | refine w_iadd rfl (by omega) (fun x557 tx557 => ?_) | refine w_iiU rfl (fun x557 tx557 => ?_)
                refine w_invV (rest := []) rfl rfl rfl rfl rfl (Nat.le_of_ble_eq_true rfl) rfl (by omega) (ihT x557 (by omega) (by omega) _ a509 b ha509 Q1.1) (fun v558 h9 hq559 => ?_)
                obtain ⟨a560, rfl, ha560, fa560, rfl⟩ := hq559
                show f_wp _ (106, [some (.inr (.inr (some 0))), some (.inl e), some (.inl 0), some (.inl x288)], [], mH a560 b) _
                have Q2 := fa560.2
                have k2 := Q2.2.2.2.2
                have g2 := Q2.2.2.2.1
                have j2 := Q2.1.2.1
                have c2 := Q2.1.2.2.2.1
                refine w_aload rfl rfl ?_
                refine w_const rfl ?_
                refine w_const rfl ?_
                refine w_invV (rest := []) rfl rfl rfl rfl rfl (Nat.le_of_ble_eq_true rfl) rfl (by omega) (s_emit_1 (K := K) a560 b  3 0 ha560 (by omega) (by omega)) (fun v561 h9 hq562 => ?_)
                obtain ⟨a563, rfl, ha563, fa563, rfl⟩ := hq562
                show f_wp _ (112, [some (.inr (.inr (some 0))), some (.inl e), some (.inl 0), some (.inl x288)], [], mH a563 b) _
                have Q3 := PS.emit (k := h + 1) Q2.1 fa563.1 fa563.2 (by omega) (fun _ => by rw [l3]; exact hgs_not)
                have k3 := Q3.2.2.2.2
                have g3 := Q3.2.2.2.1
                have j3 := Q3.1.2.1
                have c3 := Q3.1.2.2.2.1
                refine w_goto rfl ?_
                exact w_ret rfl ⟨a563, rfl, ha563, ⟨FR.tr (FR.tr (FR.tr (FR.rf) (FR.sub fa509.1 (by decide))) (FR.sub fa560.1 (by decide))) (FR.sub fa563.1 (by decide)), ⟨Q3.1, ((Q1.2.tr Q2.2).tr Q3.2).le (by omega)⟩⟩, rfl⟩
            · skip
              exact w_ret rfl ⟨a, rfl, hR, ⟨FR.rf, ⟨PS.bad hP (by omega), KP.rf⟩⟩, rfl⟩
  · skip
    exact w_ret rfl ⟨a, rfl, hR, ⟨FR.rf, ⟨PS.bad hP (by omega), KP.rf⟩⟩, rfl⟩
theorem s_expr {K N s : Nat} : ∀ (n : Nat) (e : Int32), 0 ≤ e.toInt ∧ e.toInt ≤ 5 → (5 - e.toInt).toNat = n → TPH K N s 34 (5 * n + 5) e
  | 0, e, he, hn => s_takePart_r he (by omega) (fun _ h _ => absurd h (by omega)) (fun _ h _ => absurd h (by omega))
  | n + 1, e, he, hn => by
    have h := s_takePart_r (K := K) (N := N) (s := s) (c := 5 * n + 9) he (by omega)
      (fun e1 h1 h2 h a b hR hP d hd => s_expr n e1 (by omega) (by omega) h a b hR hP d (by omega))
      (fun e1 h1 h2 => s_all_r (by omega) (s_test_r (by omega) (s_sums_r (by omega) (s_products_r (by omega) (s_expr n e1 (by omega) (by omega))))))
    exact h
theorem s_all0 {K N s : Nat} : TPH K N s 30 34 0 := s_all_r (by omega) (s_test_r (by omega) (s_sums_r (by omega) (s_products_r (by omega) (s_expr 5 0 (by decide) rfl))))
