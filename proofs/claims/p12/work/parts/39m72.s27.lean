set_option maxHeartbeats 8000000 in
set_option maxRecDepth 4000 in
theorem s_readRiver {K : Nat} (a : Nat → Nat → Int32) (b : Nat → Nat → Int64) (N : Nat) (hR : RM K a) (hT : N ≤ 1000 ∧ (a 0 7).toInt ≤ N ∧ (a 2 N).toInt = 0) (hlt : (a 0 7).toInt < N) : f_call mtM 5 24 [.inr (.inr (some 0))] (mH a b) (fun v9 h' => ∃ (a' : Nat → Nat → Int32) (b' : Nat → Nat → Int64), h' = mH a' b' ∧ RM K a' ∧ (FR [0, 6] a a' ∧ (RK N a a')) ∧ v9 = none) := by
  refine f_call_of (d0 := 4) rfl (Nat.le_of_ble_eq_true rfl) (fun d hd => ?_)
  show f_wp _ (0, [some (.inr (.inr (some 0))), none, none, none, none, none, none], [], mH a b) _
  have lm1 : (-1 : Int32).toInt = -1 := rfl
  have l0 : (0 : Int32).toInt = 0 := rfl
  have l1 : (1 : Int32).toInt = 1 := rfl
  have l2 : (2 : Int32).toInt = 2 := rfl
  have l3 : (3 : Int32).toInt = 3 := rfl
  have l4 : (4 : Int32).toInt = 4 := rfl
  have l5 : (5 : Int32).toInt = 5 := rfl
  have l6 : (6 : Int32).toInt = 6 := rfl
  have l7 : (7 : Int32).toInt = 7 := rfl
  have l8 : (8 : Int32).toInt = 8 := rfl
  have l9 : (9 : Int32).toInt = 9 := rfl
  have l10 : (10 : Int32).toInt = 10 := rfl
  have l11 : (11 : Int32).toInt = 11 := rfl
  have l12 : (12 : Int32).toInt = 12 := rfl
  have l13 : (13 : Int32).toInt = 13 := rfl
  have l14 : (14 : Int32).toInt = 14 := rfl
  have l20 : (20 : Int32).toInt = 20 := rfl
  have l99 : (99 : Int32).toInt = 99 := rfl
  have l110 : (110 : Int32).toInt = 110 := rfl
  have l117 : (117 : Int32).toInt = 117 := rfl
  have l999 : (999 : Int32).toInt = 999 := rfl
  have z7 : 0 ≤ (a 0 7).toInt ∧ (a 0 7).toInt ≤ 1000 := hR 0 7
  have z8 : 0 ≤ (a 0 8).toInt ∧ (a 0 8).toInt ≤ 2147483647 := hR 0 8
  have hN := hT.1
  refine w_aload rfl rfl ?_
  refine w_getR (v := .inr (.inr (some 6))) rfl rfl rfl rfl rfl ?_
  refine w_const rfl ?_
  refine m_iald rfl rfl (by omega) (fun x1 ex1 => ?_)
  have u9 : 0 ≤ x1.toInt ∧ x1.toInt ≤ 6 := by rw [ex1]; exact RM.laR hR (Or.inl rfl)
  obtain ⟨r0, hr0⟩ : ∃ r0 : Nat, (r0 : Int) = x1.toInt := ⟨x1.toInt.toNat, by omega⟩
  have hr1 : (a 6 110).toInt = r0 := by rw [hr0, ex1]; rfl
  refine w_istore (lo' := [some (.inr (.inr (some 0))), some (.inl x1), none, none, none, none, none]) rfl rfl ?_
  refine w_iload rfl rfl ?_
  refine w_const rfl ?_
  refine w_ic_ne rfl (fun c2 => ?_) (fun c2 => ?_)
  · skip
    refine w_aload rfl rfl ?_
    refine w_const rfl ?_
    refine w_invV (rest := []) rfl rfl rfl rfl rfl (Nat.le_of_ble_eq_true rfl) rfl (by omega) (s_wrong (K := K) a b  5 hR (by omega)) (fun v3 h9 hq4 => ?_)
    obtain ⟨a5, rfl, ha5, fa5, rfl⟩ := hq4
    show f_wp _ (19, [some (.inr (.inr (some 0))), some (.inl x1), none, none, none, none, none], [], mH a5 b) _
    have rx := (RK.rf hT).bad fa5.1 fa5.2.1 (fun z => by have o9 := fa5.2.2; omega)
    exact w_ret rfl ⟨a5, b, rfl, ha5, ⟨FR.tr (FR.rf) (FR.sub fa5.1 (by decide)), by first | exact r26 | exact rx | exact r1⟩, rfl⟩
  · skip
    refine w_aload rfl rfl ?_
    refine w_dup rfl rfl ?_
    refine w_getI (v := .inl (a 0 7)) rfl rfl rfl rfl rfl ?_
    have q6 : 0 ≤ (a 0 7).toInt ∧ (a 0 7).toInt ≤ 1000 := hR 0 7
    refine w_const rfl ?_
    first | refine w_iadd rfl (by omega) (fun x7 tx7 => ?_) | refine w_iiU rfl (fun x7 tx7 => ?_)
    refine m_putI (z := false) rfl rfl rfl rfl (by first | (intro h9; cases h9; done) | (intro _; first | exact Or.inl rfl | exact Or.inr rfl | assumption)) (fun a8 ea8 => ?_)
    have ha8 : RM K a8 := RM.up hR ea8 (show (0 : Int) ≤ _ ∧ _ ≤ (1000 : Int) from by omega)
    have ua8_7 : a8 0 7 = x7 := by rw [ea8, mU_same]
    have wa8_7 := congrArg Int32.toInt ua8_7
    have r1 := (RK.rf hT).up ea8 (by omega)
    refine w_aload rfl rfl ?_
    refine w_invV (rest := []) rfl rfl rfl rfl rfl (Nat.le_of_ble_eq_true rfl) rfl (by omega) (s_isName (K := K) a8 b   ha8 ) (fun v9 h9 hq10 => ?_)
    obtain ⟨rfl, x11, rfl, px11⟩ := hq10
    show f_wp _ (34, [some (.inr (.inr (some 0))), some (.inl x1), none, none, none, none, none], [.inl x11], mH a8 b) _
    have n9 := px11
    refine w_if_ne rfl (fun c12 => ?_) (fun c12 => ?_)
    · skip
      refine w_aload rfl rfl ?_
      refine w_const rfl ?_
      refine w_invV (rest := []) rfl rfl rfl rfl rfl (Nat.le_of_ble_eq_true rfl) rfl (by omega) (s_wrong (K := K) a8 b  1 ha8 (by omega)) (fun v13 h9 hq14 => ?_)
      obtain ⟨a15, rfl, ha15, fa15, rfl⟩ := hq14
      show f_wp _ (42, [some (.inr (.inr (some 0))), some (.inl x1), none, none, none, none, none], [], mH a15 b) _
      have rx := r1.bad fa15.1 fa15.2.1 (fun z => by have o9 := fa15.2.2; omega)
      refine w_goto rfl ?_
      refine w_aload rfl rfl ?_
      refine w_getI (v := .inl (a15 0 8)) rfl rfl rfl rfl rfl ?_
      have q16 : 0 ≤ (a15 0 8).toInt ∧ (a15 0 8).toInt ≤ 2147483647 := ha15 0 8
      refine w_if_le rfl (fun c17 => ?_) (fun c17 => ?_)
      · exfalso; omega
      · skip
        exact w_ret rfl ⟨a15, b, rfl, ha15, ⟨FR.tr (FR.up (FR.rf) (by decide) ea8) (FR.sub fa15.1 (by decide)), by first | exact r26 | exact rx | exact r1⟩, rfl⟩
    · skip
      refine w_aload rfl rfl ?_
      refine w_const rfl ?_
      refine w_invV (rest := []) rfl rfl rfl rfl rfl (Nat.le_of_ble_eq_true rfl) rfl (by omega) (s_find (K := K) a8 b  1 ha8 (by omega)) (fun v18 h9 hq19 => ?_)
      obtain ⟨rfl, x20, rfl, px20⟩ := hq19
      show f_wp _ (50, [some (.inr (.inr (some 0))), some (.inl x1), none, none, none, none, none], [.inl x20], mH a8 b) _
      refine w_if_lt rfl (fun c21 => ?_) (fun c21 => ?_)
      · skip
        refine w_aload rfl rfl ?_
        refine w_getI (v := .inl (a8 0 8)) rfl rfl rfl rfl rfl ?_
        have q22 : 0 ≤ (a8 0 8).toInt ∧ (a8 0 8).toInt ≤ 2147483647 := ha8 0 8
        refine w_if_le rfl (fun c23 => ?_) (fun c23 => ?_)
        · skip
          refine w_aload rfl rfl ?_
          refine w_getR (v := .inr (.inr (some 10))) rfl rfl rfl rfl rfl ?_
          refine w_iload rfl rfl ?_
          refine w_aload rfl rfl ?_
          refine w_getR (v := .inr (.inr (some 4))) rfl rfl rfl rfl rfl ?_
          refine w_aload rfl rfl ?_
          refine w_getI (v := .inl (a8 0 7)) rfl rfl rfl rfl rfl ?_
          have q24 : 0 ≤ (a8 0 7).toInt ∧ (a8 0 7).toInt ≤ 1000 := ha8 0 7
          refine m_lald rfl rfl (by omega) (fun y25 ey25 => ?_)
          refine m_last rfl rfl (by omega) (fun b26 eb26 => ?_)
          refine w_aload rfl rfl ?_
          refine w_dup rfl rfl ?_
          refine w_getI (v := .inl (a8 0 7)) rfl rfl rfl rfl rfl ?_
          have q27 : 0 ≤ (a8 0 7).toInt ∧ (a8 0 7).toInt ≤ 1000 := ha8 0 7
          have y9 : (a8 0 7).toInt < N := TK.lt (r1.T hN) (show (0 : Int) ≤ _ from (ha8 0 7).1) (by have n8 := n9.resolve_right (by omega); omega)
          refine w_const rfl ?_
          first | refine w_iadd rfl (by omega) (fun x28 tx28 => ?_) | refine w_iiU rfl (fun x28 tx28 => ?_)
          refine m_putI (z := false) rfl rfl rfl rfl (by first | (intro h9; cases h9; done) | (intro _; first | exact Or.inl rfl | exact Or.inr rfl | assumption)) (fun a29 ea29 => ?_)
          have ha29 : RM K a29 := RM.up ha8 ea29 (show (0 : Int) ≤ _ ∧ _ ≤ (1000 : Int) from by omega)
          have ua29_7 : a29 0 7 = x28 := by rw [ea29, mU_same]
          have wa29_7 := congrArg Int32.toInt ua29_7
          have ua29_8 : (a29 0 8).toInt = (a8 0 8).toInt := by rw [ea29, mU_slot (by decide)]
          have r2 := r1.up ea29 (by omega)
          refine w_aload rfl rfl ?_
          refine w_const rfl ?_
          refine w_const rfl ?_
          refine w_invV (rest := []) rfl rfl rfl rfl rfl (Nat.le_of_ble_eq_true rfl) rfl (by omega) (s_wordHere (K := K) a29 b26  20 4 ha29 (by omega)) (fun v30 h9 hq31 => ?_)
          obtain ⟨rfl, x32, rfl, px32⟩ := hq31
          show f_wp _ (98, [some (.inr (.inr (some 0))), some (.inl x1), none, none, none, none, none], [.inl x32], mH a29 b26) _
          have w9 := px32
          refine w_istore (lo' := [some (.inr (.inr (some 0))), some (.inl x1), some (.inl x32), none, none, none, none]) rfl rfl ?_
          refine w_iload rfl rfl ?_
          refine w_if_ge rfl (fun c33 => ?_) (fun c33 => ?_)
          · skip
            refine w_aload rfl rfl ?_
            refine w_dup rfl rfl ?_
            refine w_getI (v := .inl (a29 0 7)) rfl rfl rfl rfl rfl ?_
            have q34 : 0 ≤ (a29 0 7).toInt ∧ (a29 0 7).toInt ≤ 1000 := ha29 0 7
            have y8 : (a29 0 7).toInt < N := TK.lt (r2.T hN) (show (0 : Int) ≤ _ from (ha29 0 7).1) (by have n8 := w9.resolve_left (by omega); omega)
            refine w_const rfl ?_
            first | refine w_iadd rfl (by omega) (fun x35 tx35 => ?_) | refine w_iiU rfl (fun x35 tx35 => ?_)
            refine m_putI (z := false) rfl rfl rfl rfl (by first | (intro h9; cases h9; done) | (intro _; first | exact Or.inl rfl | exact Or.inr rfl | assumption)) (fun a36 ea36 => ?_)
            have ha36 : RM K a36 := RM.up ha29 ea36 (show (0 : Int) ≤ _ ∧ _ ≤ (1000 : Int) from by omega)
            have ua36_7 : a36 0 7 = x35 := by rw [ea36, mU_same]
            have wa36_7 := congrArg Int32.toInt ua36_7
            have ua36_8 : (a36 0 8).toInt = (a29 0 8).toInt := by rw [ea36, mU_slot (by decide)]
            have r3 := r2.up ea36 (by omega)
            refine w_const rfl ?_
            refine w_const rfl ?_
            refine w_iload rfl rfl ?_
            first | refine w_imul rfl (c := 14) rfl (by omega) (fun x37 tx37 => ?_) | refine w_iiU rfl (fun x37 tx37 => ?_)
            first | refine w_iadd rfl (by omega) (fun x38 tx38 => ?_) | refine w_iiU rfl (fun x38 tx38 => ?_)
            refine w_istore (lo' := [some (.inr (.inr (some 0))), some (.inl x1), some (.inl x32), some (.inl x38), none, none, none]) rfl rfl ?_
            refine w_aload rfl rfl ?_
            refine w_getR (v := .inr (.inr (some 6))) rfl rfl rfl rfl rfl ?_
            refine w_iload rfl rfl ?_
            refine w_iload rfl rfl ?_
            refine m_iast rfl rfl (by omega) (fun a39 ea39 => ?_)
            have ha39 : RM K a39 := RM.up ha36 ea39 (st_riv 0 (r := r0) (by omega) (by omega) (by decide) (show (0 : Int) ≤ _ ∧ _ ≤ (3 : Int) from by omega))
            have ua39_7 : (a39 0 7).toInt = (a36 0 7).toInt := by rw [ea39, mU_cell (by decide)]
            have ua39_8 : (a39 0 8).toInt = (a36 0 8).toInt := by rw [ea39, mU_cell (by decide)]
            have r4 := r3.put ea39 (by omega)
            refine w_aload rfl rfl ?_
            refine w_getR (v := .inr (.inr (some 6))) rfl rfl rfl rfl rfl ?_
            refine w_iload rfl rfl ?_
            refine w_const rfl ?_
            first | refine w_iadd rfl (by omega) (fun x40 tx40 => ?_) | refine w_iiU rfl (fun x40 tx40 => ?_)
            refine w_aload rfl rfl ?_
            refine w_const rfl ?_
            refine w_const rfl ?_
            refine w_const rfl ?_
            refine w_invV (rest := [.inl x40, .inr (.inr (some 6))]) rfl rfl rfl rfl rfl (Nat.le_of_ble_eq_true rfl) rfl (by omega) (s_takeAfter (K := K) a39 b26 N 1 1 99 ha39 (by omega) (by omega) (r4.T hN)) (fun v41 h9 hq42 => ?_)
            obtain ⟨a43, rfl, ha43, fa43, x44, rfl, px44⟩ := hq42
            show f_wp _ (149, [some (.inr (.inr (some 0))), some (.inl x1), some (.inl x32), some (.inl x38), none, none, none], [.inl x44, .inl x40, .inr (.inr (some 6))], mH a43 b26) _
            have r5 := r4.tok fa43.1 fa43.2 (fun z => by have o9 := px44; omega)
            have r5t := px44
            refine m_iast rfl rfl (by omega) (fun a45 ea45 => ?_)
            have ha45 : RM K a45 := RM.up ha43 ea45 (st_riv 1 (r := r0) (by omega) (by omega) (by decide) (show (0 : Int) ≤ _ ∧ _ ≤ (99 : Int) from by omega))
            have ua45_7 : (a45 0 7).toInt = (a43 0 7).toInt := by rw [ea45, mU_cell (by decide)]
            have ua45_8 : (a45 0 8).toInt = (a43 0 8).toInt := by rw [ea45, mU_cell (by decide)]
            have r6 := r5.put ea45 (by omega)
            refine w_aload rfl rfl ?_
            refine w_getR (v := .inr (.inr (some 6))) rfl rfl rfl rfl rfl ?_
            refine w_iload rfl rfl ?_
            refine w_const rfl ?_
            first | refine w_iadd rfl (by omega) (fun x46 tx46 => ?_) | refine w_iiU rfl (fun x46 tx46 => ?_)
            refine w_aload rfl rfl ?_
            refine w_const rfl ?_
            refine w_const rfl ?_
            refine w_aload rfl rfl ?_
            refine w_getR (v := .inr (.inr (some 6))) rfl rfl rfl rfl rfl ?_
            refine w_iload rfl rfl ?_
            refine w_const rfl ?_
            first | refine w_iadd rfl (by omega) (fun x47 tx47 => ?_) | refine w_iiU rfl (fun x47 tx47 => ?_)
            refine m_iald rfl rfl (by omega) (fun x48 ex48 => ?_)
            have q7 : 0 ≤ x48.toInt ∧ x48.toInt ≤ 99 := by rw [ex48]; exact RM.riv2 1 (r := r0) ha45 (by omega) (by omega) (by decide)
            refine w_const rfl ?_
            first | refine w_isub rfl (by omega) (fun x49 tx49 => ?_) | refine w_iiU rfl (fun x49 tx49 => ?_)
            refine w_invV (rest := [.inl x46, .inr (.inr (some 6))]) rfl rfl rfl rfl rfl (Nat.le_of_ble_eq_true rfl) rfl (by omega) (s_takeAfter (K := K) a45 b26 N 2 0 x49 ha45 (by omega) (by omega) (r6.T hN)) (fun v50 h9 hq51 => ?_)
            obtain ⟨a52, rfl, ha52, fa52, x53, rfl, px53⟩ := hq51
            show f_wp _ (173, [some (.inr (.inr (some 0))), some (.inl x1), some (.inl x32), some (.inl x38), none, none, none], [.inl x53, .inl x46, .inr (.inr (some 6))], mH a52 b26) _
            have r7 := r6.tok fa52.1 fa52.2 (fun z => by have o9 := px53; omega)
            have r7t := px53
            refine m_iast rfl rfl (by omega) (fun a54 ea54 => ?_)
            have ha54 : RM K a54 := RM.up ha52 ea54 (st_riv 2 (r := r0) (by omega) (by omega) (by decide) (show (0 : Int) ≤ _ ∧ _ ≤ (99 : Int) from by omega))
            have ua54_7 : (a54 0 7).toInt = (a52 0 7).toInt := by rw [ea54, mU_cell (by decide)]
            have ua54_8 : (a54 0 8).toInt = (a52 0 8).toInt := by rw [ea54, mU_cell (by decide)]
            have r8 := r7.put ea54 (by omega)
            refine w_aload rfl rfl ?_
            refine w_getR (v := .inr (.inr (some 6))) rfl rfl rfl rfl rfl ?_
            refine w_iload rfl rfl ?_
            refine w_const rfl ?_
            first | refine w_iadd rfl (by omega) (fun x55 tx55 => ?_) | refine w_iiU rfl (fun x55 tx55 => ?_)
            refine w_aload rfl rfl ?_
            refine w_const rfl ?_
            refine w_const rfl ?_
            refine w_const rfl ?_
            refine w_invV (rest := [.inl x55, .inr (.inr (some 6))]) rfl rfl rfl rfl rfl (Nat.le_of_ble_eq_true rfl) rfl (by omega) (s_takeAfter (K := K) a54 b26 N 3 0 99 ha54 (by omega) (by omega) (r8.T hN)) (fun v56 h9 hq57 => ?_)
            obtain ⟨a58, rfl, ha58, fa58, x59, rfl, px59⟩ := hq57
            show f_wp _ (189, [some (.inr (.inr (some 0))), some (.inl x1), some (.inl x32), some (.inl x38), none, none, none], [.inl x59, .inl x55, .inr (.inr (some 6))], mH a58 b26) _
            have r9 := r8.tok fa58.1 fa58.2 (fun z => by have o9 := px59; omega)
            have r9t := px59
            refine m_iast rfl rfl (by omega) (fun a60 ea60 => ?_)
            have ha60 : RM K a60 := RM.up ha58 ea60 (st_riv 3 (r := r0) (by omega) (by omega) (by decide) (show (0 : Int) ≤ _ ∧ _ ≤ (99 : Int) from by omega))
            have ua60_7 : (a60 0 7).toInt = (a58 0 7).toInt := by rw [ea60, mU_cell (by decide)]
            have ua60_8 : (a60 0 8).toInt = (a58 0 8).toInt := by rw [ea60, mU_cell (by decide)]
            have r10 := r9.put ea60 (by omega)
            refine w_aload rfl rfl ?_
            refine w_const rfl ?_
            refine w_invV (rest := []) rfl rfl rfl rfl rfl (Nat.le_of_ble_eq_true rfl) rfl (by omega) (s_takeWord (K := K) a60 b26 N 4 ha60 (by omega) (r10.T hN)) (fun v61 h9 hq62 => ?_)
            obtain ⟨a63, rfl, ha63, fa63, rfl⟩ := hq62
            show f_wp _ (195, [some (.inr (.inr (some 0))), some (.inl x1), some (.inl x32), some (.inl x38), none, none, none], [], mH a63 b26) _
            have r11 := r10.tok fa63.1 fa63.2.1 (fun z => by have o9 := fa63.2.2; omega)
            have loop235 : ∀ (ms9 : Nat)  (a235 : Nat → Nat → Int32) (b235 : Nat → Nat → Int64) (o4_235 : Option f_V), ((0 : Int)).toNat = ms9 → RM K a235 → FR [0, 6] a a235 → (RK N a a235) → (a235 6 110 = a 6 110) → f_wp (f_code (t_X13_readRiver (f_ev mtM d))) (235, [some (.inr (.inr (some 0))), some (.inl x1), some (.inl x32), some (.inl x38), o4_235, none, none], [], mH a235 b235) (fun v9 h' => ∃ (a' : Nat → Nat → Int32) (b' : Nat → Nat → Int64), h' = mH a' b' ∧ RM K a' ∧ (FR [0, 6] a a' ∧ (RK N a a')) ∧ v9 = none) := by
              intro ms9
              induction ms9 using Nat.strongRecOn with
              | _ ms235 ih235 =>
                intro  a235 b235 o4_235 hm235 hR235 hF235 hr9 hc9
                refine w_aload rfl rfl ?_
                refine w_const rfl ?_
                refine w_invV (rest := []) rfl rfl rfl rfl rfl (Nat.le_of_ble_eq_true rfl) rfl (by omega) (s_hasWord (K := K) a235 b235 N 5 hR235 (by omega) (hr9.T hN)) (fun v64 h9 hq65 => ?_)
                obtain ⟨a66, rfl, ha66, fa66, x67, rfl, px67⟩ := hq65
                show f_wp _ (240, [some (.inr (.inr (some 0))), some (.inl x1), some (.inl x32), some (.inl x38), o4_235, none, none], [.inl x67], mH a66 b235) _
                have r14 := hr9.tok fa66.1 fa66.2.1 (fun z => by rw [← fa66.2.2.1]; exact z)
                refine w_istore (lo' := [some (.inr (.inr (some 0))), some (.inl x1), some (.inl x32), some (.inl x38), some (.inl x67), none, none]) rfl rfl ?_
                have loop268 : ∀ (ms9 : Nat)  (a268 : Nat → Nat → Int32) (b268 : Nat → Nat → Int64) , ((0 : Int)).toNat = ms9 → RM K a268 → FR [0, 6] a a268 → (RK N a a268) → (a268 6 110 = a 6 110) → f_wp (f_code (t_X13_readRiver (f_ev mtM d))) (268, [some (.inr (.inr (some 0))), some (.inl x1), some (.inl x32), some (.inl x38), some (.inl x67), none, none], [], mH a268 b268) (fun v9 h' => ∃ (a' : Nat → Nat → Int32) (b' : Nat → Nat → Int64), h' = mH a' b' ∧ RM K a' ∧ (FR [0, 6] a a' ∧ (RK N a a')) ∧ v9 = none) := by
                  intro ms9
                  induction ms9 using Nat.strongRecOn with
                  | _ ms268 ih268 =>
                    intro  a268 b268  hm268 hR268 hF268 hr9 hc9
                    have loop308 : ∀ (ms9 : Nat)  (a308 : Nat → Nat → Int32) (b308 : Nat → Nat → Int64) , ((0 : Int)).toNat = ms9 → RM K a308 → FR [0, 6] a a308 → (RK N a a308) → (a308 6 110 = a 6 110) → f_wp (f_code (t_X13_readRiver (f_ev mtM d))) (308, [some (.inr (.inr (some 0))), some (.inl x1), some (.inl x32), some (.inl x38), some (.inl x67), none, none], [], mH a308 b308) (fun v9 h' => ∃ (a' : Nat → Nat → Int32) (b' : Nat → Nat → Int64), h' = mH a' b' ∧ RM K a' ∧ (FR [0, 6] a a' ∧ (RK N a a')) ∧ v9 = none) := by
                      intro ms9
                      induction ms9 using Nat.strongRecOn with
                      | _ ms308 ih308 =>
                        intro  a308 b308  hm308 hR308 hF308 hr9 hc9
                        refine w_aload rfl rfl ?_
                        refine w_const rfl ?_
                        refine w_invV (rest := []) rfl rfl rfl rfl rfl (Nat.le_of_ble_eq_true rfl) rfl (by omega) (s_hasWord (K := K) a308 b308 N 6 hR308 (by omega) (hr9.T hN)) (fun v68 h9 hq69 => ?_)
                        obtain ⟨a70, rfl, ha70, fa70, x71, rfl, px71⟩ := hq69
                        show f_wp _ (314, [some (.inr (.inr (some 0))), some (.inl x1), some (.inl x32), some (.inl x38), some (.inl x67), none, none], [.inl x71], mH a70 b308) _
                        have r18 := hr9.tok fa70.1 fa70.2.1 (fun z => by rw [← fa70.2.2.1]; exact z)
                        refine w_istore (lo' := [some (.inr (.inr (some 0))), some (.inl x1), some (.inl x32), some (.inl x38), some (.inl x67), some (.inl x71), none]) rfl rfl ?_
                        have loop342 : ∀ (ms9 : Nat)  (a342 : Nat → Nat → Int32) (b342 : Nat → Nat → Int64) , ((0 : Int)).toNat = ms9 → RM K a342 → FR [0, 6] a a342 → (RK N a a342) → (a342 6 110 = a 6 110) → f_wp (f_code (t_X13_readRiver (f_ev mtM d))) (342, [some (.inr (.inr (some 0))), some (.inl x1), some (.inl x32), some (.inl x38), some (.inl x67), some (.inl x71), none], [], mH a342 b342) (fun v9 h' => ∃ (a' : Nat → Nat → Int32) (b' : Nat → Nat → Int64), h' = mH a' b' ∧ RM K a' ∧ (FR [0, 6] a a' ∧ (RK N a a')) ∧ v9 = none) := by
                          intro ms9
                          induction ms9 using Nat.strongRecOn with
                          | _ ms342 ih342 =>
                            intro  a342 b342  hm342 hR342 hF342 hr9 hc9
                            have loop382 : ∀ (ms9 : Nat)  (a382 : Nat → Nat → Int32) (b382 : Nat → Nat → Int64) , ((0 : Int)).toNat = ms9 → RM K a382 → FR [0, 6] a a382 → (RK N a a382) → (a382 6 110 = a 6 110) → f_wp (f_code (t_X13_readRiver (f_ev mtM d))) (382, [some (.inr (.inr (some 0))), some (.inl x1), some (.inl x32), some (.inl x38), some (.inl x67), some (.inl x71), none], [], mH a382 b382) (fun v9 h' => ∃ (a' : Nat → Nat → Int32) (b' : Nat → Nat → Int64), h' = mH a' b' ∧ RM K a' ∧ (FR [0, 6] a a' ∧ (RK N a a')) ∧ v9 = none) := by
                              intro ms9
                              induction ms9 using Nat.strongRecOn with
                              | _ ms382 ih382 =>
                                intro  a382 b382  hm382 hR382 hF382 hr9 hc9
                                refine w_aload rfl rfl ?_
                                refine w_const rfl ?_
                                refine w_invV (rest := []) rfl rfl rfl rfl rfl (Nat.le_of_ble_eq_true rfl) rfl (by omega) (s_hasWord (K := K) a382 b382 N 8 hR382 (by omega) (hr9.T hN)) (fun v72 h9 hq73 => ?_)
                                obtain ⟨a74, rfl, ha74, fa74, x75, rfl, px75⟩ := hq73
                                show f_wp _ (388, [some (.inr (.inr (some 0))), some (.inl x1), some (.inl x32), some (.inl x38), some (.inl x67), some (.inl x71), none], [.inl x75], mH a74 b382) _
                                have r22 := hr9.tok fa74.1 fa74.2.1 (fun z => by rw [← fa74.2.2.1]; exact z)
                                refine w_istore (lo' := [some (.inr (.inr (some 0))), some (.inl x1), some (.inl x32), some (.inl x38), some (.inl x67), some (.inl x71), some (.inl x75)]) rfl rfl ?_
                                have loop413 : ∀ (ms9 : Nat) (hm : Int32) (a413 : Nat → Nat → Int32) (b413 : Nat → Nat → Int64) , ((0 : Int)).toNat = ms9 → RM K a413 → FR [0, 6] a a413 → (RK N a a413) → (a413 6 110 = a 6 110) → ((a413 0 8).toInt = 0 → ¬ hm.toInt = 0 → (a413 0 7).toInt < N) → f_wp (f_code (t_X13_readRiver (f_ev mtM d))) (413, [some (.inr (.inr (some 0))), some (.inl x1), some (.inl x32), some (.inl x38), some (.inl x67), some (.inl x71), some (.inl hm)], [], mH a413 b413) (fun v9 h' => ∃ (a' : Nat → Nat → Int32) (b' : Nat → Nat → Int64), h' = mH a' b' ∧ RM K a' ∧ (FR [0, 6] a a' ∧ (RK N a a')) ∧ v9 = none) := by
                                  intro ms9
                                  induction ms9 using Nat.strongRecOn with
                                  | _ ms413 ih413 =>
                                    intro hm a413 b413  hm413 hR413 hF413 hr9 hc9 hm9
                                    have loop439 : ∀ (ms9 : Nat)  (a439 : Nat → Nat → Int32) (b439 : Nat → Nat → Int64) , ((0 : Int)).toNat = ms9 → RM K a439 → FR [0, 6] a a439 → (RK N a a439) → (a439 6 110 = a 6 110) → f_wp (f_code (t_X13_readRiver (f_ev mtM d))) (439, [some (.inr (.inr (some 0))), some (.inl x1), some (.inl x32), some (.inl x38), some (.inl x67), some (.inl x71), some (.inl hm)], [], mH a439 b439) (fun v9 h' => ∃ (a' : Nat → Nat → Int32) (b' : Nat → Nat → Int64), h' = mH a' b' ∧ RM K a' ∧ (FR [0, 6] a a' ∧ (RK N a a')) ∧ v9 = none) := by
                                      intro ms9
                                      induction ms9 using Nat.strongRecOn with
                                      | _ ms439 ih439 =>
                                        intro  a439 b439  hm439 hR439 hF439 hr9 hc9
                                        refine w_aload rfl rfl ?_
                                        refine w_getR (v := .inr (.inr (some 6))) rfl rfl rfl rfl rfl ?_
                                        refine w_iload rfl rfl ?_
                                        refine w_const rfl ?_
                                        first | refine w_iadd rfl (by omega) (fun x76 tx76 => ?_) | refine w_iiU rfl (fun x76 tx76 => ?_)
                                        refine w_aload rfl rfl ?_
                                        refine w_getR (v := .inr (.inr (some 10))) rfl rfl rfl rfl rfl ?_
                                        refine w_iload rfl rfl ?_
                                        refine m_lald rfl rfl (by omega) (fun y77 ey77 => ?_)
                                        refine w_invS (rest := [.inl x76, .inr (.inr (some 6))]) rfl (Nat.le_of_ble_eq_true rfl) rfl (Nat.le_of_ble_eq_true rfl) rfl (by omega) (s_lettersOf (K := K) a439 b439  y77  ) (fun v78 h9 hq79 => ?_)
                                        obtain ⟨rfl, x80, rfl, px80⟩ := hq79
                                        show f_wp _ (456, [some (.inr (.inr (some 0))), some (.inl x1), some (.inl x32), some (.inl x38), some (.inl x67), some (.inl x71), some (.inl hm)], [.inl x80, .inl x76, .inr (.inr (some 6))], mH a439 b439) _
                                        refine m_iast rfl rfl (by omega) (fun a81 ea81 => ?_)
                                        have ha81 : RM K a81 := RM.up hR439 ea81 (st_riv 13 (r := r0) (by omega) (by omega) (by decide) ⟨ti_lo _, ti_hi _⟩)
                                        have ua81_7 : (a81 0 7).toInt = (a439 0 7).toInt := by rw [ea81, mU_cell (by decide)]
                                        have ua81_8 : (a81 0 8).toInt = (a439 0 8).toInt := by rw [ea81, mU_cell (by decide)]
                                        have r25 := hr9.put ea81 (by omega)
                                        refine w_aload rfl rfl ?_
                                        refine w_getR (v := .inr (.inr (some 6))) rfl rfl rfl rfl rfl ?_
                                        refine w_const rfl ?_
                                        refine w_dup2 rfl ⟨rfl, rfl⟩ ?_
                                        refine m_iald rfl rfl (by omega) (fun x82 ex82 => ?_)
                                        have t9 : x82.toInt = r0 := by rw [ex82, show (110 : Int32).toInt.toNat = 110 from rfl, ea81, mU_slot (by omega), hc9]; exact hr1
                                        refine w_const rfl ?_
                                        first | refine w_iadd rfl (by omega) (fun x83 tx83 => ?_) | refine w_iiU rfl (fun x83 tx83 => ?_)
                                        refine m_iast rfl rfl (by omega) (fun a84 ea84 => ?_)
                                        have ha84 : RM K a84 := RM.up ha81 ea84 (show (0 : Int) ≤ _ ∧ _ ≤ (6 : Int) from by omega)
                                        have ua84_7 : (a84 0 7).toInt = (a81 0 7).toInt := by rw [ea84, mU_cell (by decide)]
                                        have ua84_8 : (a84 0 8).toInt = (a81 0 8).toInt := by rw [ea84, mU_cell (by decide)]
                                        have r26 := r25.put ea84 (by omega)
                                        exact w_ret rfl ⟨a84, b439, rfl, ha84, ⟨FR.up (FR.up (hF439) (by decide) ea81) (by decide) ea84, by first | exact r26 | exact rx | exact r1⟩, rfl⟩
                                    refine w_aload rfl rfl ?_
                                    refine w_dup rfl rfl ?_
                                    refine w_getI (v := .inl (a413 0 7)) rfl rfl rfl rfl rfl ?_
                                    have q85 : 0 ≤ (a413 0 7).toInt ∧ (a413 0 7).toInt ≤ 1000 := hR413 0 7
                                    have h79 := hr9.2.2.1
                                    have h78 := hr9.1
                                    refine w_iload rfl rfl ?_
                                    refine w_if_eq rfl (fun c86 => ?_) (fun c86 => ?_)
                                    · skip
                                      refine w_const rfl ?_
                                      first | refine w_iadd rfl (by omega) (fun x87 tx87 => ?_) | refine w_iiU rfl (fun x87 tx87 => ?_)
                                      refine m_putI (z := false) rfl rfl rfl rfl (by first | (intro h9; cases h9; done) | (intro _; first | exact Or.inl rfl | exact Or.inr rfl | assumption)) (fun a88 ea88 => ?_)
                                      have ha88 : RM K a88 := RM.up hR413 ea88 (show (0 : Int) ≤ _ ∧ _ ≤ (1000 : Int) from by omega)
                                      have ua88_7 : a88 0 7 = x87 := by rw [ea88, mU_same]
                                      have wa88_7 := congrArg Int32.toInt ua88_7
                                      have ua88_8 : (a88 0 8).toInt = (a413 0 8).toInt := by rw [ea88, mU_slot (by decide)]
                                      have r24 := hr9.up ea88 (by omega)
                                      exact loop439 _ a88 b413 rfl ha88 (FR.up (hF413) (by decide) ea88) (r24) (by rw [ea88, mU_cell (by decide)]; exact hc9)
                                    · skip
                                      refine w_aload rfl rfl ?_
                                      refine w_getI (v := .inl (a413 0 8)) rfl rfl rfl rfl rfl ?_
                                      have q89 : 0 ≤ (a413 0 8).toInt ∧ (a413 0 8).toInt ≤ 2147483647 := hR413 0 8
                                      refine w_if_ne rfl (fun c90 => ?_) (fun c90 => ?_)
                                      · skip
                                        refine w_const rfl ?_
                                        refine w_goto rfl ?_
                                        first | refine w_iadd rfl (by omega) (fun x91 tx91 => ?_) | refine w_iiU rfl (fun x91 tx91 => ?_)
                                        refine m_putI (z := false) rfl rfl rfl rfl (by first | (intro h9; cases h9; done) | (intro _; first | exact Or.inl rfl | exact Or.inr rfl | assumption)) (fun a92 ea92 => ?_)
                                        have ha92 : RM K a92 := RM.up hR413 ea92 (show (0 : Int) ≤ _ ∧ _ ≤ (1000 : Int) from by omega)
                                        have ua92_7 : a92 0 7 = x91 := by rw [ea92, mU_same]
                                        have wa92_7 := congrArg Int32.toInt ua92_7
                                        have ua92_8 : (a92 0 8).toInt = (a413 0 8).toInt := by rw [ea92, mU_slot (by decide)]
                                        have r24 := hr9.up ea92 (by omega)
                                        exact loop439 _ a92 b413 rfl ha92 (FR.up (hF413) (by decide) ea92) (r24) (by rw [ea92, mU_cell (by decide)]; exact hc9)
                                      · skip
                                        refine w_const rfl ?_
                                        first | refine w_iadd rfl (by omega) (fun x93 tx93 => ?_) | refine w_iiU rfl (fun x93 tx93 => ?_)
                                        refine m_putI (z := false) rfl rfl rfl rfl (by first | (intro h9; cases h9; done) | (intro _; first | exact Or.inl rfl | exact Or.inr rfl | assumption)) (fun a94 ea94 => ?_)
                                        have ha94 : RM K a94 := RM.up hR413 ea94 (show (0 : Int) ≤ _ ∧ _ ≤ (1000 : Int) from by omega)
                                        have ua94_7 : a94 0 7 = x93 := by rw [ea94, mU_same]
                                        have wa94_7 := congrArg Int32.toInt ua94_7
                                        have ua94_8 : (a94 0 8).toInt = (a413 0 8).toInt := by rw [ea94, mU_slot (by decide)]
                                        have r24 := hr9.up ea94 (by omega)
                                        exact loop439 _ a94 b413 rfl ha94 (FR.up (hF413) (by decide) ea94) (r24) (by rw [ea94, mU_cell (by decide)]; exact hc9)
                                refine w_aload rfl rfl ?_
                                refine w_getR (v := .inr (.inr (some 6))) rfl rfl rfl rfl rfl ?_
                                refine w_iload rfl rfl ?_
                                refine w_const rfl ?_
                                first | refine w_iadd rfl (by omega) (fun x95 tx95 => ?_) | refine w_iiU rfl (fun x95 tx95 => ?_)
                                refine w_iload rfl rfl ?_
                                refine w_if_eq rfl (fun c96 => ?_) (fun c96 => ?_)
                                · skip
                                  refine w_const rfl ?_
                                  refine m_iast rfl rfl (by omega) (fun a97 ea97 => ?_)
                                  have ha97 : RM K a97 := RM.up ha74 ea97 (st_riv 12 (r := r0) (by omega) (by omega) (by decide) (show (-1 : Int) ≤ _ ∧ _ ≤ (5 : Int) from by omega))
                                  have ua97_7 : (a97 0 7).toInt = (a74 0 7).toInt := by rw [ea97, mU_cell (by decide)]
                                  have ua97_8 : (a97 0 8).toInt = (a74 0 8).toInt := by rw [ea97, mU_cell (by decide)]
                                  have r23 : RK N a a97 := by first | exact r22b.put ea97 (by omega) | exact r22.put ea97 (by omega)
                                  exact loop413 _ x75 a97 b382 rfl ha97 (FR.up (FR.tr (hF382) (FR.sub fa74.1 (by decide))) (by decide) ea97) (r23) (by rw [ea97, mU_slot (by omega), fa74.1 6 (by decide)]; exact hc9) (by first | exact (fun z _ => by rw [ea97, mU_cell (by decide)] at z ⊢; exact tl9 z) | exact (fun _ z => absurd (by omega) z))
                                · skip
                                  refine w_aload rfl rfl ?_
                                  refine w_const rfl ?_
                                  refine w_invV (rest := [.inl x95, .inr (.inr (some 6))]) rfl rfl rfl rfl rfl (Nat.le_of_ble_eq_true rfl) rfl (by omega) (s_riverHere (K := K) a74 b382  1 ha74 (by omega)) (fun v98 h9 hq99 => ?_)
                                  obtain ⟨a100, rfl, ha100, fa100, x101, rfl, px101⟩ := hq99
                                  show f_wp _ (408, [some (.inr (.inr (some 0))), some (.inl x1), some (.inl x32), some (.inl x38), some (.inl x67), some (.inl x71), some (.inl x75)], [.inl x101, .inl x95, .inr (.inr (some 6))], mH a100 b382) _
                                  have r22b := r22.bad fa100.1 fa100.2 (fun z => by have o9 := px101; omega)
                                  have tl9 : (a100 0 8).toInt = 0 → (a100 0 7).toInt < N := fun z => by have p9 := px101.resolve_right (by omega); rw [fa100.2 7 (by decide)]; exact TK.lt (r22.T hN) (by have z9 : (0 : Int) ≤ (a100 0 7).toInt := (ha100 0 7).1; rw [fa100.2 7 (by decide)] at z9; exact z9) (by omega)
                                  refine w_goto rfl ?_
                                  refine m_iast rfl rfl (by omega) (fun a102 ea102 => ?_)
                                  have ha102 : RM K a102 := RM.up ha100 ea102 (st_riv 12 (r := r0) (by omega) (by omega) (by decide) (show (-1 : Int) ≤ _ ∧ _ ≤ (5 : Int) from by omega))
                                  have ua102_7 : (a102 0 7).toInt = (a100 0 7).toInt := by rw [ea102, mU_cell (by decide)]
                                  have ua102_8 : (a102 0 8).toInt = (a100 0 8).toInt := by rw [ea102, mU_cell (by decide)]
                                  have r23 : RK N a a102 := by first | exact r22b.put ea102 (by omega) | exact r22.put ea102 (by omega)
                                  exact loop413 _ x75 a102 b382 rfl ha102 (FR.up (FR.tr (FR.tr (hF382) (FR.sub fa74.1 (by decide))) (FR.sub fa100.1 (by decide))) (by decide) ea102) (r23) (by rw [ea102, mU_slot (by omega), fa100.1 6 (by decide), fa74.1 6 (by decide)]; exact hc9) (by first | exact (fun z _ => by rw [ea102, mU_cell (by decide)] at z ⊢; exact tl9 z) | exact (fun _ z => absurd (by omega) z))
                            refine w_aload rfl rfl ?_
                            refine w_getR (v := .inr (.inr (some 6))) rfl rfl rfl rfl rfl ?_
                            refine w_iload rfl rfl ?_
                            refine w_const rfl ?_
                            first | refine w_iadd rfl (by omega) (fun x103 tx103 => ?_) | refine w_iiU rfl (fun x103 tx103 => ?_)
                            refine w_iload rfl rfl ?_
                            refine w_if_eq rfl (fun c104 => ?_) (fun c104 => ?_)
                            · skip
                              refine w_const rfl ?_
                              refine m_iast rfl rfl (by omega) (fun a105 ea105 => ?_)
                              have ha105 : RM K a105 := RM.up hR342 ea105 (st_riv 11 (r := r0) (by omega) (by omega) (by decide) (show (0 : Int) ≤ _ ∧ _ ≤ (99 : Int) from by omega))
                              have ua105_7 : (a105 0 7).toInt = (a342 0 7).toInt := by rw [ea105, mU_cell (by decide)]
                              have ua105_8 : (a105 0 8).toInt = (a342 0 8).toInt := by rw [ea105, mU_cell (by decide)]
                              have r21 : RK N a a105 := by first | exact r20.put ea105 (by omega) | exact hr9.put ea105 (by omega)
                              exact loop382 _ a105 b342 rfl ha105 (FR.up (hF342) (by decide) ea105) (r21) (by rw [ea105, mU_slot (by omega)]; exact hc9)
                            · skip
                              refine w_aload rfl rfl ?_
                              refine w_const rfl ?_
                              refine w_aload rfl rfl ?_
                              refine w_getR (v := .inr (.inr (some 6))) rfl rfl rfl rfl rfl ?_
                              refine w_iload rfl rfl ?_
                              refine w_const rfl ?_
                              first | refine w_iadd rfl (by omega) (fun x106 tx106 => ?_) | refine w_iiU rfl (fun x106 tx106 => ?_)
                              refine m_iald rfl rfl (by omega) (fun x107 ex107 => ?_)
                              have q10 : 0 ≤ x107.toInt ∧ x107.toInt ≤ 99 := by rw [ex107]; exact RM.riv2 2 (r := r0) hR342 (by omega) (by omega) (by decide)
                              refine w_aload rfl rfl ?_
                              refine w_getR (v := .inr (.inr (some 6))) rfl rfl rfl rfl rfl ?_
                              refine w_iload rfl rfl ?_
                              refine w_const rfl ?_
                              first | refine w_iadd rfl (by omega) (fun x108 tx108 => ?_) | refine w_iiU rfl (fun x108 tx108 => ?_)
                              refine m_iald rfl rfl (by omega) (fun x109 ex109 => ?_)
                              have q11 : 0 ≤ x109.toInt ∧ x109.toInt ≤ 99 := by rw [ex109]; exact RM.riv2 1 (r := r0) hR342 (by omega) (by omega) (by decide)
                              refine w_invV (rest := [.inl x103, .inr (.inr (some 6))]) rfl rfl rfl rfl rfl (Nat.le_of_ble_eq_true rfl) rfl (by omega) (s_takeAfter (K := K) a342 b342 N 7 x107 x109 hR342 (by omega) (by omega) (hr9.T hN)) (fun v110 h9 hq111 => ?_)
                              obtain ⟨a112, rfl, ha112, fa112, x113, rfl, px113⟩ := hq111
                              show f_wp _ (377, [some (.inr (.inr (some 0))), some (.inl x1), some (.inl x32), some (.inl x38), some (.inl x67), some (.inl x71), none], [.inl x113, .inl x103, .inr (.inr (some 6))], mH a112 b342) _
                              have r20 := hr9.tok fa112.1 fa112.2 (fun z => by have o9 := px113; omega)
                              have r20t := px113
                              refine w_goto rfl ?_
                              refine m_iast rfl rfl (by omega) (fun a114 ea114 => ?_)
                              have ha114 : RM K a114 := RM.up ha112 ea114 (st_riv 11 (r := r0) (by omega) (by omega) (by decide) (show (0 : Int) ≤ _ ∧ _ ≤ (99 : Int) from by omega))
                              have ua114_7 : (a114 0 7).toInt = (a112 0 7).toInt := by rw [ea114, mU_cell (by decide)]
                              have ua114_8 : (a114 0 8).toInt = (a112 0 8).toInt := by rw [ea114, mU_cell (by decide)]
                              have r21 : RK N a a114 := by first | exact r20.put ea114 (by omega) | exact hr9.put ea114 (by omega)
                              exact loop382 _ a114 b342 rfl ha114 (FR.up (FR.tr (hF342) (FR.sub fa112.1 (by decide))) (by decide) ea114) (r21) (by rw [ea114, mU_slot (by omega), fa112.1 6 (by decide)]; exact hc9)
                        refine w_aload rfl rfl ?_
                        refine w_getR (v := .inr (.inr (some 6))) rfl rfl rfl rfl rfl ?_
                        refine w_iload rfl rfl ?_
                        refine w_const rfl ?_
                        first | refine w_iadd rfl (by omega) (fun x115 tx115 => ?_) | refine w_iiU rfl (fun x115 tx115 => ?_)
                        refine w_iload rfl rfl ?_
                        refine w_if_eq rfl (fun c116 => ?_) (fun c116 => ?_)
                        · skip
                          refine w_const rfl ?_
                          refine m_iast rfl rfl (by omega) (fun a117 ea117 => ?_)
                          have ha117 : RM K a117 := RM.up ha70 ea117 (st_riv 10 (r := r0) (by omega) (by omega) (by decide) (show (-1 : Int) ≤ _ ∧ _ ≤ (999 : Int) from by omega))
                          have ua117_7 : (a117 0 7).toInt = (a70 0 7).toInt := by rw [ea117, mU_cell (by decide)]
                          have ua117_8 : (a117 0 8).toInt = (a70 0 8).toInt := by rw [ea117, mU_cell (by decide)]
                          have r19 : RK N a a117 := by first | exact r18b.put ea117 (by omega) | exact r18.put ea117 (by omega)
                          exact loop342 _ a117 b308 rfl ha117 (FR.up (FR.tr (hF308) (FR.sub fa70.1 (by decide))) (by decide) ea117) (r19) (by rw [ea117, mU_slot (by omega), fa70.1 6 (by decide)]; exact hc9)
                        · skip
                          refine w_aload rfl rfl ?_
                          refine w_const rfl ?_
                          refine w_const rfl ?_
                          refine w_invV (rest := [.inl x115, .inr (.inr (some 6))]) rfl rfl rfl rfl rfl (Nat.le_of_ble_eq_true rfl) rfl (by omega) (s_takeNumber (K := K) a70 b308 N 0 999 ha70 (by omega) (r18.T hN)) (fun v118 h9 hq119 => ?_)
                          obtain ⟨a120, rfl, ha120, fa120, x121, rfl, px121⟩ := hq119
                          show f_wp _ (337, [some (.inr (.inr (some 0))), some (.inl x1), some (.inl x32), some (.inl x38), some (.inl x67), some (.inl x71), none], [.inl x121, .inl x115, .inr (.inr (some 6))], mH a120 b308) _
                          have r18b := r18.tok fa120.1 fa120.2 (fun z => by have o9 := px121; omega)
                          have r18bt := px121
                          refine w_goto rfl ?_
                          refine m_iast rfl rfl (by omega) (fun a122 ea122 => ?_)
                          have ha122 : RM K a122 := RM.up ha120 ea122 (st_riv 10 (r := r0) (by omega) (by omega) (by decide) (show (-1 : Int) ≤ _ ∧ _ ≤ (999 : Int) from by omega))
                          have ua122_7 : (a122 0 7).toInt = (a120 0 7).toInt := by rw [ea122, mU_cell (by decide)]
                          have ua122_8 : (a122 0 8).toInt = (a120 0 8).toInt := by rw [ea122, mU_cell (by decide)]
                          have r19 : RK N a a122 := by first | exact r18b.put ea122 (by omega) | exact r18.put ea122 (by omega)
                          exact loop342 _ a122 b308 rfl ha122 (FR.up (FR.tr (FR.tr (hF308) (FR.sub fa70.1 (by decide))) (FR.sub fa120.1 (by decide))) (by decide) ea122) (r19) (by rw [ea122, mU_slot (by omega), fa120.1 6 (by decide), fa70.1 6 (by decide)]; exact hc9)
                    refine w_aload rfl rfl ?_
                    refine w_getR (v := .inr (.inr (some 6))) rfl rfl rfl rfl rfl ?_
                    refine w_iload rfl rfl ?_
                    refine w_const rfl ?_
                    first | refine w_iadd rfl (by omega) (fun x123 tx123 => ?_) | refine w_iiU rfl (fun x123 tx123 => ?_)
                    refine w_iload rfl rfl ?_
                    refine w_if_eq rfl (fun c124 => ?_) (fun c124 => ?_)
                    · skip
                      refine w_const rfl ?_
                      refine m_iast rfl rfl (by omega) (fun a125 ea125 => ?_)
                      have ha125 : RM K a125 := RM.up hR268 ea125 (st_riv 9 (r := r0) (by omega) (by omega) (by decide) (show (0 : Int) ≤ _ ∧ _ ≤ (99 : Int) from by omega))
                      have ua125_7 : (a125 0 7).toInt = (a268 0 7).toInt := by rw [ea125, mU_cell (by decide)]
                      have ua125_8 : (a125 0 8).toInt = (a268 0 8).toInt := by rw [ea125, mU_cell (by decide)]
                      have r17 : RK N a a125 := by first | exact r16.put ea125 (by omega) | exact hr9.put ea125 (by omega)
                      exact loop308 _ a125 b268 rfl ha125 (FR.up (hF268) (by decide) ea125) (r17) (by rw [ea125, mU_slot (by omega)]; exact hc9)
                    · skip
                      refine w_aload rfl rfl ?_
                      refine w_const rfl ?_
                      refine w_aload rfl rfl ?_
                      refine w_getR (v := .inr (.inr (some 6))) rfl rfl rfl rfl rfl ?_
                      refine w_iload rfl rfl ?_
                      refine w_const rfl ?_
                      first | refine w_iadd rfl (by omega) (fun x126 tx126 => ?_) | refine w_iiU rfl (fun x126 tx126 => ?_)
                      refine m_iald rfl rfl (by omega) (fun x127 ex127 => ?_)
                      have q8 : 0 ≤ x127.toInt ∧ x127.toInt ≤ 99 := by rw [ex127]; exact RM.riv2 2 (r := r0) hR268 (by omega) (by omega) (by decide)
                      refine w_aload rfl rfl ?_
                      refine w_getR (v := .inr (.inr (some 6))) rfl rfl rfl rfl rfl ?_
                      refine w_iload rfl rfl ?_
                      refine w_const rfl ?_
                      first | refine w_iadd rfl (by omega) (fun x128 tx128 => ?_) | refine w_iiU rfl (fun x128 tx128 => ?_)
                      refine m_iald rfl rfl (by omega) (fun x129 ex129 => ?_)
                      have q9 : 0 ≤ x129.toInt ∧ x129.toInt ≤ 99 := by rw [ex129]; exact RM.riv2 1 (r := r0) hR268 (by omega) (by omega) (by decide)
                      refine w_invV (rest := [.inl x123, .inr (.inr (some 6))]) rfl rfl rfl rfl rfl (Nat.le_of_ble_eq_true rfl) rfl (by omega) (s_takeAfter (K := K) a268 b268 N 7 x127 x129 hR268 (by omega) (by omega) (hr9.T hN)) (fun v130 h9 hq131 => ?_)
                      obtain ⟨a132, rfl, ha132, fa132, x133, rfl, px133⟩ := hq131
                      show f_wp _ (303, [some (.inr (.inr (some 0))), some (.inl x1), some (.inl x32), some (.inl x38), some (.inl x67), none, none], [.inl x133, .inl x123, .inr (.inr (some 6))], mH a132 b268) _
                      have r16 := hr9.tok fa132.1 fa132.2 (fun z => by have o9 := px133; omega)
                      have r16t := px133
                      refine w_goto rfl ?_
                      refine m_iast rfl rfl (by omega) (fun a134 ea134 => ?_)
                      have ha134 : RM K a134 := RM.up ha132 ea134 (st_riv 9 (r := r0) (by omega) (by omega) (by decide) (show (0 : Int) ≤ _ ∧ _ ≤ (99 : Int) from by omega))
                      have ua134_7 : (a134 0 7).toInt = (a132 0 7).toInt := by rw [ea134, mU_cell (by decide)]
                      have ua134_8 : (a134 0 8).toInt = (a132 0 8).toInt := by rw [ea134, mU_cell (by decide)]
                      have r17 : RK N a a134 := by first | exact r16.put ea134 (by omega) | exact hr9.put ea134 (by omega)
                      exact loop308 _ a134 b268 rfl ha134 (FR.up (FR.tr (hF268) (FR.sub fa132.1 (by decide))) (by decide) ea134) (r17) (by rw [ea134, mU_slot (by omega), fa132.1 6 (by decide)]; exact hc9)
                refine w_aload rfl rfl ?_
                refine w_getR (v := .inr (.inr (some 6))) rfl rfl rfl rfl rfl ?_
                refine w_iload rfl rfl ?_
                refine w_const rfl ?_
                first | refine w_iadd rfl (by omega) (fun x135 tx135 => ?_) | refine w_iiU rfl (fun x135 tx135 => ?_)
                refine w_iload rfl rfl ?_
                refine w_if_eq rfl (fun c136 => ?_) (fun c136 => ?_)
                · skip
                  refine w_const rfl ?_
                  refine m_iast rfl rfl (by omega) (fun a137 ea137 => ?_)
                  have ha137 : RM K a137 := RM.up ha66 ea137 (st_riv 8 (r := r0) (by omega) (by omega) (by decide) (show (-1 : Int) ≤ _ ∧ _ ≤ (999 : Int) from by omega))
                  have ua137_7 : (a137 0 7).toInt = (a66 0 7).toInt := by rw [ea137, mU_cell (by decide)]
                  have ua137_8 : (a137 0 8).toInt = (a66 0 8).toInt := by rw [ea137, mU_cell (by decide)]
                  have r15 : RK N a a137 := by first | exact r14b.put ea137 (by omega) | exact r14.put ea137 (by omega)
                  exact loop268 _ a137 b235 rfl ha137 (FR.up (FR.tr (hF235) (FR.sub fa66.1 (by decide))) (by decide) ea137) (r15) (by rw [ea137, mU_slot (by omega), fa66.1 6 (by decide)]; exact hc9)
                · skip
                  refine w_aload rfl rfl ?_
                  refine w_const rfl ?_
                  refine w_const rfl ?_
                  refine w_invV (rest := [.inl x135, .inr (.inr (some 6))]) rfl rfl rfl rfl rfl (Nat.le_of_ble_eq_true rfl) rfl (by omega) (s_takeNumber (K := K) a66 b235 N 1 999 ha66 (by omega) (r14.T hN)) (fun v138 h9 hq139 => ?_)
                  obtain ⟨a140, rfl, ha140, fa140, x141, rfl, px141⟩ := hq139
                  show f_wp _ (263, [some (.inr (.inr (some 0))), some (.inl x1), some (.inl x32), some (.inl x38), some (.inl x67), none, none], [.inl x141, .inl x135, .inr (.inr (some 6))], mH a140 b235) _
                  have r14b := r14.tok fa140.1 fa140.2 (fun z => by have o9 := px141; omega)
                  have r14bt := px141
                  refine w_goto rfl ?_
                  refine m_iast rfl rfl (by omega) (fun a142 ea142 => ?_)
                  have ha142 : RM K a142 := RM.up ha140 ea142 (st_riv 8 (r := r0) (by omega) (by omega) (by decide) (show (-1 : Int) ≤ _ ∧ _ ≤ (999 : Int) from by omega))
                  have ua142_7 : (a142 0 7).toInt = (a140 0 7).toInt := by rw [ea142, mU_cell (by decide)]
                  have ua142_8 : (a142 0 8).toInt = (a140 0 8).toInt := by rw [ea142, mU_cell (by decide)]
                  have r15 : RK N a a142 := by first | exact r14b.put ea142 (by omega) | exact r14.put ea142 (by omega)
                  exact loop268 _ a142 b235 rfl ha142 (FR.up (FR.tr (FR.tr (hF235) (FR.sub fa66.1 (by decide))) (FR.sub fa140.1 (by decide))) (by decide) ea142) (r15) (by rw [ea142, mU_slot (by omega), fa140.1 6 (by decide), fa66.1 6 (by decide)]; exact hc9)
            refine w_const rfl ?_
            refine w_istore (lo' := [some (.inr (.inr (some 0))), some (.inl x1), some (.inl x32), some (.inl x38), some (.inl 0), none, none]) rfl rfl ?_
            have loop198 : ∀ (ms9 : Nat) (k : Int32) (a198 : Nat → Nat → Int32) (b198 : Nat → Nat → Int64) , (4 - k.toInt).toNat = ms9 → RM K a198 → FR [0, 6] a a198 → (0 ≤ k.toInt ∧ k.toInt ≤ 4) → (RK N a a198) → (a198 6 110 = a 6 110) → f_wp (f_code (t_X13_readRiver (f_ev mtM d))) (198, [some (.inr (.inr (some 0))), some (.inl x1), some (.inl x32), some (.inl x38), some (.inl k), none, none], [], mH a198 b198) (fun v9 h' => ∃ (a' : Nat → Nat → Int32) (b' : Nat → Nat → Int64), h' = mH a' b' ∧ RM K a' ∧ (FR [0, 6] a a' ∧ (RK N a a')) ∧ v9 = none) := by
              intro ms9
              induction ms9 using Nat.strongRecOn with
              | _ ms198 ih198 =>
                intro k a198 b198  hm198 hR198 hF198 hk hr9 hc9
                refine w_iload rfl rfl ?_
                refine w_const rfl ?_
                refine w_ic_ge rfl (fun c143 => ?_) (fun c143 => ?_)
                · skip
                  exact loop235 _ a198 b198 (some (.inl k)) rfl hR198 (hF198) (hr9) (hc9)
                · skip
                  refine w_aload rfl rfl ?_
                  refine w_getI (v := .inl (a198 0 8)) rfl rfl rfl rfl rfl ?_
                  have q144 : 0 ≤ (a198 0 8).toInt ∧ (a198 0 8).toInt ≤ 2147483647 := hR198 0 8
                  refine w_if_ne rfl (fun c145 => ?_) (fun c145 => ?_)
                  · skip
                    refine w_aload rfl rfl ?_
                    refine w_getR (v := .inr (.inr (some 6))) rfl rfl rfl rfl rfl ?_
                    refine w_iload rfl rfl ?_
                    refine w_const rfl ?_
                    first | refine w_iadd rfl (by omega) (fun x146 tx146 => ?_) | refine w_iiU rfl (fun x146 tx146 => ?_)
                    refine w_iload rfl rfl ?_
                    first | refine w_iadd rfl (by omega) (fun x147 tx147 => ?_) | refine w_iiU rfl (fun x147 tx147 => ?_)
                    refine w_aload rfl rfl ?_
                    refine w_const rfl ?_
                    refine w_const rfl ?_
                    refine w_invV (rest := [.inl x147, .inr (.inr (some 6))]) rfl rfl rfl rfl rfl (Nat.le_of_ble_eq_true rfl) rfl (by omega) (s_takeNumber (K := K) a198 b198 N 0 99 hR198 (by omega) (hr9.T hN)) (fun v148 h9 hq149 => ?_)
                    obtain ⟨a150, rfl, ha150, fa150, x151, rfl, px151⟩ := hq149
                    show f_wp _ (228, [some (.inr (.inr (some 0))), some (.inl x1), some (.inl x32), some (.inl x38), some (.inl k), none, none], [.inl x151, .inl x147, .inr (.inr (some 6))], mH a150 b198) _
                    have r12 := hr9.tok fa150.1 fa150.2 (fun z => by have o9 := px151; omega)
                    have r12t := px151
                    refine m_iast rfl rfl (by omega) (fun a152 ea152 => ?_)
                    have ha152 : RM K a152 := RM.up ha150 ea152 (st_wat (r := r0) (w := 4 + k.toInt.toNat) (by omega) (by omega) (by omega) (by omega))
                    have ua152_7 : (a152 0 7).toInt = (a150 0 7).toInt := by rw [ea152, mU_cell (by decide)]
                    have ua152_8 : (a152 0 8).toInt = (a150 0 8).toInt := by rw [ea152, mU_cell (by decide)]
                    have r13 := r12.put ea152 (by omega)
                    refine w_iinc (lo' := fun z9 => [some (.inr (.inr (some 0))), some (.inl x1), some (.inl x32), some (.inl x38), some (.inl z9), none, none]) rfl rfl (fun _ => rfl) (by omega) (fun x153 tx153 => ?_)
                    refine w_goto rfl ?_
                    exact ih198 (4 - x153.toInt).toNat (by omega) x153 a152 b198 rfl ha152 (FR.up (FR.tr (hF198) (FR.sub fa150.1 (by decide))) (by decide) ea152) (by omega) (r13) (by rw [ea152, mU_slot (by omega), fa150.1 6 (by decide)]; exact hc9)
                  · skip
                    exact loop235 _ a198 b198 (some (.inl k)) rfl hR198 (hF198) (hr9) (hc9)
            exact loop198 _ 0 a63 b26 rfl ha63 (FR.tr (FR.up (FR.tr (FR.up (FR.tr (FR.up (FR.tr (FR.up (FR.up (FR.up (FR.up (FR.rf) (by decide) ea8) (by decide) ea29) (by decide) ea36) (by decide) ea39) (FR.sub fa43.1 (by decide))) (by decide) ea45) (FR.sub fa52.1 (by decide))) (by decide) ea54) (FR.sub fa58.1 (by decide))) (by decide) ea60) (FR.sub fa63.1 (by decide))) (by omega) (r11) (by rw [fa63.1 6 (by decide), ea60, mU_slot (by omega), fa58.1 6 (by decide), ea54, mU_slot (by omega), fa52.1 6 (by decide), ea45, mU_slot (by omega), fa43.1 6 (by decide), ea39, mU_slot (by omega), ea36, mU_cell (by decide), ea29, mU_cell (by decide), ea8, mU_cell (by decide)])
          · skip
            refine w_aload rfl rfl ?_
            refine w_const rfl ?_
            refine w_invV (rest := []) rfl rfl rfl rfl rfl (Nat.le_of_ble_eq_true rfl) rfl (by omega) (s_wrong (K := K) a29 b26  1 ha29 (by omega)) (fun v154 h9 hq155 => ?_)
            obtain ⟨a156, rfl, ha156, fa156, rfl⟩ := hq155
            show f_wp _ (108, [some (.inr (.inr (some 0))), some (.inl x1), some (.inl x32), none, none, none, none], [], mH a156 b26) _
            have rx := r2.bad fa156.1 fa156.2.1 (fun z => by have o9 := fa156.2.2; omega)
            exact w_ret rfl ⟨a156, b26, rfl, ha156, ⟨FR.tr (FR.up (FR.up (FR.rf) (by decide) ea8) (by decide) ea29) (FR.sub fa156.1 (by decide)), by first | exact r26 | exact rx | exact r1⟩, rfl⟩
        · skip
          exact w_ret rfl ⟨a8, b, rfl, ha8, ⟨FR.up (FR.rf) (by decide) ea8, by first | exact r26 | exact rx | exact r1⟩, rfl⟩
      · skip
        refine w_aload rfl rfl ?_
        refine w_const rfl ?_
        refine w_invV (rest := []) rfl rfl rfl rfl rfl (Nat.le_of_ble_eq_true rfl) rfl (by omega) (s_wrong (K := K) a8 b  3 ha8 (by omega)) (fun v157 h9 hq158 => ?_)
        obtain ⟨a159, rfl, ha159, fa159, rfl⟩ := hq158
        show f_wp _ (58, [some (.inr (.inr (some 0))), some (.inl x1), none, none, none, none, none], [], mH a159 b) _
        have rx := r1.bad fa159.1 fa159.2.1 (fun z => by have o9 := fa159.2.2; omega)
        refine w_aload rfl rfl ?_
        refine w_getI (v := .inl (a159 0 8)) rfl rfl rfl rfl rfl ?_
        have q160 : 0 ≤ (a159 0 8).toInt ∧ (a159 0 8).toInt ≤ 2147483647 := ha159 0 8
        refine w_if_le rfl (fun c161 => ?_) (fun c161 => ?_)
        · exfalso; omega
        · skip
          exact w_ret rfl ⟨a159, b, rfl, ha159, ⟨FR.tr (FR.up (FR.rf) (by decide) ea8) (FR.sub fa159.1 (by decide)), by first | exact r26 | exact rx | exact r1⟩, rfl⟩
set_option maxRecDepth 4000 in
theorem s_readRange {K : Nat} (a : Nat → Nat → Int32) (b : Nat → Nat → Int64) (N : Nat) (hR : RM K a) (hT : N ≤ 1000 ∧ (a 0 7).toInt ≤ N ∧ (a 2 N).toInt = 0) (hlt : (a 0 7).toInt < N) : f_call mtM 5 25 [.inr (.inr (some 0))] (mH a b) (fun v9 h' => ∃ (a' : Nat → Nat → Int32), h' = mH a' b ∧ RM K a' ∧ (FR [0, 6] a a' ∧ (RK N a a')) ∧ v9 = none) := by
  refine f_call_of (d0 := 4) rfl (Nat.le_of_ble_eq_true rfl) (fun d hd => ?_)
  show f_wp _ (0, [some (.inr (.inr (some 0))), none, none, none], [], mH a b) _
  have l0 : (0 : Int32).toInt = 0 := rfl
  have l1 : (1 : Int32).toInt = 1 := rfl
  have l2 : (2 : Int32).toInt = 2 := rfl
  have l3 : (3 : Int32).toInt = 3 := rfl
  have l4 : (4 : Int32).toInt = 4 := rfl
  have l5 : (5 : Int32).toInt = 5 := rfl
  have l10 : (10 : Int32).toInt = 10 := rfl
  have l99 : (99 : Int32).toInt = 99 := rfl
  have l111 : (111 : Int32).toInt = 111 := rfl
  have l201 : (201 : Int32).toInt = 201 := rfl
  have z7 : 0 ≤ (a 0 7).toInt ∧ (a 0 7).toInt ≤ 1000 := hR 0 7
  have z8 : 0 ≤ (a 0 8).toInt ∧ (a 0 8).toInt ≤ 2147483647 := hR 0 8
  have hN := hT.1
  refine w_aload rfl rfl ?_
  refine w_getR (v := .inr (.inr (some 6))) rfl rfl rfl rfl rfl ?_
  refine w_const rfl ?_
  refine m_iald rfl rfl (by omega) (fun x1 ex1 => ?_)
  have u9 : 0 ≤ x1.toInt ∧ x1.toInt ≤ 4 := by rw [ex1]; exact hR 6 111
  obtain ⟨r0, hr0⟩ : ∃ r0 : Nat, (r0 : Int) = x1.toInt := ⟨x1.toInt.toNat, by omega⟩
  have hr1 : (a 6 111).toInt = r0 := by rw [hr0, ex1]; rfl
  refine w_istore (lo' := [some (.inr (.inr (some 0))), some (.inl x1), none, none]) rfl rfl ?_
  refine w_iload rfl rfl ?_
  refine w_const rfl ?_
  refine w_ic_ne rfl (fun c2 => ?_) (fun c2 => ?_)
  · skip
    refine w_aload rfl rfl ?_
    refine w_const rfl ?_
    refine w_invV (rest := []) rfl rfl rfl rfl rfl (Nat.le_of_ble_eq_true rfl) rfl (by omega) (s_wrong (K := K) a b  5 hR (by omega)) (fun v3 h9 hq4 => ?_)
    obtain ⟨a5, rfl, ha5, fa5, rfl⟩ := hq4
    show f_wp _ (18, [some (.inr (.inr (some 0))), some (.inl x1), none, none], [], mH a5 b) _
    have rx := (RK.rf hT).bad fa5.1 fa5.2.1 (fun z => by have o9 := fa5.2.2; omega)
    exact w_ret rfl ⟨a5, rfl, ha5, ⟨FR.tr (FR.rf) (FR.sub fa5.1 (by decide)), by first | exact r8 | exact rx⟩, rfl⟩
  · skip
    refine w_aload rfl rfl ?_
    refine w_dup rfl rfl ?_
    refine w_getI (v := .inl (a 0 7)) rfl rfl rfl rfl rfl ?_
    have q6 : 0 ≤ (a 0 7).toInt ∧ (a 0 7).toInt ≤ 1000 := hR 0 7
    refine w_const rfl ?_
    first | refine w_iadd rfl (by omega) (fun x7 tx7 => ?_) | refine w_iiU rfl (fun x7 tx7 => ?_)
    refine m_putI (z := false) rfl rfl rfl rfl (by first | (intro h9; cases h9; done) | (intro _; first | exact Or.inl rfl | exact Or.inr rfl | assumption)) (fun a8 ea8 => ?_)
    have ha8 : RM K a8 := RM.up hR ea8 (show (0 : Int) ≤ _ ∧ _ ≤ (1000 : Int) from by omega)
    have ua8_7 : a8 0 7 = x7 := by rw [ea8, mU_same]
    have wa8_7 := congrArg Int32.toInt ua8_7
    have r1 := (RK.rf hT).up ea8 (by omega)
    refine w_aload rfl rfl ?_
    refine w_const rfl ?_
    refine w_const rfl ?_
    refine w_invV (rest := []) rfl rfl rfl rfl rfl (Nat.le_of_ble_eq_true rfl) rfl (by omega) (s_takeNumber (K := K) a8 b N 0 99 ha8 (by omega) (r1.T hN)) (fun v9 h9 hq10 => ?_)
    obtain ⟨a11, rfl, ha11, fa11, x12, rfl, px12⟩ := hq10
    show f_wp _ (36, [some (.inr (.inr (some 0))), some (.inl x1), none, none], [.inl x12], mH a11 b) _
    have r2 := r1.tok fa11.1 fa11.2 (fun z => by have o9 := px12; omega)
    have r2t := px12
    refine w_istore (lo' := [some (.inr (.inr (some 0))), some (.inl x1), some (.inl x12), none]) rfl rfl ?_
    have loop88 : ∀ (ms9 : Nat)  (a88 : Nat → Nat → Int32) (o3_88 : Option f_V), ((0 : Int)).toNat = ms9 → RM K a88 → FR [0, 6] a a88 → (RK N a a88) → (a88 6 111 = a 6 111) → f_wp (f_code (t_X13_readRange (f_ev mtM d))) (88, [some (.inr (.inr (some 0))), some (.inl x1), some (.inl x12), o3_88], [], mH a88 b) (fun v9 h' => ∃ (a' : Nat → Nat → Int32), h' = mH a' b ∧ RM K a' ∧ (FR [0, 6] a a' ∧ (RK N a a')) ∧ v9 = none) := by
      intro ms9
      induction ms9 using Nat.strongRecOn with
      | _ ms88 ih88 =>
        intro  a88 o3_88 hm88 hR88 hF88 hr9 hc9
        refine w_aload rfl rfl ?_
        refine w_getR (v := .inr (.inr (some 6))) rfl rfl rfl rfl rfl ?_
        refine w_const rfl ?_
        refine w_const rfl ?_
        refine w_iload rfl rfl ?_
        first | refine w_imul rfl (c := 2) rfl (by omega) (fun x13 tx13 => ?_) | refine w_iiU rfl (fun x13 tx13 => ?_)
        first | refine w_iadd rfl (by omega) (fun x14 tx14 => ?_) | refine w_iiU rfl (fun x14 tx14 => ?_)
        refine w_iload rfl rfl ?_
        refine m_iast rfl rfl (by omega) (fun a15 ea15 => ?_)
        have ha15 : RM K a15 := RM.up hR88 ea15 (st_rng (by omega) (by omega))
        have ua15_7 : (a15 0 7).toInt = (a88 0 7).toInt := by rw [ea15, mU_cell (by decide)]
        have r5 := hr9.put ea15 (by omega)
        refine w_aload rfl rfl ?_
        refine w_getR (v := .inr (.inr (some 6))) rfl rfl rfl rfl rfl ?_
        refine w_const rfl ?_
        refine w_const rfl ?_
        refine w_iload rfl rfl ?_
        first | refine w_imul rfl (c := 2) rfl (by omega) (fun x16 tx16 => ?_) | refine w_iiU rfl (fun x16 tx16 => ?_)
        first | refine w_iadd rfl (by omega) (fun x17 tx17 => ?_) | refine w_iiU rfl (fun x17 tx17 => ?_)
        refine w_const rfl ?_
        first | refine w_iadd rfl (by omega) (fun x18 tx18 => ?_) | refine w_iiU rfl (fun x18 tx18 => ?_)
        refine w_aload rfl rfl ?_
        refine w_const rfl ?_
        refine w_const rfl ?_
        refine w_const rfl ?_
        refine w_invV (rest := [.inl x18, .inr (.inr (some 6))]) rfl rfl rfl rfl rfl (Nat.le_of_ble_eq_true rfl) rfl (by omega) (s_takeAfter (K := K) a15 b N 10 1 99 ha15 (by omega) (by omega) (r5.T hN)) (fun v19 h9 hq20 => ?_)
        obtain ⟨a21, rfl, ha21, fa21, x22, rfl, px22⟩ := hq20
        show f_wp _ (123, [some (.inr (.inr (some 0))), some (.inl x1), some (.inl x12), o3_88], [.inl x22, .inl x18, .inr (.inr (some 6))], mH a21 b) _
        have r6 := r5.tok fa21.1 fa21.2 (fun z => by have o9 := px22; omega)
        have r6t := px22
        refine m_iast rfl rfl (by omega) (fun a23 ea23 => ?_)
        have ha23 : RM K a23 := RM.up ha21 ea23 (st_rng (by omega) (by omega))
        have ua23_7 : (a23 0 7).toInt = (a21 0 7).toInt := by rw [ea23, mU_cell (by decide)]
        have r7 := r6.put ea23 (by omega)
        refine w_aload rfl rfl ?_
        refine w_getR (v := .inr (.inr (some 6))) rfl rfl rfl rfl rfl ?_
        refine w_const rfl ?_
        refine w_dup2 rfl ⟨rfl, rfl⟩ ?_
        refine m_iald rfl rfl (by omega) (fun x24 ex24 => ?_)
        have u8 : 0 ≤ x24.toInt ∧ x24.toInt ≤ 4 := by rw [ex24]; exact ha23 6 111
        have t9 : x24.toInt = r0 := by rw [ex24, show (111 : Int32).toInt.toNat = 111 from rfl, ea23, mU_slot (by omega), fa21.1 6 (by decide), ea15, mU_slot (by omega), hc9]; exact hr1
        refine w_const rfl ?_
        first | refine w_iadd rfl (by omega) (fun x25 tx25 => ?_) | refine w_iiU rfl (fun x25 tx25 => ?_)
        refine m_iast rfl rfl (by omega) (fun a26 ea26 => ?_)
        have ha26 : RM K a26 := RM.up ha23 ea26 (show (0 : Int) ≤ _ ∧ _ ≤ (4 : Int) from by omega)
        have ua26_7 : (a26 0 7).toInt = (a23 0 7).toInt := by rw [ea26, mU_cell (by decide)]
        have r8 := r7.put ea26 (by omega)
        exact w_ret rfl ⟨a26, rfl, ha26, ⟨FR.up (FR.up (FR.tr (FR.up (hF88) (by decide) ea15) (FR.sub fa21.1 (by decide))) (by decide) ea23) (by decide) ea26, by first | exact r8 | exact rx⟩, rfl⟩
    refine w_const rfl ?_
    refine w_istore (lo' := [some (.inr (.inr (some 0))), some (.inl x1), some (.inl x12), some (.inl 0)]) rfl rfl ?_
    have loop39 : ∀ (ms9 : Nat) (k : Int32) (a39 : Nat → Nat → Int32) , (r0 - k.toInt).toNat = ms9 → RM K a39 → FR [0, 6] a a39 → (0 ≤ k.toInt ∧ k.toInt ≤ r0) → (RK N a a39) → ((a39 0 8).toInt = 0 → (a 0 7).toInt + 2 ≤ (a39 0 7).toInt) → (a39 6 111 = a 6 111) → f_wp (f_code (t_X13_readRange (f_ev mtM d))) (39, [some (.inr (.inr (some 0))), some (.inl x1), some (.inl x12), some (.inl k)], [], mH a39 b) (fun v9 h' => ∃ (a' : Nat → Nat → Int32), h' = mH a' b ∧ RM K a' ∧ (FR [0, 6] a a' ∧ (RK N a a')) ∧ v9 = none) := by
      intro ms9
      induction ms9 using Nat.strongRecOn with
      | _ ms39 ih39 =>
        intro k a39  hm39 hR39 hF39 hk hr9 hx hc9
        refine w_iload rfl rfl ?_
        refine w_iload rfl rfl ?_
        refine w_ic_ge rfl (fun c27 => ?_) (fun c27 => ?_)
        · skip
          exact loop88 _ a39 (some (.inl k)) rfl hR39 (hF39) (hr9) (hc9)
        · skip
          refine w_aload rfl rfl ?_
          refine w_getI (v := .inl (a39 0 8)) rfl rfl rfl rfl rfl ?_
          have q28 : 0 ≤ (a39 0 8).toInt ∧ (a39 0 8).toInt ≤ 2147483647 := hR39 0 8
          refine w_if_ne rfl (fun c29 => ?_) (fun c29 => ?_)
          · skip
            refine w_aload rfl rfl ?_
            refine w_getR (v := .inr (.inr (some 6))) rfl rfl rfl rfl rfl ?_
            refine w_const rfl ?_
            refine w_const rfl ?_
            refine w_iload rfl rfl ?_
            first | refine w_imul rfl (c := 2) rfl (by omega) (fun x30 tx30 => ?_) | refine w_iiU rfl (fun x30 tx30 => ?_)
            first | refine w_iadd rfl (by omega) (fun x31 tx31 => ?_) | refine w_iiU rfl (fun x31 tx31 => ?_)
            refine m_iald rfl rfl (by omega) (fun x32 ex32 => ?_)
            refine w_iload rfl rfl ?_
            refine w_ic_ne rfl (fun c33 => ?_) (fun c33 => ?_)
            · skip
              refine w_aload rfl rfl ?_
              refine w_dup rfl rfl ?_
              refine w_getI (v := .inl (a39 0 7)) rfl rfl rfl rfl rfl ?_
              have q34 : 0 ≤ (a39 0 7).toInt ∧ (a39 0 7).toInt ≤ 1000 := hR39 0 7
              have h79 := hr9.2.2.1
              have h78 := hr9.1
              refine w_const rfl ?_
              first | refine w_isub rfl (by omega) (fun x35 tx35 => ?_) | refine w_iiU rfl (fun x35 tx35 => ?_)
              refine m_putI (z := false) rfl rfl rfl rfl (by first | (intro h9; cases h9; done) | (intro _; first | exact Or.inl rfl | exact Or.inr rfl | assumption)) (fun a36 ea36 => ?_)
              have ha36 : RM K a36 := RM.up hR39 ea36 (show (0 : Int) ≤ _ ∧ _ ≤ (1000 : Int) from by omega)
              have ua36_7 : a36 0 7 = x35 := by rw [ea36, mU_same]
              have wa36_7 := congrArg Int32.toInt ua36_7
              have ua36_8 : (a36 0 8).toInt = (a39 0 8).toInt := by rw [ea36, mU_slot (by decide)]
              have r3 := hr9.up ea36 (by omega)
              refine w_aload rfl rfl ?_
              refine w_const rfl ?_
              refine w_invV (rest := []) rfl rfl rfl rfl rfl (Nat.le_of_ble_eq_true rfl) rfl (by omega) (s_wrong (K := K) a36 b  3 ha36 (by omega)) (fun v37 h9 hq38 => ?_)
              obtain ⟨a39, rfl, ha39, fa39, rfl⟩ := hq38
              show f_wp _ (82, [some (.inr (.inr (some 0))), some (.inl x1), some (.inl x12), some (.inl k)], [], mH a39 b) _
              have r4 := r3.bad fa39.1 fa39.2.1 (fun z => by have o9 := fa39.2.2; omega)
              have wg := fa39.2.2
              refine w_iinc (lo' := fun z9 => [some (.inr (.inr (some 0))), some (.inl x1), some (.inl x12), some (.inl z9)]) rfl rfl (fun _ => rfl) (by omega) (fun x40 tx40 => ?_)
              refine w_goto rfl ?_
              exact ih39 (r0 - x40.toInt).toNat (by omega) x40 a39 rfl ha39 (FR.tr (FR.up (hF39) (by decide) ea36) (FR.sub fa39.1 (by decide))) (by omega) (by first | exact r4 | exact hr9) (by first | exact hx | exact (fun z => by omega)) (by rw [fa39.1 6 (by decide), ea36, mU_cell (by decide)]; exact hc9)
            · skip
              refine w_iinc (lo' := fun z9 => [some (.inr (.inr (some 0))), some (.inl x1), some (.inl x12), some (.inl z9)]) rfl rfl (fun _ => rfl) (by omega) (fun x41 tx41 => ?_)
              refine w_goto rfl ?_
              exact ih39 (r0 - x41.toInt).toNat (by omega) x41 a39 rfl hR39 (hF39) (by omega) (by first | exact r4 | exact hr9) (by first | exact hx | exact (fun z => by omega)) (hc9)
          · skip
            exact loop88 _ a39 (some (.inl k)) rfl hR39 (hF39) (hr9) (hc9)
    exact loop39 _ 0 a11 rfl ha11 (FR.tr (FR.up (FR.rf) (by decide) ea8) (FR.sub fa11.1 (by decide))) (by omega) (r2) (fun z => by omega) (by rw [fa11.1 6 (by decide), ea8, mU_cell (by decide)])
