-- what a wedding, a parting, a season may change; what a mark
def cU : List Nat := 0 :: 10 :: 11 :: 20 :: (List.range' 26 6 ++ List.range' 50 6 ++ List.range' 70 4 ++ List.range' 78 128)
def cM : List Nat := 0 :: 14 :: (List.range' 70 8 ++ List.range' 206 32)
theorem cU_iff {c : Nat} : c ∈ cU ↔ c = 0 ∨ c = 10 ∨ c = 11 ∨ c = 20 ∨ (26 ≤ c ∧ c < 32) ∨ (50 ≤ c ∧ c < 56) ∨ (70 ≤ c ∧ c < 74) ∨ (78 ≤ c ∧ c < 206) := by
  unfold cU
  simp only [List.mem_cons, List.mem_append, List.mem_range'_1]
  omega
theorem cU_mem {c : Nat} (h : c = 0 ∨ c = 10 ∨ c = 11 ∨ c = 20 ∨ (26 ≤ c ∧ c < 32) ∨ (50 ≤ c ∧ c < 56) ∨ (70 ≤ c ∧ c < 74) ∨ (78 ≤ c ∧ c < 206)) : c ∈ cU := cU_iff.mpr h
theorem cU_out {c : Nat} (h : ¬ (c = 0 ∨ c = 10 ∨ c = 11 ∨ c = 20 ∨ (26 ≤ c ∧ c < 32) ∨ (50 ≤ c ∧ c < 56) ∨ (70 ≤ c ∧ c < 74) ∨ (78 ≤ c ∧ c < 206))) : c ∉ cU := fun q => h (cU_iff.mp q)
theorem cM_iff {c : Nat} : c ∈ cM ↔ c = 0 ∨ c = 14 ∨ (70 ≤ c ∧ c < 78) ∨ (206 ≤ c ∧ c < 238) := by
  unfold cM
  simp only [List.mem_cons, List.mem_append, List.mem_range'_1]
theorem cM_mem {c : Nat} (h : c = 0 ∨ c = 14 ∨ (70 ≤ c ∧ c < 78) ∨ (206 ≤ c ∧ c < 238)) : c ∈ cM := cM_iff.mpr h
theorem cM_out {c : Nat} (h : ¬ (c = 0 ∨ c = 14 ∨ (70 ≤ c ∧ c < 78) ∨ (206 ≤ c ∧ c < 238))) : c ∉ cM := fun q => h (cM_iff.mp q)
theorem cA_mem {c : Nat} (h : c = 0 ∨ (6 ≤ c ∧ c < 238)) : c ∈ cA := by
  unfold cA
  rw [List.mem_cons, List.mem_range'_1]
  omega
theorem cB_mem {c : Nat} (h : c < 238) : c ∈ cB := by
  unfold cB
  rw [List.mem_range'_1]
  omega
theorem cA_sub : ∀ c ∈ cA, c ∈ cB := fun c h => by
  unfold cA at h
  rw [List.mem_cons, List.mem_range'_1] at h
  exact cB_mem (by omega)
set_option maxRecDepth 4000 in
theorem s_X12_keepForUndo {K : Nat} (a : Nat → Nat → Int32) (b : Nat → Nat → Int64) (v : Nat → Option Nat)  (hR : RC K a)  : f_call mtC 2 118 [.inr (.inr (some 0))] (cH a b v) (fun v9 h' => ∃ (a' : Nat → Nat → Int32), h' = cH a' b v ∧ RC K a' ∧ (FR cU a a' ∧ (a' 70 7 = a 70 7)) ∧ v9 = none) := by
  refine f_call_of (d0 := 1) rfl (Nat.le_of_ble_eq_true rfl) (fun d hd => ?_)
  show f_wp _ (0, [some (.inr (.inr (some 0)))], [], cH a b v) _
  have l1 : (1 : Int32).toInt = 1 := rfl
  have l16 : (16 : Int32).toInt = 16 := rfl
  refine w_aload rfl rfl ?_
  refine c_getR (t := some 17) rfl rfl rfl rfl rfl ?_
  refine w_aload rfl rfl ?_
  refine c_getI rfl rfl rfl rfl ?_
  have q1 : 0 ≤ (a 0 14).toInt ∧ (a 0 14).toInt ≤ 15 := hR 0 14
  refine c_aald4 (t := some (78 + 8 * (a 0 14).toInt.toNat)) rfl rfl (by omega) rfl ?_
  refine w_aload rfl rfl ?_
  refine c_getR (t := some 70) rfl rfl rfl rfl rfl ?_
  refine w_invV (rest := []) rfl rfl (sh_sta (by omega)) rfl rfl (Nat.le_of_ble_eq_true rfl) rfl (by omega) (s_X9_takeBonds (K := K) a b v  (78 + 8 * (a 0 14).toInt.toNat) 70 hR  (by omega) (by omega)) (fun z2 h9 hq3 => ?_)
  obtain ⟨a4, rfl, ha4, fa4, rfl⟩ := hq3
  show f_wp _ (16, [some (.inr (.inr (some 0)))], [], cH a4 b v) _
  refine w_aload rfl rfl ?_
  refine w_aload rfl rfl ?_
  refine c_getI rfl rfl rfl rfl ?_
  have q5 : 0 ≤ (a4 0 14).toInt ∧ (a4 0 14).toInt ≤ 15 := ha4 0 14
  refine w_const rfl ?_
  first | refine w_iadd rfl (by omega) (fun x6 tx6 => ?_) | refine w_iiU rfl (fun x6 tx6 => ?_)
  refine w_const rfl ?_
  first | refine w_irem (c := 16) rfl rfl (by decide) (by omega) (fun x7 tx7 => ?_) | refine w_iidE rfl (by omega) (fun x7 tx7 => ?_)
  refine c_putI (z := false) rfl rfl rfl rfl (by first | (intro h9; cases h9; done) | (intro _; first | exact Or.inl rfl | exact Or.inr rfl | assumption | (rcases (by omega : x7.toInt = 0 ∨ x7.toInt = 1) with h8 | h8; exact Or.inl (ti_eq h8); exact Or.inr (ti_eq h8)))) (fun a8 ea8 => ?_)
  have ha8 : RC K a8 := RC.up ha4 ea8 (show (0 : Int) ≤ _ ∧ _ ≤ (15 : Int) from by omega)
  have ua8 : a8 0 14 = x7 := by rw [ea8, mU_same]
  have wa8 := congrArg Int32.toInt ua8
  refine w_aload rfl rfl ?_
  refine c_getI rfl rfl rfl rfl ?_
  have q9 : 0 ≤ (a8 0 15).toInt ∧ (a8 0 15).toInt ≤ 16 := ha8 0 15
  refine w_const rfl ?_
  refine w_ic_ge rfl (fun c10 => ?_) (fun c10 => ?_)
  · skip
    exact w_ret rfl ⟨a8, rfl, ha8, ⟨FR.up (FR.tr (FR.rf) (FR.sub fa4.1 (by first | exact (fun _ h9 => h9) | decide | (intro c9 h9; simp only [List.mem_cons, List.not_mem_nil, or_false] at h9 ⊢; omega) | (intro c9 h9; simp only [List.mem_cons, List.not_mem_nil, or_false] at h9; exact cA_mem (by omega)) | (intro c9 h9; simp only [List.mem_cons, List.not_mem_nil, or_false] at h9; exact cB_mem (by omega)) | (intro c9 h9; simp only [List.mem_cons, List.not_mem_nil, or_false] at h9; exact cU_mem (by omega)) | (intro c9 h9; simp only [List.mem_cons, List.not_mem_nil, or_false] at h9; exact cM_mem (by omega)) | exact cA_sub))) (by first | decide | (simp; done) | exact cA_mem (by omega) | exact cB_mem (by omega) | exact cU_mem (by omega) | exact cM_mem (by omega)) ea8, by rw [ea8, mU_cell (by omega), fa4.1 70 (by simp only [List.mem_cons, List.not_mem_nil, or_false, not_or]; omega)]⟩, rfl⟩
  · skip
    refine w_aload rfl rfl ?_
    refine w_dup rfl rfl ?_
    refine c_getI rfl rfl rfl rfl ?_
    have q11 : 0 ≤ (a8 0 15).toInt ∧ (a8 0 15).toInt ≤ 16 := ha8 0 15
    refine w_const rfl ?_
    first | refine w_iadd rfl (by omega) (fun x12 tx12 => ?_) | refine w_iiU rfl (fun x12 tx12 => ?_)
    refine c_putI (z := false) rfl rfl rfl rfl (by first | (intro h9; cases h9; done) | (intro _; first | exact Or.inl rfl | exact Or.inr rfl | assumption | (rcases (by omega : x12.toInt = 0 ∨ x12.toInt = 1) with h8 | h8; exact Or.inl (ti_eq h8); exact Or.inr (ti_eq h8)))) (fun a13 ea13 => ?_)
    have ha13 : RC K a13 := RC.up ha8 ea13 (show (0 : Int) ≤ _ ∧ _ ≤ (16 : Int) from by omega)
    have ua13 : a13 0 15 = x12 := by rw [ea13, mU_same]
    have wa13 := congrArg Int32.toInt ua13
    exact w_ret rfl ⟨a13, rfl, ha13, ⟨FR.up (FR.up (FR.tr (FR.rf) (FR.sub fa4.1 (by first | exact (fun _ h9 => h9) | decide | (intro c9 h9; simp only [List.mem_cons, List.not_mem_nil, or_false] at h9 ⊢; omega) | (intro c9 h9; simp only [List.mem_cons, List.not_mem_nil, or_false] at h9; exact cA_mem (by omega)) | (intro c9 h9; simp only [List.mem_cons, List.not_mem_nil, or_false] at h9; exact cB_mem (by omega)) | (intro c9 h9; simp only [List.mem_cons, List.not_mem_nil, or_false] at h9; exact cU_mem (by omega)) | (intro c9 h9; simp only [List.mem_cons, List.not_mem_nil, or_false] at h9; exact cM_mem (by omega)) | exact cA_sub))) (by first | decide | (simp; done) | exact cA_mem (by omega) | exact cB_mem (by omega) | exact cU_mem (by omega) | exact cM_mem (by omega)) ea8) (by first | decide | (simp; done) | exact cA_mem (by omega) | exact cB_mem (by omega) | exact cU_mem (by omega) | exact cM_mem (by omega)) ea13, by rw [ea13, mU_cell (by omega), ea8, mU_cell (by omega), fa4.1 70 (by simp only [List.mem_cons, List.not_mem_nil, or_false, not_or]; omega)]⟩, rfl⟩
set_option maxHeartbeats 2000000 in
set_option maxRecDepth 4000 in
theorem s_X12_wed {K : Nat} (a : Nat → Nat → Int32) (b : Nat → Nat → Int64) (v : Nat → Option Nat) (L : Nat) (i : Int32) (j : Int32) (hR : RC K a) (h0 : v 0 = some L) (hL : L = 22 ∨ L = 46) : f_call mtC 6 119 [.inr (.inr (some 0)), .inl i, .inl j] (cH a b v) (fun v9 h' => ∃ (a' : Nat → Nat → Int32) (v' : Nat → Option Nat), h' = cH a' b v' ∧ RC K a' ∧ (FR cU a a' ∧ ((∀ i, i ∉ [5] → v' i = v i) ∧ (v' 5 = v 5 ∨ v' 5 = some L)) ∧ True) ∧ ∃ x : Int32, v9 = some (.inl x) ∧ True) := by
  refine f_call_of (d0 := 5) rfl (Nat.le_of_ble_eq_true rfl) (fun d hd => ?_)
  show f_wp _ (0, [some (.inr (.inr (some 0))), some (.inl i), some (.inl j), none, none], [], cH a b v) _
  have lm1 : (-1 : Int32).toInt = -1 := rfl
  refine w_aload rfl rfl ?_
  refine w_iload rfl rfl ?_
  refine w_iload rfl rfl ?_
  refine w_invV (rest := []) rfl rfl rfl rfl rfl (Nat.le_of_ble_eq_true rfl) rfl (by omega) (s_X12_areTwo (K := K) a b v L i j hR  (h0) (by omega)) (fun z1 h9 hq2 => ?_)
  obtain ⟨rfl, x3, rfl, px3⟩ := hq2
  show f_wp _ (6, [some (.inr (.inr (some 0))), some (.inl i), some (.inl j), none, none], [.inl x3], cH a b v) _
  refine w_if_eq rfl (fun c4 => ?_) (fun c4 => ?_)
  · skip
    refine w_const rfl ?_
    exact wp_iret (z := false) rfl (fun h9 => by cases h9) ⟨a, v, rfl, hR, ⟨FR.rf, ⟨(fun _ _ => rfl), Or.inl rfl⟩, trivial⟩, ⟨_, rfl, trivial⟩⟩
  · skip
    refine w_aload rfl rfl ?_
    refine w_invV (rest := []) rfl rfl rfl rfl rfl (Nat.le_of_ble_eq_true rfl) rfl (by omega) (s_X12_netNow (K := K) a b v L  hR  (h0) (by omega)) (fun z5 h9 hq6 => ?_)
    obtain ⟨a7, v8, rfl, ha7, fa7, rfl⟩ := hq6
    show f_wp _ (13, [some (.inr (.inr (some 0))), some (.inl i), some (.inl j), none, none], [.inr (.inr (some 9))], cH a7 b v8) _
    refine w_iload rfl rfl ?_
    refine w_iload rfl rfl ?_
    refine w_invV (rest := []) rfl rfl rfl rfl rfl (Nat.le_of_ble_eq_true rfl) rfl (by omega) (s_X5_allows (K := K) a7 b v8 L i j ha7  (fa7.2.1.2) (by omega)) (fun z9 h9 hq10 => ?_)
    obtain ⟨rfl, x11, rfl, px11⟩ := hq10
    show f_wp _ (18, [some (.inr (.inr (some 0))), some (.inl i), some (.inl j), none, none], [.inl x11], cH a7 b v8) _
    refine w_if_ne rfl (fun c12 => ?_) (fun c12 => ?_)
    · skip
      refine w_const rfl ?_
      exact wp_iret (z := false) rfl (fun h9 => by cases h9) ⟨a7, v8, rfl, ha7, ⟨FR.tr (FR.rf) (FR.sub fa7.1 (by first | exact (fun _ h9 => h9) | decide | (intro c9 h9; simp only [List.mem_cons, List.not_mem_nil, or_false] at h9 ⊢; omega) | (intro c9 h9; simp only [List.mem_cons, List.not_mem_nil, or_false] at h9; exact cA_mem (by omega)) | (intro c9 h9; simp only [List.mem_cons, List.not_mem_nil, or_false] at h9; exact cB_mem (by omega)) | (intro c9 h9; simp only [List.mem_cons, List.not_mem_nil, or_false] at h9; exact cU_mem (by omega)) | (intro c9 h9; simp only [List.mem_cons, List.not_mem_nil, or_false] at h9; exact cM_mem (by omega)) | exact cA_sub)), ⟨fun i9 h9 => (fa7.2.1.1 i9 (fun z9 => h9 (by first | exact z9 | (revert z9; simp; done) | (revert z9; simp; omega)))).trans ((show ∀ i9, i9 ∉ [5] → v i9 = v i9 from (fun _ _ => rfl)) i9 h9), Or.inr fa7.2.1.2⟩, trivial⟩, ⟨_, rfl, trivial⟩⟩
    · skip
      refine w_aload rfl rfl ?_
      refine c_getR (t := some L) rfl rfl rfl rfl ((fa7.2.1.1 0 (by decide)).trans h0) ?_
      refine c_getR (t := some (L + 1)) rfl (sh_land (by omega)) rfl rfl (rC_land0 (by omega)) ?_
      refine w_iload rfl rfl ?_
      refine c_aald5 (t := some ((L + 1) + 11 + 2 * i.toInt.toNat)) rfl (sh_row (by omega)) (by omega) (rC_row (by omega)) ?_
      refine w_astore (lo' := [some (.inr (.inr (some 0))), some (.inl i), some (.inl j), some (.inr (.inr (some ((L + 1) + 11 + 2 * i.toInt.toNat)))), none]) rfl rfl ?_
      refine w_aload rfl rfl ?_
      refine c_getR (t := some L) rfl rfl rfl rfl ((fa7.2.1.1 0 (by decide)).trans h0) ?_
      refine c_getR (t := some (L + 4)) rfl (sh_land (by omega)) rfl rfl (rC_land3 (by omega)) ?_
      refine w_aload rfl rfl ?_
      refine w_iload rfl rfl ?_
      refine w_aload rfl rfl ?_
      refine w_invV (rest := [.inl i, .inr (.inr (some 0)), .inr (.inr (some (L + 4)))]) rfl rfl rfl rfl rfl (Nat.le_of_ble_eq_true rfl) rfl (by omega) (s_X12_season (K := K) a7 b v8   ha7  ) (fun z13 h9 hq14 => ?_)
      obtain ⟨rfl, x15, rfl, px15⟩ := hq14
      show f_wp _ (46, [some (.inr (.inr (some 0))), some (.inl i), some (.inl j), some (.inr (.inr (some ((L + 1) + 11 + 2 * i.toInt.toNat)))), none], [.inl x15, .inl i, .inr (.inr (some 0)), .inr (.inr (some (L + 4)))], cH a7 b v8) _
      refine w_invV (rest := [.inr (.inr (some (L + 4)))]) rfl rfl rfl rfl rfl (Nat.le_of_ble_eq_true rfl) rfl (by omega) (s_X12_mouthFlow (K := K) a7 b v8 L i x15 ha7  (((fa7.2.1.1 0 (by decide)).trans h0)) (by omega) (by omega)) (fun z16 h9 hq17 => ?_)
      obtain ⟨a18, v19, rfl, ha18, fa18, x20, rfl, px20⟩ := hq17
      show f_wp _ (49, [some (.inr (.inr (some 0))), some (.inl i), some (.inl j), some (.inr (.inr (some ((L + 1) + 11 + 2 * i.toInt.toNat)))), none], [.inl x20, .inr (.inr (some (L + 4)))], cH a18 b v19) _
      refine w_aload rfl rfl ?_
      refine c_getI rfl (sh_riv (by omega)) rfl rfl ?_
      refine w_aload rfl rfl ?_
      refine c_getI rfl (sh_riv (by omega)) rfl rfl ?_
      first | refine w_isub rfl (by omega) (fun x21 tx21 => ?_) | refine w_iiU rfl (fun x21 tx21 => ?_)
      refine w_aload rfl rfl ?_
      refine c_getR (t := some L) rfl rfl rfl rfl ((fa18.2.1.1 0 (by decide)).trans ((fa7.2.1.1 0 (by decide)).trans h0)) ?_
      refine w_iload rfl rfl ?_
      refine w_iload rfl rfl ?_
      refine w_invV (rest := [.inl x21, .inl x20, .inr (.inr (some (L + 4)))]) rfl rfl (sh_land (by omega)) rfl rfl (Nat.le_of_ble_eq_true rfl) rfl (by omega) (s_X3_kinSteps (K := K) a18 b v19  L i j ha18  (by omega) (by omega) (by omega)) (fun z22 h9 hq23 => ?_)
      obtain ⟨rfl, x24, rfl, px24⟩ := hq23
      show f_wp _ (67, [some (.inr (.inr (some 0))), some (.inl i), some (.inl j), some (.inr (.inr (some ((L + 1) + 11 + 2 * i.toInt.toNat)))), none], [.inl x24, .inl x21, .inl x20, .inr (.inr (some (L + 4)))], cH a18 b v19) _
      refine w_aload rfl rfl ?_
      refine c_getR (t := some L) rfl rfl rfl rfl ((fa18.2.1.1 0 (by decide)).trans ((fa7.2.1.1 0 (by decide)).trans h0)) ?_
      refine w_iload rfl rfl ?_
      refine w_iload rfl rfl ?_
      refine w_invV (rest := [.inl x24, .inl x21, .inl x20, .inr (.inr (some (L + 4)))]) rfl rfl (sh_land (by omega)) rfl rfl (Nat.le_of_ble_eq_true rfl) rfl (by omega) (s_X3_digging (K := K) a18 b v19  L i j ha18  (by omega) (by omega) (by omega)) (fun z25 h9 hq26 => ?_)
      obtain ⟨rfl, x27, rfl, px27⟩ := hq26
      show f_wp _ (76, [some (.inr (.inr (some 0))), some (.inl i), some (.inl j), some (.inr (.inr (some ((L + 1) + 11 + 2 * i.toInt.toNat)))), none], [.inl x27, .inl x24, .inl x21, .inl x20, .inr (.inr (some (L + 4)))], cH a18 b v19) _
      refine w_invV (rest := []) rfl rfl (sh_form (by omega)) rfl rfl (Nat.le_of_ble_eq_true rfl) rfl (by omega) (s_X2_held (K := K) a18 b v19  (L + 4) x20 x21 x24 x27 ha18  (by omega)) (fun z28 h9 hq29 => ?_)
      obtain ⟨a30, rfl, ha30, fa30, x31, rfl, px31⟩ := hq29
      show f_wp _ (79, [some (.inr (.inr (some 0))), some (.inl i), some (.inl j), some (.inr (.inr (some ((L + 1) + 11 + 2 * i.toInt.toNat)))), none], [.inl x31], cH a30 b v19) _
      refine w_istore (lo' := [some (.inr (.inr (some 0))), some (.inl i), some (.inl j), some (.inr (.inr (some ((L + 1) + 11 + 2 * i.toInt.toNat)))), some (.inl x31)]) rfl rfl ?_
      refine w_aload rfl rfl ?_
      refine w_invV (rest := []) rfl rfl rfl rfl rfl (Nat.le_of_ble_eq_true rfl) rfl (by omega) (s_X12_keepForUndo (K := K) a30 b v19   ha30  ) (fun z32 h9 hq33 => ?_)
      obtain ⟨a34, rfl, ha34, fa34, rfl⟩ := hq33
      show f_wp _ (85, [some (.inr (.inr (some 0))), some (.inl i), some (.inl j), some (.inr (.inr (some ((L + 1) + 11 + 2 * i.toInt.toNat)))), some (.inl x31)], [], cH a34 b v19) _
      refine w_aload rfl rfl ?_
      refine c_getR (t := some 70) rfl rfl rfl rfl rfl ?_
      refine c_getR (t := some 71) rfl rfl rfl rfl rfl ?_
      refine w_iload rfl rfl ?_
      refine w_iload rfl rfl ?_
      refine c_iast rfl rfl (by omega) (fun a35 ea35 => ?_)
      have ha35 : RC K a35 := RC.up ha34 ea35 (lc_hus (by omega) (by omega))
      refine w_aload rfl rfl ?_
      refine c_getR (t := some 70) rfl rfl rfl rfl rfl ?_
      refine c_getR (t := some 72) rfl rfl rfl rfl rfl ?_
      refine w_iload rfl rfl ?_
      refine w_dup2 rfl ⟨rfl, rfl⟩ ?_
      refine c_iald rfl rfl (by omega) (fun x36 ex36 => ?_)
      refine w_iload rfl rfl ?_
      first | refine w_isub rfl (by omega) (fun x37 tx37 => ?_) | refine w_iiU rfl (fun x37 tx37 => ?_)
      refine c_iast rfl rfl (by omega) (fun a38 ea38 => ?_)
      have ha38 : RC K a38 := RC.up ha35 ea38 (lc_any _ (by omega))
      refine w_aload rfl rfl ?_
      refine c_getR (t := some 70) rfl rfl rfl rfl rfl ?_
      refine c_getR (t := some 72) rfl rfl rfl rfl rfl ?_
      refine w_iload rfl rfl ?_
      refine w_dup2 rfl ⟨rfl, rfl⟩ ?_
      refine c_iald rfl rfl (by omega) (fun x39 ex39 => ?_)
      refine w_iload rfl rfl ?_
      first | refine w_iadd rfl (by omega) (fun x40 tx40 => ?_) | refine w_iiU rfl (fun x40 tx40 => ?_)
      refine c_iast rfl rfl (by omega) (fun a41 ea41 => ?_)
      have ha41 : RC K a41 := RC.up ha38 ea41 (lc_any _ (by omega))
      refine w_iload rfl rfl ?_
      exact wp_iret (z := false) rfl (fun h9 => by cases h9) ⟨a41, v19, rfl, ha41, ⟨FR.up (FR.up (FR.up (FR.tr (FR.tr (FR.tr (FR.tr (FR.rf) (FR.sub fa7.1 (by first | exact (fun _ h9 => h9) | decide | (intro c9 h9; simp only [List.mem_cons, List.not_mem_nil, or_false] at h9 ⊢; omega) | (intro c9 h9; simp only [List.mem_cons, List.not_mem_nil, or_false] at h9; exact cA_mem (by omega)) | (intro c9 h9; simp only [List.mem_cons, List.not_mem_nil, or_false] at h9; exact cB_mem (by omega)) | (intro c9 h9; simp only [List.mem_cons, List.not_mem_nil, or_false] at h9; exact cU_mem (by omega)) | (intro c9 h9; simp only [List.mem_cons, List.not_mem_nil, or_false] at h9; exact cM_mem (by omega)) | exact cA_sub))) (FR.sub fa18.1 (by first | exact (fun _ h9 => h9) | decide | (intro c9 h9; simp only [List.mem_cons, List.not_mem_nil, or_false] at h9 ⊢; omega) | (intro c9 h9; simp only [List.mem_cons, List.not_mem_nil, or_false] at h9; exact cA_mem (by omega)) | (intro c9 h9; simp only [List.mem_cons, List.not_mem_nil, or_false] at h9; exact cB_mem (by omega)) | (intro c9 h9; simp only [List.mem_cons, List.not_mem_nil, or_false] at h9; exact cU_mem (by omega)) | (intro c9 h9; simp only [List.mem_cons, List.not_mem_nil, or_false] at h9; exact cM_mem (by omega)) | exact cA_sub))) (FR.sub fa30.1 (by first | exact (fun _ h9 => h9) | decide | (intro c9 h9; simp only [List.mem_cons, List.not_mem_nil, or_false] at h9 ⊢; omega) | (intro c9 h9; simp only [List.mem_cons, List.not_mem_nil, or_false] at h9; exact cA_mem (by omega)) | (intro c9 h9; simp only [List.mem_cons, List.not_mem_nil, or_false] at h9; exact cB_mem (by omega)) | (intro c9 h9; simp only [List.mem_cons, List.not_mem_nil, or_false] at h9; exact cU_mem (by omega)) | (intro c9 h9; simp only [List.mem_cons, List.not_mem_nil, or_false] at h9; exact cM_mem (by omega)) | exact cA_sub))) (FR.sub fa34.1 (by first | exact (fun _ h9 => h9) | decide | (intro c9 h9; simp only [List.mem_cons, List.not_mem_nil, or_false] at h9 ⊢; omega) | (intro c9 h9; simp only [List.mem_cons, List.not_mem_nil, or_false] at h9; exact cA_mem (by omega)) | (intro c9 h9; simp only [List.mem_cons, List.not_mem_nil, or_false] at h9; exact cB_mem (by omega)) | (intro c9 h9; simp only [List.mem_cons, List.not_mem_nil, or_false] at h9; exact cU_mem (by omega)) | (intro c9 h9; simp only [List.mem_cons, List.not_mem_nil, or_false] at h9; exact cM_mem (by omega)) | exact cA_sub))) (by first | decide | (simp; done) | exact cA_mem (by omega) | exact cB_mem (by omega) | exact cU_mem (by omega) | exact cM_mem (by omega)) ea35) (by first | decide | (simp; done) | exact cA_mem (by omega) | exact cB_mem (by omega) | exact cU_mem (by omega) | exact cM_mem (by omega)) ea38) (by first | decide | (simp; done) | exact cA_mem (by omega) | exact cB_mem (by omega) | exact cU_mem (by omega) | exact cM_mem (by omega)) ea41, ⟨fun i9 h9 => (fa18.2.1.1 i9 (fun z9 => h9 (by first | exact z9 | (revert z9; simp; done) | (revert z9; simp; omega)))).trans ((show ∀ i9, i9 ∉ [5] → v8 i9 = v i9 from fun i9 h9 => (fa7.2.1.1 i9 (fun z9 => h9 (by first | exact z9 | (revert z9; simp; done) | (revert z9; simp; omega)))).trans ((show ∀ i9, i9 ∉ [5] → v i9 = v i9 from (fun _ _ => rfl)) i9 h9)) i9 h9), Or.inr fa18.2.1.2⟩, trivial⟩, ⟨_, rfl, trivial⟩⟩
set_option maxRecDepth 4000 in
theorem s_X12_part {K : Nat} (a : Nat → Nat → Int32) (b : Nat → Nat → Int64) (v : Nat → Option Nat) (L : Nat) (i : Int32) (hR : RC K a) (h0 : v 0 = some L) (hL : L = 22 ∨ L = 46) : f_call mtC 3 120 [.inr (.inr (some 0)), .inl i] (cH a b v) (fun v9 h' => ∃ (a' : Nat → Nat → Int32), h' = cH a' b v ∧ RC K a' ∧ (FR cU a a' ∧ True) ∧ ∃ x : Int32, v9 = some (.inl x) ∧ (x.toInt = 0 ∨ x.toInt = 1)) := by
  refine f_call_of (d0 := 2) rfl (Nat.le_of_ble_eq_true rfl) (fun d hd => ?_)
  show f_wp _ (0, [some (.inr (.inr (some 0))), some (.inl i)], [], cH a b v) _
  have lm1 : (-1 : Int32).toInt = -1 := rfl
  have l0 : (0 : Int32).toInt = 0 := rfl
  have l1 : (1 : Int32).toInt = 1 := rfl
  refine w_aload rfl rfl ?_
  refine w_iload rfl rfl ?_
  refine w_invV (rest := []) rfl rfl rfl rfl rfl (Nat.le_of_ble_eq_true rfl) rfl (by omega) (s_X12_isRiver (K := K) a b v L i hR  (h0) (by omega)) (fun z1 h9 hq2 => ?_)
  obtain ⟨rfl, x3, rfl, px3⟩ := hq2
  show f_wp _ (5, [some (.inr (.inr (some 0))), some (.inl i)], [.inl x3], cH a b v) _
  refine w_if_eq rfl (fun c4 => ?_) (fun c4 => ?_)
  · skip
    refine w_const rfl ?_
    exact wp_iret (z := true) rfl (fun _ => by first | exact Or.inl rfl | exact Or.inr rfl | (rcases (by omega : (0 : Int32).toInt = 0 ∨ (0 : Int32).toInt = 1) with h8 | h8; exact Or.inl (ti_eq h8); exact Or.inr (ti_eq h8))) ⟨a, rfl, hR, ⟨FR.rf, trivial⟩, ⟨_, rfl, by omega⟩⟩
  · skip
    refine w_aload rfl rfl ?_
    refine c_getR (t := some 70) rfl rfl rfl rfl rfl ?_
    refine c_getR (t := some 71) rfl rfl rfl rfl rfl ?_
    refine w_iload rfl rfl ?_
    refine c_iald rfl rfl (by omega) (fun x5 ex5 => ?_)
    have qx5 : -1 ≤ x5.toInt ∧ x5.toInt ≤ 5 := by rw [ex5]; exact RC.hus hR _ (by omega)
    refine w_const rfl ?_
    refine w_ic_ne rfl (fun c6 => ?_) (fun c6 => ?_)
    · skip
      refine w_const rfl ?_
      exact wp_iret (z := true) rfl (fun _ => by first | exact Or.inl rfl | exact Or.inr rfl | (rcases (by omega : (0 : Int32).toInt = 0 ∨ (0 : Int32).toInt = 1) with h8 | h8; exact Or.inl (ti_eq h8); exact Or.inr (ti_eq h8))) ⟨a, rfl, hR, ⟨FR.rf, trivial⟩, ⟨_, rfl, by omega⟩⟩
    · skip
      refine w_aload rfl rfl ?_
      refine w_invV (rest := []) rfl rfl rfl rfl rfl (Nat.le_of_ble_eq_true rfl) rfl (by omega) (s_X12_keepForUndo (K := K) a b v   hR  ) (fun z7 h9 hq8 => ?_)
      obtain ⟨a9, rfl, ha9, fa9, rfl⟩ := hq8
      show f_wp _ (27, [some (.inr (.inr (some 0))), some (.inl i)], [], cH a9 b v) _
      refine w_aload rfl rfl ?_
      refine c_getR (t := some 70) rfl rfl rfl rfl rfl ?_
      refine c_getR (t := some 71) rfl rfl rfl rfl rfl ?_
      refine w_iload rfl rfl ?_
      refine w_const rfl ?_
      refine c_iast rfl rfl (by omega) (fun a10 ea10 => ?_)
      have ha10 : RC K a10 := RC.up ha9 ea10 (lc_hus (by omega) (by omega))
      refine w_const rfl ?_
      exact wp_iret (z := true) rfl (fun _ => by first | exact Or.inl rfl | exact Or.inr rfl | (rcases (by omega : (1 : Int32).toInt = 0 ∨ (1 : Int32).toInt = 1) with h8 | h8; exact Or.inl (ti_eq h8); exact Or.inr (ti_eq h8))) ⟨a10, rfl, ha10, ⟨FR.up (FR.tr (FR.rf) (FR.sub fa9.1 (by first | exact (fun _ h9 => h9) | decide | (intro c9 h9; simp only [List.mem_cons, List.not_mem_nil, or_false] at h9 ⊢; omega) | (intro c9 h9; simp only [List.mem_cons, List.not_mem_nil, or_false] at h9; exact cA_mem (by omega)) | (intro c9 h9; simp only [List.mem_cons, List.not_mem_nil, or_false] at h9; exact cB_mem (by omega)) | (intro c9 h9; simp only [List.mem_cons, List.not_mem_nil, or_false] at h9; exact cU_mem (by omega)) | (intro c9 h9; simp only [List.mem_cons, List.not_mem_nil, or_false] at h9; exact cM_mem (by omega)) | exact cA_sub))) (by first | decide | (simp; done) | exact cA_mem (by omega) | exact cB_mem (by omega) | exact cU_mem (by omega) | exact cM_mem (by omega)) ea10, trivial⟩, ⟨_, rfl, by omega⟩⟩
set_option maxRecDepth 4000 in
theorem s_X12_reckonGrowth {K : Nat} (a : Nat → Nat → Int32) (b : Nat → Nat → Int64) (v : Nat → Option Nat) (L : Nat)  (hR : RC K a) (h0 : v 0 = some L) (hL : L = 22 ∨ L = 46) : f_call mtC 6 122 [.inr (.inr (some 0))] (cH a b v) (fun v9 h' => ∃ (a' : Nat → Nat → Int32) (v' : Nat → Option Nat), h' = cH a' b v' ∧ RC K a' ∧ (FR [10, 11, 20, L + 9] a a' ∧ ((∀ i, i ∉ [5] → v' i = v i) ∧ (v' 5 = v 5 ∨ v' 5 = some L)) ∧ True) ∧ v9 = none) := by
  refine f_call_of (d0 := 5) rfl (Nat.le_of_ble_eq_true rfl) (fun d hd => ?_)
  show f_wp _ (0, [some (.inr (.inr (some 0))), none, none, none], [], cH a b v) _
  have l0 : (0 : Int32).toInt = 0 := rfl
  have l1 : (1 : Int32).toInt = 1 := rfl
  have l6 : (6 : Int32).toInt = 6 := rfl
  refine w_aload rfl rfl ?_
  refine w_invV (rest := []) rfl rfl rfl rfl rfl (Nat.le_of_ble_eq_true rfl) rfl (by omega) (s_X12_season (K := K) a b v   hR  ) (fun z1 h9 hq2 => ?_)
  obtain ⟨rfl, x3, rfl, px3⟩ := hq2
  show f_wp _ (4, [some (.inr (.inr (some 0))), none, none, none], [.inl x3], cH a b v) _
  have s9 := px3
  refine w_istore (lo' := [some (.inr (.inr (some 0))), some (.inl x3), none, none]) rfl rfl ?_
  refine w_const rfl ?_
  refine w_istore (lo' := [some (.inr (.inr (some 0))), some (.inl x3), some (.inl 0), none]) rfl rfl ?_
  have loop7 : ∀ (ms9 : Nat) (r : Int32) (a7 : Nat → Nat → Int32) (v7 : Nat → Option Nat) (o3_7 : Option f_V), (6 - r.toInt).toNat = ms9 → RC K a7 → FR [10, 11, 20, L + 9] a a7 → (∀ i, i ∉ [5] → v7 i = v i) → (0 ≤ r.toInt ∧ r.toInt ≤ 6) → (v7 5 = v 5 ∨ v7 5 = some L) → f_wp (f_code (t_X12_reckonGrowth (f_ev mtC d))) (7, [some (.inr (.inr (some 0))), some (.inl x3), some (.inl r), o3_7], [], cH a7 b v7) (fun v9 h' => ∃ (a' : Nat → Nat → Int32) (v' : Nat → Option Nat), h' = cH a' b v' ∧ RC K a' ∧ (FR [10, 11, 20, L + 9] a a' ∧ ((∀ i, i ∉ [5] → v' i = v i) ∧ (v' 5 = v 5 ∨ v' 5 = some L)) ∧ True) ∧ v9 = none) := by
    intro ms9
    induction ms9 using Nat.strongRecOn with
    | _ ms7 ih7 =>
      intro r a7 v7 o3_7 hm7 hR7 hF7 hG7 hr h59
      refine w_iload rfl rfl ?_
      refine w_aload rfl rfl ?_
      refine c_getR (t := some L) rfl rfl rfl rfl ((hG7 0 (by decide)).trans h0) ?_
      refine c_getI rfl (sh_land (by omega)) rfl rfl ?_
      have q4 : 0 ≤ (a7 L 7).toInt ∧ (a7 L 7).toInt ≤ 6 := RC.riv hR7 (by omega)
      refine w_ic_ge rfl (fun c5 => ?_) (fun c5 => ?_)
      · skip
        exact w_ret rfl ⟨a7, v7, rfl, hR7, ⟨hF7, ⟨hG7, h59⟩, trivial⟩, rfl⟩
      · skip
        refine w_aload rfl rfl ?_
        refine c_getR (t := some L) rfl rfl rfl rfl ((hG7 0 (by decide)).trans h0) ?_
        refine c_getR (t := some (L + 1)) rfl (sh_land (by omega)) rfl rfl (rC_land0 (by omega)) ?_
        refine w_iload rfl rfl ?_
        refine c_aald5 (t := some ((L + 1) + 11 + 2 * r.toInt.toNat)) rfl (sh_row (by omega)) (by omega) (rC_row (by omega)) ?_
        refine w_astore (lo' := [some (.inr (.inr (some 0))), some (.inl x3), some (.inl r), some (.inr (.inr (some ((L + 1) + 11 + 2 * r.toInt.toNat))))]) rfl rfl ?_
        refine w_aload rfl rfl ?_
        refine c_getR (t := some 20) rfl rfl rfl rfl rfl ?_
        refine w_iload rfl rfl ?_
        refine w_const rfl ?_
        first | refine w_imulR rfl (c := 6) rfl (by omega) (fun x6 tx6 => ?_) | refine w_iiU rfl (fun x6 tx6 => ?_)
        refine w_iload rfl rfl ?_
        first | refine w_iadd rfl (by omega) (fun x7 tx7 => ?_) | refine w_iiU rfl (fun x7 tx7 => ?_)
        refine w_aload rfl rfl ?_
        refine c_getR (t := some L) rfl rfl rfl rfl ((hG7 0 (by decide)).trans h0) ?_
        refine c_getR (t := some (L + 7)) rfl (sh_land (by omega)) rfl rfl (rC_land4 (by omega)) ?_
        refine w_aload rfl rfl ?_
        refine w_iload rfl rfl ?_
        refine w_iload rfl rfl ?_
        refine w_invV (rest := [.inr (.inr (some (L + 7))), .inl x7, .inr (.inr (some 20))]) rfl rfl rfl rfl rfl (Nat.le_of_ble_eq_true rfl) rfl (by omega) (s_X12_mouthFlow (K := K) a7 b v7 L r x3 hR7  (((hG7 0 (by decide)).trans h0)) (by omega) (by omega)) (fun z8 h9 hq9 => ?_)
        obtain ⟨a10, v11, rfl, ha10, fa10, x12, rfl, px12⟩ := hq9
        show f_wp _ (51, [some (.inr (.inr (some 0))), some (.inl x3), some (.inl r), some (.inr (.inr (some ((L + 1) + 11 + 2 * r.toInt.toNat))))], [.inl x12, .inr (.inr (some (L + 7))), .inl x7, .inr (.inr (some 20))], cH a10 b v11) _
        refine w_aload rfl rfl ?_
        refine c_getI rfl (sh_riv (by omega)) rfl rfl ?_
        refine w_aload rfl rfl ?_
        refine c_getI rfl (sh_riv (by omega)) rfl rfl ?_
        first | refine w_isub rfl (by omega) (fun x13 tx13 => ?_) | refine w_iiU rfl (fun x13 tx13 => ?_)
        refine w_const rfl ?_
        refine w_const rfl ?_
        refine w_invV (rest := [.inl x7, .inr (.inr (some 20))]) rfl rfl (sh_form (by omega)) rfl rfl (Nat.le_of_ble_eq_true rfl) rfl (by omega) (s_X2_held (K := K) a10 b v11  (L + 7) x12 x13 0 0 ha10  (by omega)) (fun z14 h9 hq15 => ?_)
        obtain ⟨a16, rfl, ha16, fa16, x17, rfl, px17⟩ := hq15
        show f_wp _ (65, [some (.inr (.inr (some 0))), some (.inl x3), some (.inl r), some (.inr (.inr (some ((L + 1) + 11 + 2 * r.toInt.toNat))))], [.inl x17, .inl x7, .inr (.inr (some 20))], cH a16 b v11) _
        refine c_iast rfl rfl (by omega) (fun a18 ea18 => ?_)
        have ha18 : RC K a18 := RC.up ha16 ea18 (lc_any _ (by omega))
        refine w_iinc (lo' := fun z9 => [some (.inr (.inr (some 0))), some (.inl x3), some (.inl z9), some (.inr (.inr (some ((L + 1) + 11 + 2 * r.toInt.toNat))))]) rfl rfl (fun _ => rfl) (by omega) (fun x19 tx19 => ?_)
        refine w_goto rfl ?_
        exact ih7 (6 - x19.toInt).toNat (by omega) x19 a18 v11 (some (.inr (.inr (some ((L + 1) + 11 + 2 * r.toInt.toNat))))) rfl ha18 (FR.up (FR.tr (FR.tr (hF7) (FR.sub fa10.1 (by first | exact (fun _ h9 => h9) | decide | (intro c9 h9; simp only [List.mem_cons, List.not_mem_nil, or_false] at h9 ⊢; omega) | (intro c9 h9; simp only [List.mem_cons, List.not_mem_nil, or_false] at h9; exact cA_mem (by omega)) | (intro c9 h9; simp only [List.mem_cons, List.not_mem_nil, or_false] at h9; exact cB_mem (by omega)) | (intro c9 h9; simp only [List.mem_cons, List.not_mem_nil, or_false] at h9; exact cU_mem (by omega)) | (intro c9 h9; simp only [List.mem_cons, List.not_mem_nil, or_false] at h9; exact cM_mem (by omega)) | exact cA_sub))) (FR.sub fa16.1 (by first | exact (fun _ h9 => h9) | decide | (intro c9 h9; simp only [List.mem_cons, List.not_mem_nil, or_false] at h9 ⊢; omega) | (intro c9 h9; simp only [List.mem_cons, List.not_mem_nil, or_false] at h9; exact cA_mem (by omega)) | (intro c9 h9; simp only [List.mem_cons, List.not_mem_nil, or_false] at h9; exact cB_mem (by omega)) | (intro c9 h9; simp only [List.mem_cons, List.not_mem_nil, or_false] at h9; exact cU_mem (by omega)) | (intro c9 h9; simp only [List.mem_cons, List.not_mem_nil, or_false] at h9; exact cM_mem (by omega)) | exact cA_sub))) (by first | decide | (simp; done) | exact cA_mem (by omega) | exact cB_mem (by omega) | exact cU_mem (by omega) | exact cM_mem (by omega)) ea18) (fun i9 h9 => (fa10.2.1.1 i9 (fun z9 => h9 (by first | exact z9 | (revert z9; simp; done) | (revert z9; simp; omega)))).trans ((show ∀ i9, i9 ∉ [5] → v7 i9 = v i9 from hG7) i9 h9)) (by omega) (Or.inr fa10.2.1.2)
  exact loop7 _ 0 a v none rfl hR (FR.rf) ((fun _ _ => rfl)) (by omega) (Or.inl rfl)
set_option maxRecDepth 4000 in
theorem s_X12_passSeason {K : Nat} (a : Nat → Nat → Int32) (b : Nat → Nat → Int64) (v : Nat → Option Nat) (L : Nat)  (hR : RC K a) (h0 : v 0 = some L) (hL : L = 22 ∨ L = 46) (hN : (a 70 7).toInt + 1 ≤ 100 * K ∧ (a 70 7).toInt + 1 ≤ 1000000) : f_call mtC 3 123 [.inr (.inr (some 0))] (cH a b v) (fun v9 h' => ∃ (a' : Nat → Nat → Int32), h' = cH a' b v ∧ RC K a' ∧ (FR cU a a' ∧ ((a' 70 7).toInt = (a 70 7).toInt + 1)) ∧ v9 = none) := by
  refine f_call_of (d0 := 2) rfl (Nat.le_of_ble_eq_true rfl) (fun d hd => ?_)
  show f_wp _ (0, [some (.inr (.inr (some 0))), none, none], [], cH a b v) _
  have l0 : (0 : Int32).toInt = 0 := rfl
  have l1 : (1 : Int32).toInt = 1 := rfl
  have l6 : (6 : Int32).toInt = 6 := rfl
  refine w_aload rfl rfl ?_
  refine w_invV (rest := []) rfl rfl rfl rfl rfl (Nat.le_of_ble_eq_true rfl) rfl (by omega) (s_X12_keepForUndo (K := K) a b v   hR  ) (fun z1 h9 hq2 => ?_)
  obtain ⟨a3, rfl, ha3, fa3, rfl⟩ := hq2
  show f_wp _ (4, [some (.inr (.inr (some 0))), none, none], [], cH a3 b v) _
  refine w_aload rfl rfl ?_
  refine w_invV (rest := []) rfl rfl rfl rfl rfl (Nat.le_of_ble_eq_true rfl) rfl (by omega) (s_X12_season (K := K) a3 b v   ha3  ) (fun z4 h9 hq5 => ?_)
  obtain ⟨rfl, x6, rfl, px6⟩ := hq5
  show f_wp _ (8, [some (.inr (.inr (some 0))), none, none], [.inl x6], cH a3 b v) _
  have s9 := px6
  refine w_const rfl ?_
  first | refine w_imulR rfl (c := 6) rfl (by omega) (fun x7 tx7 => ?_) | refine w_iiU rfl (fun x7 tx7 => ?_)
  refine w_istore (lo' := [some (.inr (.inr (some 0))), some (.inl x7), none]) rfl rfl ?_
  refine w_const rfl ?_
  refine w_istore (lo' := [some (.inr (.inr (some 0))), some (.inl x7), some (.inl 0)]) rfl rfl ?_
  have loop14 : ∀ (ms9 : Nat) (r : Int32) (a14 : Nat → Nat → Int32) , (6 - r.toInt).toNat = ms9 → RC K a14 → FR cU a a14 → (0 ≤ r.toInt ∧ r.toInt ≤ 6) → ((a14 70 7).toInt = (a 70 7).toInt) → f_wp (f_code (t_X12_passSeason (f_ev mtC d))) (14, [some (.inr (.inr (some 0))), some (.inl x7), some (.inl r)], [], cH a14 b v) (fun v9 h' => ∃ (a' : Nat → Nat → Int32), h' = cH a' b v ∧ RC K a' ∧ (FR cU a a' ∧ ((a' 70 7).toInt = (a 70 7).toInt + 1)) ∧ v9 = none) := by
    intro ms9
    induction ms9 using Nat.strongRecOn with
    | _ ms14 ih14 =>
      intro r a14  hm14 hR14 hF14 hr h70
      refine w_iload rfl rfl ?_
      refine w_aload rfl rfl ?_
      refine c_getR (t := some L) rfl rfl rfl rfl h0 ?_
      refine c_getI rfl (sh_land (by omega)) rfl rfl ?_
      have q8 : 0 ≤ (a14 L 7).toInt ∧ (a14 L 7).toInt ≤ 6 := RC.riv hR14 (by omega)
      refine w_ic_ge rfl (fun c9 => ?_) (fun c9 => ?_)
      · skip
        refine w_aload rfl rfl ?_
        refine c_getR (t := some 70) rfl rfl rfl rfl rfl ?_
        refine w_dup rfl rfl ?_
        refine c_getI rfl rfl rfl rfl ?_
        have q10 : 0 ≤ (a14 70 7).toInt ∧ (a14 70 7).toInt ≤ 100 * K ∧ (a14 70 7).toInt ≤ 1000000 := RC.pas hR14 (by omega)
        have k9 : (a14 70 7).toInt = (a 70 7).toInt := h70
        refine w_const rfl ?_
        first | refine w_iadd rfl (by omega) (fun x11 tx11 => ?_) | refine w_iiU rfl (fun x11 tx11 => ?_)
        refine c_putI (z := false) rfl rfl rfl rfl (by first | (intro h9; cases h9; done) | (intro _; first | exact Or.inl rfl | exact Or.inr rfl | assumption | (rcases (by omega : x11.toInt = 0 ∨ x11.toInt = 1) with h8 | h8; exact Or.inl (ti_eq h8); exact Or.inr (ti_eq h8)))) (fun a12 ea12 => ?_)
        have ha12 : RC K a12 := RC.up hR14 ea12 (lc_pas (by omega) (by omega))
        have ua12 : a12 70 7 = x11 := by rw [ea12, mU_same]
        have wa12 := congrArg Int32.toInt ua12
        have ra12_45 : (a12 L 7).toInt = (a14 L 7).toInt := by rw [ea12, mU_cell (by omega)]
        exact w_ret rfl ⟨a12, rfl, ha12, ⟨FR.up (hF14) (by first | decide | (simp; done) | exact cA_mem (by omega) | exact cB_mem (by omega) | exact cU_mem (by omega) | exact cM_mem (by omega)) ea12, by rw [ea12, mU_same]; omega⟩, rfl⟩
      · skip
        refine w_aload rfl rfl ?_
        refine c_getR (t := some 70) rfl rfl rfl rfl rfl ?_
        refine c_getR (t := some 73) rfl rfl rfl rfl rfl ?_
        refine w_iload rfl rfl ?_
        refine w_dup2 rfl ⟨rfl, rfl⟩ ?_
        refine c_iald rfl rfl (by omega) (fun x13 ex13 => ?_)
        refine w_aload rfl rfl ?_
        refine c_getR (t := some 20) rfl rfl rfl rfl rfl ?_
        refine w_iload rfl rfl ?_
        refine w_iload rfl rfl ?_
        first | refine w_iadd rfl (by omega) (fun x14 tx14 => ?_) | refine w_iiU rfl (fun x14 tx14 => ?_)
        refine c_iald rfl rfl (by omega) (fun x15 ex15 => ?_)
        first | refine w_iadd rfl (by omega) (fun x16 tx16 => ?_) | refine w_iiU rfl (fun x16 tx16 => ?_)
        refine c_iast rfl rfl (by omega) (fun a17 ea17 => ?_)
        have ha17 : RC K a17 := RC.up hR14 ea17 (lc_any _ (by omega))
        have ra17_63 : (a17 L 7).toInt = (a14 L 7).toInt := by rw [ea17, mU_cell (by omega)]
        refine w_iinc (lo' := fun z9 => [some (.inr (.inr (some 0))), some (.inl x7), some (.inl z9)]) rfl rfl (fun _ => rfl) (by omega) (fun x18 tx18 => ?_)
        refine w_goto rfl ?_
        exact ih14 (6 - x18.toInt).toNat (by omega) x18 a17 rfl ha17 (FR.up (hF14) (by first | decide | (simp; done) | exact cA_mem (by omega) | exact cB_mem (by omega) | exact cU_mem (by omega) | exact cM_mem (by omega)) ea17) (by omega) (by rw [ea17, mU_cell (by omega)]; exact h70)
  exact loop14 _ 0 a3 rfl ha3 (FR.tr (FR.rf) (FR.sub fa3.1 (by first | exact (fun _ h9 => h9) | decide | (intro c9 h9; simp only [List.mem_cons, List.not_mem_nil, or_false] at h9 ⊢; omega) | (intro c9 h9; simp only [List.mem_cons, List.not_mem_nil, or_false] at h9; exact cA_mem (by omega)) | (intro c9 h9; simp only [List.mem_cons, List.not_mem_nil, or_false] at h9; exact cB_mem (by omega)) | (intro c9 h9; simp only [List.mem_cons, List.not_mem_nil, or_false] at h9; exact cU_mem (by omega)) | (intro c9 h9; simp only [List.mem_cons, List.not_mem_nil, or_false] at h9; exact cM_mem (by omega)) | exact cA_sub))) (by omega) (by rw [fa3.2])
set_option maxRecDepth 4000 in
theorem s_X12_seasons {K : Nat} (a : Nat → Nat → Int32) (b : Nat → Nat → Int64) (v : Nat → Option Nat) (L : Nat) (i : Int32) (hR : RC K a) (h0 : v 0 = some L) (hL : L = 22 ∨ L = 46) (hK : (a 70 7).toInt + 100 ≤ 100 * K ∧ K ≤ 10000) : f_call mtC 7 121 [.inr (.inr (some 0)), .inl i] (cH a b v) (fun v9 h' => ∃ (a' : Nat → Nat → Int32) (v' : Nat → Option Nat), h' = cH a' b v' ∧ RC K a' ∧ (FR cU a a' ∧ ((∀ i, i ∉ [5] → v' i = v i) ∧ (v' 5 = v 5 ∨ v' 5 = some L)) ∧ True) ∧ ∃ x : Int32, v9 = some (.inl x) ∧ True) := by
  refine f_call_of (d0 := 6) rfl (Nat.le_of_ble_eq_true rfl) (fun d hd => ?_)
  show f_wp _ (0, [some (.inr (.inr (some 0))), some (.inl i), none], [], cH a b v) _
  have lm1 : (-1 : Int32).toInt = -1 := rfl
  have l0 : (0 : Int32).toInt = 0 := rfl
  have l1 : (1 : Int32).toInt = 1 := rfl
  have l4 : (4 : Int32).toInt = 4 := rfl
  have l100 : (100 : Int32).toInt = 100 := rfl
  have k0 := RC.pas hR (i := 70) (by decide)
  refine w_iload rfl rfl ?_
  refine w_const rfl ?_
  refine w_ic_lt rfl (fun c1 => ?_) (fun c1 => ?_)
  · skip
    refine w_const rfl ?_
    exact wp_iret (z := false) rfl (fun h9 => by cases h9) ⟨a, v, rfl, hR, ⟨FR.rf, ⟨(fun _ _ => rfl), Or.inl rfl⟩, trivial⟩, ⟨_, rfl, trivial⟩⟩
  · skip
    refine w_iload rfl rfl ?_
    refine w_const rfl ?_
    refine w_ic_le rfl (fun c2 => ?_) (fun c2 => ?_)
    · skip
      refine w_const rfl ?_
      refine w_istore (lo' := [some (.inr (.inr (some 0))), some (.inl i), some (.inl 0)]) rfl rfl ?_
      have loop15 : ∀ (ms9 : Nat) (k : Int32) (a15 : Nat → Nat → Int32) (v15 : Nat → Option Nat) , (i.toInt - k.toInt).toNat = ms9 → RC K a15 → FR cU a a15 → (∀ i, i ∉ [5] → v15 i = v i) → (0 ≤ k.toInt ∧ k.toInt ≤ i.toInt ∧ i.toInt ≤ 100) → ((a15 70 7).toInt = (a 70 7).toInt + k.toInt) → (v15 5 = v 5 ∨ v15 5 = some L) → f_wp (f_code (t_X12_seasons (f_ev mtC d))) (15, [some (.inr (.inr (some 0))), some (.inl i), some (.inl k)], [], cH a15 b v15) (fun v9 h' => ∃ (a' : Nat → Nat → Int32) (v' : Nat → Option Nat), h' = cH a' b v' ∧ RC K a' ∧ (FR cU a a' ∧ ((∀ i, i ∉ [5] → v' i = v i) ∧ (v' 5 = v 5 ∨ v' 5 = some L)) ∧ True) ∧ ∃ x : Int32, v9 = some (.inl x) ∧ True) := by
        intro ms9
        induction ms9 using Nat.strongRecOn with
        | _ ms15 ih15 =>
          intro k a15 v15  hm15 hR15 hF15 hG15 hk h70 h59
          refine w_iload rfl rfl ?_
          refine w_iload rfl rfl ?_
          refine w_ic_ge rfl (fun c3 => ?_) (fun c3 => ?_)
          · skip
            refine w_aload rfl rfl ?_
            refine c_getR (t := some 70) rfl rfl rfl rfl rfl ?_
            refine c_getI rfl rfl rfl rfl ?_
            have q4 : 0 ≤ (a15 70 7).toInt ∧ (a15 70 7).toInt ≤ 100 * K ∧ (a15 70 7).toInt ≤ 1000000 := RC.pas hR15 (by omega)
            exact wp_iret (z := false) rfl (fun h9 => by cases h9) ⟨a15, v15, rfl, hR15, ⟨hF15, ⟨hG15, h59⟩, trivial⟩, ⟨_, rfl, trivial⟩⟩
          · skip
            refine w_iload rfl rfl ?_
            refine w_const rfl ?_
            refine w_ic_ge rfl (fun c5 => ?_) (fun c5 => ?_)
            · skip
              refine w_aload rfl rfl ?_
              refine w_invV (rest := []) rfl rfl rfl rfl rfl (Nat.le_of_ble_eq_true rfl) rfl (by omega) (s_X12_passSeason (K := K) a15 b v15 L  hR15  (((hG15 0 (by decide)).trans h0)) (by omega) (by omega)) (fun z6 h9 hq7 => ?_)
              obtain ⟨a8, rfl, ha8, fa8, rfl⟩ := hq7
              show f_wp _ (33, [some (.inr (.inr (some 0))), some (.inl i), some (.inl k)], [], cH a8 b v15) _
              refine w_iinc (lo' := fun z9 => [some (.inr (.inr (some 0))), some (.inl i), some (.inl z9)]) rfl rfl (fun _ => rfl) (by omega) (fun x9 tx9 => ?_)
              refine w_goto rfl ?_
              exact ih15 (i.toInt - x9.toInt).toNat (by omega) x9 a8 v15 rfl ha8 (FR.tr (hF15) (FR.sub fa8.1 (by first | exact (fun _ h9 => h9) | decide | (intro c9 h9; simp only [List.mem_cons, List.not_mem_nil, or_false] at h9 ⊢; omega) | (intro c9 h9; simp only [List.mem_cons, List.not_mem_nil, or_false] at h9; exact cA_mem (by omega)) | (intro c9 h9; simp only [List.mem_cons, List.not_mem_nil, or_false] at h9; exact cB_mem (by omega)) | (intro c9 h9; simp only [List.mem_cons, List.not_mem_nil, or_false] at h9; exact cU_mem (by omega)) | (intro c9 h9; simp only [List.mem_cons, List.not_mem_nil, or_false] at h9; exact cM_mem (by omega)) | exact cA_sub))) (hG15) (by omega) (by have z9 : (a8 70 7).toInt = _ := fa8.2; omega) (h59)
            · skip
              refine w_aload rfl rfl ?_
              refine w_invV (rest := []) rfl rfl rfl rfl rfl (Nat.le_of_ble_eq_true rfl) rfl (by omega) (s_X12_reckonGrowth (K := K) a15 b v15 L  hR15  (((hG15 0 (by decide)).trans h0)) (by omega)) (fun z10 h9 hq11 => ?_)
              obtain ⟨a12, v13, rfl, ha12, fa12, rfl⟩ := hq11
              show f_wp _ (29, [some (.inr (.inr (some 0))), some (.inl i), some (.inl k)], [], cH a12 b v13) _
              refine w_aload rfl rfl ?_
              refine w_invV (rest := []) rfl rfl rfl rfl rfl (Nat.le_of_ble_eq_true rfl) rfl (by omega) (s_X12_passSeason (K := K) a12 b v13 L  ha12  (((fa12.2.1.1 0 (by decide)).trans ((hG15 0 (by decide)).trans h0))) (by omega) (by have z8 : (a12 70 7).toInt = (a15 70 7).toInt := (by rw [fa12.1 70 (by simp only [List.mem_cons, List.not_mem_nil, or_false, not_or]; omega)]); omega)) (fun z14 h9 hq15 => ?_)
              obtain ⟨a16, rfl, ha16, fa16, rfl⟩ := hq15
              show f_wp _ (33, [some (.inr (.inr (some 0))), some (.inl i), some (.inl k)], [], cH a16 b v13) _
              refine w_iinc (lo' := fun z9 => [some (.inr (.inr (some 0))), some (.inl i), some (.inl z9)]) rfl rfl (fun _ => rfl) (by omega) (fun x17 tx17 => ?_)
              refine w_goto rfl ?_
              exact ih15 (i.toInt - x17.toInt).toNat (by omega) x17 a16 v13 rfl ha16 (FR.tr (FR.tr (hF15) (FR.sub fa12.1 (by first | exact (fun _ h9 => h9) | decide | (intro c9 h9; simp only [List.mem_cons, List.not_mem_nil, or_false] at h9 ⊢; omega) | (intro c9 h9; simp only [List.mem_cons, List.not_mem_nil, or_false] at h9; exact cA_mem (by omega)) | (intro c9 h9; simp only [List.mem_cons, List.not_mem_nil, or_false] at h9; exact cB_mem (by omega)) | (intro c9 h9; simp only [List.mem_cons, List.not_mem_nil, or_false] at h9; exact cU_mem (by omega)) | (intro c9 h9; simp only [List.mem_cons, List.not_mem_nil, or_false] at h9; exact cM_mem (by omega)) | exact cA_sub))) (FR.sub fa16.1 (by first | exact (fun _ h9 => h9) | decide | (intro c9 h9; simp only [List.mem_cons, List.not_mem_nil, or_false] at h9 ⊢; omega) | (intro c9 h9; simp only [List.mem_cons, List.not_mem_nil, or_false] at h9; exact cA_mem (by omega)) | (intro c9 h9; simp only [List.mem_cons, List.not_mem_nil, or_false] at h9; exact cB_mem (by omega)) | (intro c9 h9; simp only [List.mem_cons, List.not_mem_nil, or_false] at h9; exact cU_mem (by omega)) | (intro c9 h9; simp only [List.mem_cons, List.not_mem_nil, or_false] at h9; exact cM_mem (by omega)) | exact cA_sub))) (fun i9 h9 => (fa12.2.1.1 i9 (fun z9 => h9 (by first | exact z9 | (revert z9; simp; done) | (revert z9; simp; omega)))).trans ((show ∀ i9, i9 ∉ [5] → v15 i9 = v i9 from hG15) i9 h9)) (by omega) (by have z9 : (a16 70 7).toInt = _ := fa16.2; have z8 : (a12 70 7).toInt = (a15 70 7).toInt := (by rw [fa12.1 70 (by simp only [List.mem_cons, List.not_mem_nil, or_false, not_or]; omega)]); omega) ((fa12.2.1.2).elim (fun z9 => z9 ▸ h59) Or.inr)
      exact loop15 _ 0 a v rfl hR (FR.rf) ((fun _ _ => rfl)) (by omega) (by omega) (Or.inl rfl)
    · skip
      refine w_const rfl ?_
      exact wp_iret (z := false) rfl (fun h9 => by cases h9) ⟨a, v, rfl, hR, ⟨FR.rf, ⟨(fun _ _ => rfl), Or.inl rfl⟩, trivial⟩, ⟨_, rfl, trivial⟩⟩
set_option maxRecDepth 4000 in
theorem s_X12_undo {K : Nat} (a : Nat → Nat → Int32) (b : Nat → Nat → Int64) (v : Nat → Option Nat)  (hR : RC K a)  : f_call mtC 2 124 [.inr (.inr (some 0))] (cH a b v) (fun v9 h' => ∃ (a' : Nat → Nat → Int32), h' = cH a' b v ∧ RC K a' ∧ (FR [0, 70, 71, 72, 73] a a' ∧ True) ∧ ∃ x : Int32, v9 = some (.inl x) ∧ (x.toInt = 0 ∨ x.toInt = 1)) := by
  refine f_call_of (d0 := 1) rfl (Nat.le_of_ble_eq_true rfl) (fun d hd => ?_)
  show f_wp _ (0, [some (.inr (.inr (some 0)))], [], cH a b v) _
  have l0 : (0 : Int32).toInt = 0 := rfl
  have l1 : (1 : Int32).toInt = 1 := rfl
  have l16 : (16 : Int32).toInt = 16 := rfl
  refine w_aload rfl rfl ?_
  refine c_getI rfl rfl rfl rfl ?_
  have q1 : 0 ≤ (a 0 15).toInt ∧ (a 0 15).toInt ≤ 16 := hR 0 15
  refine w_if_ne rfl (fun c2 => ?_) (fun c2 => ?_)
  · skip
    refine w_const rfl ?_
    exact wp_iret (z := true) rfl (fun _ => by first | exact Or.inl rfl | exact Or.inr rfl | (rcases (by omega : (0 : Int32).toInt = 0 ∨ (0 : Int32).toInt = 1) with h8 | h8; exact Or.inl (ti_eq h8); exact Or.inr (ti_eq h8))) ⟨a, rfl, hR, ⟨FR.rf, trivial⟩, ⟨_, rfl, by omega⟩⟩
  · skip
    refine w_aload rfl rfl ?_
    refine w_dup rfl rfl ?_
    refine c_getI rfl rfl rfl rfl ?_
    have q3 : 0 ≤ (a 0 15).toInt ∧ (a 0 15).toInt ≤ 16 := hR 0 15
    refine w_const rfl ?_
    first | refine w_isub rfl (by omega) (fun x4 tx4 => ?_) | refine w_iiU rfl (fun x4 tx4 => ?_)
    refine c_putI (z := false) rfl rfl rfl rfl (by first | (intro h9; cases h9; done) | (intro _; first | exact Or.inl rfl | exact Or.inr rfl | assumption | (rcases (by omega : x4.toInt = 0 ∨ x4.toInt = 1) with h8 | h8; exact Or.inl (ti_eq h8); exact Or.inr (ti_eq h8)))) (fun a5 ea5 => ?_)
    have ha5 : RC K a5 := RC.up hR ea5 (show (0 : Int) ≤ _ ∧ _ ≤ (16 : Int) from by omega)
    have ua5 : a5 0 15 = x4 := by rw [ea5, mU_same]
    have wa5 := congrArg Int32.toInt ua5
    refine w_aload rfl rfl ?_
    refine w_aload rfl rfl ?_
    refine c_getI rfl rfl rfl rfl ?_
    have q6 : 0 ≤ (a5 0 14).toInt ∧ (a5 0 14).toInt ≤ 15 := ha5 0 14
    refine w_const rfl ?_
    first | refine w_iadd rfl (by omega) (fun x7 tx7 => ?_) | refine w_iiU rfl (fun x7 tx7 => ?_)
    refine w_const rfl ?_
    first | refine w_isub rfl (by omega) (fun x8 tx8 => ?_) | refine w_iiU rfl (fun x8 tx8 => ?_)
    refine w_const rfl ?_
    first | refine w_irem (c := 16) rfl rfl (by decide) (by omega) (fun x9 tx9 => ?_) | refine w_iidE rfl (by omega) (fun x9 tx9 => ?_)
    refine c_putI (z := false) rfl rfl rfl rfl (by first | (intro h9; cases h9; done) | (intro _; first | exact Or.inl rfl | exact Or.inr rfl | assumption | (rcases (by omega : x9.toInt = 0 ∨ x9.toInt = 1) with h8 | h8; exact Or.inl (ti_eq h8); exact Or.inr (ti_eq h8)))) (fun a10 ea10 => ?_)
    have ha10 : RC K a10 := RC.up ha5 ea10 (show (0 : Int) ≤ _ ∧ _ ≤ (15 : Int) from by omega)
    have ua10 : a10 0 14 = x9 := by rw [ea10, mU_same]
    have wa10 := congrArg Int32.toInt ua10
    refine w_aload rfl rfl ?_
    refine c_getR (t := some 70) rfl rfl rfl rfl rfl ?_
    refine w_aload rfl rfl ?_
    refine c_getR (t := some 17) rfl rfl rfl rfl rfl ?_
    refine w_aload rfl rfl ?_
    refine c_getI rfl rfl rfl rfl ?_
    have q11 : 0 ≤ (a10 0 14).toInt ∧ (a10 0 14).toInt ≤ 15 := ha10 0 14
    refine c_aald4 (t := some (78 + 8 * (a10 0 14).toInt.toNat)) rfl rfl (by omega) rfl ?_
    refine w_invV (rest := []) rfl rfl rfl rfl rfl (Nat.le_of_ble_eq_true rfl) rfl (by omega) (s_X9_takeBonds (K := K) a10 b v  70 (78 + 8 * (a10 0 14).toInt.toNat) ha10  (by omega) (by omega)) (fun z12 h9 hq13 => ?_)
    obtain ⟨a14, rfl, ha14, fa14, rfl⟩ := hq13
    show f_wp _ (51, [some (.inr (.inr (some 0)))], [], cH a14 b v) _
    refine w_const rfl ?_
    exact wp_iret (z := true) rfl (fun _ => by first | exact Or.inl rfl | exact Or.inr rfl | (rcases (by omega : (1 : Int32).toInt = 0 ∨ (1 : Int32).toInt = 1) with h8 | h8; exact Or.inl (ti_eq h8); exact Or.inr (ti_eq h8))) ⟨a14, rfl, ha14, ⟨FR.tr (FR.up (FR.up (FR.rf) (by first | decide | (simp; done) | exact cA_mem (by omega) | exact cB_mem (by omega) | exact cU_mem (by omega) | exact cM_mem (by omega)) ea5) (by first | decide | (simp; done) | exact cA_mem (by omega) | exact cB_mem (by omega) | exact cU_mem (by omega) | exact cM_mem (by omega)) ea10) (FR.sub fa14.1 (by first | exact (fun _ h9 => h9) | decide | (intro c9 h9; simp only [List.mem_cons, List.not_mem_nil, or_false] at h9 ⊢; omega) | (intro c9 h9; simp only [List.mem_cons, List.not_mem_nil, or_false] at h9; exact cA_mem (by omega)) | (intro c9 h9; simp only [List.mem_cons, List.not_mem_nil, or_false] at h9; exact cB_mem (by omega)) | (intro c9 h9; simp only [List.mem_cons, List.not_mem_nil, or_false] at h9; exact cU_mem (by omega)) | (intro c9 h9; simp only [List.mem_cons, List.not_mem_nil, or_false] at h9; exact cM_mem (by omega)) | exact cA_sub)), trivial⟩, ⟨_, rfl, by omega⟩⟩
set_option maxRecDepth 4000 in
theorem s_X12_mark {K : Nat} (a : Nat → Nat → Int32) (b : Nat → Nat → Int64) (v : Nat → Option Nat) (i : Int32) (j : Int32) (hR : RC K a)  : f_call mtC 3 125 [.inr (.inr (some 0)), .inl i, .inl j] (cH a b v) (fun v9 h' => ∃ (a' : Nat → Nat → Int32), h' = cH a' b v ∧ RC K a' ∧ (FR cM a a' ∧ True) ∧ ∃ x : Int32, v9 = some (.inl x) ∧ (x.toInt = 0 ∨ x.toInt = 1)) := by
  refine f_call_of (d0 := 2) rfl (Nat.le_of_ble_eq_true rfl) (fun d hd => ?_)
  show f_wp _ (0, [some (.inr (.inr (some 0))), some (.inl i), some (.inl j)], [], cH a b v) _
  have l0 : (0 : Int32).toInt = 0 := rfl
  have l1 : (1 : Int32).toInt = 1 := rfl
  have l4 : (4 : Int32).toInt = 4 := rfl
  refine w_iload rfl rfl ?_
  refine w_if_lt rfl (fun c1 => ?_) (fun c1 => ?_)
  · skip
    refine w_const rfl ?_
    exact wp_iret (z := true) rfl (fun _ => by first | exact Or.inl rfl | exact Or.inr rfl | (rcases (by omega : (0 : Int32).toInt = 0 ∨ (0 : Int32).toInt = 1) with h8 | h8; exact Or.inl (ti_eq h8); exact Or.inr (ti_eq h8))) ⟨a, rfl, hR, ⟨FR.rf, trivial⟩, ⟨_, rfl, by omega⟩⟩
  · skip
    refine w_iload rfl rfl ?_
    refine w_const rfl ?_
    refine w_ic_ge rfl (fun c2 => ?_) (fun c2 => ?_)
    · skip
      refine w_const rfl ?_
      exact wp_iret (z := true) rfl (fun _ => by first | exact Or.inl rfl | exact Or.inr rfl | (rcases (by omega : (0 : Int32).toInt = 0 ∨ (0 : Int32).toInt = 1) with h8 | h8; exact Or.inl (ti_eq h8); exact Or.inr (ti_eq h8))) ⟨a, rfl, hR, ⟨FR.rf, trivial⟩, ⟨_, rfl, by omega⟩⟩
    · skip
      refine w_iload rfl rfl ?_
      refine w_if_eq rfl (fun c3 => ?_) (fun c3 => ?_)
      · skip
        refine w_iload rfl rfl ?_
        refine w_if_eq rfl (fun c4 => ?_) (fun c4 => ?_)
        · skip
          refine w_aload rfl rfl ?_
          refine c_getR (t := some 18) rfl rfl rfl rfl rfl ?_
          refine w_iload rfl rfl ?_
          refine c_aald4 (t := some (206 + 8 * i.toInt.toNat)) rfl rfl (by omega) rfl ?_
          refine w_aload rfl rfl ?_
          refine c_getR (t := some 70) rfl rfl rfl rfl rfl ?_
          refine w_invV (rest := []) rfl rfl (sh_sta (by omega)) rfl rfl (Nat.le_of_ble_eq_true rfl) rfl (by omega) (s_X9_takeAll (K := K) a b v  (206 + 8 * i.toInt.toNat) 70 hR  (by omega) (by omega)) (fun z5 h9 hq6 => ?_)
          obtain ⟨a7, rfl, ha7, fa7, rfl⟩ := hq6
          show f_wp _ (73, [some (.inr (.inr (some 0))), some (.inl i), some (.inl j)], [], cH a7 b v) _
          refine w_aload rfl rfl ?_
          refine c_getR (t := some 18) rfl rfl rfl rfl rfl ?_
          refine w_iload rfl rfl ?_
          refine c_aald4 (t := some (206 + 8 * i.toInt.toNat)) rfl rfl (by omega) rfl ?_
          refine w_const rfl ?_
          refine c_putI (z := true) rfl (sh_sta (by omega)) rfl rfl (by first | (intro h9; cases h9; done) | (intro _; first | exact Or.inl rfl | exact Or.inr rfl | assumption | (rcases (by omega : (1 : Int32).toInt = 0 ∨ (1 : Int32).toInt = 1) with h8 | h8; exact Or.inl (ti_eq h8); exact Or.inr (ti_eq h8)))) (fun a8 ea8 => ?_)
          have ha8 : RC K a8 := RC.up ha7 ea8 (lc_any _ (by omega))
          have ua8 : a8 (206 + 8 * i.toInt.toNat) 10 = (1 : Int32) := by rw [ea8, mU_same]
          have wa8 := congrArg Int32.toInt ua8
          refine w_const rfl ?_
          exact wp_iret (z := true) rfl (fun _ => by first | exact Or.inl rfl | exact Or.inr rfl | (rcases (by omega : (1 : Int32).toInt = 0 ∨ (1 : Int32).toInt = 1) with h8 | h8; exact Or.inl (ti_eq h8); exact Or.inr (ti_eq h8))) ⟨a8, rfl, ha8, ⟨FR.up (FR.tr (FR.rf) (FR.sub fa7.1 (by first | exact (fun _ h9 => h9) | decide | (intro c9 h9; simp only [List.mem_cons, List.not_mem_nil, or_false] at h9 ⊢; omega) | (intro c9 h9; simp only [List.mem_cons, List.not_mem_nil, or_false] at h9; exact cA_mem (by omega)) | (intro c9 h9; simp only [List.mem_cons, List.not_mem_nil, or_false] at h9; exact cB_mem (by omega)) | (intro c9 h9; simp only [List.mem_cons, List.not_mem_nil, or_false] at h9; exact cU_mem (by omega)) | (intro c9 h9; simp only [List.mem_cons, List.not_mem_nil, or_false] at h9; exact cM_mem (by omega)) | exact cA_sub))) (by first | decide | (simp; done) | exact cA_mem (by omega) | exact cB_mem (by omega) | exact cU_mem (by omega) | exact cM_mem (by omega)) ea8, trivial⟩, ⟨_, rfl, by omega⟩⟩
        · skip
          refine w_aload rfl rfl ?_
          refine c_getR (t := some 70) rfl rfl rfl rfl rfl ?_
          refine w_aload rfl rfl ?_
          refine c_getR (t := some 18) rfl rfl rfl rfl rfl ?_
          refine w_iload rfl rfl ?_
          refine c_aald4 (t := some (206 + 8 * i.toInt.toNat)) rfl rfl (by omega) rfl ?_
          refine w_invV (rest := []) rfl rfl rfl rfl rfl (Nat.le_of_ble_eq_true rfl) rfl (by omega) (s_X9_takeAll (K := K) a b v  70 (206 + 8 * i.toInt.toNat) hR  (by omega) (by omega)) (fun z9 h9 hq10 => ?_)
          obtain ⟨a11, rfl, ha11, fa11, rfl⟩ := hq10
          show f_wp _ (44, [some (.inr (.inr (some 0))), some (.inl i), some (.inl j)], [], cH a11 b v) _
          refine w_aload rfl rfl ?_
          refine w_const rfl ?_
          refine c_putI (z := false) rfl rfl rfl rfl (by first | (intro h9; cases h9; done) | (intro _; first | exact Or.inl rfl | exact Or.inr rfl | assumption | (rcases (by omega : (0 : Int32).toInt = 0 ∨ (0 : Int32).toInt = 1) with h8 | h8; exact Or.inl (ti_eq h8); exact Or.inr (ti_eq h8)))) (fun a12 ea12 => ?_)
          have ha12 : RC K a12 := RC.up ha11 ea12 (show (0 : Int) ≤ _ ∧ _ ≤ (16 : Int) from by omega)
          have ua12 : a12 0 15 = (0 : Int32) := by rw [ea12, mU_same]
          have wa12 := congrArg Int32.toInt ua12
          refine w_aload rfl rfl ?_
          refine c_getR (t := some 14) rfl rfl rfl rfl rfl ?_
          refine w_const rfl ?_
          refine c_putI (z := true) rfl rfl rfl rfl (by first | (intro h9; cases h9; done) | (intro _; first | exact Or.inl rfl | exact Or.inr rfl | assumption | (rcases (by omega : (0 : Int32).toInt = 0 ∨ (0 : Int32).toInt = 1) with h8 | h8; exact Or.inl (ti_eq h8); exact Or.inr (ti_eq h8)))) (fun a13 ea13 => ?_)
          have ha13 : RC K a13 := RC.up ha12 ea13 (lc_any _ (by omega))
          have ua13 : a13 14 3 = (0 : Int32) := by rw [ea13, mU_same]
          have wa13 := congrArg Int32.toInt ua13
          refine w_goto rfl ?_
          refine w_const rfl ?_
          exact wp_iret (z := true) rfl (fun _ => by first | exact Or.inl rfl | exact Or.inr rfl | (rcases (by omega : (1 : Int32).toInt = 0 ∨ (1 : Int32).toInt = 1) with h8 | h8; exact Or.inl (ti_eq h8); exact Or.inr (ti_eq h8))) ⟨a13, rfl, ha13, ⟨FR.up (FR.up (FR.tr (FR.rf) (FR.sub fa11.1 (by first | exact (fun _ h9 => h9) | decide | (intro c9 h9; simp only [List.mem_cons, List.not_mem_nil, or_false] at h9 ⊢; omega) | (intro c9 h9; simp only [List.mem_cons, List.not_mem_nil, or_false] at h9; exact cA_mem (by omega)) | (intro c9 h9; simp only [List.mem_cons, List.not_mem_nil, or_false] at h9; exact cB_mem (by omega)) | (intro c9 h9; simp only [List.mem_cons, List.not_mem_nil, or_false] at h9; exact cU_mem (by omega)) | (intro c9 h9; simp only [List.mem_cons, List.not_mem_nil, or_false] at h9; exact cM_mem (by omega)) | exact cA_sub))) (by first | decide | (simp; done) | exact cA_mem (by omega) | exact cB_mem (by omega) | exact cU_mem (by omega) | exact cM_mem (by omega)) ea12) (by first | decide | (simp; done) | exact cA_mem (by omega) | exact cB_mem (by omega) | exact cU_mem (by omega) | exact cM_mem (by omega)) ea13, trivial⟩, ⟨_, rfl, by omega⟩⟩
      · skip
        refine w_aload rfl rfl ?_
        refine c_getR (t := some 18) rfl rfl rfl rfl rfl ?_
        refine w_iload rfl rfl ?_
        refine c_aald4 (t := some (206 + 8 * i.toInt.toNat)) rfl rfl (by omega) rfl ?_
        refine c_getI rfl (sh_sta (by omega)) rfl rfl ?_
        refine w_if_ne rfl (fun c14 => ?_) (fun c14 => ?_)
        · skip
          refine w_const rfl ?_
          exact wp_iret (z := true) rfl (fun _ => by first | exact Or.inl rfl | exact Or.inr rfl | (rcases (by omega : (0 : Int32).toInt = 0 ∨ (0 : Int32).toInt = 1) with h8 | h8; exact Or.inl (ti_eq h8); exact Or.inr (ti_eq h8))) ⟨a, rfl, hR, ⟨FR.rf, trivial⟩, ⟨_, rfl, by omega⟩⟩
        · skip
          refine w_iload rfl rfl ?_
          refine w_if_eq rfl (fun c15 => ?_) (fun c15 => ?_)
          · skip
            refine w_aload rfl rfl ?_
            refine c_getR (t := some 18) rfl rfl rfl rfl rfl ?_
            refine w_iload rfl rfl ?_
            refine c_aald4 (t := some (206 + 8 * i.toInt.toNat)) rfl rfl (by omega) rfl ?_
            refine w_aload rfl rfl ?_
            refine c_getR (t := some 70) rfl rfl rfl rfl rfl ?_
            refine w_invV (rest := []) rfl rfl (sh_sta (by omega)) rfl rfl (Nat.le_of_ble_eq_true rfl) rfl (by omega) (s_X9_takeAll (K := K) a b v  (206 + 8 * i.toInt.toNat) 70 hR  (by omega) (by omega)) (fun z16 h9 hq17 => ?_)
            obtain ⟨a18, rfl, ha18, fa18, rfl⟩ := hq17
            show f_wp _ (73, [some (.inr (.inr (some 0))), some (.inl i), some (.inl j)], [], cH a18 b v) _
            refine w_aload rfl rfl ?_
            refine c_getR (t := some 18) rfl rfl rfl rfl rfl ?_
            refine w_iload rfl rfl ?_
            refine c_aald4 (t := some (206 + 8 * i.toInt.toNat)) rfl rfl (by omega) rfl ?_
            refine w_const rfl ?_
            refine c_putI (z := true) rfl (sh_sta (by omega)) rfl rfl (by first | (intro h9; cases h9; done) | (intro _; first | exact Or.inl rfl | exact Or.inr rfl | assumption | (rcases (by omega : (1 : Int32).toInt = 0 ∨ (1 : Int32).toInt = 1) with h8 | h8; exact Or.inl (ti_eq h8); exact Or.inr (ti_eq h8)))) (fun a19 ea19 => ?_)
            have ha19 : RC K a19 := RC.up ha18 ea19 (lc_any _ (by omega))
            have ua19 : a19 (206 + 8 * i.toInt.toNat) 10 = (1 : Int32) := by rw [ea19, mU_same]
            have wa19 := congrArg Int32.toInt ua19
            refine w_const rfl ?_
            exact wp_iret (z := true) rfl (fun _ => by first | exact Or.inl rfl | exact Or.inr rfl | (rcases (by omega : (1 : Int32).toInt = 0 ∨ (1 : Int32).toInt = 1) with h8 | h8; exact Or.inl (ti_eq h8); exact Or.inr (ti_eq h8))) ⟨a19, rfl, ha19, ⟨FR.up (FR.tr (FR.rf) (FR.sub fa18.1 (by first | exact (fun _ h9 => h9) | decide | (intro c9 h9; simp only [List.mem_cons, List.not_mem_nil, or_false] at h9 ⊢; omega) | (intro c9 h9; simp only [List.mem_cons, List.not_mem_nil, or_false] at h9; exact cA_mem (by omega)) | (intro c9 h9; simp only [List.mem_cons, List.not_mem_nil, or_false] at h9; exact cB_mem (by omega)) | (intro c9 h9; simp only [List.mem_cons, List.not_mem_nil, or_false] at h9; exact cU_mem (by omega)) | (intro c9 h9; simp only [List.mem_cons, List.not_mem_nil, or_false] at h9; exact cM_mem (by omega)) | exact cA_sub))) (by first | decide | (simp; done) | exact cA_mem (by omega) | exact cB_mem (by omega) | exact cU_mem (by omega) | exact cM_mem (by omega)) ea19, trivial⟩, ⟨_, rfl, by omega⟩⟩
          · skip
            refine w_aload rfl rfl ?_
            refine c_getR (t := some 70) rfl rfl rfl rfl rfl ?_
            refine w_aload rfl rfl ?_
            refine c_getR (t := some 18) rfl rfl rfl rfl rfl ?_
            refine w_iload rfl rfl ?_
            refine c_aald4 (t := some (206 + 8 * i.toInt.toNat)) rfl rfl (by omega) rfl ?_
            refine w_invV (rest := []) rfl rfl rfl rfl rfl (Nat.le_of_ble_eq_true rfl) rfl (by omega) (s_X9_takeAll (K := K) a b v  70 (206 + 8 * i.toInt.toNat) hR  (by omega) (by omega)) (fun z20 h9 hq21 => ?_)
            obtain ⟨a22, rfl, ha22, fa22, rfl⟩ := hq21
            show f_wp _ (44, [some (.inr (.inr (some 0))), some (.inl i), some (.inl j)], [], cH a22 b v) _
            refine w_aload rfl rfl ?_
            refine w_const rfl ?_
            refine c_putI (z := false) rfl rfl rfl rfl (by first | (intro h9; cases h9; done) | (intro _; first | exact Or.inl rfl | exact Or.inr rfl | assumption | (rcases (by omega : (0 : Int32).toInt = 0 ∨ (0 : Int32).toInt = 1) with h8 | h8; exact Or.inl (ti_eq h8); exact Or.inr (ti_eq h8)))) (fun a23 ea23 => ?_)
            have ha23 : RC K a23 := RC.up ha22 ea23 (show (0 : Int) ≤ _ ∧ _ ≤ (16 : Int) from by omega)
            have ua23 : a23 0 15 = (0 : Int32) := by rw [ea23, mU_same]
            have wa23 := congrArg Int32.toInt ua23
            refine w_aload rfl rfl ?_
            refine c_getR (t := some 14) rfl rfl rfl rfl rfl ?_
            refine w_const rfl ?_
            refine c_putI (z := true) rfl rfl rfl rfl (by first | (intro h9; cases h9; done) | (intro _; first | exact Or.inl rfl | exact Or.inr rfl | assumption | (rcases (by omega : (0 : Int32).toInt = 0 ∨ (0 : Int32).toInt = 1) with h8 | h8; exact Or.inl (ti_eq h8); exact Or.inr (ti_eq h8)))) (fun a24 ea24 => ?_)
            have ha24 : RC K a24 := RC.up ha23 ea24 (lc_any _ (by omega))
            have ua24 : a24 14 3 = (0 : Int32) := by rw [ea24, mU_same]
            have wa24 := congrArg Int32.toInt ua24
            refine w_goto rfl ?_
            refine w_const rfl ?_
            exact wp_iret (z := true) rfl (fun _ => by first | exact Or.inl rfl | exact Or.inr rfl | (rcases (by omega : (1 : Int32).toInt = 0 ∨ (1 : Int32).toInt = 1) with h8 | h8; exact Or.inl (ti_eq h8); exact Or.inr (ti_eq h8))) ⟨a24, rfl, ha24, ⟨FR.up (FR.up (FR.tr (FR.rf) (FR.sub fa22.1 (by first | exact (fun _ h9 => h9) | decide | (intro c9 h9; simp only [List.mem_cons, List.not_mem_nil, or_false] at h9 ⊢; omega) | (intro c9 h9; simp only [List.mem_cons, List.not_mem_nil, or_false] at h9; exact cA_mem (by omega)) | (intro c9 h9; simp only [List.mem_cons, List.not_mem_nil, or_false] at h9; exact cB_mem (by omega)) | (intro c9 h9; simp only [List.mem_cons, List.not_mem_nil, or_false] at h9; exact cU_mem (by omega)) | (intro c9 h9; simp only [List.mem_cons, List.not_mem_nil, or_false] at h9; exact cM_mem (by omega)) | exact cA_sub))) (by first | decide | (simp; done) | exact cA_mem (by omega) | exact cB_mem (by omega) | exact cU_mem (by omega) | exact cM_mem (by omega)) ea23) (by first | decide | (simp; done) | exact cA_mem (by omega) | exact cB_mem (by omega) | exact cU_mem (by omega) | exact cM_mem (by omega)) ea24, trivial⟩, ⟨_, rfl, by omega⟩⟩
set_option maxRecDepth 4000 in
theorem s_X12_tell {K : Nat} (a : Nat → Nat → Int32) (b : Nat → Nat → Int64) (v : Nat → Option Nat) (L : Nat) (i : Int32) (j : Int32) (k : Int32) (hR : RC K a) (h0 : v 0 = some L) (hL : L = 22 ∨ L = 46) : f_call mtC 2 149 [.inr (.inr (some 0)), .inl i, .inl j, .inl k] (cH a b v) (fun v9 h' => ∃ (a' : Nat → Nat → Int32), h' = cH a' b v ∧ RC K a' ∧ (FR [14, 70, 75, 76, 77] a a' ∧ True) ∧ ∃ x : Int32, v9 = some (.inl x) ∧ (x.toInt = 0 ∨ x.toInt = 1)) := by
  refine f_call_of (d0 := 1) rfl (Nat.le_of_ble_eq_true rfl) (fun d hd => ?_)
  show f_wp _ (0, [some (.inr (.inr (some 0))), some (.inl i), some (.inl j), some (.inl k)], [], cH a b v) _
  have l0 : (0 : Int32).toInt = 0 := rfl
  have l1 : (1 : Int32).toInt = 1 := rfl
  have l10 : (10 : Int32).toInt = 10 := rfl
  have l9999 : (9999 : Int32).toInt = 9999 := rfl
  refine w_aload rfl rfl ?_
  refine w_iload rfl rfl ?_
  refine w_invV (rest := []) rfl rfl rfl rfl rfl (Nat.le_of_ble_eq_true rfl) rfl (by omega) (s_X12_isRiver (K := K) a b v L i hR  (h0) (by omega)) (fun z1 h9 hq2 => ?_)
  obtain ⟨rfl, x3, rfl, px3⟩ := hq2
  show f_wp _ (5, [some (.inr (.inr (some 0))), some (.inl i), some (.inl j), some (.inl k)], [.inl x3], cH a b v) _
  refine w_if_eq rfl (fun c4 => ?_) (fun c4 => ?_)
  · skip
    refine w_const rfl ?_
    exact wp_iret (z := true) rfl (fun _ => by first | exact Or.inl rfl | exact Or.inr rfl | (rcases (by omega : (0 : Int32).toInt = 0 ∨ (0 : Int32).toInt = 1) with h8 | h8; exact Or.inl (ti_eq h8); exact Or.inr (ti_eq h8))) ⟨a, rfl, hR, ⟨FR.rf, trivial⟩, ⟨_, rfl, by omega⟩⟩
  · skip
    refine w_iload rfl rfl ?_
    refine w_invS (rest := []) rfl (Nat.le_of_ble_eq_true rfl) rfl (Nat.le_of_ble_eq_true rfl) rfl (by omega) (s_X12_isSeason (K := K) a b v  j   ) (fun z5 h9 hq6 => ?_)
    obtain ⟨rfl, x7, rfl, px7⟩ := hq6
    show f_wp _ (12, [some (.inr (.inr (some 0))), some (.inl i), some (.inl j), some (.inl k)], [.inl x7], cH a b v) _
    refine w_if_eq rfl (fun c8 => ?_) (fun c8 => ?_)
    · skip
      refine w_const rfl ?_
      exact wp_iret (z := true) rfl (fun _ => by first | exact Or.inl rfl | exact Or.inr rfl | (rcases (by omega : (0 : Int32).toInt = 0 ∨ (0 : Int32).toInt = 1) with h8 | h8; exact Or.inl (ti_eq h8); exact Or.inr (ti_eq h8))) ⟨a, rfl, hR, ⟨FR.rf, trivial⟩, ⟨_, rfl, by omega⟩⟩
    · skip
      refine w_iload rfl rfl ?_
      refine w_if_lt rfl (fun c9 => ?_) (fun c9 => ?_)
      · skip
        refine w_const rfl ?_
        exact wp_iret (z := true) rfl (fun _ => by first | exact Or.inl rfl | exact Or.inr rfl | (rcases (by omega : (0 : Int32).toInt = 0 ∨ (0 : Int32).toInt = 1) with h8 | h8; exact Or.inl (ti_eq h8); exact Or.inr (ti_eq h8))) ⟨a, rfl, hR, ⟨FR.rf, trivial⟩, ⟨_, rfl, by omega⟩⟩
      · skip
        refine w_iload rfl rfl ?_
        refine w_const rfl ?_
        refine w_ic_gt rfl (fun c10 => ?_) (fun c10 => ?_)
        · skip
          refine w_const rfl ?_
          exact wp_iret (z := true) rfl (fun _ => by first | exact Or.inl rfl | exact Or.inr rfl | (rcases (by omega : (0 : Int32).toInt = 0 ∨ (0 : Int32).toInt = 1) with h8 | h8; exact Or.inl (ti_eq h8); exact Or.inr (ti_eq h8))) ⟨a, rfl, hR, ⟨FR.rf, trivial⟩, ⟨_, rfl, by omega⟩⟩
        · skip
          refine w_aload rfl rfl ?_
          refine c_getR (t := some 70) rfl rfl rfl rfl rfl ?_
          refine c_getI rfl rfl rfl rfl ?_
          have q11 : 0 ≤ (a 70 9).toInt ∧ (a 70 9).toInt ≤ 10 := RC.tol hR (by omega)
          refine w_const rfl ?_
          refine w_ic_lt rfl (fun c12 => ?_) (fun c12 => ?_)
          · skip
            refine w_aload rfl rfl ?_
            refine c_getR (t := some 70) rfl rfl rfl rfl rfl ?_
            refine c_getR (t := some 75) rfl rfl rfl rfl rfl ?_
            refine w_aload rfl rfl ?_
            refine c_getR (t := some 70) rfl rfl rfl rfl rfl ?_
            refine c_getI rfl rfl rfl rfl ?_
            have q13 : 0 ≤ (a 70 9).toInt ∧ (a 70 9).toInt ≤ 10 := RC.tol hR (by omega)
            skip
            refine w_iload rfl rfl ?_
            refine c_iast rfl rfl (by omega) (fun a14 ea14 => ?_)
            have ha14 : RC K a14 := RC.up hR ea14 (lc_tri (by omega) (by omega))
            have ra14_58 : (a14 70 9).toInt = (a 70 9).toInt := by rw [ea14, mU_cell (by omega)]
            refine w_aload rfl rfl ?_
            refine c_getR (t := some 70) rfl rfl rfl rfl rfl ?_
            refine c_getR (t := some 76) rfl rfl rfl rfl rfl ?_
            refine w_aload rfl rfl ?_
            refine c_getR (t := some 70) rfl rfl rfl rfl rfl ?_
            refine c_getI rfl rfl rfl rfl ?_
            have q15 : 0 ≤ (a14 70 9).toInt ∧ (a14 70 9).toInt ≤ 10 := RC.tol ha14 (by omega)
            have k9_a14 : (a14 70 9).toInt = (a 70 9).toInt := by rw [ea14, mU_cell (by decide)]
            refine w_iload rfl rfl ?_
            refine c_iast rfl rfl (by omega) (fun a16 ea16 => ?_)
            have ha16 : RC K a16 := RC.up ha14 ea16 (lc_any _ (by omega))
            have ra16_70 : (a16 70 9).toInt = (a14 70 9).toInt := by rw [ea16, mU_cell (by omega)]
            refine w_aload rfl rfl ?_
            refine c_getR (t := some 70) rfl rfl rfl rfl rfl ?_
            refine c_getR (t := some 77) rfl rfl rfl rfl rfl ?_
            refine w_aload rfl rfl ?_
            refine c_getR (t := some 70) rfl rfl rfl rfl rfl ?_
            refine c_getI rfl rfl rfl rfl ?_
            have q17 : 0 ≤ (a16 70 9).toInt ∧ (a16 70 9).toInt ≤ 10 := RC.tol ha16 (by omega)
            have k9_a16 : (a16 70 9).toInt = (a 70 9).toInt := by rw [ea16, mU_cell (by decide), ea14, mU_cell (by decide)]
            refine w_iload rfl rfl ?_
            refine c_iast rfl rfl (by omega) (fun a18 ea18 => ?_)
            have ha18 : RC K a18 := RC.up ha16 ea18 (lc_any _ (by omega))
            have ra18_82 : (a18 70 9).toInt = (a16 70 9).toInt := by rw [ea18, mU_cell (by omega)]
            refine w_aload rfl rfl ?_
            refine c_getR (t := some 70) rfl rfl rfl rfl rfl ?_
            refine w_dup rfl rfl ?_
            refine c_getI rfl rfl rfl rfl ?_
            have q19 : 0 ≤ (a18 70 9).toInt ∧ (a18 70 9).toInt ≤ 10 := RC.tol ha18 (by omega)
            have k9_a18 : (a18 70 9).toInt = (a 70 9).toInt := by rw [ea18, mU_cell (by decide), ea16, mU_cell (by decide), ea14, mU_cell (by decide)]
            refine w_const rfl ?_
            first | refine w_iadd rfl (by omega) (fun x20 tx20 => ?_) | refine w_iiU rfl (fun x20 tx20 => ?_)
            refine c_putI (z := false) rfl rfl rfl rfl (by first | (intro h9; cases h9; done) | (intro _; first | exact Or.inl rfl | exact Or.inr rfl | assumption | (rcases (by omega : x20.toInt = 0 ∨ x20.toInt = 1) with h8 | h8; exact Or.inl (ti_eq h8); exact Or.inr (ti_eq h8)))) (fun a21 ea21 => ?_)
            have ha21 : RC K a21 := RC.up ha18 ea21 (lc_tol (by omega) (by omega))
            have ua21 : a21 70 9 = x20 := by rw [ea21, mU_same]
            have wa21 := congrArg Int32.toInt ua21
            refine w_aload rfl rfl ?_
            refine c_getR (t := some 14) rfl rfl rfl rfl rfl ?_
            refine w_const rfl ?_
            refine c_putI (z := true) rfl rfl rfl rfl (by first | (intro h9; cases h9; done) | (intro _; first | exact Or.inl rfl | exact Or.inr rfl | assumption | (rcases (by omega : (0 : Int32).toInt = 0 ∨ (0 : Int32).toInt = 1) with h8 | h8; exact Or.inl (ti_eq h8); exact Or.inr (ti_eq h8)))) (fun a22 ea22 => ?_)
            have ha22 : RC K a22 := RC.up ha21 ea22 (lc_any _ (by omega))
            have ua22 : a22 14 3 = (0 : Int32) := by rw [ea22, mU_same]
            have wa22 := congrArg Int32.toInt ua22
            refine w_const rfl ?_
            exact wp_iret (z := true) rfl (fun _ => by first | exact Or.inl rfl | exact Or.inr rfl | (rcases (by omega : (1 : Int32).toInt = 0 ∨ (1 : Int32).toInt = 1) with h8 | h8; exact Or.inl (ti_eq h8); exact Or.inr (ti_eq h8))) ⟨a22, rfl, ha22, ⟨FR.up (FR.up (FR.up (FR.up (FR.up (FR.rf) (by first | decide | (simp; done) | exact cA_mem (by omega) | exact cB_mem (by omega) | exact cU_mem (by omega) | exact cM_mem (by omega)) ea14) (by first | decide | (simp; done) | exact cA_mem (by omega) | exact cB_mem (by omega) | exact cU_mem (by omega) | exact cM_mem (by omega)) ea16) (by first | decide | (simp; done) | exact cA_mem (by omega) | exact cB_mem (by omega) | exact cU_mem (by omega) | exact cM_mem (by omega)) ea18) (by first | decide | (simp; done) | exact cA_mem (by omega) | exact cB_mem (by omega) | exact cU_mem (by omega) | exact cM_mem (by omega)) ea21) (by first | decide | (simp; done) | exact cA_mem (by omega) | exact cB_mem (by omega) | exact cU_mem (by omega) | exact cM_mem (by omega)) ea22, trivial⟩, ⟨_, rfl, by omega⟩⟩
          · skip
            refine w_const rfl ?_
            exact wp_iret (z := true) rfl (fun _ => by first | exact Or.inl rfl | exact Or.inr rfl | (rcases (by omega : (0 : Int32).toInt = 0 ∨ (0 : Int32).toInt = 1) with h8 | h8; exact Or.inl (ti_eq h8); exact Or.inr (ti_eq h8))) ⟨a, rfl, hR, ⟨FR.rf, trivial⟩, ⟨_, rfl, by omega⟩⟩
