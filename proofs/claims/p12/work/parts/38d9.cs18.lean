def gCl (x : Int64) (l : List Int32) : Nat → List Int32
  | 0 => l
  | m + 1 => fT (gCl x l m) (byC x (Int32.ofNat (56 - 8 * m)))
theorem gCl_s {x : Int64} {l : List Int32} {m : Nat} {s : Int32} (h : s.toInt = 56 - 8 * m) (h0 : 0 ≤ s.toInt) : gCl x l (m + 1) = fT (gCl x l m) (byC x s) := by
  have e : Int32.ofNat (56 - 8 * m) = s := Int32.toInt_inj.mp (by rw [Int32.toInt_ofNat_of_lt (by omega)]; omega)
  show fT (gCl x l m) (byC x (Int32.ofNat (56 - 8 * m))) = _
  rw [e]
theorem byC_rng {x : Int64} {s : Int32} : 0 ≤ (byC x s).toInt ∧ (byC x s).toInt ≤ 255 := by
  unfold byC
  obtain ⟨j, hj, e⟩ := pk_andE ((x.toUInt64 >>> (s.toInt64.toUInt64 &&& Int64.toUInt64 63)).toInt64.toInt32) (m := 255) 8 (by decide)
  rw [e, nI_toInt (by omega)]
  omega
set_option maxHeartbeats 2000000 in
set_option maxRecDepth 4000 in
theorem s_X12_will_1 {K : Nat} (a : Nat → Nat → Int32) (b : Nat → Nat → Int64) (v : Nat → Option Nat) (L : Nat)  (hR : RC K a) (h3 : v 3 = some L) (hL : L = 22 ∨ L = 46) (hf : ∀ j : Nat, (j : Int) < (a 1 6).toInt → 0 ≤ (a 2 j).toInt ∧ (a 2 j).toInt ≤ 127) : f_call mtC 9 102 [.inr (.inr (some 0))] (cH a b v) (fun v9 h' => ∃ (a' : Nat → Nat → Int32) (b' : Nat → Nat → Int64) (v' : Nat → Option Nat), h' = cH a' b' v' ∧ RC K a' ∧ (FR [1, 3, 4, 6, 8, 70, 74] a a' ∧ ((∀ i, i ∉ [2, 3] → v' i = v i) ∧ (f_wdb (v' 2) = true ∧ v' 3 = some L)) ∧ ((a' 1 6).toInt = 0)) ∧ ∃ x : Int32, v9 = some (.inl x) ∧ x.toInt = wlF (a 2) (a 1 6).toInt.toNat 8 0 0) := by
  refine f_call_of (d0 := 8) rfl (Nat.le_of_ble_eq_true rfl) (fun d hd => ?_)
  show f_wp _ (0, [some (.inr (.inr (some 0))), none], [], cH a b v) _
  have l0 : (0 : Int32).toInt = 0 := rfl
  have l6 : (6 : Int32).toInt = 6 := rfl
  refine w_aload rfl rfl ?_
  refine c_getR (t := some 6) rfl rfl rfl rfl rfl ?_
  refine w_invV (rest := []) rfl rfl rfl rfl rfl (Nat.le_of_ble_eq_true rfl) rfl (by omega) (s_X6_readWill_1 (K := K) a b v L  hR  (by omega) (h3) (hf)) (fun z1 h9 hq2 => ?_)
  obtain ⟨a3, b4, v5, rfl, ha3, fa3, x6, rfl, px6⟩ := hq2
  show f_wp _ (7, [some (.inr (.inr (some 0))), none], [.inl x6], cH a3 b4 v5) _
  have W9 := px6
  refine w_istore (lo' := [some (.inr (.inr (some 0))), some (.inl x6)]) rfl rfl ?_
  refine w_aload rfl rfl ?_
  refine c_getR (t := some 1) rfl rfl rfl rfl rfl ?_
  refine w_invV (rest := []) rfl rfl rfl rfl rfl (Nat.le_of_ble_eq_true rfl) rfl (by omega) (s_X8_empty (K := K) a3 b4 v5   ha3  ) (fun z7 h9 hq8 => ?_)
  obtain ⟨a9, rfl, ha9, fa9, rfl⟩ := hq8
  show f_wp _ (15, [some (.inr (.inr (some 0))), some (.inl x6)], [], cH a9 b4 v5) _
  refine w_iload rfl rfl ?_
  refine w_if_ne rfl (fun c10 => ?_) (fun c10 => ?_)
  · skip
    refine w_aload rfl rfl ?_
    refine c_getR (t := some 70) rfl rfl rfl rfl rfl ?_
    refine w_aload rfl rfl ?_
    refine c_getR (t := some 6) rfl rfl rfl rfl rfl ?_
    refine c_getI rfl rfl rfl rfl ?_
    have q11 : 0 ≤ (a9 6 3).toInt ∧ (a9 6 3).toInt ≤ 6 := ha9 6 3
    refine c_putI (z := false) rfl rfl rfl rfl (by first | (intro h9; cases h9; done) | (intro _; first | exact Or.inl rfl | exact Or.inr rfl | assumption | (rcases (by omega : (a9 6 3).toInt = 0 ∨ (a9 6 3).toInt = 1) with h8 | h8; exact Or.inl (ti_eq h8); exact Or.inr (ti_eq h8)))) (fun a12 ea12 => ?_)
    have ha12 : RC K a12 := RC.up ha9 ea12 (lc_hei (by omega) (by omega))
    have ua12 : a12 70 8 = (a9 6 3) := by rw [ea12, mU_same]
    have wa12 := congrArg Int32.toInt ua12
    have ra12_32 : (a12 6 3).toInt = (a9 6 3).toInt := by rw [ea12, mU_cell (by omega)]
    refine w_aload rfl rfl ?_
    refine c_getR (t := some 6) rfl rfl rfl rfl rfl ?_
    refine c_getR (t := some 8) rfl rfl rfl rfl rfl ?_
    refine w_const rfl ?_
    refine w_aload rfl rfl ?_
    refine c_getR (t := some 70) rfl rfl rfl rfl rfl ?_
    refine c_getR (t := some 74) rfl rfl rfl rfl rfl ?_
    refine w_const rfl ?_
    refine w_const rfl ?_
    refine c_copy (x := 8) (y := 74) rfl rfl rfl rfl (Nat.le_of_ble_eq_true rfl) (fun a13 na13 ma13 oa13 => ?_)
    have ha13 : RC K a13 := RC.cpa ha12 na13 ma13 oa13 (fun j9 => ⟨rfl, rfl⟩)
    show f_wp _ (54, [some (.inr (.inr (some 0))), some (.inl x6)], [], cH a13 b4 v5) _
    refine w_iload rfl rfl ?_
    exact wp_iret (z := false) rfl (fun h9 => by cases h9) ⟨a13, b4, v5, rfl, ha13, ⟨FR.cp (FR.up (FR.tr (FR.tr (FR.rf) (FR.sub fa3.1 (by first | exact (fun _ h9 => h9) | decide | (intro c9 h9; simp only [List.mem_cons, List.not_mem_nil, or_false] at h9 ⊢; omega) | (intro c9 h9; simp only [List.mem_cons, List.not_mem_nil, or_false] at h9; exact cA_mem (by omega)) | (intro c9 h9; simp only [List.mem_cons, List.not_mem_nil, or_false] at h9; exact cB_mem (by omega)) | (intro c9 h9; simp only [List.mem_cons, List.not_mem_nil, or_false] at h9; exact cU_mem (by omega)) | (intro c9 h9; simp only [List.mem_cons, List.not_mem_nil, or_false] at h9; exact cM_mem (by omega)) | exact cA_sub))) (FR.sub fa9.1 (by first | exact (fun _ h9 => h9) | decide | (intro c9 h9; simp only [List.mem_cons, List.not_mem_nil, or_false] at h9 ⊢; omega) | (intro c9 h9; simp only [List.mem_cons, List.not_mem_nil, or_false] at h9; exact cA_mem (by omega)) | (intro c9 h9; simp only [List.mem_cons, List.not_mem_nil, or_false] at h9; exact cB_mem (by omega)) | (intro c9 h9; simp only [List.mem_cons, List.not_mem_nil, or_false] at h9; exact cU_mem (by omega)) | (intro c9 h9; simp only [List.mem_cons, List.not_mem_nil, or_false] at h9; exact cM_mem (by omega)) | exact cA_sub))) (by first | decide | (simp; done) | exact cA_mem (by omega) | exact cB_mem (by omega) | exact cU_mem (by omega) | exact cM_mem (by omega)) ea12) (by first | decide | (simp; done) | exact cA_mem (by omega) | exact cB_mem (by omega) | exact cU_mem (by omega) | exact cM_mem (by omega)) na13, ⟨fun i9 h9 => (fa3.2.1.1 i9 (fun z9 => h9 (by first | exact z9 | (revert z9; simp; done) | (revert z9; simp; omega)))).trans ((show ∀ i9, i9 ∉ [2, 3] → v i9 = v i9 from (fun _ _ => rfl)) i9 h9), ⟨fa3.2.1.2.1, fa3.2.1.2.2⟩⟩, by rw [na13 1 (by decide), ea12, mU_cell (by decide)]; exact fa9.2⟩, ⟨_, rfl, W9⟩⟩
  · skip
    refine w_iload rfl rfl ?_
    exact wp_iret (z := false) rfl (fun h9 => by cases h9) ⟨a9, b4, v5, rfl, ha9, ⟨FR.tr (FR.tr (FR.rf) (FR.sub fa3.1 (by first | exact (fun _ h9 => h9) | decide | (intro c9 h9; simp only [List.mem_cons, List.not_mem_nil, or_false] at h9 ⊢; omega) | (intro c9 h9; simp only [List.mem_cons, List.not_mem_nil, or_false] at h9; exact cA_mem (by omega)) | (intro c9 h9; simp only [List.mem_cons, List.not_mem_nil, or_false] at h9; exact cB_mem (by omega)) | (intro c9 h9; simp only [List.mem_cons, List.not_mem_nil, or_false] at h9; exact cU_mem (by omega)) | (intro c9 h9; simp only [List.mem_cons, List.not_mem_nil, or_false] at h9; exact cM_mem (by omega)) | exact cA_sub))) (FR.sub fa9.1 (by first | exact (fun _ h9 => h9) | decide | (intro c9 h9; simp only [List.mem_cons, List.not_mem_nil, or_false] at h9 ⊢; omega) | (intro c9 h9; simp only [List.mem_cons, List.not_mem_nil, or_false] at h9; exact cA_mem (by omega)) | (intro c9 h9; simp only [List.mem_cons, List.not_mem_nil, or_false] at h9; exact cB_mem (by omega)) | (intro c9 h9; simp only [List.mem_cons, List.not_mem_nil, or_false] at h9; exact cU_mem (by omega)) | (intro c9 h9; simp only [List.mem_cons, List.not_mem_nil, or_false] at h9; exact cM_mem (by omega)) | exact cA_sub)), ⟨fun i9 h9 => (fa3.2.1.1 i9 (fun z9 => h9 (by first | exact z9 | (revert z9; simp; done) | (revert z9; simp; omega)))).trans ((show ∀ i9, i9 ∉ [2, 3] → v i9 = v i9 from (fun _ _ => rfl)) i9 h9), ⟨fa3.2.1.2.1, fa3.2.1.2.2⟩⟩, fa9.2⟩, ⟨_, rfl, W9⟩⟩
set_option maxRecDepth 4000 in
theorem s_X12_feedBytes_2 {K : Nat} (a : Nat → Nat → Int32) (b : Nat → Nat → Int64) (v : Nat → Option Nat) (k : Int64) (hR : RC K a)  : f_call mtC 2 98 [.inr (.inr (some 0)), .inr (.inl k)] (cH a b v) (fun v9 h' => ∃ (a' : Nat → Nat → Int32), h' = cH a' b v ∧ RC K a' ∧ (FR [1, 2] a a' ∧ (TL (a' 2) (a' 1 6).toInt.toNat = gCl k (TL (a 2) (a 1 6).toInt.toNat) 8)) ∧ v9 = none) := by
  refine f_call_of (d0 := 1) rfl (Nat.le_of_ble_eq_true rfl) (fun d hd => ?_)
  show f_wp _ (0, [some (.inr (.inr (some 0))), some (.inr (.inl k)), none, none], [], cH a b v) _
  have lm8 : (-8 : Int32).toInt = -8 := rfl
  have l56 : (56 : Int32).toInt = 56 := rfl
  have l255 : (255 : Int32).toInt = 255 := rfl
  refine w_const rfl ?_
  refine w_istore (lo' := [some (.inr (.inr (some 0))), some (.inr (.inl k)), none, some (.inl 56)]) rfl rfl ?_
  have loop3 : ∀ (ms9 : Nat) (s : Int32) (a3 : Nat → Nat → Int32) , (s.toInt + 8).toNat = ms9 → RC K a3 → FR [1, 2] a a3 → (-8 ≤ s.toInt ∧ s.toInt ≤ 56 ∧ s.toInt % 8 = 0) → (TL (a3 2) (a3 1 6).toInt.toNat = gCl k (TL (a 2) (a 1 6).toInt.toNat) ((56 - s.toInt) / 8).toNat) → f_wp (f_code (t_X12_feedBytes (f_ev mtC d))) (3, [some (.inr (.inr (some 0))), some (.inr (.inl k)), none, some (.inl s)], [], cH a3 b v) (fun v9 h' => ∃ (a' : Nat → Nat → Int32), h' = cH a' b v ∧ RC K a' ∧ (FR [1, 2] a a' ∧ (TL (a' 2) (a' 1 6).toInt.toNat = gCl k (TL (a 2) (a 1 6).toInt.toNat) 8)) ∧ v9 = none) := by
    intro ms9
    induction ms9 using Nat.strongRecOn with
    | _ ms3 ih3 =>
      intro s a3  hm3 hR3 hF3 hs hl
      refine w_iload rfl rfl ?_
      refine w_if_lt rfl (fun c1 => ?_) (fun c1 => ?_)
      · skip
        exact w_ret rfl ⟨a3, rfl, hR3, ⟨hF3, by rw [hl, show ((56 - s.toInt) / 8).toNat = 8 from by omega]⟩, rfl⟩
      · skip
        refine w_aload rfl rfl ?_
        refine c_getR (t := some 1) rfl rfl rfl rfl rfl ?_
        refine w_lload rfl rfl ?_
        refine w_iload rfl rfl ?_
        refine w_liE rfl (fun y2 ty2 => ?_)
        have y9 := ty2
        refine w_l2iE rfl (fun x3 tx3 => ?_)
        have x9 := tx3
        refine w_const rfl ?_
        refine w_iiE rfl (fun x4 tx4 => ?_)
        have p9 : x4 = byC k s := by rw [tx4, x9, y9]; rfl
        have p8 : 0 ≤ x4.toInt ∧ x4.toInt ≤ 255 := by rw [p9]; exact byC_rng
        refine w_invV (rest := []) rfl rfl rfl rfl rfl (Nat.le_of_ble_eq_true rfl) rfl (by omega) (s_X8_put_1 (K := K) a3 b v  x4 hR3  (by omega)) (fun z5 h9 hq6 => ?_)
        obtain ⟨a7, rfl, ha7, fa7, rfl⟩ := hq6
        show f_wp _ (22, [some (.inr (.inr (some 0))), some (.inr (.inl k)), none, some (.inl s)], [], cH a7 b v) _
        refine w_iinc (lo' := fun z9 => [some (.inr (.inr (some 0))), some (.inr (.inl k)), none, some (.inl z9)]) rfl rfl (fun _ => rfl) (by omega) (fun x8 tx8 => ?_)
        refine w_goto rfl ?_
        exact ih3 (x8.toInt + 8).toNat (by omega) x8 a7 rfl ha7 (FR.tr (hF3) (FR.sub fa7.1 (by first | exact (fun _ h9 => h9) | decide | (intro c9 h9; simp only [List.mem_cons, List.not_mem_nil, or_false] at h9 ⊢; omega) | (intro c9 h9; simp only [List.mem_cons, List.not_mem_nil, or_false] at h9; exact cA_mem (by omega)) | (intro c9 h9; simp only [List.mem_cons, List.not_mem_nil, or_false] at h9; exact cB_mem (by omega)) | (intro c9 h9; simp only [List.mem_cons, List.not_mem_nil, or_false] at h9; exact cU_mem (by omega)) | (intro c9 h9; simp only [List.mem_cons, List.not_mem_nil, or_false] at h9; exact cM_mem (by omega)) | exact cA_sub))) (by omega) (by rw [show ((56 - x8.toInt) / 8).toNat = ((56 - s.toInt) / 8).toNat + 1 from by omega, gCl_s (s := s) (by omega) (by omega), ← hl, ← p9]; exact fa7.2.2)
  exact loop3 _ 56 a rfl hR (FR.rf) (by omega) (rfl)
set_option maxRecDepth 4000 in
theorem s_X12_feed_2 {K : Nat} (a : Nat → Nat → Int32) (b : Nat → Nat → Int64) (v : Nat → Option Nat) (k1 : Int64) (k2 : Int64) (k3 : Int64) (hR : RC K a)  : f_call mtC 3 97 [.inr (.inr (some 0)), .inr (.inl k1), .inr (.inl k2), .inr (.inl k3)] (cH a b v) (fun v9 h' => ∃ (a' : Nat → Nat → Int32), h' = cH a' b v ∧ RC K a' ∧ (FR [1, 2] a a' ∧ (TL (a' 2) (a' 1 6).toInt.toNat = gCl k3 (gCl k2 (gCl k1 (TL (a 2) (a 1 6).toInt.toNat) 8) 8) 8)) ∧ ∃ x : Int32, v9 = some (.inl x) ∧ (x = a' 1 6)) := by
  refine f_call_of (d0 := 2) rfl (Nat.le_of_ble_eq_true rfl) (fun d hd => ?_)
  show f_wp _ (0, [some (.inr (.inr (some 0))), some (.inr (.inl k1)), none, some (.inr (.inl k2)), none, some (.inr (.inl k3)), none], [], cH a b v) _
  refine w_aload rfl rfl ?_
  refine w_lload rfl rfl ?_
  refine w_invV (rest := []) rfl rfl rfl rfl rfl (Nat.le_of_ble_eq_true rfl) rfl (by omega) (s_X12_feedBytes_2 (K := K) a b v  k1 hR  ) (fun z1 h9 hq2 => ?_)
  obtain ⟨a3, rfl, ha3, fa3, rfl⟩ := hq2
  show f_wp _ (5, [some (.inr (.inr (some 0))), some (.inr (.inl k1)), none, some (.inr (.inl k2)), none, some (.inr (.inl k3)), none], [], cH a3 b v) _
  refine w_aload rfl rfl ?_
  refine w_lload rfl rfl ?_
  refine w_invV (rest := []) rfl rfl rfl rfl rfl (Nat.le_of_ble_eq_true rfl) rfl (by omega) (s_X12_feedBytes_2 (K := K) a3 b v  k2 ha3  ) (fun z4 h9 hq5 => ?_)
  obtain ⟨a6, rfl, ha6, fa6, rfl⟩ := hq5
  show f_wp _ (10, [some (.inr (.inr (some 0))), some (.inr (.inl k1)), none, some (.inr (.inl k2)), none, some (.inr (.inl k3)), none], [], cH a6 b v) _
  refine w_aload rfl rfl ?_
  refine w_lload rfl rfl ?_
  refine w_invV (rest := []) rfl rfl rfl rfl rfl (Nat.le_of_ble_eq_true rfl) rfl (by omega) (s_X12_feedBytes_2 (K := K) a6 b v  k3 ha6  ) (fun z7 h9 hq8 => ?_)
  obtain ⟨a9, rfl, ha9, fa9, rfl⟩ := hq8
  show f_wp _ (16, [some (.inr (.inr (some 0))), some (.inr (.inl k1)), none, some (.inr (.inl k2)), none, some (.inr (.inl k3)), none], [], cH a9 b v) _
  refine w_aload rfl rfl ?_
  refine c_getR (t := some 1) rfl rfl rfl rfl rfl ?_
  refine c_getI rfl rfl rfl rfl ?_
  have q10 : 0 ≤ (a9 1 6).toInt ∧ (a9 1 6).toInt ≤ 1000 := ha9 1 6
  exact wp_iret (z := false) rfl (fun h9 => by cases h9) ⟨a9, rfl, ha9, ⟨FR.tr (FR.tr (FR.tr (FR.rf) (FR.sub fa3.1 (by first | exact (fun _ h9 => h9) | decide | (intro c9 h9; simp only [List.mem_cons, List.not_mem_nil, or_false] at h9 ⊢; omega) | (intro c9 h9; simp only [List.mem_cons, List.not_mem_nil, or_false] at h9; exact cA_mem (by omega)) | (intro c9 h9; simp only [List.mem_cons, List.not_mem_nil, or_false] at h9; exact cB_mem (by omega)) | (intro c9 h9; simp only [List.mem_cons, List.not_mem_nil, or_false] at h9; exact cU_mem (by omega)) | (intro c9 h9; simp only [List.mem_cons, List.not_mem_nil, or_false] at h9; exact cM_mem (by omega)) | exact cA_sub))) (FR.sub fa6.1 (by first | exact (fun _ h9 => h9) | decide | (intro c9 h9; simp only [List.mem_cons, List.not_mem_nil, or_false] at h9 ⊢; omega) | (intro c9 h9; simp only [List.mem_cons, List.not_mem_nil, or_false] at h9; exact cA_mem (by omega)) | (intro c9 h9; simp only [List.mem_cons, List.not_mem_nil, or_false] at h9; exact cB_mem (by omega)) | (intro c9 h9; simp only [List.mem_cons, List.not_mem_nil, or_false] at h9; exact cU_mem (by omega)) | (intro c9 h9; simp only [List.mem_cons, List.not_mem_nil, or_false] at h9; exact cM_mem (by omega)) | exact cA_sub))) (FR.sub fa9.1 (by first | exact (fun _ h9 => h9) | decide | (intro c9 h9; simp only [List.mem_cons, List.not_mem_nil, or_false] at h9 ⊢; omega) | (intro c9 h9; simp only [List.mem_cons, List.not_mem_nil, or_false] at h9; exact cA_mem (by omega)) | (intro c9 h9; simp only [List.mem_cons, List.not_mem_nil, or_false] at h9; exact cB_mem (by omega)) | (intro c9 h9; simp only [List.mem_cons, List.not_mem_nil, or_false] at h9; exact cU_mem (by omega)) | (intro c9 h9; simp only [List.mem_cons, List.not_mem_nil, or_false] at h9; exact cM_mem (by omega)) | exact cA_sub)), by rw [fa9.2, fa6.2, fa3.2]⟩, ⟨_, rfl, rfl⟩⟩
