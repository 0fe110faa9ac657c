def fS (n : Int) (c : Int32) : Int := n + (if (c.toInt = 10 ∨ (32 ≤ c.toInt ∧ c.toInt ≤ 126)) ∧ n < 1000 then 1 else 0)
def byC (x : Int64) (k : Int32) : Int32 := (x.toUInt64 >>> (k.toInt64.toUInt64 &&& Int64.toUInt64 63)).toInt64.toInt32 &&& 255
def gC (x : Int64) (n : Int) : Nat → Int
  | 0 => n
  | m + 1 => fS (gC x n m) (byC x (Int32.ofNat (56 - 8 * m)))
theorem gC_s {x : Int64} {n : Int} {m : Nat} {s : Int32} (h : s.toInt = 56 - 8 * m) (h0 : 0 ≤ s.toInt) : gC x n (m + 1) = fS (gC x n m) (byC x s) := by
  have e : Int32.ofNat (56 - 8 * m) = s := Int32.toInt_inj.mp (by rw [Int32.toInt_ofNat_of_lt (by omega)]; omega)
  show fS (gC x n m) (byC x (Int32.ofNat (56 - 8 * m))) = _
  rw [e]
set_option maxRecDepth 4000 in
theorem s_X12_feedBytes {K : Nat} (a : Nat → Nat → Int32) (b : Nat → Nat → Int64) (v : Nat → Option Nat) (k : Int64) (hR : RC K a)  : f_call mtC 2 98 [.inr (.inr (some 0)), .inr (.inl k)] (cH a b v) (fun v9 h' => ∃ (a' : Nat → Nat → Int32), h' = cH a' b v ∧ RC K a' ∧ (FR [1, 2] a a' ∧ ((a' 1 6).toInt = gC k (a 1 6).toInt 8)) ∧ v9 = none) := by
  refine f_call_of (d0 := 1) rfl (Nat.le_of_ble_eq_true rfl) (fun d hd => ?_)
  show f_wp _ (0, [some (.inr (.inr (some 0))), some (.inr (.inl k)), none, none], [], cH a b v) _
  have lm8 : (-8 : Int32).toInt = -8 := rfl
  have l56 : (56 : Int32).toInt = 56 := rfl
  have l255 : (255 : Int32).toInt = 255 := rfl
  refine w_const rfl ?_
  refine w_istore (lo' := [some (.inr (.inr (some 0))), some (.inr (.inl k)), none, some (.inl 56)]) rfl rfl ?_
  have loop3 : ∀ (ms9 : Nat) (s : Int32) (a3 : Nat → Nat → Int32) , (s.toInt + 8).toNat = ms9 → RC K a3 → FR [1, 2] a a3 → (-8 ≤ s.toInt ∧ s.toInt ≤ 56 ∧ s.toInt % 8 = 0) → ((a3 1 6).toInt = gC k (a 1 6).toInt ((56 - s.toInt) / 8).toNat) → f_wp (f_code (t_X12_feedBytes (f_ev mtC d))) (3, [some (.inr (.inr (some 0))), some (.inr (.inl k)), none, some (.inl s)], [], cH a3 b v) (fun v9 h' => ∃ (a' : Nat → Nat → Int32), h' = cH a' b v ∧ RC K a' ∧ (FR [1, 2] a a' ∧ ((a' 1 6).toInt = gC k (a 1 6).toInt 8)) ∧ v9 = none) := by
    intro ms9
    induction ms9 using Nat.strongRecOn with
    | _ ms3 ih3 =>
      intro s a3  hm3 hR3 hF3 hs hl
      refine w_iload rfl rfl ?_
      refine w_if_lt rfl (fun c1 => ?_) (fun c1 => ?_)
      · skip
        exact w_ret rfl ⟨a3, rfl, hR3, ⟨hF3, by rw [hl, show ((56 - s.toInt) / 8).toNat = 8 from by omega]⟩, rfl⟩
      · skip
        refine w_aload rfl rfl ?_
        refine c_getR (t := some 1) rfl rfl rfl rfl rfl ?_
        refine w_lload rfl rfl ?_
        refine w_iload rfl rfl ?_
        refine w_liE rfl (fun y2 ty2 => ?_)
        have y9 := ty2
        refine w_l2iE rfl (fun x3 tx3 => ?_)
        have x9 := tx3
        refine w_const rfl ?_
        refine w_iiE rfl (fun x4 tx4 => ?_)
        have p9 : x4 = byC k s := by rw [tx4, x9, y9]; rfl
        refine w_invV (rest := []) rfl rfl rfl rfl rfl (Nat.le_of_ble_eq_true rfl) rfl (by omega) (s_X8_put (K := K) a3 b v  x4 hR3  ) (fun z5 h9 hq6 => ?_)
        obtain ⟨a7, rfl, ha7, fa7, rfl⟩ := hq6
        show f_wp _ (22, [some (.inr (.inr (some 0))), some (.inr (.inl k)), none, some (.inl s)], [], cH a7 b v) _
        refine w_iinc (lo' := fun z9 => [some (.inr (.inr (some 0))), some (.inr (.inl k)), none, some (.inl z9)]) rfl rfl (fun _ => rfl) (by omega) (fun x8 tx8 => ?_)
        refine w_goto rfl ?_
        exact ih3 (x8.toInt + 8).toNat (by omega) x8 a7 rfl ha7 (FR.tr (hF3) (FR.sub fa7.1 (by first | exact (fun _ h9 => h9) | decide | (intro c9 h9; simp only [List.mem_cons, List.not_mem_nil, or_false] at h9 ⊢; omega) | (intro c9 h9; simp only [List.mem_cons, List.not_mem_nil, or_false] at h9; exact cA_mem (by omega)) | (intro c9 h9; simp only [List.mem_cons, List.not_mem_nil, or_false] at h9; exact cB_mem (by omega)) | (intro c9 h9; simp only [List.mem_cons, List.not_mem_nil, or_false] at h9; exact cU_mem (by omega)) | (intro c9 h9; simp only [List.mem_cons, List.not_mem_nil, or_false] at h9; exact cM_mem (by omega)) | exact cA_sub))) (by omega) (by rw [show ((56 - x8.toInt) / 8).toNat = ((56 - s.toInt) / 8).toNat + 1 from by omega, gC_s (s := s) (by omega) (by omega), ← hl, ← p9]; exact fa7.2.2)
  exact loop3 _ 56 a rfl hR (FR.rf) (by omega) (rfl)
set_option maxRecDepth 4000 in
theorem s_X12_feed {K : Nat} (a : Nat → Nat → Int32) (b : Nat → Nat → Int64) (v : Nat → Option Nat) (k1 : Int64) (k2 : Int64) (k3 : Int64) (hR : RC K a)  : f_call mtC 3 97 [.inr (.inr (some 0)), .inr (.inl k1), .inr (.inl k2), .inr (.inl k3)] (cH a b v) (fun v9 h' => ∃ (a' : Nat → Nat → Int32), h' = cH a' b v ∧ RC K a' ∧ (FR [1, 2] a a' ∧ ((a' 1 6).toInt = gC k3 (gC k2 (gC k1 (a 1 6).toInt 8) 8) 8)) ∧ ∃ x : Int32, v9 = some (.inl x) ∧ (x = a' 1 6)) := by
  refine f_call_of (d0 := 2) rfl (Nat.le_of_ble_eq_true rfl) (fun d hd => ?_)
  show f_wp _ (0, [some (.inr (.inr (some 0))), some (.inr (.inl k1)), none, some (.inr (.inl k2)), none, some (.inr (.inl k3)), none], [], cH a b v) _
  refine w_aload rfl rfl ?_
  refine w_lload rfl rfl ?_
  refine w_invV (rest := []) rfl rfl rfl rfl rfl (Nat.le_of_ble_eq_true rfl) rfl (by omega) (s_X12_feedBytes (K := K) a b v  k1 hR  ) (fun z1 h9 hq2 => ?_)
  obtain ⟨a3, rfl, ha3, fa3, rfl⟩ := hq2
  show f_wp _ (5, [some (.inr (.inr (some 0))), some (.inr (.inl k1)), none, some (.inr (.inl k2)), none, some (.inr (.inl k3)), none], [], cH a3 b v) _
  refine w_aload rfl rfl ?_
  refine w_lload rfl rfl ?_
  refine w_invV (rest := []) rfl rfl rfl rfl rfl (Nat.le_of_ble_eq_true rfl) rfl (by omega) (s_X12_feedBytes (K := K) a3 b v  k2 ha3  ) (fun z4 h9 hq5 => ?_)
  obtain ⟨a6, rfl, ha6, fa6, rfl⟩ := hq5
  show f_wp _ (10, [some (.inr (.inr (some 0))), some (.inr (.inl k1)), none, some (.inr (.inl k2)), none, some (.inr (.inl k3)), none], [], cH a6 b v) _
  refine w_aload rfl rfl ?_
  refine w_lload rfl rfl ?_
  refine w_invV (rest := []) rfl rfl rfl rfl rfl (Nat.le_of_ble_eq_true rfl) rfl (by omega) (s_X12_feedBytes (K := K) a6 b v  k3 ha6  ) (fun z7 h9 hq8 => ?_)
  obtain ⟨a9, rfl, ha9, fa9, rfl⟩ := hq8
  show f_wp _ (16, [some (.inr (.inr (some 0))), some (.inr (.inl k1)), none, some (.inr (.inl k2)), none, some (.inr (.inl k3)), none], [], cH a9 b v) _
  refine w_aload rfl rfl ?_
  refine c_getR (t := some 1) rfl rfl rfl rfl rfl ?_
  refine c_getI rfl rfl rfl rfl ?_
  have q10 : 0 ≤ (a9 1 6).toInt ∧ (a9 1 6).toInt ≤ 1000 := ha9 1 6
  exact wp_iret (z := false) rfl (fun h9 => by cases h9) ⟨a9, rfl, ha9, ⟨FR.tr (FR.tr (FR.tr (FR.rf) (FR.sub fa3.1 (by first | exact (fun _ h9 => h9) | decide | (intro c9 h9; simp only [List.mem_cons, List.not_mem_nil, or_false] at h9 ⊢; omega) | (intro c9 h9; simp only [List.mem_cons, List.not_mem_nil, or_false] at h9; exact cA_mem (by omega)) | (intro c9 h9; simp only [List.mem_cons, List.not_mem_nil, or_false] at h9; exact cB_mem (by omega)) | (intro c9 h9; simp only [List.mem_cons, List.not_mem_nil, or_false] at h9; exact cU_mem (by omega)) | (intro c9 h9; simp only [List.mem_cons, List.not_mem_nil, or_false] at h9; exact cM_mem (by omega)) | exact cA_sub))) (FR.sub fa6.1 (by first | exact (fun _ h9 => h9) | decide | (intro c9 h9; simp only [List.mem_cons, List.not_mem_nil, or_false] at h9 ⊢; omega) | (intro c9 h9; simp only [List.mem_cons, List.not_mem_nil, or_false] at h9; exact cA_mem (by omega)) | (intro c9 h9; simp only [List.mem_cons, List.not_mem_nil, or_false] at h9; exact cB_mem (by omega)) | (intro c9 h9; simp only [List.mem_cons, List.not_mem_nil, or_false] at h9; exact cU_mem (by omega)) | (intro c9 h9; simp only [List.mem_cons, List.not_mem_nil, or_false] at h9; exact cM_mem (by omega)) | exact cA_sub))) (FR.sub fa9.1 (by first | exact (fun _ h9 => h9) | decide | (intro c9 h9; simp only [List.mem_cons, List.not_mem_nil, or_false] at h9 ⊢; omega) | (intro c9 h9; simp only [List.mem_cons, List.not_mem_nil, or_false] at h9; exact cA_mem (by omega)) | (intro c9 h9; simp only [List.mem_cons, List.not_mem_nil, or_false] at h9; exact cB_mem (by omega)) | (intro c9 h9; simp only [List.mem_cons, List.not_mem_nil, or_false] at h9; exact cU_mem (by omega)) | (intro c9 h9; simp only [List.mem_cons, List.not_mem_nil, or_false] at h9; exact cM_mem (by omega)) | exact cA_sub)), by rw [fa9.2, fa6.2, fa3.2]⟩, ⟨_, rfl, rfl⟩⟩
set_option maxHeartbeats 2000000 in
set_option maxRecDepth 4000 in
theorem s_X12_land {K : Nat} (a : Nat → Nat → Int32) (b : Nat → Nat → Int64) (v : Nat → Option Nat) (L : Nat) (D : Nat)  (hR : RC K a) (h0 : v 0 = some L) (h1 : v 1 = some D) (hL : L = 22 ∨ L = 46) (hD : D = 22 ∨ D = 46) : f_call mtC 38 99 [.inr (.inr (some 0))] (cH a b v) (fun v9 h' => ∃ (a' : Nat → Nat → Int32) (b' : Nat → Nat → Int64) (v' : Nat → Option Nat), h' = cH a' b' v' ∧ RC K a' ∧ (FR cB a a' ∧ ((∀ i, i ∉ [0, 1, 2, 3, 4] → v' i = v i) ∧ (f_wdb (v' 2) = true ∧ v' 3 = some D ∧ (V4 v → V4 v') ∧ ((v' 0 = some L ∧ v' 1 = some D) ∨ (v' 0 = some D ∧ v' 1 = some L)))) ∧ ((a' 1 6).toInt = 0)) ∧ ∃ x : Int32, v9 = some (.inl x) ∧ True) := by
  refine f_call_of (d0 := 37) rfl (Nat.le_of_ble_eq_true rfl) (fun d hd => ?_)
  show f_wp _ (0, [some (.inr (.inr (some 0))), none, none], [], cH a b v) _
  refine w_aload rfl rfl ?_
  refine c_getR (t := some 6) rfl rfl rfl rfl rfl ?_
  refine w_aload rfl rfl ?_
  refine c_getR (t := some D) rfl rfl rfl rfl h1 ?_
  refine w_invV (rest := []) rfl rfl rfl rfl rfl (Nat.le_of_ble_eq_true rfl) rfl (by omega) (s_X6_readLand (K := K) a b v  D hR  (by omega)) (fun z1 h9 hq2 => ?_)
  obtain ⟨a3, b4, v5, rfl, ha3, fa3, x6, rfl, px6⟩ := hq2
  show f_wp _ (11, [some (.inr (.inr (some 0))), none, none], [.inl x6], cH a3 b4 v5) _
  refine w_istore (lo' := [some (.inr (.inr (some 0))), some (.inl x6), none]) rfl rfl ?_
  refine w_aload rfl rfl ?_
  refine c_getR (t := some 1) rfl rfl rfl rfl rfl ?_
  refine w_invV (rest := []) rfl rfl rfl rfl rfl (Nat.le_of_ble_eq_true rfl) rfl (by omega) (s_X8_empty (K := K) a3 b4 v5   ha3  ) (fun z7 h9 hq8 => ?_)
  obtain ⟨a9, rfl, ha9, fa9, rfl⟩ := hq8
  show f_wp _ (19, [some (.inr (.inr (some 0))), some (.inl x6), none], [], cH a9 b4 v5) _
  refine w_iload rfl rfl ?_
  refine w_if_ne rfl (fun c10 => ?_) (fun c10 => ?_)
  · skip
    refine w_aload rfl rfl ?_
    refine c_getR (t := some D) rfl rfl rfl rfl ((fa3.2.1.1 1 (by decide)).trans h1) ?_
    refine w_astore (lo' := [some (.inr (.inr (some 0))), some (.inl x6), some (.inr (.inr (some D)))]) rfl rfl ?_
    refine w_aload rfl rfl ?_
    refine w_aload rfl rfl ?_
    refine c_getR (t := some L) rfl rfl rfl rfl ((fa3.2.1.1 0 (by decide)).trans h0) ?_
    refine c_putR rfl rfl rfl rfl rC_put1 (fun v11 ev11 => ?_)
    refine w_aload rfl rfl ?_
    refine w_aload rfl rfl ?_
    refine c_putR rfl rfl rfl rfl rC_put0 (fun v12 ev12 => ?_)
    refine w_aload rfl rfl ?_
    refine w_invV (rest := []) rfl rfl rfl rfl rfl (Nat.le_of_ble_eq_true rfl) rfl (by omega) (s_X12_beginAnew (K := K) a9 b4 v12   ha9  ) (fun z13 h9 hq14 => ?_)
    obtain ⟨a15, rfl, ha15, fa15, rfl⟩ := hq14
    show f_wp _ (45, [some (.inr (.inr (some 0))), some (.inl x6), some (.inr (.inr (some D)))], [], cH a15 b4 v12) _
    refine w_iload rfl rfl ?_
    exact wp_iret (z := false) rfl (fun h9 => by cases h9) ⟨a15, b4, v12, rfl, ha15, ⟨FR.tr (FR.tr (FR.tr (FR.rf) (FR.sub fa3.1 (by first | exact (fun _ h9 => h9) | decide | (intro c9 h9; simp only [List.mem_cons, List.not_mem_nil, or_false] at h9 ⊢; omega) | (intro c9 h9; simp only [List.mem_cons, List.not_mem_nil, or_false] at h9; exact cA_mem (by omega)) | (intro c9 h9; simp only [List.mem_cons, List.not_mem_nil, or_false] at h9; exact cB_mem (by omega)) | (intro c9 h9; simp only [List.mem_cons, List.not_mem_nil, or_false] at h9; exact cU_mem (by omega)) | (intro c9 h9; simp only [List.mem_cons, List.not_mem_nil, or_false] at h9; exact cM_mem (by omega)) | exact cA_sub))) (FR.sub fa9.1 (by first | exact (fun _ h9 => h9) | decide | (intro c9 h9; simp only [List.mem_cons, List.not_mem_nil, or_false] at h9 ⊢; omega) | (intro c9 h9; simp only [List.mem_cons, List.not_mem_nil, or_false] at h9; exact cA_mem (by omega)) | (intro c9 h9; simp only [List.mem_cons, List.not_mem_nil, or_false] at h9; exact cB_mem (by omega)) | (intro c9 h9; simp only [List.mem_cons, List.not_mem_nil, or_false] at h9; exact cU_mem (by omega)) | (intro c9 h9; simp only [List.mem_cons, List.not_mem_nil, or_false] at h9; exact cM_mem (by omega)) | exact cA_sub))) (FR.sub fa15.1 (by first | exact (fun _ h9 => h9) | decide | (intro c9 h9; simp only [List.mem_cons, List.not_mem_nil, or_false] at h9 ⊢; omega) | (intro c9 h9; simp only [List.mem_cons, List.not_mem_nil, or_false] at h9; exact cA_mem (by omega)) | (intro c9 h9; simp only [List.mem_cons, List.not_mem_nil, or_false] at h9; exact cB_mem (by omega)) | (intro c9 h9; simp only [List.mem_cons, List.not_mem_nil, or_false] at h9; exact cU_mem (by omega)) | (intro c9 h9; simp only [List.mem_cons, List.not_mem_nil, or_false] at h9; exact cM_mem (by omega)) | exact cA_sub)), ⟨fun i9 h9 => (show v12 i9 = v11 i9 from by rw [ev12]; exact vU_ne (fun z9 => h9 (by rw [z9]; decide))).trans ((show ∀ i9, i9 ∉ [0, 1, 2, 3, 4] → v11 i9 = v i9 from fun i9 h9 => (show v11 i9 = v5 i9 from by rw [ev11]; exact vU_ne (fun z9 => h9 (by rw [z9]; decide))).trans ((show ∀ i9, i9 ∉ [0, 1, 2, 3, 4] → v5 i9 = v i9 from fun i9 h9 => (fa3.2.1.1 i9 (fun z9 => h9 (by first | exact z9 | (revert z9; simp; done) | (revert z9; simp; omega)))).trans ((show ∀ i9, i9 ∉ [0, 1, 2, 3, 4] → v i9 = v i9 from (fun _ _ => rfl)) i9 h9)) i9 h9)) i9 h9), ⟨(by rw [(show v12 2 = v11 2 from by rw [ev12]; exact vU_ne (by decide))]; exact (by rw [(show v11 2 = v5 2 from by rw [ev11]; exact vU_ne (by decide))]; exact fa3.2.1.2.1)), ((show v12 3 = v11 3 from by rw [ev12]; exact vU_ne (by decide)).trans ((show v11 3 = v5 3 from by rw [ev11]; exact vU_ne (by decide)).trans fa3.2.1.2.2.1)), fun h => (fa3.2.1.2.2.2 h).eq (by rw [ev12, vU_ne (by decide), ev11, vU_ne (by decide)]), Or.inr ⟨(show v12 0 = some D from by rw [ev12]; exact vU_same), ((show v12 1 = v11 1 from by rw [ev12]; exact vU_ne (by decide)).trans (show v11 1 = some L from by rw [ev11]; exact vU_same))⟩⟩⟩, by rw [fa15.1 1 (cA_out (Or.inl rfl))]; exact fa9.2⟩, ⟨_, rfl, trivial⟩⟩
  · skip
    refine w_iload rfl rfl ?_
    exact wp_iret (z := false) rfl (fun h9 => by cases h9) ⟨a9, b4, v5, rfl, ha9, ⟨FR.tr (FR.tr (FR.rf) (FR.sub fa3.1 (by first | exact (fun _ h9 => h9) | decide | (intro c9 h9; simp only [List.mem_cons, List.not_mem_nil, or_false] at h9 ⊢; omega) | (intro c9 h9; simp only [List.mem_cons, List.not_mem_nil, or_false] at h9; exact cA_mem (by omega)) | (intro c9 h9; simp only [List.mem_cons, List.not_mem_nil, or_false] at h9; exact cB_mem (by omega)) | (intro c9 h9; simp only [List.mem_cons, List.not_mem_nil, or_false] at h9; exact cU_mem (by omega)) | (intro c9 h9; simp only [List.mem_cons, List.not_mem_nil, or_false] at h9; exact cM_mem (by omega)) | exact cA_sub))) (FR.sub fa9.1 (by first | exact (fun _ h9 => h9) | decide | (intro c9 h9; simp only [List.mem_cons, List.not_mem_nil, or_false] at h9 ⊢; omega) | (intro c9 h9; simp only [List.mem_cons, List.not_mem_nil, or_false] at h9; exact cA_mem (by omega)) | (intro c9 h9; simp only [List.mem_cons, List.not_mem_nil, or_false] at h9; exact cB_mem (by omega)) | (intro c9 h9; simp only [List.mem_cons, List.not_mem_nil, or_false] at h9; exact cU_mem (by omega)) | (intro c9 h9; simp only [List.mem_cons, List.not_mem_nil, or_false] at h9; exact cM_mem (by omega)) | exact cA_sub)), ⟨fun i9 h9 => (fa3.2.1.1 i9 (fun z9 => h9 (by first | exact z9 | (revert z9; simp; done) | (revert z9; simp; omega)))).trans ((show ∀ i9, i9 ∉ [0, 1, 2, 3, 4] → v i9 = v i9 from (fun _ _ => rfl)) i9 h9), ⟨fa3.2.1.2.1, fa3.2.1.2.2.1, fun h => (fa3.2.1.2.2.2 h), Or.inl ⟨((fa3.2.1.1 0 (by decide)).trans h0), ((fa3.2.1.1 1 (by decide)).trans h1)⟩⟩⟩, fa9.2⟩, ⟨_, rfl, trivial⟩⟩
set_option maxRecDepth 4000 in
theorem s_X12_river {K : Nat} (a : Nat → Nat → Int32) (b : Nat → Nat → Int64) (v : Nat → Option Nat) (L : Nat) (i : Int32) (j : Int32) (hR : RC K a) (h0 : v 0 = some L) (hL : L = 22 ∨ L = 46) (hg : 0 ≤ i.toInt ∧ i.toInt < (a L 7).toInt ∧ 0 ≤ j.toInt ∧ j.toInt ≤ 8) : f_call mtC 5 111 [.inr (.inr (some 0)), .inl i, .inl j] (cH a b v) (fun v9 h' => ∃ (a' : Nat → Nat → Int32) (v' : Nat → Option Nat), h' = cH a' b v' ∧ RC K a' ∧ (FR [10, 11] a a' ∧ ((∀ i, i ∉ [5] → v' i = v i) ∧ (v' 5 = v 5 ∨ v' 5 = some L)) ∧ True) ∧ ∃ x : Int32, v9 = some (.inl x) ∧ True) := by
  refine f_call_of (d0 := 4) rfl (Nat.le_of_ble_eq_true rfl) (fun d hd => ?_)
  show f_wp _ (0, [some (.inr (.inr (some 0))), some (.inl i), some (.inl j), none], [], cH a b v) _
  have l8 : (8 : Int32).toInt = 8 := rfl
  refine w_aload rfl rfl ?_
  refine w_iload rfl rfl ?_
  refine w_invV (rest := []) rfl rfl rfl rfl rfl (Nat.le_of_ble_eq_true rfl) rfl (by omega) (s_X12_isRiver (K := K) a b v L i hR  (h0) (by omega)) (fun z1 h9 hq2 => ?_)
  obtain ⟨rfl, x3, rfl, px3⟩ := hq2
  show f_wp _ (5, [some (.inr (.inr (some 0))), some (.inl i), some (.inl j), none], [.inl x3], cH a b v) _
  refine w_if_eq rfl (fun c4 => ?_) (fun c4 => ?_)
  · exfalso; omega
  · skip
    refine w_iload rfl rfl ?_
    refine w_if_lt rfl (fun c5 => ?_) (fun c5 => ?_)
    · exfalso; omega
    · skip
      refine w_iload rfl rfl ?_
      refine w_const rfl ?_
      refine w_ic_le rfl (fun c6 => ?_) (fun c6 => ?_)
      · skip
        refine w_aload rfl rfl ?_
        refine c_getR (t := some L) rfl rfl rfl rfl h0 ?_
        refine c_getR (t := some (L + 1)) rfl (sh_land (by omega)) rfl rfl (rC_land0 (by omega)) ?_
        refine w_iload rfl rfl ?_
        refine c_aald5 (t := some ((L + 1) + 11 + 2 * i.toInt.toNat)) rfl (sh_row (by omega)) (by omega) (rC_row (by omega)) ?_
        refine w_astore (lo' := [some (.inr (.inr (some 0))), some (.inl i), some (.inl j), some (.inr (.inr (some ((L + 1) + 11 + 2 * i.toInt.toNat))))]) rfl rfl ?_
        refine w_iload rfl rfl ?_
        refine w_tab rfl (fun c7 => ?_) (fun k9 t9 hk9 c7 => ?_)
        · skip
          have c7d := c7
          simp only [List.length_cons, List.length_nil] at c7d
          refine w_aload rfl rfl ?_
          refine c_getR (t := some 70) rfl rfl rfl rfl rfl ?_
          refine c_getR (t := some 72) rfl rfl rfl rfl rfl ?_
          refine w_iload rfl rfl ?_
          refine c_iald rfl rfl (by omega) (fun x8 ex8 => ?_)
          exact wp_iret (z := false) rfl (fun h9 => by cases h9) ⟨a, v, rfl, hR, ⟨FR.rf, ⟨(fun _ _ => rfl), Or.inl rfl⟩, trivial⟩, ⟨_, rfl, trivial⟩⟩
        · skip
          match k9, hk9, c7 with
          | 0, hk9, c7 =>
            cases hk9
            refine w_aload rfl rfl ?_
            refine c_getI rfl (sh_riv (by omega)) rfl rfl ?_
            exact wp_iret (z := false) rfl (fun h9 => by cases h9) ⟨a, v, rfl, hR, ⟨FR.rf, ⟨(fun _ _ => rfl), Or.inl rfl⟩, trivial⟩, ⟨_, rfl, trivial⟩⟩
          | 1, hk9, c7 =>
            cases hk9
            refine w_aload rfl rfl ?_
            refine c_getI rfl (sh_riv (by omega)) rfl rfl ?_
            exact wp_iret (z := false) rfl (fun h9 => by cases h9) ⟨a, v, rfl, hR, ⟨FR.rf, ⟨(fun _ _ => rfl), Or.inl rfl⟩, trivial⟩, ⟨_, rfl, trivial⟩⟩
          | 2, hk9, c7 =>
            cases hk9
            refine w_aload rfl rfl ?_
            refine c_getI rfl (sh_riv (by omega)) rfl rfl ?_
            exact wp_iret (z := false) rfl (fun h9 => by cases h9) ⟨a, v, rfl, hR, ⟨FR.rf, ⟨(fun _ _ => rfl), Or.inl rfl⟩, trivial⟩, ⟨_, rfl, trivial⟩⟩
          | 3, hk9, c7 =>
            cases hk9
            refine w_aload rfl rfl ?_
            refine c_getI rfl (sh_riv (by omega)) rfl rfl ?_
            exact wp_iret (z := false) rfl (fun h9 => by cases h9) ⟨a, v, rfl, hR, ⟨FR.rf, ⟨(fun _ _ => rfl), Or.inl rfl⟩, trivial⟩, ⟨_, rfl, trivial⟩⟩
          | 4, hk9, c7 =>
            cases hk9
            refine w_aload rfl rfl ?_
            refine c_getI rfl (sh_riv (by omega)) rfl rfl ?_
            have q9 : -1 ≤ (a ((L + 1) + 11 + 2 * i.toInt.toNat) 11).toInt ∧ (a ((L + 1) + 11 + 2 * i.toInt.toNat) 11).toInt ≤ 5 := RC.mot hR (by omega)
            exact wp_iret (z := false) rfl (fun h9 => by cases h9) ⟨a, v, rfl, hR, ⟨FR.rf, ⟨(fun _ _ => rfl), Or.inl rfl⟩, trivial⟩, ⟨_, rfl, trivial⟩⟩
          | 5, hk9, c7 =>
            cases hk9
            refine w_aload rfl rfl ?_
            refine c_getR (t := some 70) rfl rfl rfl rfl rfl ?_
            refine c_getR (t := some 71) rfl rfl rfl rfl rfl ?_
            refine w_iload rfl rfl ?_
            refine c_iald rfl rfl (by omega) (fun x10 ex10 => ?_)
            have qx10 : -1 ≤ x10.toInt ∧ x10.toInt ≤ 5 := by rw [ex10]; exact RC.hus hR _ (by omega)
            exact wp_iret (z := false) rfl (fun h9 => by cases h9) ⟨a, v, rfl, hR, ⟨FR.rf, ⟨(fun _ _ => rfl), Or.inl rfl⟩, trivial⟩, ⟨_, rfl, trivial⟩⟩
          | 6, hk9, c7 =>
            cases hk9
            refine w_aload rfl rfl ?_
            refine w_invV (rest := []) rfl rfl rfl rfl rfl (Nat.le_of_ble_eq_true rfl) rfl (by omega) (s_X12_netNow (K := K) a b v L  hR  (h0) (by omega)) (fun z11 h9 hq12 => ?_)
            obtain ⟨a13, v14, rfl, ha13, fa13, rfl⟩ := hq12
            show f_wp _ (123, [some (.inr (.inr (some 0))), some (.inl i), some (.inl j), some (.inr (.inr (some ((L + 1) + 11 + 2 * i.toInt.toNat))))], [.inr (.inr (some 9))], cH a13 b v14) _
            refine w_iload rfl rfl ?_
            refine w_invV (rest := []) rfl rfl rfl rfl rfl (Nat.le_of_ble_eq_true rfl) rfl (by omega) (s_X5_wives (K := K) a13 b v14 L i ha13  (fa13.2.1.2) (by omega)) (fun z15 h9 hq16 => ?_)
            obtain ⟨rfl, x17, rfl, px17⟩ := hq16
            show f_wp _ (127, [some (.inr (.inr (some 0))), some (.inl i), some (.inl j), some (.inr (.inr (some ((L + 1) + 11 + 2 * i.toInt.toNat))))], [.inl x17], cH a13 b v14) _
            exact wp_iret (z := false) rfl (fun h9 => by cases h9) ⟨a13, v14, rfl, ha13, ⟨FR.tr (FR.rf) (FR.sub fa13.1 (by first | exact (fun _ h9 => h9) | decide | (intro c9 h9; simp only [List.mem_cons, List.not_mem_nil, or_false] at h9 ⊢; omega) | (intro c9 h9; simp only [List.mem_cons, List.not_mem_nil, or_false] at h9; exact cA_mem (by omega)) | (intro c9 h9; simp only [List.mem_cons, List.not_mem_nil, or_false] at h9; exact cB_mem (by omega)) | (intro c9 h9; simp only [List.mem_cons, List.not_mem_nil, or_false] at h9; exact cU_mem (by omega)) | (intro c9 h9; simp only [List.mem_cons, List.not_mem_nil, or_false] at h9; exact cM_mem (by omega)) | exact cA_sub)), ⟨fun i9 h9 => (fa13.2.1.1 i9 (fun z9 => h9 (by first | exact z9 | (revert z9; simp; done) | (revert z9; simp; omega)))).trans ((show ∀ i9, i9 ∉ [5] → v i9 = v i9 from (fun _ _ => rfl)) i9 h9), Or.inr fa13.2.1.2⟩, trivial⟩, ⟨_, rfl, trivial⟩⟩
          | 7, hk9, c7 =>
            cases hk9
            refine w_aload rfl rfl ?_
            refine c_getR (t := some 70) rfl rfl rfl rfl rfl ?_
            refine c_getR (t := some 73) rfl rfl rfl rfl rfl ?_
            refine w_iload rfl rfl ?_
            refine c_iald rfl rfl (by omega) (fun x18 ex18 => ?_)
            exact wp_iret (z := false) rfl (fun h9 => by cases h9) ⟨a, v, rfl, hR, ⟨FR.rf, ⟨(fun _ _ => rfl), Or.inl rfl⟩, trivial⟩, ⟨_, rfl, trivial⟩⟩
          | n9 + 8, hk9, c7 => simp at hk9
      · exfalso; omega
set_option maxRecDepth 4000 in
theorem s_X12_worst {K : Nat} (a : Nat → Nat → Int32) (b : Nat → Nat → Int64) (v : Nat → Option Nat) (L : Nat) (i : Int32) (j : Int32) (hR : RC K a) (h0 : v 0 = some L) (hL : L = 22 ∨ L = 46) (hg : 0 ≤ i.toInt ∧ i.toInt < (a L 7).toInt ∧ ¬ (a (L + 1 + 11 + 2 * i.toInt.toNat) 10).toInt = -1 ∧ 0 ≤ j.toInt ∧ j.toInt ≤ 1) : f_call mtC 6 144 [.inr (.inr (some 0)), .inl i, .inl j] (cH a b v) (fun v9 h' => ∃ (a' : Nat → Nat → Int32) (v' : Nat → Option Nat), h' = cH a' b v' ∧ RC K a' ∧ (FR [10, 11] a a' ∧ ((∀ i, i ∉ [5] → v' i = v i) ∧ (v' 5 = v 5 ∨ v' 5 = some L)) ∧ True) ∧ ∃ x : Int32, v9 = some (.inl x) ∧ True) := by
  refine f_call_of (d0 := 5) rfl (Nat.le_of_ble_eq_true rfl) (fun d hd => ?_)
  show f_wp _ (0, [some (.inr (.inr (some 0))), some (.inl i), some (.inl j), none, none, none], [], cH a b v) _
  have l0 : (0 : Int32).toInt = 0 := rfl
  have l1 : (1 : Int32).toInt = 1 := rfl
  have l4 : (4 : Int32).toInt = 4 := rfl
  refine w_aload rfl rfl ?_
  refine w_iload rfl rfl ?_
  refine w_invV (rest := []) rfl rfl rfl rfl rfl (Nat.le_of_ble_eq_true rfl) rfl (by omega) (s_X12_hasTown (K := K) a b v L i hR  (h0) (by omega)) (fun z1 h9 hq2 => ?_)
  obtain ⟨rfl, x3, rfl, px3⟩ := hq2
  show f_wp _ (5, [some (.inr (.inr (some 0))), some (.inl i), some (.inl j), none, none, none], [.inl x3], cH a b v) _
  refine w_if_eq rfl (fun c4 => ?_) (fun c4 => ?_)
  · exfalso; omega
  · skip
    refine w_iload rfl rfl ?_
    refine w_if_lt rfl (fun c5 => ?_) (fun c5 => ?_)
    · exfalso; omega
    · skip
      refine w_iload rfl rfl ?_
      refine w_const rfl ?_
      refine w_ic_le rfl (fun c6 => ?_) (fun c6 => ?_)
      · skip
        refine w_aload rfl rfl ?_
        refine w_iload rfl rfl ?_
        refine w_invV (rest := []) rfl rfl rfl rfl rfl (Nat.le_of_ble_eq_true rfl) rfl (by omega) (s_X12_townWaters (K := K) a b v L i hR  (h0) (by omega) (by omega)) (fun z7 h9 hq8 => ?_)
        obtain ⟨a9, v10, rfl, ha9, fa9, x11, rfl, px11⟩ := hq8
        show f_wp _ (33, [some (.inr (.inr (some 0))), some (.inl i), some (.inl j), none, none, none], [.inl x11], cH a9 b v10) _
        refine w_istore (lo' := [some (.inr (.inr (some 0))), some (.inl i), some (.inl j), some (.inl x11), none, none]) rfl rfl ?_
        refine w_const rfl ?_
        refine w_istore (lo' := [some (.inr (.inr (some 0))), some (.inl i), some (.inl j), some (.inl x11), some (.inl 0), none]) rfl rfl ?_
        refine w_const rfl ?_
        refine w_istore (lo' := [some (.inr (.inr (some 0))), some (.inl i), some (.inl j), some (.inl x11), some (.inl 0), some (.inl 1)]) rfl rfl ?_
        have loop40 : ∀ (ms9 : Nat) (w : Int32) (m : Int32) , (4 - m.toInt).toNat = ms9 → (1 ≤ m.toInt ∧ m.toInt ≤ 4) → f_wp (f_code (t_X12_worst (f_ev mtC d))) (40, [some (.inr (.inr (some 0))), some (.inl i), some (.inl j), some (.inl x11), some (.inl w), some (.inl m)], [], cH a9 b v10) (fun v9 h' => ∃ (a' : Nat → Nat → Int32) (v' : Nat → Option Nat), h' = cH a' b v' ∧ RC K a' ∧ (FR [10, 11] a a' ∧ ((∀ i, i ∉ [5] → v' i = v i) ∧ (v' 5 = v 5 ∨ v' 5 = some L)) ∧ True) ∧ ∃ x : Int32, v9 = some (.inl x) ∧ True) := by
          intro ms9
          induction ms9 using Nat.strongRecOn with
          | _ ms40 ih40 =>
            intro w m  hm40 hm
            refine w_iload rfl rfl ?_
            refine w_const rfl ?_
            refine w_ic_ge rfl (fun c12 => ?_) (fun c12 => ?_)
            · skip
              refine w_iload rfl rfl ?_
              refine w_if_ne rfl (fun c13 => ?_) (fun c13 => ?_)
              · skip
                refine w_iload rfl rfl ?_
                exact wp_iret (z := false) rfl (fun h9 => by cases h9) ⟨a9, v10, rfl, ha9, ⟨FR.tr (FR.rf) (FR.sub fa9.1 (by first | exact (fun _ h9 => h9) | decide | (intro c9 h9; simp only [List.mem_cons, List.not_mem_nil, or_false] at h9 ⊢; omega) | (intro c9 h9; simp only [List.mem_cons, List.not_mem_nil, or_false] at h9; exact cA_mem (by omega)) | (intro c9 h9; simp only [List.mem_cons, List.not_mem_nil, or_false] at h9; exact cB_mem (by omega)) | (intro c9 h9; simp only [List.mem_cons, List.not_mem_nil, or_false] at h9; exact cU_mem (by omega)) | (intro c9 h9; simp only [List.mem_cons, List.not_mem_nil, or_false] at h9; exact cM_mem (by omega)) | exact cA_sub)), ⟨fun i9 h9 => (fa9.2.1.1 i9 (fun z9 => h9 (by first | exact z9 | (revert z9; simp; done) | (revert z9; simp; omega)))).trans ((show ∀ i9, i9 ∉ [5] → v i9 = v i9 from (fun _ _ => rfl)) i9 h9), Or.inr fa9.2.1.2⟩, trivial⟩, ⟨_, rfl, trivial⟩⟩
              · skip
                refine w_aload rfl rfl ?_
                refine c_getR (t := some L) rfl rfl rfl rfl ((fa9.2.1.1 0 (by decide)).trans h0) ?_
                refine c_getI rfl (sh_land (by omega)) rfl rfl ?_
                refine w_if_ne rfl (fun c14 => ?_) (fun c14 => ?_)
                · skip
                  refine w_const rfl ?_
                  refine w_goto rfl ?_
                  refine w_istore (lo' := [some (.inr (.inr (some 0))), some (.inl i), some (.inl j), some (.inl x11), some (.inl w), some (.inl 0)]) rfl rfl ?_
                  refine w_aload rfl rfl ?_
                  refine c_getR (t := some L) rfl rfl rfl rfl ((fa9.2.1.1 0 (by decide)).trans h0) ?_
                  refine w_iload rfl rfl ?_
                  refine w_iload rfl rfl ?_
                  refine w_invV (rest := []) rfl rfl (sh_land (by omega)) rfl rfl (Nat.le_of_ble_eq_true rfl) rfl (by omega) (s_X3_water (K := K) a9 b v10  L x11 w ha9  (by omega)) (fun z15 h9 hq16 => ?_)
                  obtain ⟨rfl, x17, rfl, px17⟩ := hq16
                  show f_wp _ (124, [some (.inr (.inr (some 0))), some (.inl i), some (.inl j), some (.inl x11), some (.inl w), some (.inl 0)], [.inl x17], cH a9 b v10) _
                  refine w_iload rfl rfl ?_
                  first | refine w_iadd rfl (by omega) (fun x18 tx18 => ?_) | refine w_iiU rfl (fun x18 tx18 => ?_)
                  refine w_aload rfl rfl ?_
                  refine c_getR (t := some L) rfl rfl rfl rfl ((fa9.2.1.1 0 (by decide)).trans h0) ?_
                  refine c_getR (t := some (L + 1)) rfl (sh_land (by omega)) rfl rfl (rC_land0 (by omega)) ?_
                  refine w_iload rfl rfl ?_
                  refine c_aald5 (t := some ((L + 1) + 11 + 2 * i.toInt.toNat)) rfl (sh_row (by omega)) (by omega) (rC_row (by omega)) ?_
                  refine c_getI rfl (sh_riv (by omega)) rfl rfl ?_
                  first | refine w_isub rfl (by omega) (fun x19 tx19 => ?_) | refine w_iiU rfl (fun x19 tx19 => ?_)
                  exact wp_iret (z := false) rfl (fun h9 => by cases h9) ⟨a9, v10, rfl, ha9, ⟨FR.tr (FR.rf) (FR.sub fa9.1 (by first | exact (fun _ h9 => h9) | decide | (intro c9 h9; simp only [List.mem_cons, List.not_mem_nil, or_false] at h9 ⊢; omega) | (intro c9 h9; simp only [List.mem_cons, List.not_mem_nil, or_false] at h9; exact cA_mem (by omega)) | (intro c9 h9; simp only [List.mem_cons, List.not_mem_nil, or_false] at h9; exact cB_mem (by omega)) | (intro c9 h9; simp only [List.mem_cons, List.not_mem_nil, or_false] at h9; exact cU_mem (by omega)) | (intro c9 h9; simp only [List.mem_cons, List.not_mem_nil, or_false] at h9; exact cM_mem (by omega)) | exact cA_sub)), ⟨fun i9 h9 => (fa9.2.1.1 i9 (fun z9 => h9 (by first | exact z9 | (revert z9; simp; done) | (revert z9; simp; omega)))).trans ((show ∀ i9, i9 ∉ [5] → v i9 = v i9 from (fun _ _ => rfl)) i9 h9), Or.inr fa9.2.1.2⟩, trivial⟩, ⟨_, rfl, trivial⟩⟩
                · skip
                  refine w_iload rfl rfl ?_
                  refine w_invS (rest := []) rfl (Nat.le_of_ble_eq_true rfl) rfl (Nat.le_of_ble_eq_true rfl) rfl (by omega) (s_J6_bitCount_0f7a4 (K := K) a9 b v10  x11   ) (fun z20 h9 hq21 => ?_)
                  obtain ⟨rfl, x22, rfl, px22⟩ := hq21
                  show f_wp _ (104, [some (.inr (.inr (some 0))), some (.inl i), some (.inl j), some (.inl x11), some (.inl w), some (.inl m)], [.inl x22], cH a9 b v10) _
                  refine w_aload rfl rfl ?_
                  refine c_getR (t := some L) rfl rfl rfl rfl ((fa9.2.1.1 0 (by decide)).trans h0) ?_
                  refine c_getI rfl (sh_land (by omega)) rfl rfl ?_
                  refine w_iiU rfl (fun x23 tx23 => ?_)
                  refine w_istore (lo' := [some (.inr (.inr (some 0))), some (.inl i), some (.inl j), some (.inl x11), some (.inl w), some (.inl x23)]) rfl rfl ?_
                  refine w_aload rfl rfl ?_
                  refine c_getR (t := some L) rfl rfl rfl rfl ((fa9.2.1.1 0 (by decide)).trans h0) ?_
                  refine w_iload rfl rfl ?_
                  refine w_iload rfl rfl ?_
                  refine w_invV (rest := []) rfl rfl (sh_land (by omega)) rfl rfl (Nat.le_of_ble_eq_true rfl) rfl (by omega) (s_X3_water (K := K) a9 b v10  L x11 w ha9  (by omega)) (fun z24 h9 hq25 => ?_)
                  obtain ⟨rfl, x26, rfl, px26⟩ := hq25
                  show f_wp _ (124, [some (.inr (.inr (some 0))), some (.inl i), some (.inl j), some (.inl x11), some (.inl w), some (.inl x23)], [.inl x26], cH a9 b v10) _
                  refine w_iload rfl rfl ?_
                  first | refine w_iadd rfl (by omega) (fun x27 tx27 => ?_) | refine w_iiU rfl (fun x27 tx27 => ?_)
                  refine w_aload rfl rfl ?_
                  refine c_getR (t := some L) rfl rfl rfl rfl ((fa9.2.1.1 0 (by decide)).trans h0) ?_
                  refine c_getR (t := some (L + 1)) rfl (sh_land (by omega)) rfl rfl (rC_land0 (by omega)) ?_
                  refine w_iload rfl rfl ?_
                  refine c_aald5 (t := some ((L + 1) + 11 + 2 * i.toInt.toNat)) rfl (sh_row (by omega)) (by omega) (rC_row (by omega)) ?_
                  refine c_getI rfl (sh_riv (by omega)) rfl rfl ?_
                  first | refine w_isub rfl (by omega) (fun x28 tx28 => ?_) | refine w_iiU rfl (fun x28 tx28 => ?_)
                  exact wp_iret (z := false) rfl (fun h9 => by cases h9) ⟨a9, v10, rfl, ha9, ⟨FR.tr (FR.rf) (FR.sub fa9.1 (by first | exact (fun _ h9 => h9) | decide | (intro c9 h9; simp only [List.mem_cons, List.not_mem_nil, or_false] at h9 ⊢; omega) | (intro c9 h9; simp only [List.mem_cons, List.not_mem_nil, or_false] at h9; exact cA_mem (by omega)) | (intro c9 h9; simp only [List.mem_cons, List.not_mem_nil, or_false] at h9; exact cB_mem (by omega)) | (intro c9 h9; simp only [List.mem_cons, List.not_mem_nil, or_false] at h9; exact cU_mem (by omega)) | (intro c9 h9; simp only [List.mem_cons, List.not_mem_nil, or_false] at h9; exact cM_mem (by omega)) | exact cA_sub)), ⟨fun i9 h9 => (fa9.2.1.1 i9 (fun z9 => h9 (by first | exact z9 | (revert z9; simp; done) | (revert z9; simp; omega)))).trans ((show ∀ i9, i9 ∉ [5] → v i9 = v i9 from (fun _ _ => rfl)) i9 h9), Or.inr fa9.2.1.2⟩, trivial⟩, ⟨_, rfl, trivial⟩⟩
            · skip
              refine w_aload rfl rfl ?_
              refine c_getR (t := some L) rfl rfl rfl rfl ((fa9.2.1.1 0 (by decide)).trans h0) ?_
              refine w_iload rfl rfl ?_
              refine w_iload rfl rfl ?_
              refine w_invV (rest := []) rfl rfl (sh_land (by omega)) rfl rfl (Nat.le_of_ble_eq_true rfl) rfl (by omega) (s_X3_water (K := K) a9 b v10  L x11 m ha9  (by omega)) (fun z29 h9 hq30 => ?_)
              obtain ⟨rfl, x31, rfl, px31⟩ := hq30
              show f_wp _ (56, [some (.inr (.inr (some 0))), some (.inl i), some (.inl j), some (.inl x11), some (.inl w), some (.inl m)], [.inl x31], cH a9 b v10) _
              refine w_aload rfl rfl ?_
              refine c_getR (t := some L) rfl rfl rfl rfl ((fa9.2.1.1 0 (by decide)).trans h0) ?_
              refine w_iload rfl rfl ?_
              refine w_iload rfl rfl ?_
              refine w_invV (rest := [.inl x31]) rfl rfl (sh_land (by omega)) rfl rfl (Nat.le_of_ble_eq_true rfl) rfl (by omega) (s_X3_water (K := K) a9 b v10  L x11 w ha9  (by omega)) (fun z32 h9 hq33 => ?_)
              obtain ⟨rfl, x34, rfl, px34⟩ := hq33
              show f_wp _ (66, [some (.inr (.inr (some 0))), some (.inl i), some (.inl j), some (.inl x11), some (.inl w), some (.inl m)], [.inl x34, .inl x31], cH a9 b v10) _
              refine w_ic_le rfl (fun c35 => ?_) (fun c35 => ?_)
              · skip
                refine w_iinc (lo' := fun z9 => [some (.inr (.inr (some 0))), some (.inl i), some (.inl j), some (.inl x11), some (.inl w), some (.inl z9)]) rfl rfl (fun _ => rfl) (by omega) (fun x36 tx36 => ?_)
                refine w_goto rfl ?_
                exact ih40 (4 - x36.toInt).toNat (by omega) w x36 rfl  (by omega)
              · skip
                refine w_iload rfl rfl ?_
                refine w_istore (lo' := [some (.inr (.inr (some 0))), some (.inl i), some (.inl j), some (.inl x11), some (.inl m), some (.inl m)]) rfl rfl ?_
                refine w_iinc (lo' := fun z9 => [some (.inr (.inr (some 0))), some (.inl i), some (.inl j), some (.inl x11), some (.inl m), some (.inl z9)]) rfl rfl (fun _ => rfl) (by omega) (fun x37 tx37 => ?_)
                refine w_goto rfl ?_
                exact ih40 (4 - x37.toInt).toNat (by omega) m x37 rfl  (by omega)
        exact loop40 _ 0 1 rfl  (by omega)
      · exfalso; omega
