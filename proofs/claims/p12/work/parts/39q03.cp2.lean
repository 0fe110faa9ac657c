set_option maxRecDepth 4000 in
theorem y_X6_isName {d : Nat} (a : Nat → Nat → Int32) (b : Nat → Nat → Int64) (v : Nat → Option Nat) (z : Nat) (N : Nat) (c : Nat) (t : Nat → Int32)  (hw : f_wdb (v 2) = true) (hS : CSt t z N c a b v) : f_pc mtC d 54 [.inr (.inr (some 6))] (cH a b v) (fun v9 h' => ∃ (a' : Nat → Nat → Int32), h' = cH a' b v ∧ (FR [6] a a' ∧ (∀ j, j ≠ 10 → a' 6 j = a 6 j)) ∧ ∃ x : Int32, v9 = some (.inl x) ∧ PSt t z N c (nmx t z c) x a' b v) := by
  refine f_pc_of rfl (fun d0 fu hd => ?_)
  show f_pq _ _ (0, [some (.inr (.inr (some 6))), none], [], cH a b v) _
  have l0 : (0 : Int32).toInt = 0 := rfl
  have l1 : (1 : Int32).toInt = 1 := rfl
  have l2 : (2 : Int32).toInt = 2 := rfl
  obtain ⟨s0, s1, s2, s3, s4, s5, s6⟩ := hS.pl
  refine qw_aload rfl rfl ?_
  refine qc_getR (t := some 1) rfl rfl rfl rfl rfl ?_
  refine qc_getR (t := v 2) rfl rfl rfl rfl rfl ?_
  refine qc_ifnull rfl (fun c1 => ?_) (fun w2 c1 => ?_)
  · skip
    have N9 : ∀ w, w < 27 → ¬ v 2 = some (1000 + w) := fun w _ h => by rw [c1] at h; cases h
    refine qw_const rfl ?_
    refine qw_goto rfl ?_
    refine qw_istore (lo' := [some (.inr (.inr (some 6))), some (.inl 1)]) rfl rfl ?_
    refine qw_aload rfl rfl ?_
    refine qc_getR (t := some 1) rfl rfl rfl rfl rfl ?_
    refine qc_getI rfl rfl rfl rfl ?_
    refine qw_const rfl ?_
    refine qw_ic_ne rfl (fun c3 => ?_) (fun c3 => ?_)
    · skip
      refine qw_iload rfl rfl ?_
      refine qw_if_ne rfl (fun c4 => ?_) (fun c4 => ?_)
      · exfalso; omega
      · skip
        refine qw_const rfl ?_
        refine qw_goto rfl ?_
        exact qwp_iret (z := true) rfl (fun _ => by first | exact Or.inl rfl | exact Or.inr rfl | (rcases (by omega : (1 : Int32).toInt = 0 ∨ (1 : Int32).toInt = 1) with h8 | h8; exact Or.inl (ti_eq h8); exact Or.inr (ti_eq h8))) ⟨a, rfl, ⟨FR.rf, fun _ _ => rfl⟩, ⟨_, rfl, by first | (exfalso; omega) | exact PSt.ok rfl (nmx_1 (hS.nm.mpr ⟨by omega, N9⟩)) (by assumption) | (have M9 : ¬ isNm t z c = true := fun h => (by have h9 := hS.nm.mp h; first | (exact absurd h9.1 (by omega)) | (obtain ⟨w, w1, w2⟩ := Y9; exact h9.2 w w1 w2)); exact PSt.no (by omega) (by rw [nmx_x M9]; have := flt_pos (t := t) (z := z) (c := c) (k := 1) (by decide); omega) (by rw [nmx_x M9, F8.2]; show _ = (1 : Int) + 16 * (lxP t z c : Int); have l9 : (1 : Int32).toInt = 1 := rfl; omega))⟩⟩
    · skip
      refine qw_aload rfl rfl ?_
      refine qw_const rfl ?_
      refine qw_invV (rest := []) rfl rfl rfl rfl rfl (Nat.le_of_ble_eq_true rfl) rfl (y_X6_fail (d := d0) a b v  1 (by omega) (by omega)) (fun z5 h9 hq6 => ?_)
      obtain ⟨a7, rfl, fa7, x8, rfl, px8⟩ := hq6
      show f_pq _ _ (49, [some (.inr (.inr (some 6))), some (.inl 1)], [.inl x8], cH a7 b v) _
      have F8 := fa7.2
      have z8 := px8
      refine qw_if_eq rfl (fun c9 => ?_) (fun c9 => ?_)
      · skip
        refine qw_const rfl ?_
        exact qwp_iret (z := true) rfl (fun _ => by first | exact Or.inl rfl | exact Or.inr rfl | (rcases (by omega : (0 : Int32).toInt = 0 ∨ (0 : Int32).toInt = 1) with h8 | h8; exact Or.inl (ti_eq h8); exact Or.inr (ti_eq h8))) ⟨a7, rfl, ⟨FR.tr (FR.rf) (FR.sub fa7.1 (by first | exact (fun _ h9 => h9) | decide | (intro c9 h9; simp only [List.mem_cons, List.not_mem_nil, or_false] at h9 ⊢; omega) | (intro c9 h9; simp only [List.mem_cons, List.not_mem_nil, or_false] at h9; exact cA_mem (by omega)) | (intro c9 h9; simp only [List.mem_cons, List.not_mem_nil, or_false] at h9; exact cB_mem (by omega)) | exact cA_sub)), F8.1⟩, ⟨_, rfl, by first | (exfalso; omega) | exact PSt.ok rfl (nmx_1 (hS.nm.mpr ⟨by omega, N9⟩)) (by assumption) | (have M9 : ¬ isNm t z c = true := fun h => (by have h9 := hS.nm.mp h; first | (exact absurd h9.1 (by omega)) | (obtain ⟨w, w1, w2⟩ := Y9; exact h9.2 w w1 w2)); exact PSt.no (by omega) (by rw [nmx_x M9]; have := flt_pos (t := t) (z := z) (c := c) (k := 1) (by decide); omega) (by rw [nmx_x M9, F8.2]; show _ = (1 : Int) + 16 * (lxP t z c : Int); have l9 : (1 : Int32).toInt = 1 := rfl; omega))⟩⟩
      · skip
        refine qw_const rfl ?_
        refine qw_goto rfl ?_
        exact qwp_iret (z := true) rfl (fun _ => by first | exact Or.inl rfl | exact Or.inr rfl | (rcases (by omega : (1 : Int32).toInt = 0 ∨ (1 : Int32).toInt = 1) with h8 | h8; exact Or.inl (ti_eq h8); exact Or.inr (ti_eq h8))) ⟨a7, rfl, ⟨FR.tr (FR.rf) (FR.sub fa7.1 (by first | exact (fun _ h9 => h9) | decide | (intro c9 h9; simp only [List.mem_cons, List.not_mem_nil, or_false] at h9 ⊢; omega) | (intro c9 h9; simp only [List.mem_cons, List.not_mem_nil, or_false] at h9; exact cA_mem (by omega)) | (intro c9 h9; simp only [List.mem_cons, List.not_mem_nil, or_false] at h9; exact cB_mem (by omega)) | exact cA_sub)), F8.1⟩, ⟨_, rfl, by first | (exfalso; omega) | exact PSt.ok rfl (nmx_1 (hS.nm.mpr ⟨by omega, N9⟩)) (by assumption) | (have M9 : ¬ isNm t z c = true := fun h => (by have h9 := hS.nm.mp h; first | (exact absurd h9.1 (by omega)) | (obtain ⟨w, w1, w2⟩ := Y9; exact h9.2 w w1 w2)); exact PSt.no (by omega) (by rw [nmx_x M9]; have := flt_pos (t := t) (z := z) (c := c) (k := 1) (by decide); omega) (by rw [nmx_x M9, F8.2]; show _ = (1 : Int) + 16 * (lxP t z c : Int); have l9 : (1 : Int32).toInt = 1 := rfl; omega))⟩⟩
  · skip
    have w9 := f_wdb_lt hw w2 c1
    have r9 := wRes0 (w2 - 1000) (by have := w9; omega)
    have y9 : ((wRes.getD (w2 - 1000) 0).toInt = 0 → ∀ w, w < 27 → ¬ v 2 = some (1000 + w)) ∧ (¬ (wRes.getD (w2 - 1000) 0).toInt = 0 → ∃ w, w < 27 ∧ v 2 = some (1000 + w)) := ⟨fun h w q1 q2 => by rw [c1] at q2; injection q2 with q2; have := r9.mp h; omega, fun h => ⟨w2 - 1000, by have := mt r9.mpr h; omega, by rw [c1, show 1000 + (w2 - 1000) = w2 from by have := w9; omega]⟩⟩
    refine qw_aload rfl rfl ?_
    refine qc_getR (t := some 1) rfl rfl rfl rfl rfl ?_
    refine qc_getR (t := v 2) rfl rfl rfl rfl rfl ?_
    rw [c1]
    refine qc_sfld rfl (if_pos (by omega)) ?_
    refine qw_if_ne rfl (fun c10 => ?_) (fun c10 => ?_)
    · skip
      have N9 := y9.1 (by omega)
      refine qw_const rfl ?_
      refine qw_goto rfl ?_
      refine qw_istore (lo' := [some (.inr (.inr (some 6))), some (.inl 1)]) rfl rfl ?_
      refine qw_aload rfl rfl ?_
      refine qc_getR (t := some 1) rfl rfl rfl rfl rfl ?_
      refine qc_getI rfl rfl rfl rfl ?_
      refine qw_const rfl ?_
      refine qw_ic_ne rfl (fun c11 => ?_) (fun c11 => ?_)
      · skip
        refine qw_iload rfl rfl ?_
        refine qw_if_ne rfl (fun c12 => ?_) (fun c12 => ?_)
        · exfalso; omega
        · skip
          refine qw_const rfl ?_
          refine qw_goto rfl ?_
          exact qwp_iret (z := true) rfl (fun _ => by first | exact Or.inl rfl | exact Or.inr rfl | (rcases (by omega : (1 : Int32).toInt = 0 ∨ (1 : Int32).toInt = 1) with h8 | h8; exact Or.inl (ti_eq h8); exact Or.inr (ti_eq h8))) ⟨a, rfl, ⟨FR.rf, fun _ _ => rfl⟩, ⟨_, rfl, by first | (exfalso; omega) | exact PSt.ok rfl (nmx_1 (hS.nm.mpr ⟨by omega, N9⟩)) (by assumption) | (have M9 : ¬ isNm t z c = true := fun h => (by have h9 := hS.nm.mp h; first | (exact absurd h9.1 (by omega)) | (obtain ⟨w, w1, w2⟩ := Y9; exact h9.2 w w1 w2)); exact PSt.no (by omega) (by rw [nmx_x M9]; have := flt_pos (t := t) (z := z) (c := c) (k := 1) (by decide); omega) (by rw [nmx_x M9, F8.2]; show _ = (1 : Int) + 16 * (lxP t z c : Int); have l9 : (1 : Int32).toInt = 1 := rfl; omega))⟩⟩
      · skip
        refine qw_aload rfl rfl ?_
        refine qw_const rfl ?_
        refine qw_invV (rest := []) rfl rfl rfl rfl rfl (Nat.le_of_ble_eq_true rfl) rfl (y_X6_fail (d := d0) a b v  1 (by omega) (by omega)) (fun z13 h9 hq14 => ?_)
        obtain ⟨a15, rfl, fa15, x16, rfl, px16⟩ := hq14
        show f_pq _ _ (49, [some (.inr (.inr (some 6))), some (.inl 1)], [.inl x16], cH a15 b v) _
        have F8 := fa15.2
        have z8 := px16
        refine qw_if_eq rfl (fun c17 => ?_) (fun c17 => ?_)
        · skip
          refine qw_const rfl ?_
          exact qwp_iret (z := true) rfl (fun _ => by first | exact Or.inl rfl | exact Or.inr rfl | (rcases (by omega : (0 : Int32).toInt = 0 ∨ (0 : Int32).toInt = 1) with h8 | h8; exact Or.inl (ti_eq h8); exact Or.inr (ti_eq h8))) ⟨a15, rfl, ⟨FR.tr (FR.rf) (FR.sub fa15.1 (by first | exact (fun _ h9 => h9) | decide | (intro c9 h9; simp only [List.mem_cons, List.not_mem_nil, or_false] at h9 ⊢; omega) | (intro c9 h9; simp only [List.mem_cons, List.not_mem_nil, or_false] at h9; exact cA_mem (by omega)) | (intro c9 h9; simp only [List.mem_cons, List.not_mem_nil, or_false] at h9; exact cB_mem (by omega)) | exact cA_sub)), F8.1⟩, ⟨_, rfl, by first | (exfalso; omega) | exact PSt.ok rfl (nmx_1 (hS.nm.mpr ⟨by omega, N9⟩)) (by assumption) | (have M9 : ¬ isNm t z c = true := fun h => (by have h9 := hS.nm.mp h; first | (exact absurd h9.1 (by omega)) | (obtain ⟨w, w1, w2⟩ := Y9; exact h9.2 w w1 w2)); exact PSt.no (by omega) (by rw [nmx_x M9]; have := flt_pos (t := t) (z := z) (c := c) (k := 1) (by decide); omega) (by rw [nmx_x M9, F8.2]; show _ = (1 : Int) + 16 * (lxP t z c : Int); have l9 : (1 : Int32).toInt = 1 := rfl; omega))⟩⟩
        · skip
          refine qw_const rfl ?_
          refine qw_goto rfl ?_
          exact qwp_iret (z := true) rfl (fun _ => by first | exact Or.inl rfl | exact Or.inr rfl | (rcases (by omega : (1 : Int32).toInt = 0 ∨ (1 : Int32).toInt = 1) with h8 | h8; exact Or.inl (ti_eq h8); exact Or.inr (ti_eq h8))) ⟨a15, rfl, ⟨FR.tr (FR.rf) (FR.sub fa15.1 (by first | exact (fun _ h9 => h9) | decide | (intro c9 h9; simp only [List.mem_cons, List.not_mem_nil, or_false] at h9 ⊢; omega) | (intro c9 h9; simp only [List.mem_cons, List.not_mem_nil, or_false] at h9; exact cA_mem (by omega)) | (intro c9 h9; simp only [List.mem_cons, List.not_mem_nil, or_false] at h9; exact cB_mem (by omega)) | exact cA_sub)), F8.1⟩, ⟨_, rfl, by first | (exfalso; omega) | exact PSt.ok rfl (nmx_1 (hS.nm.mpr ⟨by omega, N9⟩)) (by assumption) | (have M9 : ¬ isNm t z c = true := fun h => (by have h9 := hS.nm.mp h; first | (exact absurd h9.1 (by omega)) | (obtain ⟨w, w1, w2⟩ := Y9; exact h9.2 w w1 w2)); exact PSt.no (by omega) (by rw [nmx_x M9]; have := flt_pos (t := t) (z := z) (c := c) (k := 1) (by decide); omega) (by rw [nmx_x M9, F8.2]; show _ = (1 : Int) + 16 * (lxP t z c : Int); have l9 : (1 : Int32).toInt = 1 := rfl; omega))⟩⟩
    · skip
      have Y9 := y9.2 (by omega)
      refine qw_const rfl ?_
      refine qw_istore (lo' := [some (.inr (.inr (some 6))), some (.inl 0)]) rfl rfl ?_
      refine qw_aload rfl rfl ?_
      refine qc_getR (t := some 1) rfl rfl rfl rfl rfl ?_
      refine qc_getI rfl rfl rfl rfl ?_
      refine qw_const rfl ?_
      refine qw_ic_ne rfl (fun c18 => ?_) (fun c18 => ?_)
      · skip
        refine qw_iload rfl rfl ?_
        refine qw_if_ne rfl (fun c19 => ?_) (fun c19 => ?_)
        · skip
          refine qw_aload rfl rfl ?_
          refine qw_const rfl ?_
          refine qw_invV (rest := []) rfl rfl rfl rfl rfl (Nat.le_of_ble_eq_true rfl) rfl (y_X6_fail (d := d0) a b v  1 (by omega) (by omega)) (fun z20 h9 hq21 => ?_)
          obtain ⟨a22, rfl, fa22, x23, rfl, px23⟩ := hq21
          show f_pq _ _ (49, [some (.inr (.inr (some 6))), some (.inl 0)], [.inl x23], cH a22 b v) _
          have F8 := fa22.2
          have z8 := px23
          refine qw_if_eq rfl (fun c24 => ?_) (fun c24 => ?_)
          · skip
            refine qw_const rfl ?_
            exact qwp_iret (z := true) rfl (fun _ => by first | exact Or.inl rfl | exact Or.inr rfl | (rcases (by omega : (0 : Int32).toInt = 0 ∨ (0 : Int32).toInt = 1) with h8 | h8; exact Or.inl (ti_eq h8); exact Or.inr (ti_eq h8))) ⟨a22, rfl, ⟨FR.tr (FR.rf) (FR.sub fa22.1 (by first | exact (fun _ h9 => h9) | decide | (intro c9 h9; simp only [List.mem_cons, List.not_mem_nil, or_false] at h9 ⊢; omega) | (intro c9 h9; simp only [List.mem_cons, List.not_mem_nil, or_false] at h9; exact cA_mem (by omega)) | (intro c9 h9; simp only [List.mem_cons, List.not_mem_nil, or_false] at h9; exact cB_mem (by omega)) | exact cA_sub)), F8.1⟩, ⟨_, rfl, by first | (exfalso; omega) | exact PSt.ok rfl (nmx_1 (hS.nm.mpr ⟨by omega, N9⟩)) (by assumption) | (have M9 : ¬ isNm t z c = true := fun h => (by have h9 := hS.nm.mp h; first | (exact absurd h9.1 (by omega)) | (obtain ⟨w, w1, w2⟩ := Y9; exact h9.2 w w1 w2)); exact PSt.no (by omega) (by rw [nmx_x M9]; have := flt_pos (t := t) (z := z) (c := c) (k := 1) (by decide); omega) (by rw [nmx_x M9, F8.2]; show _ = (1 : Int) + 16 * (lxP t z c : Int); have l9 : (1 : Int32).toInt = 1 := rfl; omega))⟩⟩
          · skip
            refine qw_const rfl ?_
            refine qw_goto rfl ?_
            exact qwp_iret (z := true) rfl (fun _ => by first | exact Or.inl rfl | exact Or.inr rfl | (rcases (by omega : (1 : Int32).toInt = 0 ∨ (1 : Int32).toInt = 1) with h8 | h8; exact Or.inl (ti_eq h8); exact Or.inr (ti_eq h8))) ⟨a22, rfl, ⟨FR.tr (FR.rf) (FR.sub fa22.1 (by first | exact (fun _ h9 => h9) | decide | (intro c9 h9; simp only [List.mem_cons, List.not_mem_nil, or_false] at h9 ⊢; omega) | (intro c9 h9; simp only [List.mem_cons, List.not_mem_nil, or_false] at h9; exact cA_mem (by omega)) | (intro c9 h9; simp only [List.mem_cons, List.not_mem_nil, or_false] at h9; exact cB_mem (by omega)) | exact cA_sub)), F8.1⟩, ⟨_, rfl, by first | (exfalso; omega) | exact PSt.ok rfl (nmx_1 (hS.nm.mpr ⟨by omega, N9⟩)) (by assumption) | (have M9 : ¬ isNm t z c = true := fun h => (by have h9 := hS.nm.mp h; first | (exact absurd h9.1 (by omega)) | (obtain ⟨w, w1, w2⟩ := Y9; exact h9.2 w w1 w2)); exact PSt.no (by omega) (by rw [nmx_x M9]; have := flt_pos (t := t) (z := z) (c := c) (k := 1) (by decide); omega) (by rw [nmx_x M9, F8.2]; show _ = (1 : Int) + 16 * (lxP t z c : Int); have l9 : (1 : Int32).toInt = 1 := rfl; omega))⟩⟩
        · exfalso; omega
      · skip
        refine qw_aload rfl rfl ?_
        refine qw_const rfl ?_
        refine qw_invV (rest := []) rfl rfl rfl rfl rfl (Nat.le_of_ble_eq_true rfl) rfl (y_X6_fail (d := d0) a b v  1 (by omega) (by omega)) (fun z25 h9 hq26 => ?_)
        obtain ⟨a27, rfl, fa27, x28, rfl, px28⟩ := hq26
        show f_pq _ _ (49, [some (.inr (.inr (some 6))), some (.inl 0)], [.inl x28], cH a27 b v) _
        have F8 := fa27.2
        have z8 := px28
        refine qw_if_eq rfl (fun c29 => ?_) (fun c29 => ?_)
        · skip
          refine qw_const rfl ?_
          exact qwp_iret (z := true) rfl (fun _ => by first | exact Or.inl rfl | exact Or.inr rfl | (rcases (by omega : (0 : Int32).toInt = 0 ∨ (0 : Int32).toInt = 1) with h8 | h8; exact Or.inl (ti_eq h8); exact Or.inr (ti_eq h8))) ⟨a27, rfl, ⟨FR.tr (FR.rf) (FR.sub fa27.1 (by first | exact (fun _ h9 => h9) | decide | (intro c9 h9; simp only [List.mem_cons, List.not_mem_nil, or_false] at h9 ⊢; omega) | (intro c9 h9; simp only [List.mem_cons, List.not_mem_nil, or_false] at h9; exact cA_mem (by omega)) | (intro c9 h9; simp only [List.mem_cons, List.not_mem_nil, or_false] at h9; exact cB_mem (by omega)) | exact cA_sub)), F8.1⟩, ⟨_, rfl, by first | (exfalso; omega) | exact PSt.ok rfl (nmx_1 (hS.nm.mpr ⟨by omega, N9⟩)) (by assumption) | (have M9 : ¬ isNm t z c = true := fun h => (by have h9 := hS.nm.mp h; first | (exact absurd h9.1 (by omega)) | (obtain ⟨w, w1, w2⟩ := Y9; exact h9.2 w w1 w2)); exact PSt.no (by omega) (by rw [nmx_x M9]; have := flt_pos (t := t) (z := z) (c := c) (k := 1) (by decide); omega) (by rw [nmx_x M9, F8.2]; show _ = (1 : Int) + 16 * (lxP t z c : Int); have l9 : (1 : Int32).toInt = 1 := rfl; omega))⟩⟩
        · skip
          refine qw_const rfl ?_
          refine qw_goto rfl ?_
          exact qwp_iret (z := true) rfl (fun _ => by first | exact Or.inl rfl | exact Or.inr rfl | (rcases (by omega : (1 : Int32).toInt = 0 ∨ (1 : Int32).toInt = 1) with h8 | h8; exact Or.inl (ti_eq h8); exact Or.inr (ti_eq h8))) ⟨a27, rfl, ⟨FR.tr (FR.rf) (FR.sub fa27.1 (by first | exact (fun _ h9 => h9) | decide | (intro c9 h9; simp only [List.mem_cons, List.not_mem_nil, or_false] at h9 ⊢; omega) | (intro c9 h9; simp only [List.mem_cons, List.not_mem_nil, or_false] at h9; exact cA_mem (by omega)) | (intro c9 h9; simp only [List.mem_cons, List.not_mem_nil, or_false] at h9; exact cB_mem (by omega)) | exact cA_sub)), F8.1⟩, ⟨_, rfl, by first | (exfalso; omega) | exact PSt.ok rfl (nmx_1 (hS.nm.mpr ⟨by omega, N9⟩)) (by assumption) | (have M9 : ¬ isNm t z c = true := fun h => (by have h9 := hS.nm.mp h; first | (exact absurd h9.1 (by omega)) | (obtain ⟨w, w1, w2⟩ := Y9; exact h9.2 w w1 w2)); exact PSt.no (by omega) (by rw [nmx_x M9]; have := flt_pos (t := t) (z := z) (c := c) (k := 1) (by decide); omega) (by rw [nmx_x M9, F8.2]; show _ = (1 : Int) + 16 * (lxP t z c : Int); have l9 : (1 : Int32).toInt = 1 := rfl; omega))⟩⟩
set_option maxRecDepth 4000 in
theorem y_X3_riverNamed {d : Nat} (a : Nat → Nat → Int32) (b : Nat → Nat → Int64) (v : Nat → Option Nat) (L : Nat) (k : Int64) (hL : L = 22 ∨ L = 46) (h7 : 0 ≤ (a L 7).toInt ∧ (a L 7).toInt ≤ 6) : f_pc mtC d 13 [.inr (.inr (some L)), .inr (.inl k)] (cH a b v) (fun v9 h' => h' = cH a b v ∧ ∃ x : Int32, v9 = some (.inl x) ∧ (x.toInt = fnd (fun i => b (L + 1 + 11 + 2 * i) 1) k (a L 7).toInt.toNat)) := by
  refine f_pc_of rfl (fun d0 fu hd => ?_)
  show f_pq _ _ (0, [some (.inr (.inr (some L))), some (.inr (.inl k)), none, none], [], cH a b v) _
  have lm1 : (-1 : Int32).toInt = -1 := rfl
  have l0 : (0 : Int32).toInt = 0 := rfl
  have l1 : (1 : Int32).toInt = 1 := rfl
  refine qw_const rfl ?_
  refine qw_istore (lo' := [some (.inr (.inr (some L))), some (.inr (.inl k)), none, some (.inl 0)]) rfl rfl ?_
  have loop2 : ∀ (fu2 : Nat) (i : Int32) ,  (0 ≤ i.toInt ∧ i.toInt ≤ (a L 7).toInt) → (∀ j, j < i.toInt.toNat → (fun i => b (L + 1 + 11 + 2 * i) 1) j ≠ k) → f_pq (f_code (t_X3_riverNamed (f_ev mtC d0))) fu2 (2, [some (.inr (.inr (some L))), some (.inr (.inl k)), none, some (.inl i)], [], cH a b v) (fun v9 h' => h' = cH a b v ∧ ∃ x : Int32, v9 = some (.inl x) ∧ (x.toInt = fnd (fun i => b (L + 1 + 11 + 2 * i) 1) k (a L 7).toInt.toNat)) := by
    intro fu2
    induction fu2 with
    | zero => intros; exact pq_0
    | succ fu2 ih2 =>
      intro i  hi hn
      refine qw_iload rfl rfl ?_
      refine qw_aload rfl rfl ?_
      refine qc_getI rfl (sh_land (by omega)) rfl rfl ?_
      refine qw_ic_ge rfl (fun c1 => ?_) (fun c1 => ?_)
      · skip
        refine qw_const rfl ?_
        exact qwp_iret (z := false) rfl (fun h9 => by cases h9) ⟨rfl, ⟨_, rfl, by have e9 : (a L 7).toInt.toNat ≤ i.toInt.toNat := (by omega); exact Eq.trans (b := (-1 : Int)) (by rfl) (fnd_no (a L 7).toInt.toNat (fun j hj => hn j (by omega))).symm⟩⟩
      · skip
        refine qw_aload rfl rfl ?_
        refine qc_getR (t := some (L + 1)) rfl (sh_land (by omega)) rfl rfl (rC_land0 (by omega)) ?_
        refine qw_iload rfl rfl ?_
        refine qc_aald5 (t := some ((L + 1) + 11 + 2 * i.toInt.toNat)) rfl (sh_row (by omega)) (rC_row (by omega)) (fun jr15 => ?_)
        refine qc_getL rfl (sh_riv (by omega)) rfl rfl ?_
        refine qw_lload rfl rfl ?_
        refine qw_lcmpE rfl (fun x2 tx2 => ?_)
        have CM := tx2
        refine qw_if_ne rfl (fun c3 => ?_) (fun c3 => ?_)
        · skip
          refine qw_iload rfl rfl ?_
          exact qwp_iret (z := false) rfl (fun h9 => by cases h9) ⟨rfl, ⟨_, rfl, by have e9 := fnd_at (M := (fun i => b (L + 1 + 11 + 2 * i) 1)) (v := k) (k := i.toInt.toNat) ((cmp_0 CM).mp (by omega)) (a L 7).toInt.toNat (by omega) hn; rw [e9]; omega⟩⟩
        · skip
          refine qw_iinc (lo' := fun z9 => [some (.inr (.inr (some L))), some (.inr (.inl k)), none, some (.inl z9)]) rfl rfl (fun _ => rfl) (by omega) (fun x4 tx4 => ?_)
          exact qw_gotoD rfl (ih2 x4  (by omega) (fun j hj => by rcases (by omega : j < i.toInt.toNat ∨ j = i.toInt.toNat) with h | h; exact hn j h; (rw [h]; intro q; have q9 := (cmp_0 CM).mpr q; omega)))
  exact loop2 _ 0  (by omega) (fun j hj => absurd hj (by rw [show (0 : Int32).toInt.toNat = 0 from rfl]; omega))
set_option maxRecDepth 4000 in
theorem y_X6_isToldName {d : Nat} (a : Nat → Nat → Int32) (b : Nat → Nat → Int64) (v : Nat → Option Nat) (z : Nat) (N : Nat) (c : Nat) (t : Nat → Int32) (L : Nat) (M : Nat → Int64)  (hw : f_wdb (v 2) = true) (h3L : v 3 = some L) (hS : CSt t z N c a b v) (hL : L = 22 ∨ L = 46) (h7 : 0 ≤ (a L 7).toInt ∧ (a L 7).toInt ≤ 6) (hN : NMC t z (a L 7).toInt.toNat M (fun i => b (L + 1 + 11 + 2 * i) 1)) : f_pc mtC d 55 [.inr (.inr (some 6))] (cH a b v) (fun v9 h' => ∃ (a' : Nat → Nat → Int32), h' = cH a' b v ∧ (FR [6] a a' ∧ (∀ j, j ≠ 9 → j ≠ 10 → a' 6 j = a 6 j)) ∧ ∃ x : Int32, v9 = some (.inl x) ∧ (PSt t z N c (tdE t z M (a L 7).toInt.toNat c) x a' b v ∧ (tdE t z M (a L 7).toInt.toNat c = 0 → (a' 6 9).toInt = fnd M (lxV fM t z c) (a L 7).toInt.toNat))) := by
  refine f_pc_of rfl (fun d0 fu hd => ?_)
  show f_pq _ _ (0, [some (.inr (.inr (some 6)))], [], cH a b v) _
  have lm1 : (-1 : Int32).toInt = -1 := rfl
  have l0 : (0 : Int32).toInt = 0 := rfl
  have l1 : (1 : Int32).toInt = 1 := rfl
  have l2 : (2 : Int32).toInt = 2 := rfl
  obtain ⟨s0, s1, s2, s3, s4, s5, s6⟩ := hS.pl
  refine qw_aload rfl rfl ?_
  refine qw_invV (rest := []) rfl rfl rfl rfl rfl (Nat.le_of_ble_eq_true rfl) rfl (y_X6_isName (d := d0) a b v z N c t  (hw) (by omega)) (fun z1 h9 hq2 => ?_)
  obtain ⟨a3, rfl, fa3, x4, rfl, px4⟩ := hq2
  show f_pq _ _ (4, [some (.inr (.inr (some 6)))], [.inl x4], cH a3 b v) _
  have p9 := px4
  have F1 := fa3.2
  have e7 := fa3.1 L (by simp only [List.mem_cons, List.not_mem_nil, or_false, not_or]; omega)
  refine qw_if_ne rfl (fun c5 => ?_) (fun c5 => ?_)
  · skip
    have D0 : ¬ isNm t z c = true ∧ (a3 6 10).toInt = flt t z c 1 := by rcases p9 with h | h; omega; exact ⟨fun q => h.2.1 (nmx_0.mpr q), by rw [h.2.2, nmx_x (fun q => h.2.1 (nmx_0.mpr q))]⟩
    refine qw_const rfl ?_
    exact qwp_iret (z := true) rfl (fun _ => by first | exact Or.inl rfl | exact Or.inr rfl | (rcases (by omega : (0 : Int32).toInt = 0 ∨ (0 : Int32).toInt = 1) with h8 | h8; exact Or.inl (ti_eq h8); exact Or.inr (ti_eq h8))) ⟨a3, rfl, ⟨FR.tr (FR.rf) (FR.sub fa3.1 (by first | exact (fun _ h9 => h9) | decide | (intro c9 h9; simp only [List.mem_cons, List.not_mem_nil, or_false] at h9 ⊢; omega) | (intro c9 h9; simp only [List.mem_cons, List.not_mem_nil, or_false] at h9; exact cA_mem (by omega)) | (intro c9 h9; simp only [List.mem_cons, List.not_mem_nil, or_false] at h9; exact cB_mem (by omega)) | exact cA_sub)), fun j _ h9 => F1 j h9⟩, ⟨_, rfl, ⟨PSt.no rfl (by unfold tdE; rw [if_neg D0.1]; have := flt_pos (t := t) (z := z) (c := c) (k := 1) (by decide); omega) (by unfold tdE; rw [if_neg D0.1]; exact D0.2), fun h => absurd h (by unfold tdE; rw [if_neg D0.1]; have := flt_pos (t := t) (z := z) (c := c) (k := 1) (by decide); omega)⟩⟩⟩
  · skip
    have D1 : isNm t z c = true ∧ CSt t z N c a3 b v := by rcases p9 with h | h; exact ⟨nmx_0.mp h.2.1, h.2.2⟩; omega
    refine qw_aload rfl rfl ?_
    refine qw_aload rfl rfl ?_
    refine qc_getR (t := some L) rfl rfl rfl rfl h3L ?_
    refine qw_aload rfl rfl ?_
    refine qc_getR (t := some 1) rfl rfl rfl rfl rfl ?_
    refine qc_getL rfl rfl rfl rfl ?_
    refine qw_invV (rest := [.inr (.inr (some 6))]) rfl rfl (sh_land (by omega)) rfl rfl (Nat.le_of_ble_eq_true rfl) rfl (y_X3_riverNamed (d := d0) a3 b v  L (b 1 10) (by omega) (by rw [e7]; exact h7)) (fun z6 h9 hq7 => ?_)
    obtain ⟨rfl, x8, rfl, px8⟩ := hq7
    show f_pq _ _ (24, [some (.inr (.inr (some 6)))], [.inl x8, .inr (.inr (some 6))], cH a3 b v) _
    have f9 := px8
    rw [e7, D1.2.keyn D1.1, hN.fnd ((isNm_iff.mp D1.1).1)] at f9
    refine qc_putI (z := false) rfl rfl rfl rfl (by first | (intro h9; cases h9; done) | (intro _; first | exact Or.inl rfl | exact Or.inr rfl | assumption | (rcases (by omega : x8.toInt = 0 ∨ x8.toInt = 1) with h8 | h8; exact Or.inl (ti_eq h8); exact Or.inr (ti_eq h8)))) (fun a9 ea9 => ?_)
    have ua9 : a9 6 9 = x8 := by rw [ea9, mU_same]
    have wa9 := congrArg Int32.toInt ua9
    have C2 := D1.2.fr (a' := a9) (by rw [ea9, mU_cell (by decide)]) (by rw [ea9, mU_cell (by decide)]) (by rw [ea9, mU_cell (by decide)]) (by rw [ea9, mU_slot (by decide)])
    have V2 : (a9 6 9).toInt = fnd M (lxV fM t z c) (a L 7).toInt.toNat := by rw [ea9, mU_same]; exact f9
    have K2 := C2.pl
    refine qw_aload rfl rfl ?_
    refine qc_getI rfl rfl rfl rfl ?_
    refine qw_const rfl ?_
    refine qw_ic_ne rfl (fun c10 => ?_) (fun c10 => ?_)
    · skip
      refine qw_aload rfl rfl ?_
      refine qw_const rfl ?_
      refine qw_invV (rest := []) rfl rfl rfl rfl rfl (Nat.le_of_ble_eq_true rfl) rfl (y_X6_fail (d := d0) a9 b v  2 (by omega) (by omega)) (fun z11 h9 hq12 => ?_)
      obtain ⟨a13, rfl, fa13, x14, rfl, px14⟩ := hq12
      show f_pq _ _ (40, [some (.inr (.inr (some 6)))], [.inl x14], cH a13 b v) _
      have F8 := fa13.2
      have z8 := px14
      refine qw_if_eq rfl (fun c15 => ?_) (fun c15 => ?_)
      · skip
        refine qw_const rfl ?_
        exact qwp_iret (z := true) rfl (fun _ => by first | exact Or.inl rfl | exact Or.inr rfl | (rcases (by omega : (0 : Int32).toInt = 0 ∨ (0 : Int32).toInt = 1) with h8 | h8; exact Or.inl (ti_eq h8); exact Or.inr (ti_eq h8))) ⟨a13, rfl, ⟨FR.tr (FR.up (FR.tr (FR.rf) (FR.sub fa3.1 (by first | exact (fun _ h9 => h9) | decide | (intro c9 h9; simp only [List.mem_cons, List.not_mem_nil, or_false] at h9 ⊢; omega) | (intro c9 h9; simp only [List.mem_cons, List.not_mem_nil, or_false] at h9; exact cA_mem (by omega)) | (intro c9 h9; simp only [List.mem_cons, List.not_mem_nil, or_false] at h9; exact cB_mem (by omega)) | exact cA_sub))) (by first | decide | (simp; done) | exact cA_mem (by omega) | exact cB_mem (by omega)) ea9) (FR.sub fa13.1 (by first | exact (fun _ h9 => h9) | decide | (intro c9 h9; simp only [List.mem_cons, List.not_mem_nil, or_false] at h9 ⊢; omega) | (intro c9 h9; simp only [List.mem_cons, List.not_mem_nil, or_false] at h9; exact cA_mem (by omega)) | (intro c9 h9; simp only [List.mem_cons, List.not_mem_nil, or_false] at h9; exact cB_mem (by omega)) | exact cA_sub)), fun j h8 h9 => by rw [F8.1 j h9, ea9, mU_slot h8]; exact F1 j h9⟩, ⟨_, rfl, ⟨PSt.no (by first | rfl | omega) (by unfold tdE; rw [if_pos D1.1, if_neg (by omega)]; have := flt_pos (t := t) (z := z) (c := c) (k := 2) (by decide); omega) (by unfold tdE; rw [if_pos D1.1, if_neg (by omega), F8.2]; show _ = (2 : Int) + 16 * (lxP t z c : Int); have l9 : (2 : Int32).toInt = 2 := rfl; omega), fun h => absurd h (by unfold tdE; rw [if_pos D1.1, if_neg (by omega)]; have := flt_pos (t := t) (z := z) (c := c) (k := 2) (by decide); omega)⟩⟩⟩
      · skip
        refine qw_const rfl ?_
        refine qw_goto rfl ?_
        exact qwp_iret (z := true) rfl (fun _ => by first | exact Or.inl rfl | exact Or.inr rfl | (rcases (by omega : (1 : Int32).toInt = 0 ∨ (1 : Int32).toInt = 1) with h8 | h8; exact Or.inl (ti_eq h8); exact Or.inr (ti_eq h8))) ⟨a13, rfl, ⟨FR.tr (FR.up (FR.tr (FR.rf) (FR.sub fa3.1 (by first | exact (fun _ h9 => h9) | decide | (intro c9 h9; simp only [List.mem_cons, List.not_mem_nil, or_false] at h9 ⊢; omega) | (intro c9 h9; simp only [List.mem_cons, List.not_mem_nil, or_false] at h9; exact cA_mem (by omega)) | (intro c9 h9; simp only [List.mem_cons, List.not_mem_nil, or_false] at h9; exact cB_mem (by omega)) | exact cA_sub))) (by first | decide | (simp; done) | exact cA_mem (by omega) | exact cB_mem (by omega)) ea9) (FR.sub fa13.1 (by first | exact (fun _ h9 => h9) | decide | (intro c9 h9; simp only [List.mem_cons, List.not_mem_nil, or_false] at h9 ⊢; omega) | (intro c9 h9; simp only [List.mem_cons, List.not_mem_nil, or_false] at h9; exact cA_mem (by omega)) | (intro c9 h9; simp only [List.mem_cons, List.not_mem_nil, or_false] at h9; exact cB_mem (by omega)) | exact cA_sub)), fun j h8 h9 => by rw [F8.1 j h9, ea9, mU_slot h8]; exact F1 j h9⟩, ⟨_, rfl, ⟨PSt.no (by first | rfl | omega) (by unfold tdE; rw [if_pos D1.1, if_neg (by omega)]; have := flt_pos (t := t) (z := z) (c := c) (k := 2) (by decide); omega) (by unfold tdE; rw [if_pos D1.1, if_neg (by omega), F8.2]; show _ = (2 : Int) + 16 * (lxP t z c : Int); have l9 : (2 : Int32).toInt = 2 := rfl; omega), fun h => absurd h (by unfold tdE; rw [if_pos D1.1, if_neg (by omega)]; have := flt_pos (t := t) (z := z) (c := c) (k := 2) (by decide); omega)⟩⟩⟩
    · skip
      refine qw_const rfl ?_
      refine qw_goto rfl ?_
      exact qwp_iret (z := true) rfl (fun _ => by first | exact Or.inl rfl | exact Or.inr rfl | (rcases (by omega : (1 : Int32).toInt = 0 ∨ (1 : Int32).toInt = 1) with h8 | h8; exact Or.inl (ti_eq h8); exact Or.inr (ti_eq h8))) ⟨a9, rfl, ⟨FR.up (FR.tr (FR.rf) (FR.sub fa3.1 (by first | exact (fun _ h9 => h9) | decide | (intro c9 h9; simp only [List.mem_cons, List.not_mem_nil, or_false] at h9 ⊢; omega) | (intro c9 h9; simp only [List.mem_cons, List.not_mem_nil, or_false] at h9; exact cA_mem (by omega)) | (intro c9 h9; simp only [List.mem_cons, List.not_mem_nil, or_false] at h9; exact cB_mem (by omega)) | exact cA_sub))) (by first | decide | (simp; done) | exact cA_mem (by omega) | exact cB_mem (by omega)) ea9, fun j h8 h9 => by rw [ea9, mU_slot h8]; exact F1 j h9⟩, ⟨_, rfl, ⟨PSt.ok rfl (by unfold tdE; rw [if_pos D1.1, if_pos (by have g9 := fnd_lo M (lxV fM t z c) (a L 7).toInt.toNat; omega)]) C2, fun _ => V2⟩⟩⟩
