set_option maxRecDepth 4000 in
theorem y_X6_formulaLine {d : Nat} (a : Nat → Nat → Int32) (b : Nat → Nat → Int64) (v : Nat → Option Nat) (z : Nat) (N : Nat) (c : Nat) (t : Nat → Int32) (L : Nat) (V : Nat → Int) (M : Nat → Int64) (o : Nat → Bool) (i : Nat) (fm : Int) (p : Int32) (hw : f_wdb (v 2) = true) (h3L : v 3 = some L) (hL : L = 22 ∨ L = 46) (hS : CSt t z N c a b v) (hC : CLN t z L V M a b) (hO : OB o (a 6 8)) (hk0 : ¬ lxK t z c = 0) (hi : (i = 2 ∧ fm = 4) ∨ (i = 3 ∧ fm = 2)) (hpi : p = nI (2 ^ i)) : f_pc mtC d 69 [.inr (.inr (some 6)), .inl p] (cH a b v) (fun v9 h' => ∃ (a' : Nat → Nat → Int32) (b' : Nat → Nat → Int64) (v' : Nat → Option Nat), h' = cH a' b' v' ∧ (FR [1, 6, L + 4, L + 5, L + 7, L + 8] a a' ∧ ((∀ i, i ∉ [2, 4] → v' i = v i) ∧ f_wdb (v' 2) = true) ∧ True) ∧ ∃ x : Int32, v9 = some (.inl x) ∧ ((¬ onF t z c o i = 0 ∧ x.toInt = 0 ∧ (a' 6 10).toInt = onF t z c o i) ∨ (onF t z c o i = 0 ∧ OB (upO o i) (a' 6 8) ∧ CLN t z L V M a' b' ∧ ∃ r : Int × Nat, EX t z fm 0 0 (c + 1) r ∧ PSt t z N r.2 r.1 x a' b' v'))) := by
  refine f_pc_of rfl (fun d0 fu hd => ?_)
  show f_pq _ _ (0, [some (.inr (.inr (some 6))), some (.inl p)], [], cH a b v) _
  have l0 : (0 : Int32).toInt = 0 := rfl
  have l1 : (1 : Int32).toInt = 1 := rfl
  have l4 : (4 : Int32).toInt = 4 := rfl
  have hp4 : (p.toInt = 4 ∧ i = 2 ∧ fm = 4) ∨ (p.toInt = 8 ∧ i = 3 ∧ fm = 2) := by rcases hi with ⟨h1, h2⟩ | ⟨h1, h2⟩; exact Or.inl ⟨by rw [hpi, h1]; rfl, h1, h2⟩; exact Or.inr ⟨by rw [hpi, h1]; rfl, h1, h2⟩
  refine qw_aload rfl rfl ?_
  refine qw_iload rfl rfl ?_
  refine qw_invV (rest := []) rfl rfl rfl rfl rfl (Nat.le_of_ble_eq_true rfl) rfl (y_X6_passOnce (d := d0) a b v z N c t o i p (hw) (by omega) (by omega) (by omega) (by omega) (hpi)) (fun z1 h9 hq2 => ?_)
  obtain ⟨a3, b4, v5, rfl, fa3, x6, rfl, px6⟩ := hq2
  show f_pq _ _ (5, [some (.inr (.inr (some 6))), some (.inl p)], [.inl x6], cH a3 b4 v5) _
  have p9 : Hid (PSt t z N (c + 1) (onF t z c o i) x6 a3 b4 v5 ∧ (onF t z c o i = 0 → OB (upO o i) (a3 6 8))) := px6
  clear px6
  have w7 := fa3.2.1.2
  have k7 := fa3.2.2
  refine qw_if_ne rfl (fun c7 => ?_) (fun c7 => ?_)
  · skip
    have Z8 := p9.1.not c7
    refine qw_const rfl ?_
    exact qwp_iret (z := true) rfl (fun _ => by first | exact Or.inl rfl | exact y2.bv) ⟨a3, b4, v5, rfl, ⟨FR.tr (FR.rf) (FR.sub fa3.1 (by first | exact (fun _ h9 => h9) | decide | (intro c9 h9; simp only [List.mem_cons, List.not_mem_nil, or_false] at h9 ⊢; omega) | (intro c9 h9; simp only [List.mem_cons, List.not_mem_nil, or_false] at h9; exact cA_mem (by omega)) | (intro c9 h9; simp only [List.mem_cons, List.not_mem_nil, or_false] at h9; exact cB_mem (by omega)) | exact cA_sub)), ⟨fun i9 h9 => (fa3.2.1.1 i9 (fun z9 => h9 (by first | exact z9 | (revert z9; simp; done) | (revert z9; simp; omega)))).trans ((show ∀ i9, i9 ∉ [2, 4] → v i9 = v i9 from (fun _ _ => rfl)) i9 h9), w7⟩, trivial⟩, ⟨_, rfl, Or.inl ⟨Z8.1, rfl, Z8.2⟩⟩⟩
  · skip
    have T1 := p9.1.yes c7
    have O1 := p9.2 T1.1
    have H1 : CLN t z L V M a3 b4 := hC.same hL (fun i9 h9 => by rw [fa3.1 i9 (by simp only [List.mem_cons, List.not_mem_nil, or_false, not_or]; omega)]) (fun i9 h9 => k7.2 i9 h9)
    refine qw_aload rfl rfl ?_
    refine qw_iload rfl rfl ?_
    refine qw_const rfl ?_
    refine qw_ic_ne rfl (fun c8 => ?_) (fun c8 => ?_)
    · skip
      skip
      refine qw_const rfl ?_
      refine qw_goto rfl ?_
      refine qc_putI (z := true) rfl rfl rfl rfl (by first | (intro h9; cases h9; done) | (intro _; first | exact Or.inl rfl | exact Or.inr rfl | assumption | (rcases (by omega : (1 : Int32).toInt = 0 ∨ (1 : Int32).toInt = 1) with h8 | h8; exact Or.inl (ti_eq h8); exact Or.inr (ti_eq h8)))) (fun a9 ea9 => ?_)
      have ua9 : a9 6 7 = (1 : Int32) := by rw [ea9, mU_same]
      have wa9 := congrArg Int32.toInt ua9
      have hD1 : dow fm a9 := by unfold dow; rw [ea9, mU_same]; omega
      have C2 := T1.2.fr (a' := a9) (by rw [ea9, mU_cell (by decide)]) (by rw [ea9, mU_cell (by decide)]) (by rw [ea9, mU_cell (by decide)]) (by rw [ea9, mU_slot (by decide)])
      refine qw_aload rfl rfl ?_
      refine qw_aload rfl rfl ?_
      refine qc_getI rfl rfl rfl rfl ?_
      refine qw_if_eq rfl (fun c10 => ?_) (fun c10 => ?_)
      · exfalso; omega
      · skip
        refine qw_aload rfl rfl ?_
        refine qc_getR (t := some L) rfl rfl rfl rfl ((fa3.2.1.1 3 (by decide)).trans h3L) ?_
        refine qc_getR (t := some (L + 4)) rfl (sh_land (by omega)) rfl rfl (rC_land3 (by omega)) ?_
        refine qw_goto rfl ?_
        refine qc_putR rfl rfl rfl rfl rC_put4 (fun v11 ev11 => ?_)
        have C3 := C2.vv (v' := v11) (by rw [ev11]; exact vU_ne (by decide))
        refine qw_aload rfl rfl ?_
        refine qc_getR (t := some (L + 4)) rfl rfl rfl rfl (show v11 4 = some (L + 4) from by rw [ev11]; exact vU_same) ?_
        refine qw_invV (rest := []) rfl rfl (sh_form (by omega)) rfl rfl (Nat.le_of_ble_eq_true rfl) rfl (y_X2_clear (d := d0) a9 b4 v11  (L + 4) (by omega)) (fun z12 h9 hq13 => ?_)
        obtain ⟨a14, rfl, fa14, rfl⟩ := hq13
        show f_pq _ _ (59, [some (.inr (.inr (some 6))), some (.inl p)], [], cH a14 b4 v11) _
        have C4 := C3.fr (a' := a14) (fa14.1 1 (by simp only [List.mem_cons, List.not_mem_nil, or_false, not_or]; omega)) (fa14.1 3 (by simp only [List.mem_cons, List.not_mem_nil, or_false, not_or]; omega)) (fa14.1 4 (by simp only [List.mem_cons, List.not_mem_nil, or_false, not_or]; omega)) (by rw [fa14.1 6 (by simp only [List.mem_cons, List.not_mem_nil, or_false, not_or]; omega)])
        have hD4 := hD1.same (a' := a14) (by rw [fa14.1 6 (by simp only [List.mem_cons, List.not_mem_nil, or_false, not_or]; omega)])
        refine qw_aload rfl rfl ?_
        refine qw_const rfl ?_
        refine qw_invV (rest := []) rfl rfl rfl rfl rfl (Nat.le_of_ble_eq_true rfl) rfl ((y_CX d0).1 a14 b4 v11 z N (c + 1) t fm 0 (L + 4) 0 (by rw [(show v11 2 = v5 2 from by rw [ev11]; exact vU_ne (by decide))]; exact fa3.2.1.2) (show v11 4 = some (L + 4) from by rw [ev11]; exact vU_same) (by omega) rfl (by decide) hD4 C4) (fun z15 h9 hq16 => ?_)
        obtain ⟨a17, b18, v19, rfl, fa17, x20, rfl, px20⟩ := hq16
        show f_pq _ _ (64, [some (.inr (.inr (some 6))), some (.inl p)], [.inl x20], cH a17 b18 v19) _
        obtain ⟨r, y1, y2⟩ := px20
        have w8x := fa17.2.1.2
        exact qwp_iret (z := true) rfl (fun _ => by first | exact Or.inl rfl | exact y2.bv) ⟨a17, b18, v19, rfl, ⟨FR.tr (FR.tr (FR.up (FR.tr (FR.rf) (FR.sub fa3.1 (by first | exact (fun _ h9 => h9) | decide | (intro c9 h9; simp only [List.mem_cons, List.not_mem_nil, or_false] at h9 ⊢; omega) | (intro c9 h9; simp only [List.mem_cons, List.not_mem_nil, or_false] at h9; exact cA_mem (by omega)) | (intro c9 h9; simp only [List.mem_cons, List.not_mem_nil, or_false] at h9; exact cB_mem (by omega)) | exact cA_sub))) (by first | decide | (simp; done) | exact cA_mem (by omega) | exact cB_mem (by omega)) ea9) (FR.sub fa14.1 (by first | exact (fun _ h9 => h9) | decide | (intro c9 h9; simp only [List.mem_cons, List.not_mem_nil, or_false] at h9 ⊢; omega) | (intro c9 h9; simp only [List.mem_cons, List.not_mem_nil, or_false] at h9; exact cA_mem (by omega)) | (intro c9 h9; simp only [List.mem_cons, List.not_mem_nil, or_false] at h9; exact cB_mem (by omega)) | exact cA_sub))) (FR.sub fa17.1 (by first | exact (fun _ h9 => h9) | decide | (intro c9 h9; simp only [List.mem_cons, List.not_mem_nil, or_false] at h9 ⊢; omega) | (intro c9 h9; simp only [List.mem_cons, List.not_mem_nil, or_false] at h9; exact cA_mem (by omega)) | (intro c9 h9; simp only [List.mem_cons, List.not_mem_nil, or_false] at h9; exact cB_mem (by omega)) | exact cA_sub)), ⟨fun i9 h9 => (fa17.2.1.1 i9 (fun z9 => h9 (by first | exact z9 | (revert z9; simp; done) | (revert z9; simp; omega)))).trans ((show ∀ i9, i9 ∉ [2, 4] → v11 i9 = v i9 from fun i9 h9 => (show v11 i9 = v5 i9 from by rw [ev11]; exact vU_ne (fun z9 => h9 (by rw [z9]; decide))).trans ((show ∀ i9, i9 ∉ [2, 4] → v5 i9 = v i9 from fun i9 h9 => (fa3.2.1.1 i9 (fun z9 => h9 (by first | exact z9 | (revert z9; simp; done) | (revert z9; simp; omega)))).trans ((show ∀ i9, i9 ∉ [2, 4] → v i9 = v i9 from (fun _ _ => rfl)) i9 h9)) i9 h9)) i9 h9), w8x⟩, trivial⟩, ⟨_, rfl, Or.inr ⟨T1.1, by rw [fa17.2.2.1 8 (by decide), fa14.1 6 (by simp only [List.mem_cons, List.not_mem_nil, or_false, not_or]; omega), ea9, mU_slot (by decide)]; exact O1, H1.same hL (fun i9 h9 => by rw [fa17.1 i9 (by simp only [List.mem_cons, List.not_mem_nil, or_false, not_or]; omega), fa14.1 i9 (by simp only [List.mem_cons, List.not_mem_nil, or_false, not_or]; omega), ea9, mU_cell (by omega)]) (fun i9 h9 => fa17.2.2.2 i9 h9), r, y1, y2⟩⟩⟩
    · skip
      skip
      refine qw_const rfl ?_
      refine qc_putI (z := true) rfl rfl rfl rfl (by first | (intro h9; cases h9; done) | (intro _; first | exact Or.inl rfl | exact Or.inr rfl | assumption | (rcases (by omega : (0 : Int32).toInt = 0 ∨ (0 : Int32).toInt = 1) with h8 | h8; exact Or.inl (ti_eq h8); exact Or.inr (ti_eq h8)))) (fun a21 ea21 => ?_)
      have ua21 : a21 6 7 = (0 : Int32) := by rw [ea21, mU_same]
      have wa21 := congrArg Int32.toInt ua21
      have hD1 : dow fm a21 := by unfold dow; rw [ea21, mU_same]; omega
      have C2 := T1.2.fr (a' := a21) (by rw [ea21, mU_cell (by decide)]) (by rw [ea21, mU_cell (by decide)]) (by rw [ea21, mU_cell (by decide)]) (by rw [ea21, mU_slot (by decide)])
      refine qw_aload rfl rfl ?_
      refine qw_aload rfl rfl ?_
      refine qc_getI rfl rfl rfl rfl ?_
      refine qw_if_eq rfl (fun c22 => ?_) (fun c22 => ?_)
      · skip
        refine qw_aload rfl rfl ?_
        refine qc_getR (t := some L) rfl rfl rfl rfl ((fa3.2.1.1 3 (by decide)).trans h3L) ?_
        refine qc_getR (t := some (L + 7)) rfl (sh_land (by omega)) rfl rfl (rC_land4 (by omega)) ?_
        refine qc_putR rfl rfl rfl rfl rC_put4 (fun v23 ev23 => ?_)
        have C3 := C2.vv (v' := v23) (by rw [ev23]; exact vU_ne (by decide))
        refine qw_aload rfl rfl ?_
        refine qc_getR (t := some (L + 7)) rfl rfl rfl rfl (show v23 4 = some (L + 7) from by rw [ev23]; exact vU_same) ?_
        refine qw_invV (rest := []) rfl rfl (sh_form (by omega)) rfl rfl (Nat.le_of_ble_eq_true rfl) rfl (y_X2_clear (d := d0) a21 b4 v23  (L + 7) (by omega)) (fun z24 h9 hq25 => ?_)
        obtain ⟨a26, rfl, fa26, rfl⟩ := hq25
        show f_pq _ _ (59, [some (.inr (.inr (some 6))), some (.inl p)], [], cH a26 b4 v23) _
        have C4 := C3.fr (a' := a26) (fa26.1 1 (by simp only [List.mem_cons, List.not_mem_nil, or_false, not_or]; omega)) (fa26.1 3 (by simp only [List.mem_cons, List.not_mem_nil, or_false, not_or]; omega)) (fa26.1 4 (by simp only [List.mem_cons, List.not_mem_nil, or_false, not_or]; omega)) (by rw [fa26.1 6 (by simp only [List.mem_cons, List.not_mem_nil, or_false, not_or]; omega)])
        have hD4 := hD1.same (a' := a26) (by rw [fa26.1 6 (by simp only [List.mem_cons, List.not_mem_nil, or_false, not_or]; omega)])
        refine qw_aload rfl rfl ?_
        refine qw_const rfl ?_
        refine qw_invV (rest := []) rfl rfl rfl rfl rfl (Nat.le_of_ble_eq_true rfl) rfl ((y_CX d0).1 a26 b4 v23 z N (c + 1) t fm 0 (L + 7) 0 (by rw [(show v23 2 = v5 2 from by rw [ev23]; exact vU_ne (by decide))]; exact fa3.2.1.2) (show v23 4 = some (L + 7) from by rw [ev23]; exact vU_same) (by omega) rfl (by decide) hD4 C4) (fun z27 h9 hq28 => ?_)
        obtain ⟨a29, b30, v31, rfl, fa29, x32, rfl, px32⟩ := hq28
        show f_pq _ _ (64, [some (.inr (.inr (some 6))), some (.inl p)], [.inl x32], cH a29 b30 v31) _
        obtain ⟨r, y1, y2⟩ := px32
        have w8x := fa29.2.1.2
        exact qwp_iret (z := true) rfl (fun _ => by first | exact Or.inl rfl | exact y2.bv) ⟨a29, b30, v31, rfl, ⟨FR.tr (FR.tr (FR.up (FR.tr (FR.rf) (FR.sub fa3.1 (by first | exact (fun _ h9 => h9) | decide | (intro c9 h9; simp only [List.mem_cons, List.not_mem_nil, or_false] at h9 ⊢; omega) | (intro c9 h9; simp only [List.mem_cons, List.not_mem_nil, or_false] at h9; exact cA_mem (by omega)) | (intro c9 h9; simp only [List.mem_cons, List.not_mem_nil, or_false] at h9; exact cB_mem (by omega)) | exact cA_sub))) (by first | decide | (simp; done) | exact cA_mem (by omega) | exact cB_mem (by omega)) ea21) (FR.sub fa26.1 (by first | exact (fun _ h9 => h9) | decide | (intro c9 h9; simp only [List.mem_cons, List.not_mem_nil, or_false] at h9 ⊢; omega) | (intro c9 h9; simp only [List.mem_cons, List.not_mem_nil, or_false] at h9; exact cA_mem (by omega)) | (intro c9 h9; simp only [List.mem_cons, List.not_mem_nil, or_false] at h9; exact cB_mem (by omega)) | exact cA_sub))) (FR.sub fa29.1 (by first | exact (fun _ h9 => h9) | decide | (intro c9 h9; simp only [List.mem_cons, List.not_mem_nil, or_false] at h9 ⊢; omega) | (intro c9 h9; simp only [List.mem_cons, List.not_mem_nil, or_false] at h9; exact cA_mem (by omega)) | (intro c9 h9; simp only [List.mem_cons, List.not_mem_nil, or_false] at h9; exact cB_mem (by omega)) | exact cA_sub)), ⟨fun i9 h9 => (fa29.2.1.1 i9 (fun z9 => h9 (by first | exact z9 | (revert z9; simp; done) | (revert z9; simp; omega)))).trans ((show ∀ i9, i9 ∉ [2, 4] → v23 i9 = v i9 from fun i9 h9 => (show v23 i9 = v5 i9 from by rw [ev23]; exact vU_ne (fun z9 => h9 (by rw [z9]; decide))).trans ((show ∀ i9, i9 ∉ [2, 4] → v5 i9 = v i9 from fun i9 h9 => (fa3.2.1.1 i9 (fun z9 => h9 (by first | exact z9 | (revert z9; simp; done) | (revert z9; simp; omega)))).trans ((show ∀ i9, i9 ∉ [2, 4] → v i9 = v i9 from (fun _ _ => rfl)) i9 h9)) i9 h9)) i9 h9), w8x⟩, trivial⟩, ⟨_, rfl, Or.inr ⟨T1.1, by rw [fa29.2.2.1 8 (by decide), fa26.1 6 (by simp only [List.mem_cons, List.not_mem_nil, or_false, not_or]; omega), ea21, mU_slot (by decide)]; exact O1, H1.same hL (fun i9 h9 => by rw [fa29.1 i9 (by simp only [List.mem_cons, List.not_mem_nil, or_false, not_or]; omega), fa26.1 i9 (by simp only [List.mem_cons, List.not_mem_nil, or_false, not_or]; omega), ea21, mU_cell (by omega)]) (fun i9 h9 => fa29.2.2.2 i9 h9), r, y1, y2⟩⟩⟩
      · exfalso; omega
