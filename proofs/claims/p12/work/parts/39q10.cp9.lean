set_option maxRecDepth 4000 in
theorem y_X6_landLine {d : Nat} (a : Nat → Nat → Int32) (b : Nat → Nat → Int64) (v : Nat → Option Nat) (z : Nat) (N : Nat) (c : Nat) (t : Nat → Int32) (L : Nat) (V : Nat → Int) (M : Nat → Int64) (o : Nat → Bool)  (hw : f_wdb (v 2) = true) (h3L : v 3 = some L) (hL : L = 22 ∨ L = 46) (hS : CSt t z N c a b v) (hC : CLN t z L V M a b) (hO : OB o (a 6 8)) (hk0 : ¬ lxK t z c = 0) : f_pc mtC d 56 [.inr (.inr (some 6))] (cH a b v) (fun v9 h' => ∃ (a' : Nat → Nat → Int32) (b' : Nat → Nat → Int64) (v' : Nat → Option Nat), h' = cH a' b' v' ∧ (FR [1, 6, L, L + 2, L + 3, L + 4, L + 5, L + 7, L + 8, L + 12, L + 13, L + 14, L + 15, L + 16, L + 17, L + 18, L + 19, L + 20, L + 21, L + 22, L + 23] a a' ∧ ((∀ i, i ∉ [2, 4] → v' i = v i) ∧ f_wdb (v' 2) = true) ∧ True) ∧ ∃ x : Int32, v9 = some (.inl x) ∧ (LNR t z N L (c, V, M, o) x a' b' v')) := by
  refine f_pc_of rfl (fun d0 fu hd => ?_)
  show f_pq _ _ (0, [some (.inr (.inr (some 6)))], [], cH a b v) _
  have l1 : (1 : Int32).toInt = 1 := rfl
  have l4 : (4 : Int32).toInt = 4 := rfl
  have l8 : (8 : Int32).toInt = 8 := rfl
  obtain ⟨s0, s1, s2, s3, s4, s5, s6⟩ := hS.pl
  refine qw_aload rfl rfl ?_
  refine qc_getR (t := some 1) rfl rfl rfl rfl rfl ?_
  refine qc_getR (t := v 2) rfl rfl rfl rfl rfl ?_
  refine qc_ifnull rfl (fun c1 => ?_) (fun w2 c1 => ?_)
  · skip
    have W0 := hS.w0 c1
    refine qw_aload rfl rfl ?_
    refine qw_const rfl ?_
    refine qw_invV (rest := []) rfl rfl rfl rfl rfl (Nat.le_of_ble_eq_true rfl) rfl (y_X6_fail (d := d0) a b v  1 (by omega) (by omega)) (fun z3 h9 hq4 => ?_)
    obtain ⟨a5, rfl, fa5, x6, rfl, px6⟩ := hq4
    show f_pq _ _ (15, [some (.inr (.inr (some 6)))], [.inl x6], cH a5 b v) _
    have F8 := fa5.2
    have z8 := px6
    have LN9 : LNR t z N L (c, V, M, o) x6 a5 b v := LNR.f1 (by first | exact W0 0 (by decide) | exact fun h => by have h7 := (kw9 0 (by decide)).mp h; omega) (by first | exact W0 9 (by decide) | exact fun h => by have h7 := (kw9 9 (by decide)).mp h; omega) (by first | (rw [onW_no W0]; decide) | (rw [on9, if_neg (by omega), if_neg (by omega), if_neg (by omega), if_neg (by omega)]; decide)) z8 (by rw [F8.2]; show _ = (1 : Int) + 16 * (lxP t z (c) : Int); have l9 : (1 : Int32).toInt = 1 := rfl; omega)
    exact qwp_iret (z := true) rfl (fun _ => by obtain ⟨r, -, y2, -⟩ := LN9; exact y2.bv) ⟨a5, b, v, rfl, ⟨FR.tr (FR.rf) (FR.sub fa5.1 (by first | exact (fun _ h9 => h9) | decide | (intro c9 h9; simp only [List.mem_cons, List.not_mem_nil, or_false] at h9 ⊢; omega) | (intro c9 h9; simp only [List.mem_cons, List.not_mem_nil, or_false] at h9; exact cA_mem (by omega)) | (intro c9 h9; simp only [List.mem_cons, List.not_mem_nil, or_false] at h9; exact cB_mem (by omega)) | exact cA_sub)), ⟨(fun _ _ => rfl), hw⟩, trivial⟩, ⟨_, rfl, LN9⟩⟩
  · skip
    have w9 := f_wdb_lt hw w2 c1
    have kw9 := hS.wu c1 w9.1
    have on9 := onW_w kw9
    refine qw_const rfl ?_
    refine qw_aload rfl rfl ?_
    refine qc_getR (t := some 1) rfl rfl rfl rfl rfl ?_
    refine qc_getR (t := v 2) rfl rfl rfl rfl rfl ?_
    rw [c1]
    refine qc_invW (rest := [.inr (.inr (some 1032))]) rfl rfl (pW_some (by omega)) rfl (Nat.le_of_ble_eq_true rfl) rfl (y_Jx29ce0_ordinal_8abf5 (d := d0) a b v  w2 (by omega)) (fun z7 h9 hq8 => ?_)
    obtain ⟨rfl, x9, rfl, px9⟩ := hq8
    show f_pq _ _ (29, [some (.inr (.inr (some 6)))], [.inl x9, .inr (.inr (some 1032))], cH a b v) _
    have o9 := px9
    have s9 := wSw_l x9.toInt.toNat (by omega)
    have t9 := wSw_10 x9.toInt.toNat (by omega)
    refine qc_sel (N := 31) rfl (fun js29 => ?_)
    refine qw_tab rfl (fun c10 => ?_) (fun k9 t9 hk9 c10 => ?_)
    · skip
      have c10d := c10
      simp only [List.length_cons, List.length_nil] at c10d
      refine qw_aload rfl rfl ?_
      refine qw_const rfl ?_
      refine qw_invV (rest := []) rfl rfl rfl rfl rfl (Nat.le_of_ble_eq_true rfl) rfl (y_X6_fail (d := d0) a b v  1 (by omega) (by omega)) (fun z11 h9 hq12 => ?_)
      obtain ⟨a13, rfl, fa13, x14, rfl, px14⟩ := hq12
      show f_pq _ _ (106, [some (.inr (.inr (some 6)))], [.inl x14], cH a13 b v) _
      have F8 := fa13.2
      have z8 := px14
      have LN9 : LNR t z N L (c, V, M, o) x14 a13 b v := LNR.f1 (by first | exact W0 0 (by decide) | exact fun h => by have h7 := (kw9 0 (by decide)).mp h; omega) (by first | exact W0 9 (by decide) | exact fun h => by have h7 := (kw9 9 (by decide)).mp h; omega) (by first | (rw [onW_no W0]; decide) | (rw [on9, if_neg (by omega), if_neg (by omega), if_neg (by omega), if_neg (by omega)]; decide)) z8 (by rw [F8.2]; show _ = (1 : Int) + 16 * (lxP t z (c) : Int); have l9 : (1 : Int32).toInt = 1 := rfl; omega)
      exact qwp_iret (z := true) rfl (fun _ => by obtain ⟨r, -, y2, -⟩ := LN9; exact y2.bv) ⟨a13, b, v, rfl, ⟨FR.tr (FR.rf) (FR.sub fa13.1 (by first | exact (fun _ h9 => h9) | decide | (intro c9 h9; simp only [List.mem_cons, List.not_mem_nil, or_false] at h9 ⊢; omega) | (intro c9 h9; simp only [List.mem_cons, List.not_mem_nil, or_false] at h9; exact cA_mem (by omega)) | (intro c9 h9; simp only [List.mem_cons, List.not_mem_nil, or_false] at h9; exact cB_mem (by omega)) | exact cA_sub)), ⟨(fun _ _ => rfl), hw⟩, trivial⟩, ⟨_, rfl, LN9⟩⟩
    · skip
      match k9, hk9, c10 with
      | 0, hk9, c10 =>
        cases hk9
        refine qw_aload rfl rfl ?_
        refine qw_invV (rest := []) rfl rfl rfl rfl rfl (Nat.le_of_ble_eq_true rfl) rfl (y_X6_riverLine (d := d0) a b v z N c t L V M o  (hw) (h3L) (hL) (hS) (hC) (hk0)) (fun z15 h9 hq16 => ?_)
        obtain ⟨a17, b18, v19, rfl, fa17, x20, rfl, px20⟩ := hq16
        show f_pq _ _ (72, [some (.inr (.inr (some 6)))], [.inl x20], cH a17 b18 v19) _
        have w7 := fa17.2.1.2
        have LN9 : LNR t z N L (c, V, M, o) x20 a17 b18 v19 := LNR.riv ((kw9 0 (by decide)).mpr (by omega)) px20 (by rw [fa17.2.2 8 (by decide) (by decide)]; exact hO)
        exact qwp_iret (z := true) rfl (fun _ => by obtain ⟨r, -, y2, -⟩ := LN9; exact y2.bv) ⟨a17, b18, v19, rfl, ⟨FR.tr (FR.rf) (FR.sub fa17.1 (by first | exact (fun _ h9 => h9) | decide | (intro c9 h9; simp only [List.mem_cons, List.not_mem_nil, or_false] at h9 ⊢; omega) | (intro c9 h9; simp only [List.mem_cons, List.not_mem_nil, or_false] at h9; exact cA_mem (by omega)) | (intro c9 h9; simp only [List.mem_cons, List.not_mem_nil, or_false] at h9; exact cB_mem (by omega)) | exact cA_sub)), ⟨fun i9 h9 => (fa17.2.1.1 i9 (fun z9 => h9 (by first | exact z9 | (revert z9; simp; done) | (revert z9; simp; omega)))).trans ((show ∀ i9, i9 ∉ [2, 4] → v i9 = v i9 from (fun _ _ => rfl)) i9 h9), w7⟩, trivial⟩, ⟨_, rfl, LN9⟩⟩
      | 1, hk9, c10 =>
        cases hk9
        refine qw_aload rfl rfl ?_
        refine qw_invV (rest := []) rfl rfl rfl rfl rfl (Nat.le_of_ble_eq_true rfl) rfl (y_X6_rangeLine (d := d0) a b v z N c t L V M o  (hw) (h3L) (hL) (hS) (hC) (hk0)) (fun z21 h9 hq22 => ?_)
        obtain ⟨a23, b24, v25, rfl, fa23, x26, rfl, px26⟩ := hq22
        show f_pq _ _ (77, [some (.inr (.inr (some 6)))], [.inl x26], cH a23 b24 v25) _
        have w7 := fa23.2.1.2
        have LN9 : LNR t z N L (c, V, M, o) x26 a23 b24 v25 := LNR.ran (by first | exact W0 0 (by decide) | exact fun h => by have h7 := (kw9 0 (by decide)).mp h; omega) ((kw9 9 (by decide)).mpr (by omega)) px26 (by rw [fa23.2.2 8 (by decide) (by decide)]; exact hO)
        exact qwp_iret (z := true) rfl (fun _ => by obtain ⟨r, -, y2, -⟩ := LN9; exact y2.bv) ⟨a23, b24, v25, rfl, ⟨FR.tr (FR.rf) (FR.sub fa23.1 (by first | exact (fun _ h9 => h9) | decide | (intro c9 h9; simp only [List.mem_cons, List.not_mem_nil, or_false] at h9 ⊢; omega) | (intro c9 h9; simp only [List.mem_cons, List.not_mem_nil, or_false] at h9; exact cA_mem (by omega)) | (intro c9 h9; simp only [List.mem_cons, List.not_mem_nil, or_false] at h9; exact cB_mem (by omega)) | exact cA_sub)), ⟨fun i9 h9 => (fa23.2.1.1 i9 (fun z9 => h9 (by first | exact z9 | (revert z9; simp; done) | (revert z9; simp; omega)))).trans ((show ∀ i9, i9 ∉ [2, 4] → v i9 = v i9 from (fun _ _ => rfl)) i9 h9), w7⟩, trivial⟩, ⟨_, rfl, LN9⟩⟩
      | 2, hk9, c10 =>
        cases hk9
        refine qw_aload rfl rfl ?_
        refine qw_invV (rest := []) rfl rfl rfl rfl rfl (Nat.le_of_ble_eq_true rfl) rfl (y_X6_kinLine (d := d0) a b v z N c t L V M o  (hw) (h3L) (hL) (hS) (hC) (hO) (hk0)) (fun z27 h9 hq28 => ?_)
        obtain ⟨a29, b30, v31, rfl, fa29, x32, rfl, px32⟩ := hq28
        show f_pq _ _ (82, [some (.inr (.inr (some 6)))], [.inl x32], cH a29 b30 v31) _
        have w7 := fa29.2.1.2
        have LN9 : LNR t z N L (c, V, M, o) x32 a29 b30 v31 := LNR.kin (by first | exact W0 0 (by decide) | exact fun h => by have h7 := (kw9 0 (by decide)).mp h; omega) (by first | exact W0 9 (by decide) | exact fun h => by have h7 := (kw9 9 (by decide)).mp h; omega) (by rw [on9, if_pos (by omega)]) px32
        exact qwp_iret (z := true) rfl (fun _ => by obtain ⟨r, -, y2, -⟩ := LN9; exact y2.bv) ⟨a29, b30, v31, rfl, ⟨FR.tr (FR.rf) (FR.sub fa29.1 (by first | exact (fun _ h9 => h9) | decide | (intro c9 h9; simp only [List.mem_cons, List.not_mem_nil, or_false] at h9 ⊢; omega) | (intro c9 h9; simp only [List.mem_cons, List.not_mem_nil, or_false] at h9; exact cA_mem (by omega)) | (intro c9 h9; simp only [List.mem_cons, List.not_mem_nil, or_false] at h9; exact cB_mem (by omega)) | exact cA_sub)), ⟨fun i9 h9 => (fa29.2.1.1 i9 (fun z9 => h9 (by first | exact z9 | (revert z9; simp; done) | (revert z9; simp; omega)))).trans ((show ∀ i9, i9 ∉ [2, 4] → v i9 = v i9 from (fun _ _ => rfl)) i9 h9), w7⟩, trivial⟩, ⟨_, rfl, LN9⟩⟩
      | 3, hk9, c10 =>
        cases hk9
        refine qw_aload rfl rfl ?_
        refine qw_invV (rest := []) rfl rfl rfl rfl rfl (Nat.le_of_ble_eq_true rfl) rfl (y_X6_stormLine (d := d0) a b v z N c t L V M o  (hw) (h3L) (hL) (hS) (hC) (hO) (hk0)) (fun z33 h9 hq34 => ?_)
        obtain ⟨a35, b36, v37, rfl, fa35, x38, rfl, px38⟩ := hq34
        show f_pq _ _ (87, [some (.inr (.inr (some 6)))], [.inl x38], cH a35 b36 v37) _
        have w7 := fa35.2.1.2
        have LN9 : LNR t z N L (c, V, M, o) x38 a35 b36 v37 := LNR.sto (by first | exact W0 0 (by decide) | exact fun h => by have h7 := (kw9 0 (by decide)).mp h; omega) (by first | exact W0 9 (by decide) | exact fun h => by have h7 := (kw9 9 (by decide)).mp h; omega) (by rw [on9, if_neg (by omega), if_pos (by omega)]) px38
        exact qwp_iret (z := true) rfl (fun _ => by obtain ⟨r, -, y2, -⟩ := LN9; exact y2.bv) ⟨a35, b36, v37, rfl, ⟨FR.tr (FR.rf) (FR.sub fa35.1 (by first | exact (fun _ h9 => h9) | decide | (intro c9 h9; simp only [List.mem_cons, List.not_mem_nil, or_false] at h9 ⊢; omega) | (intro c9 h9; simp only [List.mem_cons, List.not_mem_nil, or_false] at h9; exact cA_mem (by omega)) | (intro c9 h9; simp only [List.mem_cons, List.not_mem_nil, or_false] at h9; exact cB_mem (by omega)) | exact cA_sub)), ⟨fun i9 h9 => (fa35.2.1.1 i9 (fun z9 => h9 (by first | exact z9 | (revert z9; simp; done) | (revert z9; simp; omega)))).trans ((show ∀ i9, i9 ∉ [2, 4] → v i9 = v i9 from (fun _ _ => rfl)) i9 h9), w7⟩, trivial⟩, ⟨_, rfl, LN9⟩⟩
      | 4, hk9, c10 =>
        cases hk9
        refine qw_aload rfl rfl ?_
        refine qw_const rfl ?_
        refine qw_invV (rest := []) rfl rfl rfl rfl rfl (Nat.le_of_ble_eq_true rfl) rfl (y_X6_formulaLine (d := d0) a b v z N c t L V M o 2 4 4 (hw) (h3L) (hL) (hS) (hC) (hO) (hk0) (Or.inl ⟨rfl, rfl⟩) (rfl)) (fun z39 h9 hq40 => ?_)
        obtain ⟨a41, b42, v43, rfl, fa41, x44, rfl, px44⟩ := hq40
        show f_pq _ _ (93, [some (.inr (.inr (some 6)))], [.inl x44], cH a41 b42 v43) _
        have w7 := fa41.2.1.2
        have LN9 : LNR t z N L (c, V, M, o) x44 a41 b42 v43 := LNR.ex (w := 2) (fm := 4) (by first | exact W0 0 (by decide) | exact fun h => by have h7 := (kw9 0 (by decide)).mp h; omega) (by first | exact W0 9 (by decide) | exact fun h => by have h7 := (kw9 9 (by decide)).mp h; omega) (by rw [on9, if_neg (by omega), if_neg (by omega), if_pos (by omega)]; rfl) (Or.inl rfl) rfl px44
        exact qwp_iret (z := true) rfl (fun _ => by obtain ⟨r, -, y2, -⟩ := LN9; exact y2.bv) ⟨a41, b42, v43, rfl, ⟨FR.tr (FR.rf) (FR.sub fa41.1 (by first | exact (fun _ h9 => h9) | decide | (intro c9 h9; simp only [List.mem_cons, List.not_mem_nil, or_false] at h9 ⊢; omega) | (intro c9 h9; simp only [List.mem_cons, List.not_mem_nil, or_false] at h9; exact cA_mem (by omega)) | (intro c9 h9; simp only [List.mem_cons, List.not_mem_nil, or_false] at h9; exact cB_mem (by omega)) | exact cA_sub)), ⟨fun i9 h9 => (fa41.2.1.1 i9 (fun z9 => h9 (by first | exact z9 | (revert z9; simp; done) | (revert z9; simp; omega)))).trans ((show ∀ i9, i9 ∉ [2, 4] → v i9 = v i9 from (fun _ _ => rfl)) i9 h9), w7⟩, trivial⟩, ⟨_, rfl, LN9⟩⟩
      | 5, hk9, c10 =>
        cases hk9
        refine qw_aload rfl rfl ?_
        refine qw_const rfl ?_
        refine qw_invV (rest := []) rfl rfl rfl rfl rfl (Nat.le_of_ble_eq_true rfl) rfl (y_X6_formulaLine (d := d0) a b v z N c t L V M o 3 2 8 (hw) (h3L) (hL) (hS) (hC) (hO) (hk0) (Or.inr ⟨rfl, rfl⟩) (rfl)) (fun z45 h9 hq46 => ?_)
        obtain ⟨a47, b48, v49, rfl, fa47, x50, rfl, px50⟩ := hq46
        show f_pq _ _ (100, [some (.inr (.inr (some 6)))], [.inl x50], cH a47 b48 v49) _
        have w7 := fa47.2.1.2
        have LN9 : LNR t z N L (c, V, M, o) x50 a47 b48 v49 := LNR.ex (w := 3) (fm := 2) (by first | exact W0 0 (by decide) | exact fun h => by have h7 := (kw9 0 (by decide)).mp h; omega) (by first | exact W0 9 (by decide) | exact fun h => by have h7 := (kw9 9 (by decide)).mp h; omega) (by rw [on9, if_neg (by omega), if_neg (by omega), if_neg (by omega), if_pos (by omega)]; rfl) (Or.inr rfl) rfl px50
        exact qwp_iret (z := true) rfl (fun _ => by obtain ⟨r, -, y2, -⟩ := LN9; exact y2.bv) ⟨a47, b48, v49, rfl, ⟨FR.tr (FR.rf) (FR.sub fa47.1 (by first | exact (fun _ h9 => h9) | decide | (intro c9 h9; simp only [List.mem_cons, List.not_mem_nil, or_false] at h9 ⊢; omega) | (intro c9 h9; simp only [List.mem_cons, List.not_mem_nil, or_false] at h9; exact cA_mem (by omega)) | (intro c9 h9; simp only [List.mem_cons, List.not_mem_nil, or_false] at h9; exact cB_mem (by omega)) | exact cA_sub)), ⟨fun i9 h9 => (fa47.2.1.1 i9 (fun z9 => h9 (by first | exact z9 | (revert z9; simp; done) | (revert z9; simp; omega)))).trans ((show ∀ i9, i9 ∉ [2, 4] → v i9 = v i9 from (fun _ _ => rfl)) i9 h9), w7⟩, trivial⟩, ⟨_, rfl, LN9⟩⟩
      | n9 + 6, hk9, c10 => simp at hk9
