def V4 (v : Nat → Option Nat) : Prop := v 4 = some 26 ∨ v 4 = some 29 ∨ v 4 = some 50 ∨ v 4 = some 53
theorem V4.of {v : Nat → Option Nat} {F : Nat} (h : v 4 = some F) (hF : F = 26 ∨ F = 29 ∨ F = 50 ∨ F = 53) : V4 v := by
  unfold V4
  rw [h]
  rcases hF with rfl | rfl | rfl | rfl <;> simp
theorem V4.eq {v w : Nat → Option Nat} (h : V4 v) (e : w 4 = v 4) : V4 w := by
  unfold V4
  rw [e]
  exact h
set_option maxRecDepth 4000 in
theorem s_X6_formulaLine {K : Nat} (a : Nat → Nat → Int32) (b : Nat → Nat → Int64) (v : Nat → Option Nat) (L : Nat) (p : Int32) (hR : RC K a) (hw : f_wdb (v 2) = true) (h3 : v 3 = some L) (hL : L = 22 ∨ L = 46) : f_call mtC 35 69 [.inr (.inr (some 6)), .inl p] (cH a b v) (fun v9 h' => ∃ (a' : Nat → Nat → Int32) (b' : Nat → Nat → Int64) (v' : Nat → Option Nat), h' = cH a' b' v' ∧ RC K a' ∧ (FR [1, 6, L + 4, L + 5, L + 7, L + 8] a a' ∧ ((∀ i, i ∉ [2, 4] → v' i = v i) ∧ (f_wdb (v' 2) = true ∧ (V4 v → V4 v'))) ∧ True) ∧ ∃ x : Int32, v9 = some (.inl x) ∧ (x.toInt = 0 ∨ x.toInt = 1)) := by
  refine f_call_of (d0 := 34) rfl (Nat.le_of_ble_eq_true rfl) (fun d hd => ?_)
  show f_wp _ (0, [some (.inr (.inr (some 6))), some (.inl p)], [], cH a b v) _
  have l0 : (0 : Int32).toInt = 0 := rfl
  have l1 : (1 : Int32).toInt = 1 := rfl
  have l4 : (4 : Int32).toInt = 4 := rfl
  refine w_aload rfl rfl ?_
  refine w_iload rfl rfl ?_
  refine w_invV (rest := []) rfl rfl rfl rfl rfl (Nat.le_of_ble_eq_true rfl) rfl (by omega) (s_X6_passOnce (K := K) a b v  p hR  (hw)) (fun z1 h9 hq2 => ?_)
  obtain ⟨a3, b4, v5, rfl, ha3, fa3, x6, rfl, px6⟩ := hq2
  show f_wp _ (5, [some (.inr (.inr (some 6))), some (.inl p)], [.inl x6], cH a3 b4 v5) _
  refine w_if_ne rfl (fun c7 => ?_) (fun c7 => ?_)
  · skip
    refine w_const rfl ?_
    exact wp_iret (z := true) rfl (fun _ => by first | exact Or.inl rfl | exact Or.inr rfl | (rcases (by omega : (0 : Int32).toInt = 0 ∨ (0 : Int32).toInt = 1) with h8 | h8; exact Or.inl (ti_eq h8); exact Or.inr (ti_eq h8))) ⟨a3, b4, v5, rfl, ha3, ⟨FR.tr (FR.rf) (FR.sub fa3.1 (by first | exact (fun _ h9 => h9) | decide | (intro c9 h9; simp only [List.mem_cons, List.not_mem_nil, or_false] at h9 ⊢; omega) | (intro c9 h9; simp at h9; simp [cA]; omega) | (intro c9 h9; simp at h9; simp [cB]; omega) | (intro c9 h9; simp [cA] at h9; simp [cB]; omega))), ⟨fun i9 h9 => (fa3.2.1.1 i9 (fun z9 => h9 (by first | exact z9 | (revert z9; simp; done) | (revert z9; simp; omega)))).trans ((show ∀ i9, i9 ∉ [2, 4] → v i9 = v i9 from (fun _ _ => rfl)) i9 h9), ⟨fa3.2.1.2, fun h => h.eq (fa3.2.1.1 4 (by decide))⟩⟩, trivial⟩, ⟨_, rfl, by omega⟩⟩
  · skip
    refine w_aload rfl rfl ?_
    refine w_iload rfl rfl ?_
    refine w_const rfl ?_
    refine w_ic_ne rfl (fun c8 => ?_) (fun c8 => ?_)
    · skip
      refine w_const rfl ?_
      refine w_goto rfl ?_
      refine c_putI (z := true) rfl rfl rfl rfl (by first | (intro h9; cases h9; done) | (intro _; first | exact Or.inl rfl | exact Or.inr rfl | assumption | (rcases (by omega : (1 : Int32).toInt = 0 ∨ (1 : Int32).toInt = 1) with h8 | h8; exact Or.inl (ti_eq h8); exact Or.inr (ti_eq h8)))) (fun a9 ea9 => ?_)
      have ha9 : RC K a9 := RC.up ha3 ea9 (lc_any _ (by omega))
      have ua9 : a9 6 7 = (1 : Int32) := by rw [ea9, mU_same]
      have wa9 := congrArg Int32.toInt ua9
      refine w_aload rfl rfl ?_
      refine w_aload rfl rfl ?_
      refine c_getI rfl rfl rfl rfl ?_
      refine w_if_eq rfl (fun c10 => ?_) (fun c10 => ?_)
      · skip
        refine w_aload rfl rfl ?_
        refine c_getR (t := some L) rfl rfl rfl rfl ((fa3.2.1.1 3 (by decide)).trans h3) ?_
        refine c_getR (t := some (L + 7)) rfl (sh_land (by omega)) rfl rfl (rC_land4 (by omega)) ?_
        refine c_putR rfl rfl rfl rfl rC_put4 (fun v11 ev11 => ?_)
        refine w_aload rfl rfl ?_
        refine c_getR (t := some (L + 7)) rfl rfl rfl rfl (show v11 4 = some (L + 7) from by rw [ev11]; exact vU_same) ?_
        refine w_invV (rest := []) rfl rfl (sh_form (by omega)) rfl rfl (Nat.le_of_ble_eq_true rfl) rfl (by omega) (s_X2_clear (K := K) a9 b4 v11  (L + 7) ha9  (by omega)) (fun z12 h9 hq13 => ?_)
        obtain ⟨a14, rfl, ha14, fa14, rfl⟩ := hq13
        show f_wp _ (59, [some (.inr (.inr (some 6))), some (.inl p)], [], cH a14 b4 v11) _
        refine w_aload rfl rfl ?_
        refine w_const rfl ?_
        refine w_invV (rest := []) rfl rfl rfl rfl rfl (Nat.le_of_ble_eq_true rfl) rfl (by omega) (s_X6_e0 (F := (L + 7)) (by omega) a14 b4 v11 ha14 (by rw [(show v11 2 = v5 2 from by rw [ev11]; exact vU_ne (by decide))]; exact fa3.2.1.2) (show v11 4 = some (L + 7) from by rw [ev11]; exact vU_same)) (fun z15 h9 hq16 => ?_)
        obtain ⟨a17, b18, v19, rfl, ha17, fa17, x20, rfl, px20⟩ := hq16
        show f_wp _ (64, [some (.inr (.inr (some 6))), some (.inl p)], [.inl x20], cH a17 b18 v19) _
        exact wp_iret (z := true) rfl (fun _ => by first | exact Or.inl rfl | exact Or.inr rfl | (rcases (by omega : x20.toInt = 0 ∨ x20.toInt = 1) with h8 | h8; exact Or.inl (ti_eq h8); exact Or.inr (ti_eq h8))) ⟨a17, b18, v19, rfl, ha17, ⟨FR.tr (FR.tr (FR.up (FR.tr (FR.rf) (FR.sub fa3.1 (by first | exact (fun _ h9 => h9) | decide | (intro c9 h9; simp only [List.mem_cons, List.not_mem_nil, or_false] at h9 ⊢; omega) | (intro c9 h9; simp at h9; simp [cA]; omega) | (intro c9 h9; simp at h9; simp [cB]; omega) | (intro c9 h9; simp [cA] at h9; simp [cB]; omega)))) (by first | decide | simp | (simp [cA]; omega) | (simp [cB]; omega)) ea9) (FR.sub fa14.1 (by first | exact (fun _ h9 => h9) | decide | (intro c9 h9; simp only [List.mem_cons, List.not_mem_nil, or_false] at h9 ⊢; omega) | (intro c9 h9; simp at h9; simp [cA]; omega) | (intro c9 h9; simp at h9; simp [cB]; omega) | (intro c9 h9; simp [cA] at h9; simp [cB]; omega)))) (FR.sub fa17.1 (by first | exact (fun _ h9 => h9) | decide | (intro c9 h9; simp only [List.mem_cons, List.not_mem_nil, or_false] at h9 ⊢; omega) | (intro c9 h9; simp at h9; simp [cA]; omega) | (intro c9 h9; simp at h9; simp [cB]; omega) | (intro c9 h9; simp [cA] at h9; simp [cB]; omega))), ⟨fun i9 h9 => (fa17.2.1.1 i9 (fun z9 => h9 (by first | exact z9 | (revert z9; simp; done) | (revert z9; simp; omega)))).trans ((show ∀ i9, i9 ∉ [2, 4] → v11 i9 = v i9 from fun i9 h9 => (show v11 i9 = v5 i9 from by rw [ev11]; exact vU_ne (fun z9 => h9 (by rw [z9]; decide))).trans ((show ∀ i9, i9 ∉ [2, 4] → v5 i9 = v i9 from fun i9 h9 => (fa3.2.1.1 i9 (fun z9 => h9 (by first | exact z9 | (revert z9; simp; done) | (revert z9; simp; omega)))).trans ((show ∀ i9, i9 ∉ [2, 4] → v i9 = v i9 from (fun _ _ => rfl)) i9 h9)) i9 h9)) i9 h9), ⟨fa17.2.1.2, fun _ => V4.of ((fa17.2.1.1 4 (by decide)).trans (show v11 4 = some (L + 7) from by rw [ev11]; exact vU_same)) (by omega)⟩⟩, trivial⟩, ⟨_, rfl, by omega⟩⟩
      · skip
        refine w_aload rfl rfl ?_
        refine c_getR (t := some L) rfl rfl rfl rfl ((fa3.2.1.1 3 (by decide)).trans h3) ?_
        refine c_getR (t := some (L + 4)) rfl (sh_land (by omega)) rfl rfl (rC_land3 (by omega)) ?_
        refine w_goto rfl ?_
        refine c_putR rfl rfl rfl rfl rC_put4 (fun v21 ev21 => ?_)
        refine w_aload rfl rfl ?_
        refine c_getR (t := some (L + 4)) rfl rfl rfl rfl (show v21 4 = some (L + 4) from by rw [ev21]; exact vU_same) ?_
        refine w_invV (rest := []) rfl rfl (sh_form (by omega)) rfl rfl (Nat.le_of_ble_eq_true rfl) rfl (by omega) (s_X2_clear (K := K) a9 b4 v21  (L + 4) ha9  (by omega)) (fun z22 h9 hq23 => ?_)
        obtain ⟨a24, rfl, ha24, fa24, rfl⟩ := hq23
        show f_wp _ (59, [some (.inr (.inr (some 6))), some (.inl p)], [], cH a24 b4 v21) _
        refine w_aload rfl rfl ?_
        refine w_const rfl ?_
        refine w_invV (rest := []) rfl rfl rfl rfl rfl (Nat.le_of_ble_eq_true rfl) rfl (by omega) (s_X6_e0 (F := (L + 4)) (by omega) a24 b4 v21 ha24 (by rw [(show v21 2 = v5 2 from by rw [ev21]; exact vU_ne (by decide))]; exact fa3.2.1.2) (show v21 4 = some (L + 4) from by rw [ev21]; exact vU_same)) (fun z25 h9 hq26 => ?_)
        obtain ⟨a27, b28, v29, rfl, ha27, fa27, x30, rfl, px30⟩ := hq26
        show f_wp _ (64, [some (.inr (.inr (some 6))), some (.inl p)], [.inl x30], cH a27 b28 v29) _
        exact wp_iret (z := true) rfl (fun _ => by first | exact Or.inl rfl | exact Or.inr rfl | (rcases (by omega : x30.toInt = 0 ∨ x30.toInt = 1) with h8 | h8; exact Or.inl (ti_eq h8); exact Or.inr (ti_eq h8))) ⟨a27, b28, v29, rfl, ha27, ⟨FR.tr (FR.tr (FR.up (FR.tr (FR.rf) (FR.sub fa3.1 (by first | exact (fun _ h9 => h9) | decide | (intro c9 h9; simp only [List.mem_cons, List.not_mem_nil, or_false] at h9 ⊢; omega) | (intro c9 h9; simp at h9; simp [cA]; omega) | (intro c9 h9; simp at h9; simp [cB]; omega) | (intro c9 h9; simp [cA] at h9; simp [cB]; omega)))) (by first | decide | simp | (simp [cA]; omega) | (simp [cB]; omega)) ea9) (FR.sub fa24.1 (by first | exact (fun _ h9 => h9) | decide | (intro c9 h9; simp only [List.mem_cons, List.not_mem_nil, or_false] at h9 ⊢; omega) | (intro c9 h9; simp at h9; simp [cA]; omega) | (intro c9 h9; simp at h9; simp [cB]; omega) | (intro c9 h9; simp [cA] at h9; simp [cB]; omega)))) (FR.sub fa27.1 (by first | exact (fun _ h9 => h9) | decide | (intro c9 h9; simp only [List.mem_cons, List.not_mem_nil, or_false] at h9 ⊢; omega) | (intro c9 h9; simp at h9; simp [cA]; omega) | (intro c9 h9; simp at h9; simp [cB]; omega) | (intro c9 h9; simp [cA] at h9; simp [cB]; omega))), ⟨fun i9 h9 => (fa27.2.1.1 i9 (fun z9 => h9 (by first | exact z9 | (revert z9; simp; done) | (revert z9; simp; omega)))).trans ((show ∀ i9, i9 ∉ [2, 4] → v21 i9 = v i9 from fun i9 h9 => (show v21 i9 = v5 i9 from by rw [ev21]; exact vU_ne (fun z9 => h9 (by rw [z9]; decide))).trans ((show ∀ i9, i9 ∉ [2, 4] → v5 i9 = v i9 from fun i9 h9 => (fa3.2.1.1 i9 (fun z9 => h9 (by first | exact z9 | (revert z9; simp; done) | (revert z9; simp; omega)))).trans ((show ∀ i9, i9 ∉ [2, 4] → v i9 = v i9 from (fun _ _ => rfl)) i9 h9)) i9 h9)) i9 h9), ⟨fa27.2.1.2, fun _ => V4.of ((fa27.2.1.1 4 (by decide)).trans (show v21 4 = some (L + 4) from by rw [ev21]; exact vU_same)) (by omega)⟩⟩, trivial⟩, ⟨_, rfl, by omega⟩⟩
    · skip
      refine w_const rfl ?_
      refine c_putI (z := true) rfl rfl rfl rfl (by first | (intro h9; cases h9; done) | (intro _; first | exact Or.inl rfl | exact Or.inr rfl | assumption | (rcases (by omega : (0 : Int32).toInt = 0 ∨ (0 : Int32).toInt = 1) with h8 | h8; exact Or.inl (ti_eq h8); exact Or.inr (ti_eq h8)))) (fun a31 ea31 => ?_)
      have ha31 : RC K a31 := RC.up ha3 ea31 (lc_any _ (by omega))
      have ua31 : a31 6 7 = (0 : Int32) := by rw [ea31, mU_same]
      have wa31 := congrArg Int32.toInt ua31
      refine w_aload rfl rfl ?_
      refine w_aload rfl rfl ?_
      refine c_getI rfl rfl rfl rfl ?_
      refine w_if_eq rfl (fun c32 => ?_) (fun c32 => ?_)
      · skip
        refine w_aload rfl rfl ?_
        refine c_getR (t := some L) rfl rfl rfl rfl ((fa3.2.1.1 3 (by decide)).trans h3) ?_
        refine c_getR (t := some (L + 7)) rfl (sh_land (by omega)) rfl rfl (rC_land4 (by omega)) ?_
        refine c_putR rfl rfl rfl rfl rC_put4 (fun v33 ev33 => ?_)
        refine w_aload rfl rfl ?_
        refine c_getR (t := some (L + 7)) rfl rfl rfl rfl (show v33 4 = some (L + 7) from by rw [ev33]; exact vU_same) ?_
        refine w_invV (rest := []) rfl rfl (sh_form (by omega)) rfl rfl (Nat.le_of_ble_eq_true rfl) rfl (by omega) (s_X2_clear (K := K) a31 b4 v33  (L + 7) ha31  (by omega)) (fun z34 h9 hq35 => ?_)
        obtain ⟨a36, rfl, ha36, fa36, rfl⟩ := hq35
        show f_wp _ (59, [some (.inr (.inr (some 6))), some (.inl p)], [], cH a36 b4 v33) _
        refine w_aload rfl rfl ?_
        refine w_const rfl ?_
        refine w_invV (rest := []) rfl rfl rfl rfl rfl (Nat.le_of_ble_eq_true rfl) rfl (by omega) (s_X6_e0 (F := (L + 7)) (by omega) a36 b4 v33 ha36 (by rw [(show v33 2 = v5 2 from by rw [ev33]; exact vU_ne (by decide))]; exact fa3.2.1.2) (show v33 4 = some (L + 7) from by rw [ev33]; exact vU_same)) (fun z37 h9 hq38 => ?_)
        obtain ⟨a39, b40, v41, rfl, ha39, fa39, x42, rfl, px42⟩ := hq38
        show f_wp _ (64, [some (.inr (.inr (some 6))), some (.inl p)], [.inl x42], cH a39 b40 v41) _
        exact wp_iret (z := true) rfl (fun _ => by first | exact Or.inl rfl | exact Or.inr rfl | (rcases (by omega : x42.toInt = 0 ∨ x42.toInt = 1) with h8 | h8; exact Or.inl (ti_eq h8); exact Or.inr (ti_eq h8))) ⟨a39, b40, v41, rfl, ha39, ⟨FR.tr (FR.tr (FR.up (FR.tr (FR.rf) (FR.sub fa3.1 (by first | exact (fun _ h9 => h9) | decide | (intro c9 h9; simp only [List.mem_cons, List.not_mem_nil, or_false] at h9 ⊢; omega) | (intro c9 h9; simp at h9; simp [cA]; omega) | (intro c9 h9; simp at h9; simp [cB]; omega) | (intro c9 h9; simp [cA] at h9; simp [cB]; omega)))) (by first | decide | simp | (simp [cA]; omega) | (simp [cB]; omega)) ea31) (FR.sub fa36.1 (by first | exact (fun _ h9 => h9) | decide | (intro c9 h9; simp only [List.mem_cons, List.not_mem_nil, or_false] at h9 ⊢; omega) | (intro c9 h9; simp at h9; simp [cA]; omega) | (intro c9 h9; simp at h9; simp [cB]; omega) | (intro c9 h9; simp [cA] at h9; simp [cB]; omega)))) (FR.sub fa39.1 (by first | exact (fun _ h9 => h9) | decide | (intro c9 h9; simp only [List.mem_cons, List.not_mem_nil, or_false] at h9 ⊢; omega) | (intro c9 h9; simp at h9; simp [cA]; omega) | (intro c9 h9; simp at h9; simp [cB]; omega) | (intro c9 h9; simp [cA] at h9; simp [cB]; omega))), ⟨fun i9 h9 => (fa39.2.1.1 i9 (fun z9 => h9 (by first | exact z9 | (revert z9; simp; done) | (revert z9; simp; omega)))).trans ((show ∀ i9, i9 ∉ [2, 4] → v33 i9 = v i9 from fun i9 h9 => (show v33 i9 = v5 i9 from by rw [ev33]; exact vU_ne (fun z9 => h9 (by rw [z9]; decide))).trans ((show ∀ i9, i9 ∉ [2, 4] → v5 i9 = v i9 from fun i9 h9 => (fa3.2.1.1 i9 (fun z9 => h9 (by first | exact z9 | (revert z9; simp; done) | (revert z9; simp; omega)))).trans ((show ∀ i9, i9 ∉ [2, 4] → v i9 = v i9 from (fun _ _ => rfl)) i9 h9)) i9 h9)) i9 h9), ⟨fa39.2.1.2, fun _ => V4.of ((fa39.2.1.1 4 (by decide)).trans (show v33 4 = some (L + 7) from by rw [ev33]; exact vU_same)) (by omega)⟩⟩, trivial⟩, ⟨_, rfl, by omega⟩⟩
      · skip
        refine w_aload rfl rfl ?_
        refine c_getR (t := some L) rfl rfl rfl rfl ((fa3.2.1.1 3 (by decide)).trans h3) ?_
        refine c_getR (t := some (L + 4)) rfl (sh_land (by omega)) rfl rfl (rC_land3 (by omega)) ?_
        refine w_goto rfl ?_
        refine c_putR rfl rfl rfl rfl rC_put4 (fun v43 ev43 => ?_)
        refine w_aload rfl rfl ?_
        refine c_getR (t := some (L + 4)) rfl rfl rfl rfl (show v43 4 = some (L + 4) from by rw [ev43]; exact vU_same) ?_
        refine w_invV (rest := []) rfl rfl (sh_form (by omega)) rfl rfl (Nat.le_of_ble_eq_true rfl) rfl (by omega) (s_X2_clear (K := K) a31 b4 v43  (L + 4) ha31  (by omega)) (fun z44 h9 hq45 => ?_)
        obtain ⟨a46, rfl, ha46, fa46, rfl⟩ := hq45
        show f_wp _ (59, [some (.inr (.inr (some 6))), some (.inl p)], [], cH a46 b4 v43) _
        refine w_aload rfl rfl ?_
        refine w_const rfl ?_
        refine w_invV (rest := []) rfl rfl rfl rfl rfl (Nat.le_of_ble_eq_true rfl) rfl (by omega) (s_X6_e0 (F := (L + 4)) (by omega) a46 b4 v43 ha46 (by rw [(show v43 2 = v5 2 from by rw [ev43]; exact vU_ne (by decide))]; exact fa3.2.1.2) (show v43 4 = some (L + 4) from by rw [ev43]; exact vU_same)) (fun z47 h9 hq48 => ?_)
        obtain ⟨a49, b50, v51, rfl, ha49, fa49, x52, rfl, px52⟩ := hq48
        show f_wp _ (64, [some (.inr (.inr (some 6))), some (.inl p)], [.inl x52], cH a49 b50 v51) _
        exact wp_iret (z := true) rfl (fun _ => by first | exact Or.inl rfl | exact Or.inr rfl | (rcases (by omega : x52.toInt = 0 ∨ x52.toInt = 1) with h8 | h8; exact Or.inl (ti_eq h8); exact Or.inr (ti_eq h8))) ⟨a49, b50, v51, rfl, ha49, ⟨FR.tr (FR.tr (FR.up (FR.tr (FR.rf) (FR.sub fa3.1 (by first | exact (fun _ h9 => h9) | decide | (intro c9 h9; simp only [List.mem_cons, List.not_mem_nil, or_false] at h9 ⊢; omega) | (intro c9 h9; simp at h9; simp [cA]; omega) | (intro c9 h9; simp at h9; simp [cB]; omega) | (intro c9 h9; simp [cA] at h9; simp [cB]; omega)))) (by first | decide | simp | (simp [cA]; omega) | (simp [cB]; omega)) ea31) (FR.sub fa46.1 (by first | exact (fun _ h9 => h9) | decide | (intro c9 h9; simp only [List.mem_cons, List.not_mem_nil, or_false] at h9 ⊢; omega) | (intro c9 h9; simp at h9; simp [cA]; omega) | (intro c9 h9; simp at h9; simp [cB]; omega) | (intro c9 h9; simp [cA] at h9; simp [cB]; omega)))) (FR.sub fa49.1 (by first | exact (fun _ h9 => h9) | decide | (intro c9 h9; simp only [List.mem_cons, List.not_mem_nil, or_false] at h9 ⊢; omega) | (intro c9 h9; simp at h9; simp [cA]; omega) | (intro c9 h9; simp at h9; simp [cB]; omega) | (intro c9 h9; simp [cA] at h9; simp [cB]; omega))), ⟨fun i9 h9 => (fa49.2.1.1 i9 (fun z9 => h9 (by first | exact z9 | (revert z9; simp; done) | (revert z9; simp; omega)))).trans ((show ∀ i9, i9 ∉ [2, 4] → v43 i9 = v i9 from fun i9 h9 => (show v43 i9 = v5 i9 from by rw [ev43]; exact vU_ne (fun z9 => h9 (by rw [z9]; decide))).trans ((show ∀ i9, i9 ∉ [2, 4] → v5 i9 = v i9 from fun i9 h9 => (fa3.2.1.1 i9 (fun z9 => h9 (by first | exact z9 | (revert z9; simp; done) | (revert z9; simp; omega)))).trans ((show ∀ i9, i9 ∉ [2, 4] → v i9 = v i9 from (fun _ _ => rfl)) i9 h9)) i9 h9)) i9 h9), ⟨fa49.2.1.2, fun _ => V4.of ((fa49.2.1.1 4 (by decide)).trans (show v43 4 = some (L + 4) from by rw [ev43]; exact vU_same)) (by omega)⟩⟩, trivial⟩, ⟨_, rfl, by omega⟩⟩
set_option maxHeartbeats 2000000 in
set_option maxRecDepth 4000 in
theorem s_X6_landLine {K : Nat} (a : Nat → Nat → Int32) (b : Nat → Nat → Int64) (v : Nat → Option Nat) (L : Nat)  (hR : RC K a) (hw : f_wdb (v 2) = true) (h3 : v 3 = some L) (hL : L = 22 ∨ L = 46) : f_call mtC 36 56 [.inr (.inr (some 6))] (cH a b v) (fun v9 h' => ∃ (a' : Nat → Nat → Int32) (b' : Nat → Nat → Int64) (v' : Nat → Option Nat), h' = cH a' b' v' ∧ RC K a' ∧ (FR [1, 6, L, L + 2, L + 3, L + 4, L + 5, L + 6, L + 7, L + 8, L + 9, L + 10, L + 11, L + 12, L + 13, L + 14, L + 15, L + 16, L + 17, L + 18, L + 19, L + 20, L + 21, L + 22, L + 23] a a' ∧ ((∀ i, i ∉ [2, 4] → v' i = v i) ∧ (f_wdb (v' 2) = true ∧ (V4 v → V4 v'))) ∧ True) ∧ ∃ x : Int32, v9 = some (.inl x) ∧ (x.toInt = 0 ∨ x.toInt = 1)) := by
  refine f_call_of (d0 := 35) rfl (Nat.le_of_ble_eq_true rfl) (fun d hd => ?_)
  show f_wp _ (0, [some (.inr (.inr (some 6)))], [], cH a b v) _
  have l1 : (1 : Int32).toInt = 1 := rfl
  have l4 : (4 : Int32).toInt = 4 := rfl
  have l8 : (8 : Int32).toInt = 8 := rfl
  refine w_aload rfl rfl ?_
  refine c_getR (t := some 1) rfl rfl rfl rfl rfl ?_
  refine c_getR (t := v 2) rfl rfl rfl rfl rfl ?_
  refine c_ifnull rfl (fun c1 => ?_) (fun w2 c1 => ?_)
  · skip
    refine w_aload rfl rfl ?_
    refine w_const rfl ?_
    refine w_invV (rest := []) rfl rfl rfl rfl rfl (Nat.le_of_ble_eq_true rfl) rfl (by omega) (s_X6_fail (K := K) a b v  1 hR  ) (fun z3 h9 hq4 => ?_)
    obtain ⟨a5, rfl, ha5, fa5, x6, rfl, px6⟩ := hq4
    show f_wp _ (15, [some (.inr (.inr (some 6)))], [.inl x6], cH a5 b v) _
    exact wp_iret (z := true) rfl (fun _ => by first | exact Or.inl rfl | exact Or.inr rfl | (rcases (by omega : x6.toInt = 0 ∨ x6.toInt = 1) with h8 | h8; exact Or.inl (ti_eq h8); exact Or.inr (ti_eq h8))) ⟨a5, b, v, rfl, ha5, ⟨FR.tr (FR.rf) (FR.sub fa5.1 (by first | exact (fun _ h9 => h9) | decide | (intro c9 h9; simp only [List.mem_cons, List.not_mem_nil, or_false] at h9 ⊢; omega) | (intro c9 h9; simp at h9; simp [cA]; omega) | (intro c9 h9; simp at h9; simp [cB]; omega) | (intro c9 h9; simp [cA] at h9; simp [cB]; omega))), ⟨(fun _ _ => rfl), ⟨hw, fun h => h.eq rfl⟩⟩, trivial⟩, ⟨_, rfl, by omega⟩⟩
  · skip
    have w9 := f_wdb_lt hw w2 c1
    refine w_const rfl ?_
    refine w_aload rfl rfl ?_
    refine c_getR (t := some 1) rfl rfl rfl rfl rfl ?_
    refine c_getR (t := v 2) rfl rfl rfl rfl rfl ?_
    rw [c1]
    refine c_invW (rest := [.inr (.inr (some 1032))]) rfl rfl (pW_some (by omega)) rfl (Nat.le_of_ble_eq_true rfl) rfl (by omega) (s_Jx29ce0_ordinal_8abf5 (K := K) a b v  w2   (by omega)) (fun z7 h9 hq8 => ?_)
    obtain ⟨rfl, x9, rfl, px9⟩ := hq8
    show f_wp _ (29, [some (.inr (.inr (some 6)))], [.inl x9, .inr (.inr (some 1032))], cH a b v) _
    have o9 := px9
    refine c_sel (N := 31) rfl (by omega) ?_
    refine w_tab rfl (fun c10 => ?_) (fun k9 t9 hk9 c10 => ?_)
    · skip
      have c10d := c10
      simp only [List.length_cons, List.length_nil] at c10d
      refine w_aload rfl rfl ?_
      refine w_const rfl ?_
      refine w_invV (rest := []) rfl rfl rfl rfl rfl (Nat.le_of_ble_eq_true rfl) rfl (by omega) (s_X6_fail (K := K) a b v  1 hR  ) (fun z11 h9 hq12 => ?_)
      obtain ⟨a13, rfl, ha13, fa13, x14, rfl, px14⟩ := hq12
      show f_wp _ (106, [some (.inr (.inr (some 6)))], [.inl x14], cH a13 b v) _
      exact wp_iret (z := true) rfl (fun _ => by first | exact Or.inl rfl | exact Or.inr rfl | (rcases (by omega : x14.toInt = 0 ∨ x14.toInt = 1) with h8 | h8; exact Or.inl (ti_eq h8); exact Or.inr (ti_eq h8))) ⟨a13, b, v, rfl, ha13, ⟨FR.tr (FR.rf) (FR.sub fa13.1 (by first | exact (fun _ h9 => h9) | decide | (intro c9 h9; simp only [List.mem_cons, List.not_mem_nil, or_false] at h9 ⊢; omega) | (intro c9 h9; simp at h9; simp [cA]; omega) | (intro c9 h9; simp at h9; simp [cB]; omega) | (intro c9 h9; simp [cA] at h9; simp [cB]; omega))), ⟨(fun _ _ => rfl), ⟨hw, fun h => h.eq rfl⟩⟩, trivial⟩, ⟨_, rfl, by omega⟩⟩
    · skip
      match k9, hk9, c10 with
      | 0, hk9, c10 =>
        cases hk9
        refine w_aload rfl rfl ?_
        refine w_invV (rest := []) rfl rfl rfl rfl rfl (Nat.le_of_ble_eq_true rfl) rfl (by omega) (s_X6_riverLine (K := K) a b v L  hR  (hw) (h3) (by omega)) (fun z15 h9 hq16 => ?_)
        obtain ⟨a17, b18, v19, rfl, ha17, fa17, x20, rfl, px20⟩ := hq16
        show f_wp _ (72, [some (.inr (.inr (some 6)))], [.inl x20], cH a17 b18 v19) _
        exact wp_iret (z := true) rfl (fun _ => by first | exact Or.inl rfl | exact Or.inr rfl | (rcases (by omega : x20.toInt = 0 ∨ x20.toInt = 1) with h8 | h8; exact Or.inl (ti_eq h8); exact Or.inr (ti_eq h8))) ⟨a17, b18, v19, rfl, ha17, ⟨FR.tr (FR.rf) (FR.sub fa17.1 (by first | exact (fun _ h9 => h9) | decide | (intro c9 h9; simp only [List.mem_cons, List.not_mem_nil, or_false] at h9 ⊢; omega) | (intro c9 h9; simp at h9; simp [cA]; omega) | (intro c9 h9; simp at h9; simp [cB]; omega) | (intro c9 h9; simp [cA] at h9; simp [cB]; omega))), ⟨fun i9 h9 => (fa17.2.1.1 i9 (fun z9 => h9 (by first | exact z9 | (revert z9; simp; done) | (revert z9; simp; omega)))).trans ((show ∀ i9, i9 ∉ [2, 4] → v i9 = v i9 from (fun _ _ => rfl)) i9 h9), ⟨fa17.2.1.2, fun h => h.eq (fa17.2.1.1 4 (by decide))⟩⟩, trivial⟩, ⟨_, rfl, by omega⟩⟩
      | 1, hk9, c10 =>
        cases hk9
        refine w_aload rfl rfl ?_
        refine w_invV (rest := []) rfl rfl rfl rfl rfl (Nat.le_of_ble_eq_true rfl) rfl (by omega) (s_X6_rangeLine (K := K) a b v L  hR  (hw) (h3) (by omega)) (fun z21 h9 hq22 => ?_)
        obtain ⟨a23, b24, v25, rfl, ha23, fa23, x26, rfl, px26⟩ := hq22
        show f_wp _ (77, [some (.inr (.inr (some 6)))], [.inl x26], cH a23 b24 v25) _
        exact wp_iret (z := true) rfl (fun _ => by first | exact Or.inl rfl | exact Or.inr rfl | (rcases (by omega : x26.toInt = 0 ∨ x26.toInt = 1) with h8 | h8; exact Or.inl (ti_eq h8); exact Or.inr (ti_eq h8))) ⟨a23, b24, v25, rfl, ha23, ⟨FR.tr (FR.rf) (FR.sub fa23.1 (by first | exact (fun _ h9 => h9) | decide | (intro c9 h9; simp only [List.mem_cons, List.not_mem_nil, or_false] at h9 ⊢; omega) | (intro c9 h9; simp at h9; simp [cA]; omega) | (intro c9 h9; simp at h9; simp [cB]; omega) | (intro c9 h9; simp [cA] at h9; simp [cB]; omega))), ⟨fun i9 h9 => (fa23.2.1.1 i9 (fun z9 => h9 (by first | exact z9 | (revert z9; simp; done) | (revert z9; simp; omega)))).trans ((show ∀ i9, i9 ∉ [2, 4] → v i9 = v i9 from (fun _ _ => rfl)) i9 h9), ⟨fa23.2.1.2, fun h => h.eq (fa23.2.1.1 4 (by decide))⟩⟩, trivial⟩, ⟨_, rfl, by omega⟩⟩
      | 2, hk9, c10 =>
        cases hk9
        refine w_aload rfl rfl ?_
        refine w_invV (rest := []) rfl rfl rfl rfl rfl (Nat.le_of_ble_eq_true rfl) rfl (by omega) (s_X6_kinLine (K := K) a b v L  hR  (hw) (h3) (by omega)) (fun z27 h9 hq28 => ?_)
        obtain ⟨a29, b30, v31, rfl, ha29, fa29, x32, rfl, px32⟩ := hq28
        show f_wp _ (82, [some (.inr (.inr (some 6)))], [.inl x32], cH a29 b30 v31) _
        exact wp_iret (z := true) rfl (fun _ => by first | exact Or.inl rfl | exact Or.inr rfl | (rcases (by omega : x32.toInt = 0 ∨ x32.toInt = 1) with h8 | h8; exact Or.inl (ti_eq h8); exact Or.inr (ti_eq h8))) ⟨a29, b30, v31, rfl, ha29, ⟨FR.tr (FR.rf) (FR.sub fa29.1 (by first | exact (fun _ h9 => h9) | decide | (intro c9 h9; simp only [List.mem_cons, List.not_mem_nil, or_false] at h9 ⊢; omega) | (intro c9 h9; simp at h9; simp [cA]; omega) | (intro c9 h9; simp at h9; simp [cB]; omega) | (intro c9 h9; simp [cA] at h9; simp [cB]; omega))), ⟨fun i9 h9 => (fa29.2.1.1 i9 (fun z9 => h9 (by first | exact z9 | (revert z9; simp; done) | (revert z9; simp; omega)))).trans ((show ∀ i9, i9 ∉ [2, 4] → v i9 = v i9 from (fun _ _ => rfl)) i9 h9), ⟨fa29.2.1.2, fun h => h.eq (fa29.2.1.1 4 (by decide))⟩⟩, trivial⟩, ⟨_, rfl, by omega⟩⟩
      | 3, hk9, c10 =>
        cases hk9
        refine w_aload rfl rfl ?_
        refine w_invV (rest := []) rfl rfl rfl rfl rfl (Nat.le_of_ble_eq_true rfl) rfl (by omega) (s_X6_stormLine (K := K) a b v L  hR  (hw) (h3) (by omega)) (fun z33 h9 hq34 => ?_)
        obtain ⟨a35, b36, v37, rfl, ha35, fa35, x38, rfl, px38⟩ := hq34
        show f_wp _ (87, [some (.inr (.inr (some 6)))], [.inl x38], cH a35 b36 v37) _
        exact wp_iret (z := true) rfl (fun _ => by first | exact Or.inl rfl | exact Or.inr rfl | (rcases (by omega : x38.toInt = 0 ∨ x38.toInt = 1) with h8 | h8; exact Or.inl (ti_eq h8); exact Or.inr (ti_eq h8))) ⟨a35, b36, v37, rfl, ha35, ⟨FR.tr (FR.rf) (FR.sub fa35.1 (by first | exact (fun _ h9 => h9) | decide | (intro c9 h9; simp only [List.mem_cons, List.not_mem_nil, or_false] at h9 ⊢; omega) | (intro c9 h9; simp at h9; simp [cA]; omega) | (intro c9 h9; simp at h9; simp [cB]; omega) | (intro c9 h9; simp [cA] at h9; simp [cB]; omega))), ⟨fun i9 h9 => (fa35.2.1.1 i9 (fun z9 => h9 (by first | exact z9 | (revert z9; simp; done) | (revert z9; simp; omega)))).trans ((show ∀ i9, i9 ∉ [2, 4] → v i9 = v i9 from (fun _ _ => rfl)) i9 h9), ⟨fa35.2.1.2, fun h => h.eq (fa35.2.1.1 4 (by decide))⟩⟩, trivial⟩, ⟨_, rfl, by omega⟩⟩
      | 4, hk9, c10 =>
        cases hk9
        refine w_aload rfl rfl ?_
        refine w_const rfl ?_
        refine w_invV (rest := []) rfl rfl rfl rfl rfl (Nat.le_of_ble_eq_true rfl) rfl (by omega) (s_X6_formulaLine (K := K) a b v L 4 hR  (hw) (h3) (by omega)) (fun z39 h9 hq40 => ?_)
        obtain ⟨a41, b42, v43, rfl, ha41, fa41, x44, rfl, px44⟩ := hq40
        show f_wp _ (93, [some (.inr (.inr (some 6)))], [.inl x44], cH a41 b42 v43) _
        exact wp_iret (z := true) rfl (fun _ => by first | exact Or.inl rfl | exact Or.inr rfl | (rcases (by omega : x44.toInt = 0 ∨ x44.toInt = 1) with h8 | h8; exact Or.inl (ti_eq h8); exact Or.inr (ti_eq h8))) ⟨a41, b42, v43, rfl, ha41, ⟨FR.tr (FR.rf) (FR.sub fa41.1 (by first | exact (fun _ h9 => h9) | decide | (intro c9 h9; simp only [List.mem_cons, List.not_mem_nil, or_false] at h9 ⊢; omega) | (intro c9 h9; simp at h9; simp [cA]; omega) | (intro c9 h9; simp at h9; simp [cB]; omega) | (intro c9 h9; simp [cA] at h9; simp [cB]; omega))), ⟨fun i9 h9 => (fa41.2.1.1 i9 (fun z9 => h9 (by first | exact z9 | (revert z9; simp; done) | (revert z9; simp; omega)))).trans ((show ∀ i9, i9 ∉ [2, 4] → v i9 = v i9 from (fun _ _ => rfl)) i9 h9), fa41.2.1.2⟩, trivial⟩, ⟨_, rfl, by omega⟩⟩
      | 5, hk9, c10 =>
        cases hk9
        refine w_aload rfl rfl ?_
        refine w_const rfl ?_
        refine w_invV (rest := []) rfl rfl rfl rfl rfl (Nat.le_of_ble_eq_true rfl) rfl (by omega) (s_X6_formulaLine (K := K) a b v L 8 hR  (hw) (h3) (by omega)) (fun z45 h9 hq46 => ?_)
        obtain ⟨a47, b48, v49, rfl, ha47, fa47, x50, rfl, px50⟩ := hq46
        show f_wp _ (100, [some (.inr (.inr (some 6)))], [.inl x50], cH a47 b48 v49) _
        exact wp_iret (z := true) rfl (fun _ => by first | exact Or.inl rfl | exact Or.inr rfl | (rcases (by omega : x50.toInt = 0 ∨ x50.toInt = 1) with h8 | h8; exact Or.inl (ti_eq h8); exact Or.inr (ti_eq h8))) ⟨a47, b48, v49, rfl, ha47, ⟨FR.tr (FR.rf) (FR.sub fa47.1 (by first | exact (fun _ h9 => h9) | decide | (intro c9 h9; simp only [List.mem_cons, List.not_mem_nil, or_false] at h9 ⊢; omega) | (intro c9 h9; simp at h9; simp [cA]; omega) | (intro c9 h9; simp at h9; simp [cB]; omega) | (intro c9 h9; simp [cA] at h9; simp [cB]; omega))), ⟨fun i9 h9 => (fa47.2.1.1 i9 (fun z9 => h9 (by first | exact z9 | (revert z9; simp; done) | (revert z9; simp; omega)))).trans ((show ∀ i9, i9 ∉ [2, 4] → v i9 = v i9 from (fun _ _ => rfl)) i9 h9), fa47.2.1.2⟩, trivial⟩, ⟨_, rfl, by omega⟩⟩
      | n9 + 6, hk9, c10 => simp at hk9
set_option maxRecDepth 4000 in
theorem s_X6_weddingLine {K : Nat} (a : Nat → Nat → Int32) (b : Nat → Nat → Int64) (v : Nat → Option Nat) (L : Nat) (p : Int32) (hR : RC K a) (hw : f_wdb (v 2) = true) (h3 : v 3 = some L) (hL : L = 22 ∨ L = 46) : f_call mtC 4 78 [.inr (.inr (some 6)), .inl p] (cH a b v) (fun v9 h' => ∃ (a' : Nat → Nat → Int32) (b' : Nat → Nat → Int64) (v' : Nat → Option Nat), h' = cH a' b' v' ∧ RC K a' ∧ (FR [1, 6] a a' ∧ ((∀ i, i ∉ [2] → v' i = v i) ∧ f_wdb (v' 2) = true) ∧ ((∀ j, j ≠ 9 → j ≠ 10 → a' 6 j = a 6 j))) ∧ ∃ x : Int32, v9 = some (.inl x) ∧ True) := by
  refine f_call_of (d0 := 3) rfl (Nat.le_of_ble_eq_true rfl) (fun d hd => ?_)
  show f_wp _ (0, [some (.inr (.inr (some 6))), some (.inl p)], [], cH a b v) _
  have l0 : (0 : Int32).toInt = 0 := rfl
  have l3 : (3 : Int32).toInt = 3 := rfl
  refine w_aload rfl rfl ?_
  refine w_invV (rest := []) rfl rfl rfl rfl rfl (Nat.le_of_ble_eq_true rfl) rfl (by omega) (s_X6_isToldName (K := K) a b v L  hR  (hw) (h3) (by omega)) (fun z1 h9 hq2 => ?_)
  obtain ⟨a3, rfl, ha3, fa3, x4, rfl, px4⟩ := hq2
  show f_wp _ (4, [some (.inr (.inr (some 6))), some (.inl p)], [.inl x4], cH a3 b v) _
  refine w_if_ne rfl (fun c5 => ?_) (fun c5 => ?_)
  · skip
    refine w_const rfl ?_
    exact wp_iret (z := false) rfl (fun h9 => by cases h9) ⟨a3, b, v, rfl, ha3, ⟨FR.tr (FR.rf) (FR.sub fa3.1 (by first | exact (fun _ h9 => h9) | decide | (intro c9 h9; simp only [List.mem_cons, List.not_mem_nil, or_false] at h9 ⊢; omega) | (intro c9 h9; simp at h9; simp [cA]; omega) | (intro c9 h9; simp at h9; simp [cB]; omega) | (intro c9 h9; simp [cA] at h9; simp [cB]; omega))), ⟨(fun _ _ => rfl), hw⟩, fun j h9 h10 => by rw [fa3.2 j (by omega) (by omega)]⟩, ⟨_, rfl, trivial⟩⟩
  · skip
    refine w_aload rfl rfl ?_
    refine c_getI rfl rfl rfl rfl ?_
    refine w_iload rfl rfl ?_
    refine w_ic_ne rfl (fun c6 => ?_) (fun c6 => ?_)
    · skip
      refine w_aload rfl rfl ?_
      refine w_const rfl ?_
      refine w_invV (rest := []) rfl rfl rfl rfl rfl (Nat.le_of_ble_eq_true rfl) rfl (by omega) (s_X6_fail (K := K) a3 b v  3 ha3  ) (fun z7 h9 hq8 => ?_)
      obtain ⟨a9, rfl, ha9, fa9, x10, rfl, px10⟩ := hq8
      show f_wp _ (22, [some (.inr (.inr (some 6))), some (.inl p)], [.inl x10], cH a9 b v) _
      refine w_pop rfl rfl ?_
      refine w_const rfl ?_
      exact wp_iret (z := false) rfl (fun h9 => by cases h9) ⟨a9, b, v, rfl, ha9, ⟨FR.tr (FR.tr (FR.rf) (FR.sub fa3.1 (by first | exact (fun _ h9 => h9) | decide | (intro c9 h9; simp only [List.mem_cons, List.not_mem_nil, or_false] at h9 ⊢; omega) | (intro c9 h9; simp at h9; simp [cA]; omega) | (intro c9 h9; simp at h9; simp [cB]; omega) | (intro c9 h9; simp [cA] at h9; simp [cB]; omega)))) (FR.sub fa9.1 (by first | exact (fun _ h9 => h9) | decide | (intro c9 h9; simp only [List.mem_cons, List.not_mem_nil, or_false] at h9 ⊢; omega) | (intro c9 h9; simp at h9; simp [cA]; omega) | (intro c9 h9; simp at h9; simp [cB]; omega) | (intro c9 h9; simp [cA] at h9; simp [cB]; omega))), ⟨(fun _ _ => rfl), hw⟩, fun j h9 h10 => by rw [fa9.2 j (by omega)]; rw [fa3.2 j (by omega) (by omega)]⟩, ⟨_, rfl, trivial⟩⟩
    · skip
      refine w_aload rfl rfl ?_
      refine c_getR (t := some 1) rfl rfl rfl rfl rfl ?_
      refine w_invV (rest := []) rfl rfl rfl rfl rfl (Nat.le_of_ble_eq_true rfl) rfl (by omega) (s_X8_advance (K := K) a3 b v   ha3  ) (fun z11 h9 hq12 => ?_)
      obtain ⟨a13, b14, v15, rfl, ha13, fa13, rfl⟩ := hq12
      show f_wp _ (32, [some (.inr (.inr (some 6))), some (.inl p)], [], cH a13 b14 v15) _
      refine w_const rfl ?_
      refine w_iload rfl rfl ?_
      refine w_aload rfl rfl ?_
      refine c_getI rfl rfl rfl rfl ?_
      refine c_invT (rest := []) rfl (Nat.le_of_ble_eq_true rfl) rfl (Nat.le_of_ble_eq_true rfl) rfl (by omega) (s_X12_lineOf (K := K) a13 b14 v15  0 p (a13 6 9)   ) (fun z16 h9 hq17 => ?_)
      obtain ⟨rfl, x18, rfl, px18⟩ := hq17
      show f_wp _ (41, [some (.inr (.inr (some 6))), some (.inl p)], [.inl x18], cH a13 b14 v15) _
      exact wp_iret (z := false) rfl (fun h9 => by cases h9) ⟨a13, b14, v15, rfl, ha13, ⟨FR.tr (FR.tr (FR.rf) (FR.sub fa3.1 (by first | exact (fun _ h9 => h9) | decide | (intro c9 h9; simp only [List.mem_cons, List.not_mem_nil, or_false] at h9 ⊢; omega) | (intro c9 h9; simp at h9; simp [cA]; omega) | (intro c9 h9; simp at h9; simp [cB]; omega) | (intro c9 h9; simp [cA] at h9; simp [cB]; omega)))) (FR.sub fa13.1 (by first | exact (fun _ h9 => h9) | decide | (intro c9 h9; simp only [List.mem_cons, List.not_mem_nil, or_false] at h9 ⊢; omega) | (intro c9 h9; simp at h9; simp [cA]; omega) | (intro c9 h9; simp at h9; simp [cB]; omega) | (intro c9 h9; simp [cA] at h9; simp [cB]; omega))), ⟨fun i9 h9 => (fa13.2.1.1 i9 (fun z9 => h9 (by first | exact z9 | (revert z9; simp; done) | (revert z9; simp; omega)))).trans ((show ∀ i9, i9 ∉ [2] → v i9 = v i9 from (fun _ _ => rfl)) i9 h9), fa13.2.1.2⟩, fun j h9 h10 => by rw [fa13.1 6 (by decide)]; rw [fa3.2 j (by omega) (by omega)]⟩, ⟨_, rfl, trivial⟩⟩
set_option maxHeartbeats 2000000 in
set_option maxRecDepth 4000 in
theorem s_X6_vowLine {K : Nat} (a : Nat → Nat → Int32) (b : Nat → Nat → Int64) (v : Nat → Option Nat) (L : Nat)  (hR : RC K a) (hw : f_wdb (v 2) = true) (h3 : v 3 = some L) (hL : L = 22 ∨ L = 46) : f_call mtC 5 77 [.inr (.inr (some 6))] (cH a b v) (fun v9 h' => ∃ (a' : Nat → Nat → Int32) (b' : Nat → Nat → Int64) (v' : Nat → Option Nat), h' = cH a' b' v' ∧ RC K a' ∧ (FR [1, 6, 7] a a' ∧ ((∀ i, i ∉ [2] → v' i = v i) ∧ f_wdb (v' 2) = true) ∧ True) ∧ ∃ x : Int32, v9 = some (.inl x) ∧ (x.toInt = 0 ∨ x.toInt = 1)) := by
  refine f_call_of (d0 := 4) rfl (Nat.le_of_ble_eq_true rfl) (fun d hd => ?_)
  show f_wp _ (0, [some (.inr (.inr (some 6))), none, none, none], [], cH a b v) _
  have l0 : (0 : Int32).toInt = 0 := rfl
  have l1 : (1 : Int32).toInt = 1 := rfl
  have l2 : (2 : Int32).toInt = 2 := rfl
  have l5 : (5 : Int32).toInt = 5 := rfl
  have l24 : (24 : Int32).toInt = 24 := rfl
  refine w_aload rfl rfl ?_
  refine c_getR (t := some 1) rfl rfl rfl rfl rfl ?_
  refine c_getR (t := v 2) rfl rfl rfl rfl rfl ?_
  refine w_const rfl ?_
  refine c_aw_ne rfl ⟨hw, rfl⟩ (fun c1 => ?_) (fun c1 => ?_)
  · skip
    refine w_const rfl ?_
    refine w_goto rfl ?_
    refine w_istore (lo' := [some (.inr (.inr (some 6))), some (.inl 1), none, none]) rfl rfl ?_
    refine w_aload rfl rfl ?_
    refine c_getR (t := some 1) rfl rfl rfl rfl rfl ?_
    refine c_getR (t := v 2) rfl rfl rfl rfl rfl ?_
    refine w_const rfl ?_
    refine c_aw_ne rfl ⟨hw, rfl⟩ (fun c2 => ?_) (fun c2 => ?_)
    · skip
      refine w_const rfl ?_
      refine w_goto rfl ?_
      refine w_istore (lo' := [some (.inr (.inr (some 6))), some (.inl 1), some (.inl 1), none]) rfl rfl ?_
      have loop141 : ∀ (ms9 : Nat) (li : Int32) (a141 : Nat → Nat → Int32) (b141 : Nat → Nat → Int64) (v141 : Nat → Option Nat) , ((0 : Int)).toNat = ms9 → RC K a141 → FR [1, 6, 7] a a141 → (∀ i, i ∉ [2] → v141 i = v i) → (f_wdb (v141 2) = true) → ((a141 6 2).toInt ≤ 23) → f_wp (f_code (t_X6_vowLine (f_ev mtC d))) (141, [some (.inr (.inr (some 6))), some (.inl 1), some (.inl 1), some (.inl li)], [], cH a141 b141 v141) (fun v9 h' => ∃ (a' : Nat → Nat → Int32) (b' : Nat → Nat → Int64) (v' : Nat → Option Nat), h' = cH a' b' v' ∧ RC K a' ∧ (FR [1, 6, 7] a a' ∧ ((∀ i, i ∉ [2] → v' i = v i) ∧ f_wdb (v' 2) = true) ∧ True) ∧ ∃ x : Int32, v9 = some (.inl x) ∧ (x.toInt = 0 ∨ x.toInt = 1)) := by
        intro ms9
        induction ms9 using Nat.strongRecOn with
        | _ ms141 ih141 =>
          intro li a141 b141 v141  hm141 hR141 hF141 hG141 hw9 hk2
          refine w_aload rfl rfl ?_
          refine c_getR (t := some 7) rfl rfl rfl rfl rfl ?_
          refine w_aload rfl rfl ?_
          refine c_getI rfl rfl rfl rfl ?_
          have q3 : 0 ≤ (a141 6 2).toInt ∧ (a141 6 2).toInt ≤ 24 := hR141 6 2
          refine w_iload rfl rfl ?_
          refine c_iast rfl rfl (by omega) (fun a4 ea4 => ?_)
          have ha4 : RC K a4 := RC.up hR141 ea4 (lc_any _ (by omega))
          have ra4_41 : (a4 6 2).toInt = (a141 6 2).toInt := by rw [ea4, mU_cell (by omega)]
          refine w_aload rfl rfl ?_
          refine w_dup rfl rfl ?_
          refine c_getI rfl rfl rfl rfl ?_
          have q5 : 0 ≤ (a4 6 2).toInt ∧ (a4 6 2).toInt ≤ 24 := ha4 6 2
          have k8 : (a4 6 2).toInt = (a141 6 2).toInt := by rw [ea4, mU_cell (by decide)]
          refine w_const rfl ?_
          first | refine w_iadd rfl (by omega) (fun x6 tx6 => ?_) | refine w_iiU rfl (fun x6 tx6 => ?_)
          refine c_putI (z := false) rfl rfl rfl rfl (by first | (intro h9; cases h9; done) | (intro _; first | exact Or.inl rfl | exact Or.inr rfl | assumption | (rcases (by omega : x6.toInt = 0 ∨ x6.toInt = 1) with h8 | h8; exact Or.inl (ti_eq h8); exact Or.inr (ti_eq h8)))) (fun a7 ea7 => ?_)
          have ha7 : RC K a7 := RC.up ha4 ea7 (show (0 : Int) ≤ _ ∧ _ ≤ (24 : Int) from by omega)
          have ua7 : a7 6 2 = x6 := by rw [ea7, mU_same]
          have wa7 := congrArg Int32.toInt ua7
          refine w_aload rfl rfl ?_
          refine c_getI rfl rfl rfl rfl ?_
          refine w_if_ne rfl (fun c8 => ?_) (fun c8 => ?_)
          · skip
            refine w_const rfl ?_
            refine w_goto rfl ?_
            exact wp_iret (z := true) rfl (fun _ => by first | exact Or.inl rfl | exact Or.inr rfl | (rcases (by omega : (1 : Int32).toInt = 0 ∨ (1 : Int32).toInt = 1) with h8 | h8; exact Or.inl (ti_eq h8); exact Or.inr (ti_eq h8))) ⟨a7, b141, v141, rfl, ha7, ⟨FR.up (FR.up (hF141) (by first | decide | simp | (simp [cA]; omega) | (simp [cB]; omega)) ea4) (by first | decide | simp | (simp [cA]; omega) | (simp [cB]; omega)) ea7, ⟨hG141, hw9⟩, trivial⟩, ⟨_, rfl, by omega⟩⟩
          · skip
            refine w_const rfl ?_
            exact wp_iret (z := true) rfl (fun _ => by first | exact Or.inl rfl | exact Or.inr rfl | (rcases (by omega : (0 : Int32).toInt = 0 ∨ (0 : Int32).toInt = 1) with h8 | h8; exact Or.inl (ti_eq h8); exact Or.inr (ti_eq h8))) ⟨a7, b141, v141, rfl, ha7, ⟨FR.up (FR.up (hF141) (by first | decide | simp | (simp [cA]; omega) | (simp [cB]; omega)) ea4) (by first | decide | simp | (simp [cA]; omega) | (simp [cB]; omega)) ea7, ⟨hG141, hw9⟩, trivial⟩, ⟨_, rfl, by omega⟩⟩
      refine w_iload rfl rfl ?_
      refine w_if_ne rfl (fun c9 => ?_) (fun c9 => ?_)
      · exfalso; omega
      · skip
        refine w_aload rfl rfl ?_
        refine c_getI rfl rfl rfl rfl ?_
        have q10 : 0 ≤ (a 6 2).toInt ∧ (a 6 2).toInt ≤ 24 := hR 6 2
        refine w_const rfl ?_
        refine w_ic_lt rfl (fun c11 => ?_) (fun c11 => ?_)
        · skip
          refine w_aload rfl rfl ?_
          refine c_getR (t := some 1) rfl rfl rfl rfl rfl ?_
          refine w_invV (rest := []) rfl rfl rfl rfl rfl (Nat.le_of_ble_eq_true rfl) rfl (by omega) (s_X8_advance (K := K) a b v   hR  ) (fun z12 h9 hq13 => ?_)
          obtain ⟨a14, b15, v16, rfl, ha14, fa14, rfl⟩ := hq13
          show f_wp _ (87, [some (.inr (.inr (some 6))), some (.inl 1), some (.inl 1), none], [], cH a14 b15 v16) _
          refine w_const rfl ?_
          refine w_const rfl ?_
          refine w_const rfl ?_
          refine c_invT (rest := []) rfl (Nat.le_of_ble_eq_true rfl) rfl (Nat.le_of_ble_eq_true rfl) rfl (by omega) (s_X12_lineOf (K := K) a14 b15 v16  2 0 0   ) (fun z17 h9 hq18 => ?_)
          obtain ⟨rfl, x19, rfl, px19⟩ := hq18
          show f_wp _ (93, [some (.inr (.inr (some 6))), some (.inl 1), some (.inl 1), none], [.inl x19], cH a14 b15 v16) _
          refine w_istore (lo' := [some (.inr (.inr (some 6))), some (.inl 1), some (.inl 1), some (.inl x19)]) rfl rfl ?_
          refine w_iload rfl rfl ?_
          refine w_if_ne rfl (fun c20 => ?_) (fun c20 => ?_)
          · exfalso; omega
          · skip
            refine w_aload rfl rfl ?_
            refine w_invV (rest := []) rfl rfl rfl rfl rfl (Nat.le_of_ble_eq_true rfl) rfl (by omega) (s_X6_isToldName (K := K) a14 b15 v16 L  ha14  (fa14.2.1.2) (((fa14.2.1.1 3 (by decide)).trans h3)) (by omega)) (fun z21 h9 hq22 => ?_)
            obtain ⟨a23, rfl, ha23, fa23, x24, rfl, px24⟩ := hq22
            show f_wp _ (106, [some (.inr (.inr (some 6))), some (.inl 1), some (.inl 1), some (.inl x19)], [.inl x24], cH a23 b15 v16) _
            refine w_if_ne rfl (fun c25 => ?_) (fun c25 => ?_)
            · skip
              refine w_const rfl ?_
              exact wp_iret (z := true) rfl (fun _ => by first | exact Or.inl rfl | exact Or.inr rfl | (rcases (by omega : (0 : Int32).toInt = 0 ∨ (0 : Int32).toInt = 1) with h8 | h8; exact Or.inl (ti_eq h8); exact Or.inr (ti_eq h8))) ⟨a23, b15, v16, rfl, ha23, ⟨FR.tr (FR.tr (FR.rf) (FR.sub fa14.1 (by first | exact (fun _ h9 => h9) | decide | (intro c9 h9; simp only [List.mem_cons, List.not_mem_nil, or_false] at h9 ⊢; omega) | (intro c9 h9; simp at h9; simp [cA]; omega) | (intro c9 h9; simp at h9; simp [cB]; omega) | (intro c9 h9; simp [cA] at h9; simp [cB]; omega)))) (FR.sub fa23.1 (by first | exact (fun _ h9 => h9) | decide | (intro c9 h9; simp only [List.mem_cons, List.not_mem_nil, or_false] at h9 ⊢; omega) | (intro c9 h9; simp at h9; simp [cA]; omega) | (intro c9 h9; simp at h9; simp [cB]; omega) | (intro c9 h9; simp [cA] at h9; simp [cB]; omega))), ⟨fun i9 h9 => (fa14.2.1.1 i9 (fun z9 => h9 (by first | exact z9 | (revert z9; simp; done) | (revert z9; simp; omega)))).trans ((show ∀ i9, i9 ∉ [2] → v i9 = v i9 from (fun _ _ => rfl)) i9 h9), fa14.2.1.2⟩, trivial⟩, ⟨_, rfl, by omega⟩⟩
            · skip
              refine w_const rfl ?_
              refine w_aload rfl rfl ?_
              refine c_getI rfl rfl rfl rfl ?_
              refine w_const rfl ?_
              refine c_invT (rest := []) rfl (Nat.le_of_ble_eq_true rfl) rfl (Nat.le_of_ble_eq_true rfl) rfl (by omega) (s_X12_lineOf (K := K) a23 b15 v16  1 (a23 6 9) 0   ) (fun z26 h9 hq27 => ?_)
              obtain ⟨rfl, x28, rfl, px28⟩ := hq27
              show f_wp _ (120, [some (.inr (.inr (some 6))), some (.inl 1), some (.inl 1), some (.inl x19)], [.inl x28], cH a23 b15 v16) _
              refine w_istore (lo' := [some (.inr (.inr (some 6))), some (.inl 1), some (.inl 1), some (.inl x28)]) rfl rfl ?_
              refine w_aload rfl rfl ?_
              refine c_getR (t := some 1) rfl rfl rfl rfl rfl ?_
              refine w_invV (rest := []) rfl rfl rfl rfl rfl (Nat.le_of_ble_eq_true rfl) rfl (by omega) (s_X8_advance (K := K) a23 b15 v16   ha23  ) (fun z29 h9 hq30 => ?_)
              obtain ⟨a31, b32, v33, rfl, ha31, fa31, rfl⟩ := hq30
              show f_wp _ (128, [some (.inr (.inr (some 6))), some (.inl 1), some (.inl 1), some (.inl x28)], [], cH a31 b32 v33) _
              refine w_iload rfl rfl ?_
              refine w_if_eq rfl (fun c34 => ?_) (fun c34 => ?_)
              · exfalso; omega
              · skip
                refine w_aload rfl rfl ?_
                refine w_aload rfl rfl ?_
                refine c_getI rfl rfl rfl rfl ?_
                refine w_invV (rest := []) rfl rfl rfl rfl rfl (Nat.le_of_ble_eq_true rfl) rfl (by omega) (s_X6_weddingLine (K := K) a31 b32 v33 L (a31 6 9) ha31  (fa31.2.1.2) (((fa31.2.1.1 3 (by decide)).trans ((fa14.2.1.1 3 (by decide)).trans h3))) (by omega)) (fun z35 h9 hq36 => ?_)
                obtain ⟨a37, b38, v39, rfl, ha37, fa37, x40, rfl, px40⟩ := hq36
                show f_wp _ (140, [some (.inr (.inr (some 6))), some (.inl 1), some (.inl 1), some (.inl x28)], [.inl x40], cH a37 b38 v39) _
                refine w_istore (lo' := [some (.inr (.inr (some 6))), some (.inl 1), some (.inl 1), some (.inl x40)]) rfl rfl ?_
                exact loop141 _ x40 a37 b38 v39 rfl ha37 (FR.tr (FR.tr (FR.tr (FR.tr (FR.rf) (FR.sub fa14.1 (by first | exact (fun _ h9 => h9) | decide | (intro c9 h9; simp only [List.mem_cons, List.not_mem_nil, or_false] at h9 ⊢; omega) | (intro c9 h9; simp at h9; simp [cA]; omega) | (intro c9 h9; simp at h9; simp [cB]; omega) | (intro c9 h9; simp [cA] at h9; simp [cB]; omega)))) (FR.sub fa23.1 (by first | exact (fun _ h9 => h9) | decide | (intro c9 h9; simp only [List.mem_cons, List.not_mem_nil, or_false] at h9 ⊢; omega) | (intro c9 h9; simp at h9; simp [cA]; omega) | (intro c9 h9; simp at h9; simp [cB]; omega) | (intro c9 h9; simp [cA] at h9; simp [cB]; omega)))) (FR.sub fa31.1 (by first | exact (fun _ h9 => h9) | decide | (intro c9 h9; simp only [List.mem_cons, List.not_mem_nil, or_false] at h9 ⊢; omega) | (intro c9 h9; simp at h9; simp [cA]; omega) | (intro c9 h9; simp at h9; simp [cB]; omega) | (intro c9 h9; simp [cA] at h9; simp [cB]; omega)))) (FR.sub fa37.1 (by first | exact (fun _ h9 => h9) | decide | (intro c9 h9; simp only [List.mem_cons, List.not_mem_nil, or_false] at h9 ⊢; omega) | (intro c9 h9; simp at h9; simp [cA]; omega) | (intro c9 h9; simp at h9; simp [cB]; omega) | (intro c9 h9; simp [cA] at h9; simp [cB]; omega)))) (fun i9 h9 => (fa37.2.1.1 i9 (fun z9 => h9 (by first | exact z9 | (revert z9; simp; done) | (revert z9; simp; omega)))).trans ((show ∀ i9, i9 ∉ [2] → v33 i9 = v i9 from fun i9 h9 => (fa31.2.1.1 i9 (fun z9 => h9 (by first | exact z9 | (revert z9; simp; done) | (revert z9; simp; omega)))).trans ((show ∀ i9, i9 ∉ [2] → v16 i9 = v i9 from fun i9 h9 => (fa14.2.1.1 i9 (fun z9 => h9 (by first | exact z9 | (revert z9; simp; done) | (revert z9; simp; omega)))).trans ((show ∀ i9, i9 ∉ [2] → v i9 = v i9 from (fun _ _ => rfl)) i9 h9)) i9 h9)) i9 h9)) (fa37.2.1.2) (by have k9 : (a37 6 2).toInt = (a 6 2).toInt := (by rw [fa37.2.2 2 (by decide) (by decide), fa31.1 6 (by decide), fa23.2 2 (by decide) (by decide), fa14.1 6 (by decide)]); omega)
        · skip
          refine w_aload rfl rfl ?_
          refine w_const rfl ?_
          refine w_invV (rest := []) rfl rfl rfl rfl rfl (Nat.le_of_ble_eq_true rfl) rfl (by omega) (s_X6_fail (K := K) a b v  5 hR  ) (fun z41 h9 hq42 => ?_)
          obtain ⟨a43, rfl, ha43, fa43, x44, rfl, px44⟩ := hq42
          show f_wp _ (79, [some (.inr (.inr (some 6))), some (.inl 1), some (.inl 1), none], [.inl x44], cH a43 b v) _
          exact wp_iret (z := true) rfl (fun _ => by first | exact Or.inl rfl | exact Or.inr rfl | (rcases (by omega : x44.toInt = 0 ∨ x44.toInt = 1) with h8 | h8; exact Or.inl (ti_eq h8); exact Or.inr (ti_eq h8))) ⟨a43, b, v, rfl, ha43, ⟨FR.tr (FR.rf) (FR.sub fa43.1 (by first | exact (fun _ h9 => h9) | decide | (intro c9 h9; simp only [List.mem_cons, List.not_mem_nil, or_false] at h9 ⊢; omega) | (intro c9 h9; simp at h9; simp [cA]; omega) | (intro c9 h9; simp at h9; simp [cB]; omega) | (intro c9 h9; simp [cA] at h9; simp [cB]; omega))), ⟨(fun _ _ => rfl), hw⟩, trivial⟩, ⟨_, rfl, by omega⟩⟩
    · skip
      refine w_const rfl ?_
      refine w_istore (lo' := [some (.inr (.inr (some 6))), some (.inl 1), some (.inl 0), none]) rfl rfl ?_
      have loop141 : ∀ (ms9 : Nat) (li : Int32) (a141 : Nat → Nat → Int32) (b141 : Nat → Nat → Int64) (v141 : Nat → Option Nat) , ((0 : Int)).toNat = ms9 → RC K a141 → FR [1, 6, 7] a a141 → (∀ i, i ∉ [2] → v141 i = v i) → (f_wdb (v141 2) = true) → ((a141 6 2).toInt ≤ 23) → f_wp (f_code (t_X6_vowLine (f_ev mtC d))) (141, [some (.inr (.inr (some 6))), some (.inl 1), some (.inl 0), some (.inl li)], [], cH a141 b141 v141) (fun v9 h' => ∃ (a' : Nat → Nat → Int32) (b' : Nat → Nat → Int64) (v' : Nat → Option Nat), h' = cH a' b' v' ∧ RC K a' ∧ (FR [1, 6, 7] a a' ∧ ((∀ i, i ∉ [2] → v' i = v i) ∧ f_wdb (v' 2) = true) ∧ True) ∧ ∃ x : Int32, v9 = some (.inl x) ∧ (x.toInt = 0 ∨ x.toInt = 1)) := by
        intro ms9
        induction ms9 using Nat.strongRecOn with
        | _ ms141 ih141 =>
          intro li a141 b141 v141  hm141 hR141 hF141 hG141 hw9 hk2
          refine w_aload rfl rfl ?_
          refine c_getR (t := some 7) rfl rfl rfl rfl rfl ?_
          refine w_aload rfl rfl ?_
          refine c_getI rfl rfl rfl rfl ?_
          have q45 : 0 ≤ (a141 6 2).toInt ∧ (a141 6 2).toInt ≤ 24 := hR141 6 2
          refine w_iload rfl rfl ?_
          refine c_iast rfl rfl (by omega) (fun a46 ea46 => ?_)
          have ha46 : RC K a46 := RC.up hR141 ea46 (lc_any _ (by omega))
          have ra46_146 : (a46 6 2).toInt = (a141 6 2).toInt := by rw [ea46, mU_cell (by omega)]
          refine w_aload rfl rfl ?_
          refine w_dup rfl rfl ?_
          refine c_getI rfl rfl rfl rfl ?_
          have q47 : 0 ≤ (a46 6 2).toInt ∧ (a46 6 2).toInt ≤ 24 := ha46 6 2
          have k8 : (a46 6 2).toInt = (a141 6 2).toInt := by rw [ea46, mU_cell (by decide)]
          refine w_const rfl ?_
          first | refine w_iadd rfl (by omega) (fun x48 tx48 => ?_) | refine w_iiU rfl (fun x48 tx48 => ?_)
          refine c_putI (z := false) rfl rfl rfl rfl (by first | (intro h9; cases h9; done) | (intro _; first | exact Or.inl rfl | exact Or.inr rfl | assumption | (rcases (by omega : x48.toInt = 0 ∨ x48.toInt = 1) with h8 | h8; exact Or.inl (ti_eq h8); exact Or.inr (ti_eq h8)))) (fun a49 ea49 => ?_)
          have ha49 : RC K a49 := RC.up ha46 ea49 (show (0 : Int) ≤ _ ∧ _ ≤ (24 : Int) from by omega)
          have ua49 : a49 6 2 = x48 := by rw [ea49, mU_same]
          have wa49 := congrArg Int32.toInt ua49
          refine w_aload rfl rfl ?_
          refine c_getI rfl rfl rfl rfl ?_
          refine w_if_ne rfl (fun c50 => ?_) (fun c50 => ?_)
          · skip
            refine w_const rfl ?_
            refine w_goto rfl ?_
            exact wp_iret (z := true) rfl (fun _ => by first | exact Or.inl rfl | exact Or.inr rfl | (rcases (by omega : (1 : Int32).toInt = 0 ∨ (1 : Int32).toInt = 1) with h8 | h8; exact Or.inl (ti_eq h8); exact Or.inr (ti_eq h8))) ⟨a49, b141, v141, rfl, ha49, ⟨FR.up (FR.up (hF141) (by first | decide | simp | (simp [cA]; omega) | (simp [cB]; omega)) ea46) (by first | decide | simp | (simp [cA]; omega) | (simp [cB]; omega)) ea49, ⟨hG141, hw9⟩, trivial⟩, ⟨_, rfl, by omega⟩⟩
          · skip
            refine w_const rfl ?_
            exact wp_iret (z := true) rfl (fun _ => by first | exact Or.inl rfl | exact Or.inr rfl | (rcases (by omega : (0 : Int32).toInt = 0 ∨ (0 : Int32).toInt = 1) with h8 | h8; exact Or.inl (ti_eq h8); exact Or.inr (ti_eq h8))) ⟨a49, b141, v141, rfl, ha49, ⟨FR.up (FR.up (hF141) (by first | decide | simp | (simp [cA]; omega) | (simp [cB]; omega)) ea46) (by first | decide | simp | (simp [cA]; omega) | (simp [cB]; omega)) ea49, ⟨hG141, hw9⟩, trivial⟩, ⟨_, rfl, by omega⟩⟩
      refine w_iload rfl rfl ?_
      refine w_if_ne rfl (fun c51 => ?_) (fun c51 => ?_)
      · exfalso; omega
      · skip
        refine w_aload rfl rfl ?_
        refine c_getI rfl rfl rfl rfl ?_
        have q52 : 0 ≤ (a 6 2).toInt ∧ (a 6 2).toInt ≤ 24 := hR 6 2
        refine w_const rfl ?_
        refine w_ic_lt rfl (fun c53 => ?_) (fun c53 => ?_)
        · skip
          refine w_aload rfl rfl ?_
          refine c_getR (t := some 1) rfl rfl rfl rfl rfl ?_
          refine w_invV (rest := []) rfl rfl rfl rfl rfl (Nat.le_of_ble_eq_true rfl) rfl (by omega) (s_X8_advance (K := K) a b v   hR  ) (fun z54 h9 hq55 => ?_)
          obtain ⟨a56, b57, v58, rfl, ha56, fa56, rfl⟩ := hq55
          show f_wp _ (87, [some (.inr (.inr (some 6))), some (.inl 1), some (.inl 0), none], [], cH a56 b57 v58) _
          refine w_const rfl ?_
          refine w_const rfl ?_
          refine w_const rfl ?_
          refine c_invT (rest := []) rfl (Nat.le_of_ble_eq_true rfl) rfl (Nat.le_of_ble_eq_true rfl) rfl (by omega) (s_X12_lineOf (K := K) a56 b57 v58  2 0 0   ) (fun z59 h9 hq60 => ?_)
          obtain ⟨rfl, x61, rfl, px61⟩ := hq60
          show f_wp _ (93, [some (.inr (.inr (some 6))), some (.inl 1), some (.inl 0), none], [.inl x61], cH a56 b57 v58) _
          refine w_istore (lo' := [some (.inr (.inr (some 6))), some (.inl 1), some (.inl 0), some (.inl x61)]) rfl rfl ?_
          refine w_iload rfl rfl ?_
          refine w_if_ne rfl (fun c62 => ?_) (fun c62 => ?_)
          · exfalso; omega
          · skip
            refine w_aload rfl rfl ?_
            refine w_invV (rest := []) rfl rfl rfl rfl rfl (Nat.le_of_ble_eq_true rfl) rfl (by omega) (s_X6_isToldName (K := K) a56 b57 v58 L  ha56  (fa56.2.1.2) (((fa56.2.1.1 3 (by decide)).trans h3)) (by omega)) (fun z63 h9 hq64 => ?_)
            obtain ⟨a65, rfl, ha65, fa65, x66, rfl, px66⟩ := hq64
            show f_wp _ (106, [some (.inr (.inr (some 6))), some (.inl 1), some (.inl 0), some (.inl x61)], [.inl x66], cH a65 b57 v58) _
            refine w_if_ne rfl (fun c67 => ?_) (fun c67 => ?_)
            · skip
              refine w_const rfl ?_
              exact wp_iret (z := true) rfl (fun _ => by first | exact Or.inl rfl | exact Or.inr rfl | (rcases (by omega : (0 : Int32).toInt = 0 ∨ (0 : Int32).toInt = 1) with h8 | h8; exact Or.inl (ti_eq h8); exact Or.inr (ti_eq h8))) ⟨a65, b57, v58, rfl, ha65, ⟨FR.tr (FR.tr (FR.rf) (FR.sub fa56.1 (by first | exact (fun _ h9 => h9) | decide | (intro c9 h9; simp only [List.mem_cons, List.not_mem_nil, or_false] at h9 ⊢; omega) | (intro c9 h9; simp at h9; simp [cA]; omega) | (intro c9 h9; simp at h9; simp [cB]; omega) | (intro c9 h9; simp [cA] at h9; simp [cB]; omega)))) (FR.sub fa65.1 (by first | exact (fun _ h9 => h9) | decide | (intro c9 h9; simp only [List.mem_cons, List.not_mem_nil, or_false] at h9 ⊢; omega) | (intro c9 h9; simp at h9; simp [cA]; omega) | (intro c9 h9; simp at h9; simp [cB]; omega) | (intro c9 h9; simp [cA] at h9; simp [cB]; omega))), ⟨fun i9 h9 => (fa56.2.1.1 i9 (fun z9 => h9 (by first | exact z9 | (revert z9; simp; done) | (revert z9; simp; omega)))).trans ((show ∀ i9, i9 ∉ [2] → v i9 = v i9 from (fun _ _ => rfl)) i9 h9), fa56.2.1.2⟩, trivial⟩, ⟨_, rfl, by omega⟩⟩
            · skip
              refine w_const rfl ?_
              refine w_aload rfl rfl ?_
              refine c_getI rfl rfl rfl rfl ?_
              refine w_const rfl ?_
              refine c_invT (rest := []) rfl (Nat.le_of_ble_eq_true rfl) rfl (Nat.le_of_ble_eq_true rfl) rfl (by omega) (s_X12_lineOf (K := K) a65 b57 v58  1 (a65 6 9) 0   ) (fun z68 h9 hq69 => ?_)
              obtain ⟨rfl, x70, rfl, px70⟩ := hq69
              show f_wp _ (120, [some (.inr (.inr (some 6))), some (.inl 1), some (.inl 0), some (.inl x61)], [.inl x70], cH a65 b57 v58) _
              refine w_istore (lo' := [some (.inr (.inr (some 6))), some (.inl 1), some (.inl 0), some (.inl x70)]) rfl rfl ?_
              refine w_aload rfl rfl ?_
              refine c_getR (t := some 1) rfl rfl rfl rfl rfl ?_
              refine w_invV (rest := []) rfl rfl rfl rfl rfl (Nat.le_of_ble_eq_true rfl) rfl (by omega) (s_X8_advance (K := K) a65 b57 v58   ha65  ) (fun z71 h9 hq72 => ?_)
              obtain ⟨a73, b74, v75, rfl, ha73, fa73, rfl⟩ := hq72
              show f_wp _ (128, [some (.inr (.inr (some 6))), some (.inl 1), some (.inl 0), some (.inl x70)], [], cH a73 b74 v75) _
              refine w_iload rfl rfl ?_
              refine w_if_eq rfl (fun c76 => ?_) (fun c76 => ?_)
              · exfalso; omega
              · skip
                refine w_aload rfl rfl ?_
                refine w_aload rfl rfl ?_
                refine c_getI rfl rfl rfl rfl ?_
                refine w_invV (rest := []) rfl rfl rfl rfl rfl (Nat.le_of_ble_eq_true rfl) rfl (by omega) (s_X6_weddingLine (K := K) a73 b74 v75 L (a73 6 9) ha73  (fa73.2.1.2) (((fa73.2.1.1 3 (by decide)).trans ((fa56.2.1.1 3 (by decide)).trans h3))) (by omega)) (fun z77 h9 hq78 => ?_)
                obtain ⟨a79, b80, v81, rfl, ha79, fa79, x82, rfl, px82⟩ := hq78
                show f_wp _ (140, [some (.inr (.inr (some 6))), some (.inl 1), some (.inl 0), some (.inl x70)], [.inl x82], cH a79 b80 v81) _
                refine w_istore (lo' := [some (.inr (.inr (some 6))), some (.inl 1), some (.inl 0), some (.inl x82)]) rfl rfl ?_
                exact loop141 _ x82 a79 b80 v81 rfl ha79 (FR.tr (FR.tr (FR.tr (FR.tr (FR.rf) (FR.sub fa56.1 (by first | exact (fun _ h9 => h9) | decide | (intro c9 h9; simp only [List.mem_cons, List.not_mem_nil, or_false] at h9 ⊢; omega) | (intro c9 h9; simp at h9; simp [cA]; omega) | (intro c9 h9; simp at h9; simp [cB]; omega) | (intro c9 h9; simp [cA] at h9; simp [cB]; omega)))) (FR.sub fa65.1 (by first | exact (fun _ h9 => h9) | decide | (intro c9 h9; simp only [List.mem_cons, List.not_mem_nil, or_false] at h9 ⊢; omega) | (intro c9 h9; simp at h9; simp [cA]; omega) | (intro c9 h9; simp at h9; simp [cB]; omega) | (intro c9 h9; simp [cA] at h9; simp [cB]; omega)))) (FR.sub fa73.1 (by first | exact (fun _ h9 => h9) | decide | (intro c9 h9; simp only [List.mem_cons, List.not_mem_nil, or_false] at h9 ⊢; omega) | (intro c9 h9; simp at h9; simp [cA]; omega) | (intro c9 h9; simp at h9; simp [cB]; omega) | (intro c9 h9; simp [cA] at h9; simp [cB]; omega)))) (FR.sub fa79.1 (by first | exact (fun _ h9 => h9) | decide | (intro c9 h9; simp only [List.mem_cons, List.not_mem_nil, or_false] at h9 ⊢; omega) | (intro c9 h9; simp at h9; simp [cA]; omega) | (intro c9 h9; simp at h9; simp [cB]; omega) | (intro c9 h9; simp [cA] at h9; simp [cB]; omega)))) (fun i9 h9 => (fa79.2.1.1 i9 (fun z9 => h9 (by first | exact z9 | (revert z9; simp; done) | (revert z9; simp; omega)))).trans ((show ∀ i9, i9 ∉ [2] → v75 i9 = v i9 from fun i9 h9 => (fa73.2.1.1 i9 (fun z9 => h9 (by first | exact z9 | (revert z9; simp; done) | (revert z9; simp; omega)))).trans ((show ∀ i9, i9 ∉ [2] → v58 i9 = v i9 from fun i9 h9 => (fa56.2.1.1 i9 (fun z9 => h9 (by first | exact z9 | (revert z9; simp; done) | (revert z9; simp; omega)))).trans ((show ∀ i9, i9 ∉ [2] → v i9 = v i9 from (fun _ _ => rfl)) i9 h9)) i9 h9)) i9 h9)) (fa79.2.1.2) (by have k9 : (a79 6 2).toInt = (a 6 2).toInt := (by rw [fa79.2.2 2 (by decide) (by decide), fa73.1 6 (by decide), fa65.2 2 (by decide) (by decide), fa56.1 6 (by decide)]); omega)
        · skip
          refine w_aload rfl rfl ?_
          refine w_const rfl ?_
          refine w_invV (rest := []) rfl rfl rfl rfl rfl (Nat.le_of_ble_eq_true rfl) rfl (by omega) (s_X6_fail (K := K) a b v  5 hR  ) (fun z83 h9 hq84 => ?_)
          obtain ⟨a85, rfl, ha85, fa85, x86, rfl, px86⟩ := hq84
          show f_wp _ (79, [some (.inr (.inr (some 6))), some (.inl 1), some (.inl 0), none], [.inl x86], cH a85 b v) _
          exact wp_iret (z := true) rfl (fun _ => by first | exact Or.inl rfl | exact Or.inr rfl | (rcases (by omega : x86.toInt = 0 ∨ x86.toInt = 1) with h8 | h8; exact Or.inl (ti_eq h8); exact Or.inr (ti_eq h8))) ⟨a85, b, v, rfl, ha85, ⟨FR.tr (FR.rf) (FR.sub fa85.1 (by first | exact (fun _ h9 => h9) | decide | (intro c9 h9; simp only [List.mem_cons, List.not_mem_nil, or_false] at h9 ⊢; omega) | (intro c9 h9; simp at h9; simp [cA]; omega) | (intro c9 h9; simp at h9; simp [cB]; omega) | (intro c9 h9; simp [cA] at h9; simp [cB]; omega))), ⟨(fun _ _ => rfl), hw⟩, trivial⟩, ⟨_, rfl, by omega⟩⟩
  · skip
    refine w_const rfl ?_
    refine w_istore (lo' := [some (.inr (.inr (some 6))), some (.inl 0), none, none]) rfl rfl ?_
    refine w_aload rfl rfl ?_
    refine c_getR (t := some 1) rfl rfl rfl rfl rfl ?_
    refine c_getR (t := v 2) rfl rfl rfl rfl rfl ?_
    refine w_const rfl ?_
    refine c_aw_ne rfl ⟨hw, rfl⟩ (fun c87 => ?_) (fun c87 => ?_)
    · skip
      refine w_const rfl ?_
      refine w_goto rfl ?_
      refine w_istore (lo' := [some (.inr (.inr (some 6))), some (.inl 0), some (.inl 1), none]) rfl rfl ?_
      have loop141 : ∀ (ms9 : Nat) (li : Int32) (a141 : Nat → Nat → Int32) (b141 : Nat → Nat → Int64) (v141 : Nat → Option Nat) , ((0 : Int)).toNat = ms9 → RC K a141 → FR [1, 6, 7] a a141 → (∀ i, i ∉ [2] → v141 i = v i) → (f_wdb (v141 2) = true) → ((a141 6 2).toInt ≤ 23) → f_wp (f_code (t_X6_vowLine (f_ev mtC d))) (141, [some (.inr (.inr (some 6))), some (.inl 0), some (.inl 1), some (.inl li)], [], cH a141 b141 v141) (fun v9 h' => ∃ (a' : Nat → Nat → Int32) (b' : Nat → Nat → Int64) (v' : Nat → Option Nat), h' = cH a' b' v' ∧ RC K a' ∧ (FR [1, 6, 7] a a' ∧ ((∀ i, i ∉ [2] → v' i = v i) ∧ f_wdb (v' 2) = true) ∧ True) ∧ ∃ x : Int32, v9 = some (.inl x) ∧ (x.toInt = 0 ∨ x.toInt = 1)) := by
        intro ms9
        induction ms9 using Nat.strongRecOn with
        | _ ms141 ih141 =>
          intro li a141 b141 v141  hm141 hR141 hF141 hG141 hw9 hk2
          refine w_aload rfl rfl ?_
          refine c_getR (t := some 7) rfl rfl rfl rfl rfl ?_
          refine w_aload rfl rfl ?_
          refine c_getI rfl rfl rfl rfl ?_
          have q88 : 0 ≤ (a141 6 2).toInt ∧ (a141 6 2).toInt ≤ 24 := hR141 6 2
          refine w_iload rfl rfl ?_
          refine c_iast rfl rfl (by omega) (fun a89 ea89 => ?_)
          have ha89 : RC K a89 := RC.up hR141 ea89 (lc_any _ (by omega))
          have ra89_260 : (a89 6 2).toInt = (a141 6 2).toInt := by rw [ea89, mU_cell (by omega)]
          refine w_aload rfl rfl ?_
          refine w_dup rfl rfl ?_
          refine c_getI rfl rfl rfl rfl ?_
          have q90 : 0 ≤ (a89 6 2).toInt ∧ (a89 6 2).toInt ≤ 24 := ha89 6 2
          have k8 : (a89 6 2).toInt = (a141 6 2).toInt := by rw [ea89, mU_cell (by decide)]
          refine w_const rfl ?_
          first | refine w_iadd rfl (by omega) (fun x91 tx91 => ?_) | refine w_iiU rfl (fun x91 tx91 => ?_)
          refine c_putI (z := false) rfl rfl rfl rfl (by first | (intro h9; cases h9; done) | (intro _; first | exact Or.inl rfl | exact Or.inr rfl | assumption | (rcases (by omega : x91.toInt = 0 ∨ x91.toInt = 1) with h8 | h8; exact Or.inl (ti_eq h8); exact Or.inr (ti_eq h8)))) (fun a92 ea92 => ?_)
          have ha92 : RC K a92 := RC.up ha89 ea92 (show (0 : Int) ≤ _ ∧ _ ≤ (24 : Int) from by omega)
          have ua92 : a92 6 2 = x91 := by rw [ea92, mU_same]
          have wa92 := congrArg Int32.toInt ua92
          refine w_aload rfl rfl ?_
          refine c_getI rfl rfl rfl rfl ?_
          refine w_if_ne rfl (fun c93 => ?_) (fun c93 => ?_)
          · skip
            refine w_const rfl ?_
            refine w_goto rfl ?_
            exact wp_iret (z := true) rfl (fun _ => by first | exact Or.inl rfl | exact Or.inr rfl | (rcases (by omega : (1 : Int32).toInt = 0 ∨ (1 : Int32).toInt = 1) with h8 | h8; exact Or.inl (ti_eq h8); exact Or.inr (ti_eq h8))) ⟨a92, b141, v141, rfl, ha92, ⟨FR.up (FR.up (hF141) (by first | decide | simp | (simp [cA]; omega) | (simp [cB]; omega)) ea89) (by first | decide | simp | (simp [cA]; omega) | (simp [cB]; omega)) ea92, ⟨hG141, hw9⟩, trivial⟩, ⟨_, rfl, by omega⟩⟩
          · skip
            refine w_const rfl ?_
            exact wp_iret (z := true) rfl (fun _ => by first | exact Or.inl rfl | exact Or.inr rfl | (rcases (by omega : (0 : Int32).toInt = 0 ∨ (0 : Int32).toInt = 1) with h8 | h8; exact Or.inl (ti_eq h8); exact Or.inr (ti_eq h8))) ⟨a92, b141, v141, rfl, ha92, ⟨FR.up (FR.up (hF141) (by first | decide | simp | (simp [cA]; omega) | (simp [cB]; omega)) ea89) (by first | decide | simp | (simp [cA]; omega) | (simp [cB]; omega)) ea92, ⟨hG141, hw9⟩, trivial⟩, ⟨_, rfl, by omega⟩⟩
      refine w_iload rfl rfl ?_
      refine w_if_ne rfl (fun c94 => ?_) (fun c94 => ?_)
      · skip
        refine w_iload rfl rfl ?_
        refine w_if_ne rfl (fun c95 => ?_) (fun c95 => ?_)
        · exfalso; omega
        · skip
          refine w_aload rfl rfl ?_
          refine c_getI rfl rfl rfl rfl ?_
          have q96 : 0 ≤ (a 6 2).toInt ∧ (a 6 2).toInt ≤ 24 := hR 6 2
          refine w_const rfl ?_
          refine w_ic_lt rfl (fun c97 => ?_) (fun c97 => ?_)
          · skip
            refine w_aload rfl rfl ?_
            refine c_getR (t := some 1) rfl rfl rfl rfl rfl ?_
            refine w_invV (rest := []) rfl rfl rfl rfl rfl (Nat.le_of_ble_eq_true rfl) rfl (by omega) (s_X8_advance (K := K) a b v   hR  ) (fun z98 h9 hq99 => ?_)
            obtain ⟨a100, b101, v102, rfl, ha100, fa100, rfl⟩ := hq99
            show f_wp _ (87, [some (.inr (.inr (some 6))), some (.inl 0), some (.inl 1), none], [], cH a100 b101 v102) _
            refine w_const rfl ?_
            refine w_const rfl ?_
            refine w_const rfl ?_
            refine c_invT (rest := []) rfl (Nat.le_of_ble_eq_true rfl) rfl (Nat.le_of_ble_eq_true rfl) rfl (by omega) (s_X12_lineOf (K := K) a100 b101 v102  2 0 0   ) (fun z103 h9 hq104 => ?_)
            obtain ⟨rfl, x105, rfl, px105⟩ := hq104
            show f_wp _ (93, [some (.inr (.inr (some 6))), some (.inl 0), some (.inl 1), none], [.inl x105], cH a100 b101 v102) _
            refine w_istore (lo' := [some (.inr (.inr (some 6))), some (.inl 0), some (.inl 1), some (.inl x105)]) rfl rfl ?_
            refine w_iload rfl rfl ?_
            refine w_if_ne rfl (fun c106 => ?_) (fun c106 => ?_)
            · skip
              refine w_iload rfl rfl ?_
              refine w_if_eq rfl (fun c107 => ?_) (fun c107 => ?_)
              · exfalso; omega
              · skip
                refine w_aload rfl rfl ?_
                refine w_invV (rest := []) rfl rfl rfl rfl rfl (Nat.le_of_ble_eq_true rfl) rfl (by omega) (s_X6_isToldName (K := K) a100 b101 v102 L  ha100  (fa100.2.1.2) (((fa100.2.1.1 3 (by decide)).trans h3)) (by omega)) (fun z108 h9 hq109 => ?_)
                obtain ⟨a110, rfl, ha110, fa110, x111, rfl, px111⟩ := hq109
                show f_wp _ (106, [some (.inr (.inr (some 6))), some (.inl 0), some (.inl 1), some (.inl x105)], [.inl x111], cH a110 b101 v102) _
                refine w_if_ne rfl (fun c112 => ?_) (fun c112 => ?_)
                · skip
                  refine w_const rfl ?_
                  exact wp_iret (z := true) rfl (fun _ => by first | exact Or.inl rfl | exact Or.inr rfl | (rcases (by omega : (0 : Int32).toInt = 0 ∨ (0 : Int32).toInt = 1) with h8 | h8; exact Or.inl (ti_eq h8); exact Or.inr (ti_eq h8))) ⟨a110, b101, v102, rfl, ha110, ⟨FR.tr (FR.tr (FR.rf) (FR.sub fa100.1 (by first | exact (fun _ h9 => h9) | decide | (intro c9 h9; simp only [List.mem_cons, List.not_mem_nil, or_false] at h9 ⊢; omega) | (intro c9 h9; simp at h9; simp [cA]; omega) | (intro c9 h9; simp at h9; simp [cB]; omega) | (intro c9 h9; simp [cA] at h9; simp [cB]; omega)))) (FR.sub fa110.1 (by first | exact (fun _ h9 => h9) | decide | (intro c9 h9; simp only [List.mem_cons, List.not_mem_nil, or_false] at h9 ⊢; omega) | (intro c9 h9; simp at h9; simp [cA]; omega) | (intro c9 h9; simp at h9; simp [cB]; omega) | (intro c9 h9; simp [cA] at h9; simp [cB]; omega))), ⟨fun i9 h9 => (fa100.2.1.1 i9 (fun z9 => h9 (by first | exact z9 | (revert z9; simp; done) | (revert z9; simp; omega)))).trans ((show ∀ i9, i9 ∉ [2] → v i9 = v i9 from (fun _ _ => rfl)) i9 h9), fa100.2.1.2⟩, trivial⟩, ⟨_, rfl, by omega⟩⟩
                · skip
                  refine w_const rfl ?_
                  refine w_aload rfl rfl ?_
                  refine c_getI rfl rfl rfl rfl ?_
                  refine w_const rfl ?_
                  refine c_invT (rest := []) rfl (Nat.le_of_ble_eq_true rfl) rfl (Nat.le_of_ble_eq_true rfl) rfl (by omega) (s_X12_lineOf (K := K) a110 b101 v102  1 (a110 6 9) 0   ) (fun z113 h9 hq114 => ?_)
                  obtain ⟨rfl, x115, rfl, px115⟩ := hq114
                  show f_wp _ (120, [some (.inr (.inr (some 6))), some (.inl 0), some (.inl 1), some (.inl x105)], [.inl x115], cH a110 b101 v102) _
                  refine w_istore (lo' := [some (.inr (.inr (some 6))), some (.inl 0), some (.inl 1), some (.inl x115)]) rfl rfl ?_
                  refine w_aload rfl rfl ?_
                  refine c_getR (t := some 1) rfl rfl rfl rfl rfl ?_
                  refine w_invV (rest := []) rfl rfl rfl rfl rfl (Nat.le_of_ble_eq_true rfl) rfl (by omega) (s_X8_advance (K := K) a110 b101 v102   ha110  ) (fun z116 h9 hq117 => ?_)
                  obtain ⟨a118, b119, v120, rfl, ha118, fa118, rfl⟩ := hq117
                  show f_wp _ (128, [some (.inr (.inr (some 6))), some (.inl 0), some (.inl 1), some (.inl x115)], [], cH a118 b119 v120) _
                  refine w_iload rfl rfl ?_
                  refine w_if_eq rfl (fun c121 => ?_) (fun c121 => ?_)
                  · skip
                    exact loop141 _ x115 a118 b119 v120 rfl ha118 (FR.tr (FR.tr (FR.tr (FR.rf) (FR.sub fa100.1 (by first | exact (fun _ h9 => h9) | decide | (intro c9 h9; simp only [List.mem_cons, List.not_mem_nil, or_false] at h9 ⊢; omega) | (intro c9 h9; simp at h9; simp [cA]; omega) | (intro c9 h9; simp at h9; simp [cB]; omega) | (intro c9 h9; simp [cA] at h9; simp [cB]; omega)))) (FR.sub fa110.1 (by first | exact (fun _ h9 => h9) | decide | (intro c9 h9; simp only [List.mem_cons, List.not_mem_nil, or_false] at h9 ⊢; omega) | (intro c9 h9; simp at h9; simp [cA]; omega) | (intro c9 h9; simp at h9; simp [cB]; omega) | (intro c9 h9; simp [cA] at h9; simp [cB]; omega)))) (FR.sub fa118.1 (by first | exact (fun _ h9 => h9) | decide | (intro c9 h9; simp only [List.mem_cons, List.not_mem_nil, or_false] at h9 ⊢; omega) | (intro c9 h9; simp at h9; simp [cA]; omega) | (intro c9 h9; simp at h9; simp [cB]; omega) | (intro c9 h9; simp [cA] at h9; simp [cB]; omega)))) (fun i9 h9 => (fa118.2.1.1 i9 (fun z9 => h9 (by first | exact z9 | (revert z9; simp; done) | (revert z9; simp; omega)))).trans ((show ∀ i9, i9 ∉ [2] → v102 i9 = v i9 from fun i9 h9 => (fa100.2.1.1 i9 (fun z9 => h9 (by first | exact z9 | (revert z9; simp; done) | (revert z9; simp; omega)))).trans ((show ∀ i9, i9 ∉ [2] → v i9 = v i9 from (fun _ _ => rfl)) i9 h9)) i9 h9)) (fa118.2.1.2) (by have k9 : (a118 6 2).toInt = (a 6 2).toInt := (by rw [fa118.1 6 (by decide), fa110.2 2 (by decide) (by decide), fa100.1 6 (by decide)]); omega)
                  · exfalso; omega
            · exfalso; omega
          · skip
            refine w_aload rfl rfl ?_
            refine w_const rfl ?_
            refine w_invV (rest := []) rfl rfl rfl rfl rfl (Nat.le_of_ble_eq_true rfl) rfl (by omega) (s_X6_fail (K := K) a b v  5 hR  ) (fun z122 h9 hq123 => ?_)
            obtain ⟨a124, rfl, ha124, fa124, x125, rfl, px125⟩ := hq123
            show f_wp _ (79, [some (.inr (.inr (some 6))), some (.inl 0), some (.inl 1), none], [.inl x125], cH a124 b v) _
            exact wp_iret (z := true) rfl (fun _ => by first | exact Or.inl rfl | exact Or.inr rfl | (rcases (by omega : x125.toInt = 0 ∨ x125.toInt = 1) with h8 | h8; exact Or.inl (ti_eq h8); exact Or.inr (ti_eq h8))) ⟨a124, b, v, rfl, ha124, ⟨FR.tr (FR.rf) (FR.sub fa124.1 (by first | exact (fun _ h9 => h9) | decide | (intro c9 h9; simp only [List.mem_cons, List.not_mem_nil, or_false] at h9 ⊢; omega) | (intro c9 h9; simp at h9; simp [cA]; omega) | (intro c9 h9; simp at h9; simp [cB]; omega) | (intro c9 h9; simp [cA] at h9; simp [cB]; omega))), ⟨(fun _ _ => rfl), hw⟩, trivial⟩, ⟨_, rfl, by omega⟩⟩
      · exfalso; omega
    · skip
      refine w_const rfl ?_
      refine w_istore (lo' := [some (.inr (.inr (some 6))), some (.inl 0), some (.inl 0), none]) rfl rfl ?_
      have loop141 : ∀ (ms9 : Nat) (li : Int32) (a141 : Nat → Nat → Int32) (b141 : Nat → Nat → Int64) (v141 : Nat → Option Nat) , ((0 : Int)).toNat = ms9 → RC K a141 → FR [1, 6, 7] a a141 → (∀ i, i ∉ [2] → v141 i = v i) → (f_wdb (v141 2) = true) → ((a141 6 2).toInt ≤ 23) → f_wp (f_code (t_X6_vowLine (f_ev mtC d))) (141, [some (.inr (.inr (some 6))), some (.inl 0), some (.inl 0), some (.inl li)], [], cH a141 b141 v141) (fun v9 h' => ∃ (a' : Nat → Nat → Int32) (b' : Nat → Nat → Int64) (v' : Nat → Option Nat), h' = cH a' b' v' ∧ RC K a' ∧ (FR [1, 6, 7] a a' ∧ ((∀ i, i ∉ [2] → v' i = v i) ∧ f_wdb (v' 2) = true) ∧ True) ∧ ∃ x : Int32, v9 = some (.inl x) ∧ (x.toInt = 0 ∨ x.toInt = 1)) := by
        intro ms9
        induction ms9 using Nat.strongRecOn with
        | _ ms141 ih141 =>
          intro li a141 b141 v141  hm141 hR141 hF141 hG141 hw9 hk2
          refine w_aload rfl rfl ?_
          refine c_getR (t := some 7) rfl rfl rfl rfl rfl ?_
          refine w_aload rfl rfl ?_
          refine c_getI rfl rfl rfl rfl ?_
          have q126 : 0 ≤ (a141 6 2).toInt ∧ (a141 6 2).toInt ≤ 24 := hR141 6 2
          refine w_iload rfl rfl ?_
          refine c_iast rfl rfl (by omega) (fun a127 ea127 => ?_)
          have ha127 : RC K a127 := RC.up hR141 ea127 (lc_any _ (by omega))
          have ra127_366 : (a127 6 2).toInt = (a141 6 2).toInt := by rw [ea127, mU_cell (by omega)]
          refine w_aload rfl rfl ?_
          refine w_dup rfl rfl ?_
          refine c_getI rfl rfl rfl rfl ?_
          have q128 : 0 ≤ (a127 6 2).toInt ∧ (a127 6 2).toInt ≤ 24 := ha127 6 2
          have k8 : (a127 6 2).toInt = (a141 6 2).toInt := by rw [ea127, mU_cell (by decide)]
          refine w_const rfl ?_
          first | refine w_iadd rfl (by omega) (fun x129 tx129 => ?_) | refine w_iiU rfl (fun x129 tx129 => ?_)
          refine c_putI (z := false) rfl rfl rfl rfl (by first | (intro h9; cases h9; done) | (intro _; first | exact Or.inl rfl | exact Or.inr rfl | assumption | (rcases (by omega : x129.toInt = 0 ∨ x129.toInt = 1) with h8 | h8; exact Or.inl (ti_eq h8); exact Or.inr (ti_eq h8)))) (fun a130 ea130 => ?_)
          have ha130 : RC K a130 := RC.up ha127 ea130 (show (0 : Int) ≤ _ ∧ _ ≤ (24 : Int) from by omega)
          have ua130 : a130 6 2 = x129 := by rw [ea130, mU_same]
          have wa130 := congrArg Int32.toInt ua130
          refine w_aload rfl rfl ?_
          refine c_getI rfl rfl rfl rfl ?_
          refine w_if_ne rfl (fun c131 => ?_) (fun c131 => ?_)
          · skip
            refine w_const rfl ?_
            refine w_goto rfl ?_
            exact wp_iret (z := true) rfl (fun _ => by first | exact Or.inl rfl | exact Or.inr rfl | (rcases (by omega : (1 : Int32).toInt = 0 ∨ (1 : Int32).toInt = 1) with h8 | h8; exact Or.inl (ti_eq h8); exact Or.inr (ti_eq h8))) ⟨a130, b141, v141, rfl, ha130, ⟨FR.up (FR.up (hF141) (by first | decide | simp | (simp [cA]; omega) | (simp [cB]; omega)) ea127) (by first | decide | simp | (simp [cA]; omega) | (simp [cB]; omega)) ea130, ⟨hG141, hw9⟩, trivial⟩, ⟨_, rfl, by omega⟩⟩
          · skip
            refine w_const rfl ?_
            exact wp_iret (z := true) rfl (fun _ => by first | exact Or.inl rfl | exact Or.inr rfl | (rcases (by omega : (0 : Int32).toInt = 0 ∨ (0 : Int32).toInt = 1) with h8 | h8; exact Or.inl (ti_eq h8); exact Or.inr (ti_eq h8))) ⟨a130, b141, v141, rfl, ha130, ⟨FR.up (FR.up (hF141) (by first | decide | simp | (simp [cA]; omega) | (simp [cB]; omega)) ea127) (by first | decide | simp | (simp [cA]; omega) | (simp [cB]; omega)) ea130, ⟨hG141, hw9⟩, trivial⟩, ⟨_, rfl, by omega⟩⟩
      refine w_iload rfl rfl ?_
      refine w_if_ne rfl (fun c132 => ?_) (fun c132 => ?_)
      · skip
        refine w_iload rfl rfl ?_
        refine w_if_ne rfl (fun c133 => ?_) (fun c133 => ?_)
        · skip
          refine w_aload rfl rfl ?_
          refine c_getR (t := some 1) rfl rfl rfl rfl rfl ?_
          refine c_getR (t := v 2) rfl rfl rfl rfl rfl ?_
          refine w_const rfl ?_
          refine c_aw_eq rfl ⟨hw, rfl⟩ (fun c134 => ?_) (fun c134 => ?_)
          · skip
            refine w_aload rfl rfl ?_
            refine c_getI rfl rfl rfl rfl ?_
            have q135 : 0 ≤ (a 6 2).toInt ∧ (a 6 2).toInt ≤ 24 := hR 6 2
            refine w_const rfl ?_
            refine w_ic_lt rfl (fun c136 => ?_) (fun c136 => ?_)
            · skip
              refine w_aload rfl rfl ?_
              refine c_getR (t := some 1) rfl rfl rfl rfl rfl ?_
              refine w_invV (rest := []) rfl rfl rfl rfl rfl (Nat.le_of_ble_eq_true rfl) rfl (by omega) (s_X8_advance (K := K) a b v   hR  ) (fun z137 h9 hq138 => ?_)
              obtain ⟨a139, b140, v141, rfl, ha139, fa139, rfl⟩ := hq138
              show f_wp _ (87, [some (.inr (.inr (some 6))), some (.inl 0), some (.inl 0), none], [], cH a139 b140 v141) _
              refine w_const rfl ?_
              refine w_const rfl ?_
              refine w_const rfl ?_
              refine c_invT (rest := []) rfl (Nat.le_of_ble_eq_true rfl) rfl (Nat.le_of_ble_eq_true rfl) rfl (by omega) (s_X12_lineOf (K := K) a139 b140 v141  2 0 0   ) (fun z142 h9 hq143 => ?_)
              obtain ⟨rfl, x144, rfl, px144⟩ := hq143
              show f_wp _ (93, [some (.inr (.inr (some 6))), some (.inl 0), some (.inl 0), none], [.inl x144], cH a139 b140 v141) _
              refine w_istore (lo' := [some (.inr (.inr (some 6))), some (.inl 0), some (.inl 0), some (.inl x144)]) rfl rfl ?_
              refine w_iload rfl rfl ?_
              refine w_if_ne rfl (fun c145 => ?_) (fun c145 => ?_)
              · skip
                refine w_iload rfl rfl ?_
                refine w_if_eq rfl (fun c146 => ?_) (fun c146 => ?_)
                · skip
                  exact loop141 _ x144 a139 b140 v141 rfl ha139 (FR.tr (FR.rf) (FR.sub fa139.1 (by first | exact (fun _ h9 => h9) | decide | (intro c9 h9; simp only [List.mem_cons, List.not_mem_nil, or_false] at h9 ⊢; omega) | (intro c9 h9; simp at h9; simp [cA]; omega) | (intro c9 h9; simp at h9; simp [cB]; omega) | (intro c9 h9; simp [cA] at h9; simp [cB]; omega)))) (fun i9 h9 => (fa139.2.1.1 i9 (fun z9 => h9 (by first | exact z9 | (revert z9; simp; done) | (revert z9; simp; omega)))).trans ((show ∀ i9, i9 ∉ [2] → v i9 = v i9 from (fun _ _ => rfl)) i9 h9)) (fa139.2.1.2) (by have k9 : (a139 6 2).toInt = (a 6 2).toInt := (by rw [fa139.1 6 (by decide)]); omega)
                · exfalso; omega
              · exfalso; omega
            · skip
              refine w_aload rfl rfl ?_
              refine w_const rfl ?_
              refine w_invV (rest := []) rfl rfl rfl rfl rfl (Nat.le_of_ble_eq_true rfl) rfl (by omega) (s_X6_fail (K := K) a b v  5 hR  ) (fun z147 h9 hq148 => ?_)
              obtain ⟨a149, rfl, ha149, fa149, x150, rfl, px150⟩ := hq148
              show f_wp _ (79, [some (.inr (.inr (some 6))), some (.inl 0), some (.inl 0), none], [.inl x150], cH a149 b v) _
              exact wp_iret (z := true) rfl (fun _ => by first | exact Or.inl rfl | exact Or.inr rfl | (rcases (by omega : x150.toInt = 0 ∨ x150.toInt = 1) with h8 | h8; exact Or.inl (ti_eq h8); exact Or.inr (ti_eq h8))) ⟨a149, b, v, rfl, ha149, ⟨FR.tr (FR.rf) (FR.sub fa149.1 (by first | exact (fun _ h9 => h9) | decide | (intro c9 h9; simp only [List.mem_cons, List.not_mem_nil, or_false] at h9 ⊢; omega) | (intro c9 h9; simp at h9; simp [cA]; omega) | (intro c9 h9; simp at h9; simp [cB]; omega) | (intro c9 h9; simp [cA] at h9; simp [cB]; omega))), ⟨(fun _ _ => rfl), hw⟩, trivial⟩, ⟨_, rfl, by omega⟩⟩
          · skip
            refine w_aload rfl rfl ?_
            refine w_const rfl ?_
            refine w_invV (rest := []) rfl rfl rfl rfl rfl (Nat.le_of_ble_eq_true rfl) rfl (by omega) (s_X6_fail (K := K) a b v  1 hR  ) (fun z151 h9 hq152 => ?_)
            obtain ⟨a153, rfl, ha153, fa153, x154, rfl, px154⟩ := hq152
            show f_wp _ (64, [some (.inr (.inr (some 6))), some (.inl 0), some (.inl 0), none], [.inl x154], cH a153 b v) _
            exact wp_iret (z := true) rfl (fun _ => by first | exact Or.inl rfl | exact Or.inr rfl | (rcases (by omega : x154.toInt = 0 ∨ x154.toInt = 1) with h8 | h8; exact Or.inl (ti_eq h8); exact Or.inr (ti_eq h8))) ⟨a153, b, v, rfl, ha153, ⟨FR.tr (FR.rf) (FR.sub fa153.1 (by first | exact (fun _ h9 => h9) | decide | (intro c9 h9; simp only [List.mem_cons, List.not_mem_nil, or_false] at h9 ⊢; omega) | (intro c9 h9; simp at h9; simp [cA]; omega) | (intro c9 h9; simp at h9; simp [cB]; omega) | (intro c9 h9; simp [cA] at h9; simp [cB]; omega))), ⟨(fun _ _ => rfl), hw⟩, trivial⟩, ⟨_, rfl, by omega⟩⟩
        · exfalso; omega
      · exfalso; omega
set_option maxRecDepth 4000 in
theorem s_X6_heirLine {K : Nat} (a : Nat → Nat → Int32) (b : Nat → Nat → Int64) (v : Nat → Option Nat)  (hR : RC K a) (hw : f_wdb (v 2) = true) : f_call mtC 4 79 [.inr (.inr (some 6))] (cH a b v) (fun v9 h' => ∃ (a' : Nat → Nat → Int32) (b' : Nat → Nat → Int64) (v' : Nat → Option Nat), h' = cH a' b' v' ∧ RC K a' ∧ (FR [1, 6, 8] a a' ∧ ((∀ i, i ∉ [2] → v' i = v i) ∧ f_wdb (v' 2) = true) ∧ True) ∧ ∃ x : Int32, v9 = some (.inl x) ∧ (x.toInt = 0 ∨ x.toInt = 1)) := by
  refine f_call_of (d0 := 3) rfl (Nat.le_of_ble_eq_true rfl) (fun d hd => ?_)
  show f_wp _ (0, [some (.inr (.inr (some 6)))], [], cH a b v) _
  have l0 : (0 : Int32).toInt = 0 := rfl
  have l1 : (1 : Int32).toInt = 1 := rfl
  have l5 : (5 : Int32).toInt = 5 := rfl
  have l6 : (6 : Int32).toInt = 6 := rfl
  have l99 : (99 : Int32).toInt = 99 := rfl
  refine w_aload rfl rfl ?_
  refine c_getR (t := some 1) rfl rfl rfl rfl rfl ?_
  refine c_getR (t := v 2) rfl rfl rfl rfl rfl ?_
  refine w_const rfl ?_
  refine c_aw_eq rfl ⟨hw, rfl⟩ (fun c1 => ?_) (fun c1 => ?_)
  · skip
    refine w_aload rfl rfl ?_
    refine c_getI rfl rfl rfl rfl ?_
    have q2 : 0 ≤ (a 6 3).toInt ∧ (a 6 3).toInt ≤ 6 := hR 6 3
    refine w_const rfl ?_
    refine w_ic_lt rfl (fun c3 => ?_) (fun c3 => ?_)
    · skip
      refine w_aload rfl rfl ?_
      refine c_getR (t := some 1) rfl rfl rfl rfl rfl ?_
      refine w_invV (rest := []) rfl rfl rfl rfl rfl (Nat.le_of_ble_eq_true rfl) rfl (by omega) (s_X8_advance (K := K) a b v   hR  ) (fun z4 h9 hq5 => ?_)
      obtain ⟨a6, b7, v8, rfl, ha6, fa6, rfl⟩ := hq5
      show f_wp _ (41, [some (.inr (.inr (some 6)))], [], cH a6 b7 v8) _
      refine w_aload rfl rfl ?_
      refine w_const rfl ?_
      refine w_const rfl ?_
      refine w_invV (rest := []) rfl rfl rfl rfl rfl (Nat.le_of_ble_eq_true rfl) rfl (by omega) (s_X6_passNumber (K := K) a6 b7 v8  0 99 ha6  (fa6.2.1.2)) (fun z9 h9 hq10 => ?_)
      obtain ⟨a11, b12, v13, rfl, ha11, fa11, x14, rfl, px14⟩ := hq10
      show f_wp _ (48, [some (.inr (.inr (some 6)))], [.inl x14], cH a11 b12 v13) _
      refine w_if_ne rfl (fun c15 => ?_) (fun c15 => ?_)
      · skip
        refine w_const rfl ?_
        exact wp_iret (z := true) rfl (fun _ => by first | exact Or.inl rfl | exact Or.inr rfl | (rcases (by omega : (0 : Int32).toInt = 0 ∨ (0 : Int32).toInt = 1) with h8 | h8; exact Or.inl (ti_eq h8); exact Or.inr (ti_eq h8))) ⟨a11, b12, v13, rfl, ha11, ⟨FR.tr (FR.tr (FR.rf) (FR.sub fa6.1 (by first | exact (fun _ h9 => h9) | decide | (intro c9 h9; simp only [List.mem_cons, List.not_mem_nil, or_false] at h9 ⊢; omega) | (intro c9 h9; simp at h9; simp [cA]; omega) | (intro c9 h9; simp at h9; simp [cB]; omega) | (intro c9 h9; simp [cA] at h9; simp [cB]; omega)))) (FR.sub fa11.1 (by first | exact (fun _ h9 => h9) | decide | (intro c9 h9; simp only [List.mem_cons, List.not_mem_nil, or_false] at h9 ⊢; omega) | (intro c9 h9; simp at h9; simp [cA]; omega) | (intro c9 h9; simp at h9; simp [cB]; omega) | (intro c9 h9; simp [cA] at h9; simp [cB]; omega))), ⟨fun i9 h9 => (fa11.2.1.1 i9 (fun z9 => h9 (by first | exact z9 | (revert z9; simp; done) | (revert z9; simp; omega)))).trans ((show ∀ i9, i9 ∉ [2] → v8 i9 = v i9 from fun i9 h9 => (fa6.2.1.1 i9 (fun z9 => h9 (by first | exact z9 | (revert z9; simp; done) | (revert z9; simp; omega)))).trans ((show ∀ i9, i9 ∉ [2] → v i9 = v i9 from (fun _ _ => rfl)) i9 h9)) i9 h9), fa11.2.1.2⟩, trivial⟩, ⟨_, rfl, by omega⟩⟩
      · skip
        refine w_aload rfl rfl ?_
        refine c_getR (t := some 8) rfl rfl rfl rfl rfl ?_
        refine w_aload rfl rfl ?_
        refine c_getI rfl rfl rfl rfl ?_
        have q16 : 0 ≤ (a11 6 3).toInt ∧ (a11 6 3).toInt ≤ 6 := ha11 6 3
        have k9_a11 : (a11 6 3).toInt = (a 6 3).toInt := by rw [fa11.2.2 3 (by decide) (by decide), fa6.1 6 (by decide)]
        refine w_aload rfl rfl ?_
        refine c_getI rfl rfl rfl rfl ?_
        refine c_iast rfl rfl (by omega) (fun a17 ea17 => ?_)
        have ha17 : RC K a17 := RC.up ha11 ea17 (lc_any _ (by omega))
        have ra17_47 : (a17 6 3).toInt = (a11 6 3).toInt := by rw [ea17, mU_cell (by omega)]
        have ra17_48 : (a17 6 9).toInt = (a11 6 9).toInt := by rw [ea17, mU_cell (by omega)]
        refine w_aload rfl rfl ?_
        refine w_dup rfl rfl ?_
        refine c_getI rfl rfl rfl rfl ?_
        have q18 : 0 ≤ (a17 6 3).toInt ∧ (a17 6 3).toInt ≤ 6 := ha17 6 3
        have k9_a17 : (a17 6 3).toInt = (a 6 3).toInt := by rw [ea17, mU_cell (by decide), fa11.2.2 3 (by decide) (by decide), fa6.1 6 (by decide)]
        refine w_const rfl ?_
        first | refine w_iadd rfl (by omega) (fun x19 tx19 => ?_) | refine w_iiU rfl (fun x19 tx19 => ?_)
        refine c_putI (z := false) rfl rfl rfl rfl (by first | (intro h9; cases h9; done) | (intro _; first | exact Or.inl rfl | exact Or.inr rfl | assumption | (rcases (by omega : x19.toInt = 0 ∨ x19.toInt = 1) with h8 | h8; exact Or.inl (ti_eq h8); exact Or.inr (ti_eq h8)))) (fun a20 ea20 => ?_)
        have ha20 : RC K a20 := RC.up ha17 ea20 (show (0 : Int) ≤ _ ∧ _ ≤ (6 : Int) from by omega)
        have ua20 : a20 6 3 = x19 := by rw [ea20, mU_same]
        have wa20 := congrArg Int32.toInt ua20
        have ra20_60 : (a20 6 9).toInt = (a17 6 9).toInt := by rw [ea20, mU_slot (by decide)]
        refine w_const rfl ?_
        exact wp_iret (z := true) rfl (fun _ => by first | exact Or.inl rfl | exact Or.inr rfl | (rcases (by omega : (1 : Int32).toInt = 0 ∨ (1 : Int32).toInt = 1) with h8 | h8; exact Or.inl (ti_eq h8); exact Or.inr (ti_eq h8))) ⟨a20, b12, v13, rfl, ha20, ⟨FR.up (FR.up (FR.tr (FR.tr (FR.rf) (FR.sub fa6.1 (by first | exact (fun _ h9 => h9) | decide | (intro c9 h9; simp only [List.mem_cons, List.not_mem_nil, or_false] at h9 ⊢; omega) | (intro c9 h9; simp at h9; simp [cA]; omega) | (intro c9 h9; simp at h9; simp [cB]; omega) | (intro c9 h9; simp [cA] at h9; simp [cB]; omega)))) (FR.sub fa11.1 (by first | exact (fun _ h9 => h9) | decide | (intro c9 h9; simp only [List.mem_cons, List.not_mem_nil, or_false] at h9 ⊢; omega) | (intro c9 h9; simp at h9; simp [cA]; omega) | (intro c9 h9; simp at h9; simp [cB]; omega) | (intro c9 h9; simp [cA] at h9; simp [cB]; omega)))) (by first | decide | simp | (simp [cA]; omega) | (simp [cB]; omega)) ea17) (by first | decide | simp | (simp [cA]; omega) | (simp [cB]; omega)) ea20, ⟨fun i9 h9 => (fa11.2.1.1 i9 (fun z9 => h9 (by first | exact z9 | (revert z9; simp; done) | (revert z9; simp; omega)))).trans ((show ∀ i9, i9 ∉ [2] → v8 i9 = v i9 from fun i9 h9 => (fa6.2.1.1 i9 (fun z9 => h9 (by first | exact z9 | (revert z9; simp; done) | (revert z9; simp; omega)))).trans ((show ∀ i9, i9 ∉ [2] → v i9 = v i9 from (fun _ _ => rfl)) i9 h9)) i9 h9), fa11.2.1.2⟩, trivial⟩, ⟨_, rfl, by omega⟩⟩
    · skip
      refine w_aload rfl rfl ?_
      refine w_const rfl ?_
      refine w_invV (rest := []) rfl rfl rfl rfl rfl (Nat.le_of_ble_eq_true rfl) rfl (by omega) (s_X6_fail (K := K) a b v  5 hR  ) (fun z21 h9 hq22 => ?_)
      obtain ⟨a23, rfl, ha23, fa23, x24, rfl, px24⟩ := hq22
      show f_wp _ (33, [some (.inr (.inr (some 6)))], [.inl x24], cH a23 b v) _
      exact wp_iret (z := true) rfl (fun _ => by first | exact Or.inl rfl | exact Or.inr rfl | (rcases (by omega : x24.toInt = 0 ∨ x24.toInt = 1) with h8 | h8; exact Or.inl (ti_eq h8); exact Or.inr (ti_eq h8))) ⟨a23, b, v, rfl, ha23, ⟨FR.tr (FR.rf) (FR.sub fa23.1 (by first | exact (fun _ h9 => h9) | decide | (intro c9 h9; simp only [List.mem_cons, List.not_mem_nil, or_false] at h9 ⊢; omega) | (intro c9 h9; simp at h9; simp [cA]; omega) | (intro c9 h9; simp at h9; simp [cB]; omega) | (intro c9 h9; simp [cA] at h9; simp [cB]; omega))), ⟨(fun _ _ => rfl), hw⟩, trivial⟩, ⟨_, rfl, by omega⟩⟩
  · skip
    refine w_aload rfl rfl ?_
    refine w_const rfl ?_
    refine w_invV (rest := []) rfl rfl rfl rfl rfl (Nat.le_of_ble_eq_true rfl) rfl (by omega) (s_X6_fail (K := K) a b v  1 hR  ) (fun z25 h9 hq26 => ?_)
    obtain ⟨a27, rfl, ha27, fa27, x28, rfl, px28⟩ := hq26
    show f_wp _ (18, [some (.inr (.inr (some 6)))], [.inl x28], cH a27 b v) _
    exact wp_iret (z := true) rfl (fun _ => by first | exact Or.inl rfl | exact Or.inr rfl | (rcases (by omega : x28.toInt = 0 ∨ x28.toInt = 1) with h8 | h8; exact Or.inl (ti_eq h8); exact Or.inr (ti_eq h8))) ⟨a27, b, v, rfl, ha27, ⟨FR.tr (FR.rf) (FR.sub fa27.1 (by first | exact (fun _ h9 => h9) | decide | (intro c9 h9; simp only [List.mem_cons, List.not_mem_nil, or_false] at h9 ⊢; omega) | (intro c9 h9; simp at h9; simp [cA]; omega) | (intro c9 h9; simp at h9; simp [cB]; omega) | (intro c9 h9; simp [cA] at h9; simp [cB]; omega))), ⟨(fun _ _ => rfl), hw⟩, trivial⟩, ⟨_, rfl, by omega⟩⟩
set_option maxRecDepth 4000 in
theorem s_X6_begin {K : Nat} (a : Nat → Nat → Int32) (b : Nat → Nat → Int64) (v : Nat → Option Nat) (L : Nat) (hR : RC K a) (hL : L = 22 ∨ L = 46) : f_call mtC 7 44 [.inr (.inr (some 6)), .inr (.inr (some L))] (cH a b v) (fun v9 h' => ∃ (a' : Nat → Nat → Int32) (b' : Nat → Nat → Int64) (v' : Nat → Option Nat), h' = cH a' b' v' ∧ RC K a' ∧ (FR [1, 3, 4, 6] a a' ∧ ((∀ i, i ∉ [2, 3] → v' i = v i) ∧ (f_wdb (v' 2) = true ∧ v' 3 = some L)) ∧ True) ∧ v9 = none) := by
  refine f_call_of (d0 := 6) rfl (Nat.le_of_ble_eq_true rfl) (fun d hd => ?_)
  show f_wp _ (0, [some (.inr (.inr (some 6))), some (.inr (.inr (some L)))], [], cH a b v) _
  have l0 : (0 : Int32).toInt = 0 := rfl
  refine w_aload rfl rfl ?_
  refine w_aload rfl rfl ?_
  refine c_putR rfl rfl rfl rfl rC_put3 (fun v1 ev1 => ?_)
  refine w_aload rfl rfl ?_
  refine w_const rfl ?_
  refine c_putI (z := false) rfl rfl rfl rfl (by first | (intro h9; cases h9; done) | (intro _; first | exact Or.inl rfl | exact Or.inr rfl | assumption | (rcases (by omega : (0 : Int32).toInt = 0 ∨ (0 : Int32).toInt = 1) with h8 | h8; exact Or.inl (ti_eq h8); exact Or.inr (ti_eq h8)))) (fun a2 ea2 => ?_)
  have ha2 : RC K a2 := RC.up hR ea2 (lc_any _ (by omega))
  have ua2 : a2 6 10 = (0 : Int32) := by rw [ea2, mU_same]
  have wa2 := congrArg Int32.toInt ua2
  refine w_aload rfl rfl ?_
  refine c_getR (t := some 1) rfl rfl rfl rfl rfl ?_
  refine w_invV (rest := []) rfl rfl rfl rfl rfl (Nat.le_of_ble_eq_true rfl) rfl (by omega) (s_X8_begin (K := K) a2 b v1   ha2  ) (fun z3 h9 hq4 => ?_)
  obtain ⟨a5, b6, v7, rfl, ha5, fa5, rfl⟩ := hq4
  show f_wp _ (17, [some (.inr (.inr (some 6))), some (.inr (.inr (some L)))], [], cH a5 b6 v7) _
  exact w_ret rfl ⟨a5, b6, v7, rfl, ha5, ⟨FR.tr (FR.up (FR.rf) (by first | decide | simp | (simp [cA]; omega) | (simp [cB]; omega)) ea2) (FR.sub fa5.1 (by first | exact (fun _ h9 => h9) | decide | (intro c9 h9; simp only [List.mem_cons, List.not_mem_nil, or_false] at h9 ⊢; omega) | (intro c9 h9; simp at h9; simp [cA]; omega) | (intro c9 h9; simp at h9; simp [cB]; omega) | (intro c9 h9; simp [cA] at h9; simp [cB]; omega))), ⟨fun i9 h9 => (fa5.2.1.1 i9 (fun z9 => h9 (by first | exact z9 | (revert z9; simp; done) | (revert z9; simp; omega)))).trans ((show ∀ i9, i9 ∉ [2, 3] → v1 i9 = v i9 from fun i9 h9 => (show v1 i9 = v i9 from by rw [ev1]; exact vU_ne (fun z9 => h9 (by rw [z9]; decide))).trans ((show ∀ i9, i9 ∉ [2, 3] → v i9 = v i9 from (fun _ _ => rfl)) i9 h9)) i9 h9), ⟨fa5.2.1.2, ((fa5.2.1.1 3 (by decide)).trans (show v1 3 = some L from by rw [ev1]; exact vU_same))⟩⟩, trivial⟩, rfl⟩
set_option maxHeartbeats 2000000 in
set_option maxRecDepth 4000 in
theorem s_X6_readLand {K : Nat} (a : Nat → Nat → Int32) (b : Nat → Nat → Int64) (v : Nat → Option Nat) (L : Nat) (hR : RC K a) (hL : L = 22 ∨ L = 46) : f_call mtC 37 41 [.inr (.inr (some 6)), .inr (.inr (some L))] (cH a b v) (fun v9 h' => ∃ (a' : Nat → Nat → Int32) (b' : Nat → Nat → Int64) (v' : Nat → Option Nat), h' = cH a' b' v' ∧ RC K a' ∧ (FR [1, 3, 4, 6, L, L + 2, L + 3, L + 4, L + 5, L + 6, L + 7, L + 8, L + 9, L + 10, L + 11, L + 12, L + 13, L + 14, L + 15, L + 16, L + 17, L + 18, L + 19, L + 20, L + 21, L + 22, L + 23] a a' ∧ ((∀ i, i ∉ [2, 3, 4] → v' i = v i) ∧ (f_wdb (v' 2) = true ∧ v' 3 = some L ∧ (V4 v → V4 v'))) ∧ True) ∧ ∃ x : Int32, v9 = some (.inl x) ∧ True) := by
  refine f_call_of (d0 := 36) rfl (Nat.le_of_ble_eq_true rfl) (fun d hd => ?_)
  show f_wp _ (0, [some (.inr (.inr (some 6))), some (.inr (.inr (some L))), none], [], cH a b v) _
  have l0 : (0 : Int32).toInt = 0 := rfl
  have l1 : (1 : Int32).toInt = 1 := rfl
  have l1000 : (1000 : Int32).toInt = 1000 := rfl
  refine w_aload rfl rfl ?_
  refine w_aload rfl rfl ?_
  refine w_invV (rest := []) rfl rfl rfl rfl rfl (Nat.le_of_ble_eq_true rfl) rfl (by omega) (s_X6_begin (K := K) a b v  L hR  (by omega)) (fun z1 h9 hq2 => ?_)
  obtain ⟨a3, b4, v5, rfl, ha3, fa3, rfl⟩ := hq2
  show f_wp _ (5, [some (.inr (.inr (some 6))), some (.inr (.inr (some L))), none], [], cH a3 b4 v5) _
  refine w_aload rfl rfl ?_
  refine w_invV (rest := []) rfl rfl (sh_land (by omega)) rfl rfl (Nat.le_of_ble_eq_true rfl) rfl (by omega) (s_X3_clear (K := K) a3 b4 v5  L ha3  (by omega)) (fun z6 h9 hq7 => ?_)
  obtain ⟨a8, rfl, ha8, fa8, rfl⟩ := hq7
  show f_wp _ (9, [some (.inr (.inr (some 6))), some (.inr (.inr (some L))), none], [], cH a8 b4 v5) _
  refine w_aload rfl rfl ?_
  refine w_const rfl ?_
  refine c_putI (z := false) rfl rfl rfl rfl (by first | (intro h9; cases h9; done) | (intro _; first | exact Or.inl rfl | exact Or.inr rfl | assumption | (rcases (by omega : (0 : Int32).toInt = 0 ∨ (0 : Int32).toInt = 1) with h8 | h8; exact Or.inl (ti_eq h8); exact Or.inr (ti_eq h8)))) (fun a9 ea9 => ?_)
  have ha9 : RC K a9 := RC.up ha8 ea9 (lc_any _ (by omega))
  have ua9 : a9 6 8 = (0 : Int32) := by rw [ea9, mU_same]
  have wa9 := congrArg Int32.toInt ua9
  have loop48 : ∀ (ms9 : Nat)  (a48 : Nat → Nat → Int32) (b48 : Nat → Nat → Int64) (v48 : Nat → Option Nat) (o2_48 : Option f_V), ((0 : Int)).toNat = ms9 → RC K a48 → FR [1, 3, 4, 6, L, L + 2, L + 3, L + 4, L + 5, L + 6, L + 7, L + 8, L + 9, L + 10, L + 11, L + 12, L + 13, L + 14, L + 15, L + 16, L + 17, L + 18, L + 19, L + 20, L + 21, L + 22, L + 23] a a48 → (∀ i, i ∉ [2, 3, 4] → v48 i = v i) → (f_wdb (v48 2) = true) → (v48 3 = some L) → (V4 v → V4 v48) → f_wp (f_code (t_X6_readLand (f_ev mtC d))) (48, [some (.inr (.inr (some 6))), some (.inr (.inr (some L))), o2_48], [], cH a48 b48 v48) (fun v9 h' => ∃ (a' : Nat → Nat → Int32) (b' : Nat → Nat → Int64) (v' : Nat → Option Nat), h' = cH a' b' v' ∧ RC K a' ∧ (FR [1, 3, 4, 6, L, L + 2, L + 3, L + 4, L + 5, L + 6, L + 7, L + 8, L + 9, L + 10, L + 11, L + 12, L + 13, L + 14, L + 15, L + 16, L + 17, L + 18, L + 19, L + 20, L + 21, L + 22, L + 23] a a' ∧ ((∀ i, i ∉ [2, 3, 4] → v' i = v i) ∧ (f_wdb (v' 2) = true ∧ v' 3 = some L ∧ (V4 v → V4 v'))) ∧ True) ∧ ∃ x : Int32, v9 = some (.inl x) ∧ True) := by
    intro ms9
    induction ms9 using Nat.strongRecOn with
    | _ ms48 ih48 =>
      intro  a48 b48 v48 o2_48 hm48 hR48 hF48 hG48 hw9 h39 h49
      refine w_aload rfl rfl ?_
      refine c_getI rfl rfl rfl rfl ?_
      refine w_if_ne rfl (fun c10 => ?_) (fun c10 => ?_)
      · skip
        refine w_aload rfl rfl ?_
        refine w_invV (rest := []) rfl rfl (sh_land (by omega)) rfl rfl (Nat.le_of_ble_eq_true rfl) rfl (by omega) (s_X3_settle (K := K) a48 b48 v48  L hR48  (by omega)) (fun z11 h9 hq12 => ?_)
        obtain ⟨a13, rfl, ha13, fa13, rfl⟩ := hq12
        show f_wp _ (59, [some (.inr (.inr (some 6))), some (.inr (.inr (some L))), o2_48], [], cH a13 b48 v48) _
        refine w_aload rfl rfl ?_
        refine c_getI rfl rfl rfl rfl ?_
        exact wp_iret (z := false) rfl (fun h9 => by cases h9) ⟨a13, b48, v48, rfl, ha13, ⟨FR.tr (hF48) (FR.sub fa13.1 (by first | exact (fun _ h9 => h9) | decide | (intro c9 h9; simp only [List.mem_cons, List.not_mem_nil, or_false] at h9 ⊢; omega) | (intro c9 h9; simp at h9; simp [cA]; omega) | (intro c9 h9; simp at h9; simp [cB]; omega) | (intro c9 h9; simp [cA] at h9; simp [cB]; omega))), ⟨hG48, ⟨hw9, h39, h49⟩⟩, trivial⟩, ⟨_, rfl, trivial⟩⟩
      · skip
        refine w_aload rfl rfl ?_
        refine c_getI rfl rfl rfl rfl ?_
        exact wp_iret (z := false) rfl (fun h9 => by cases h9) ⟨a48, b48, v48, rfl, hR48, ⟨hF48, ⟨hG48, ⟨hw9, h39, h49⟩⟩, trivial⟩, ⟨_, rfl, trivial⟩⟩
  refine w_const rfl ?_
  refine w_istore (lo' := [some (.inr (.inr (some 6))), some (.inr (.inr (some L))), some (.inl 0)]) rfl rfl ?_
  have loop16 : ∀ (ms9 : Nat) (k : Int32) (a16 : Nat → Nat → Int32) (b16 : Nat → Nat → Int64) (v16 : Nat → Option Nat) , (1001 - k.toInt).toNat = ms9 → RC K a16 → FR [1, 3, 4, 6, L, L + 2, L + 3, L + 4, L + 5, L + 6, L + 7, L + 8, L + 9, L + 10, L + 11, L + 12, L + 13, L + 14, L + 15, L + 16, L + 17, L + 18, L + 19, L + 20, L + 21, L + 22, L + 23] a a16 → (∀ i, i ∉ [2, 3, 4] → v16 i = v i) → (0 ≤ k.toInt ∧ k.toInt ≤ 1001) → (f_wdb (v16 2) = true) → (v16 3 = some L) → (V4 v → V4 v16) → f_wp (f_code (t_X6_readLand (f_ev mtC d))) (16, [some (.inr (.inr (some 6))), some (.inr (.inr (some L))), some (.inl k)], [], cH a16 b16 v16) (fun v9 h' => ∃ (a' : Nat → Nat → Int32) (b' : Nat → Nat → Int64) (v' : Nat → Option Nat), h' = cH a' b' v' ∧ RC K a' ∧ (FR [1, 3, 4, 6, L, L + 2, L + 3, L + 4, L + 5, L + 6, L + 7, L + 8, L + 9, L + 10, L + 11, L + 12, L + 13, L + 14, L + 15, L + 16, L + 17, L + 18, L + 19, L + 20, L + 21, L + 22, L + 23] a a' ∧ ((∀ i, i ∉ [2, 3, 4] → v' i = v i) ∧ (f_wdb (v' 2) = true ∧ v' 3 = some L ∧ (V4 v → V4 v'))) ∧ True) ∧ ∃ x : Int32, v9 = some (.inl x) ∧ True) := by
    intro ms9
    induction ms9 using Nat.strongRecOn with
    | _ ms16 ih16 =>
      intro k a16 b16 v16  hm16 hR16 hF16 hG16 hk hw9 h39 h49
      refine w_iload rfl rfl ?_
      refine w_const rfl ?_
      refine w_ic_gt rfl (fun c14 => ?_) (fun c14 => ?_)
      · skip
        exact loop48 _ a16 b16 v16 (some (.inl k)) rfl hR16 (hF16) (hG16) (hw9) (h39) (h49)
      · skip
        refine w_aload rfl rfl ?_
        refine w_invV (rest := []) rfl rfl rfl rfl rfl (Nat.le_of_ble_eq_true rfl) rfl (by omega) (s_X6_goesOn (K := K) a16 b16 v16   hR16  ) (fun z15 h9 hq16 => ?_)
        obtain ⟨rfl, x17, rfl, px17⟩ := hq16
        show f_wp _ (27, [some (.inr (.inr (some 6))), some (.inr (.inr (some L))), some (.inl k)], [.inl x17], cH a16 b16 v16) _
        refine w_if_eq rfl (fun c18 => ?_) (fun c18 => ?_)
        · skip
          exact loop48 _ a16 b16 v16 (some (.inl k)) rfl hR16 (hF16) (hG16) (hw9) (h39) (h49)
        · skip
          refine w_aload rfl rfl ?_
          refine w_invV (rest := []) rfl rfl rfl rfl rfl (Nat.le_of_ble_eq_true rfl) rfl (by omega) (s_X6_landLine (K := K) a16 b16 v16 L  hR16  (hw9) (h39) (by omega)) (fun z19 h9 hq20 => ?_)
          obtain ⟨a21, b22, v23, rfl, ha21, fa21, x24, rfl, px24⟩ := hq20
          show f_wp _ (34, [some (.inr (.inr (some 6))), some (.inr (.inr (some L))), some (.inl k)], [.inl x24], cH a21 b22 v23) _
          refine w_if_eq rfl (fun c25 => ?_) (fun c25 => ?_)
          · skip
            refine w_iinc (lo' := fun z9 => [some (.inr (.inr (some 6))), some (.inr (.inr (some L))), some (.inl z9)]) rfl rfl (fun _ => rfl) (by omega) (fun x26 tx26 => ?_)
            refine w_goto rfl ?_
            exact ih16 (1001 - x26.toInt).toNat (by omega) x26 a21 b22 v23 rfl ha21 (FR.tr (hF16) (FR.sub fa21.1 (by first | exact (fun _ h9 => h9) | decide | (intro c9 h9; simp only [List.mem_cons, List.not_mem_nil, or_false] at h9 ⊢; omega) | (intro c9 h9; simp at h9; simp [cA]; omega) | (intro c9 h9; simp at h9; simp [cB]; omega) | (intro c9 h9; simp [cA] at h9; simp [cB]; omega)))) (fun i9 h9 => (fa21.2.1.1 i9 (fun z9 => h9 (by first | exact z9 | (revert z9; simp; done) | (revert z9; simp; omega)))).trans ((show ∀ i9, i9 ∉ [2, 3, 4] → v16 i9 = v i9 from hG16) i9 h9)) (by omega) (fa21.2.1.2.1) (((fa21.2.1.1 3 (by decide)).trans h39)) (fun h => (fa21.2.1.2.2 ((h49) h)))
          · skip
            refine w_aload rfl rfl ?_
            refine w_invV (rest := []) rfl rfl rfl rfl rfl (Nat.le_of_ble_eq_true rfl) rfl (by omega) (s_X6_lineEnd (K := K) a21 b22 v23   ha21  (fa21.2.1.2.1)) (fun z27 h9 hq28 => ?_)
            obtain ⟨a29, b30, v31, rfl, ha29, fa29, x32, rfl, px32⟩ := hq28
            show f_wp _ (41, [some (.inr (.inr (some 6))), some (.inr (.inr (some L))), some (.inl k)], [.inl x32], cH a29 b30 v31) _
            refine w_pop rfl rfl ?_
            refine w_iinc (lo' := fun z9 => [some (.inr (.inr (some 6))), some (.inr (.inr (some L))), some (.inl z9)]) rfl rfl (fun _ => rfl) (by omega) (fun x33 tx33 => ?_)
            refine w_goto rfl ?_
            exact ih16 (1001 - x33.toInt).toNat (by omega) x33 a29 b30 v31 rfl ha29 (FR.tr (FR.tr (hF16) (FR.sub fa21.1 (by first | exact (fun _ h9 => h9) | decide | (intro c9 h9; simp only [List.mem_cons, List.not_mem_nil, or_false] at h9 ⊢; omega) | (intro c9 h9; simp at h9; simp [cA]; omega) | (intro c9 h9; simp at h9; simp [cB]; omega) | (intro c9 h9; simp [cA] at h9; simp [cB]; omega)))) (FR.sub fa29.1 (by first | exact (fun _ h9 => h9) | decide | (intro c9 h9; simp only [List.mem_cons, List.not_mem_nil, or_false] at h9 ⊢; omega) | (intro c9 h9; simp at h9; simp [cA]; omega) | (intro c9 h9; simp at h9; simp [cB]; omega) | (intro c9 h9; simp [cA] at h9; simp [cB]; omega)))) (fun i9 h9 => (fa29.2.1.1 i9 (fun z9 => h9 (by first | exact z9 | (revert z9; simp; done) | (revert z9; simp; omega)))).trans ((show ∀ i9, i9 ∉ [2, 3, 4] → v23 i9 = v i9 from fun i9 h9 => (fa21.2.1.1 i9 (fun z9 => h9 (by first | exact z9 | (revert z9; simp; done) | (revert z9; simp; omega)))).trans ((show ∀ i9, i9 ∉ [2, 3, 4] → v16 i9 = v i9 from hG16) i9 h9)) i9 h9)) (by omega) (fa29.2.1.2) (((fa29.2.1.1 3 (by decide)).trans ((fa21.2.1.1 3 (by decide)).trans h39))) (fun h => ((fun h => (fa21.2.1.2.2 ((h49) h))) h).eq (fa29.2.1.1 4 (by decide)))
  exact loop16 _ 0 a9 b4 v5 rfl ha9 (FR.up (FR.tr (FR.tr (FR.rf) (FR.sub fa3.1 (by first | exact (fun _ h9 => h9) | decide | (intro c9 h9; simp only [List.mem_cons, List.not_mem_nil, or_false] at h9 ⊢; omega) | (intro c9 h9; simp at h9; simp [cA]; omega) | (intro c9 h9; simp at h9; simp [cB]; omega) | (intro c9 h9; simp [cA] at h9; simp [cB]; omega)))) (FR.sub fa8.1 (by first | exact (fun _ h9 => h9) | decide | (intro c9 h9; simp only [List.mem_cons, List.not_mem_nil, or_false] at h9 ⊢; omega) | (intro c9 h9; simp at h9; simp [cA]; omega) | (intro c9 h9; simp at h9; simp [cB]; omega) | (intro c9 h9; simp [cA] at h9; simp [cB]; omega)))) (by first | decide | simp | (simp [cA]; omega) | (simp [cB]; omega)) ea9) (fun i9 h9 => (fa3.2.1.1 i9 (fun z9 => h9 (by first | exact z9 | (revert z9; simp; done) | (revert z9; simp; omega)))).trans ((show ∀ i9, i9 ∉ [2, 3, 4] → v i9 = v i9 from (fun _ _ => rfl)) i9 h9)) (by omega) (fa3.2.1.2.1) (fa3.2.1.2.2) (fun h => h.eq (fa3.2.1.1 4 (by decide)))
set_option maxHeartbeats 2000000 in
set_option maxRecDepth 4000 in
theorem s_X6_readVows {K : Nat} (a : Nat → Nat → Int32) (b : Nat → Nat → Int64) (v : Nat → Option Nat) (L : Nat) (hR : RC K a) (hL : L = 22 ∨ L = 46) : f_call mtC 8 42 [.inr (.inr (some 6)), .inr (.inr (some L))] (cH a b v) (fun v9 h' => ∃ (a' : Nat → Nat → Int32) (b' : Nat → Nat → Int64) (v' : Nat → Option Nat), h' = cH a' b' v' ∧ RC K a' ∧ (FR [1, 3, 4, 6, 7] a a' ∧ ((∀ i, i ∉ [2, 3] → v' i = v i) ∧ (f_wdb (v' 2) = true ∧ v' 3 = some L)) ∧ True) ∧ ∃ x : Int32, v9 = some (.inl x) ∧ True) := by
  refine f_call_of (d0 := 7) rfl (Nat.le_of_ble_eq_true rfl) (fun d hd => ?_)
  show f_wp _ (0, [some (.inr (.inr (some 6))), some (.inr (.inr (some L))), none], [], cH a b v) _
  have l0 : (0 : Int32).toInt = 0 := rfl
  have l1 : (1 : Int32).toInt = 1 := rfl
  have l24 : (24 : Int32).toInt = 24 := rfl
  refine w_aload rfl rfl ?_
  refine w_aload rfl rfl ?_
  refine w_invV (rest := []) rfl rfl rfl rfl rfl (Nat.le_of_ble_eq_true rfl) rfl (by omega) (s_X6_begin (K := K) a b v  L hR  (by omega)) (fun z1 h9 hq2 => ?_)
  obtain ⟨a3, b4, v5, rfl, ha3, fa3, rfl⟩ := hq2
  show f_wp _ (5, [some (.inr (.inr (some 6))), some (.inr (.inr (some L))), none], [], cH a3 b4 v5) _
  refine w_aload rfl rfl ?_
  refine w_const rfl ?_
  refine c_putI (z := false) rfl rfl rfl rfl (by first | (intro h9; cases h9; done) | (intro _; first | exact Or.inl rfl | exact Or.inr rfl | assumption | (rcases (by omega : (0 : Int32).toInt = 0 ∨ (0 : Int32).toInt = 1) with h8 | h8; exact Or.inl (ti_eq h8); exact Or.inr (ti_eq h8)))) (fun a6 ea6 => ?_)
  have ha6 : RC K a6 := RC.up ha3 ea6 (show (0 : Int) ≤ _ ∧ _ ≤ (24 : Int) from by omega)
  have ua6 : a6 6 2 = (0 : Int32) := by rw [ea6, mU_same]
  have wa6 := congrArg Int32.toInt ua6
  have loop43 : ∀ (ms9 : Nat)  (a43 : Nat → Nat → Int32) (b43 : Nat → Nat → Int64) (v43 : Nat → Option Nat) (o2_43 : Option f_V), ((0 : Int)).toNat = ms9 → RC K a43 → FR [1, 3, 4, 6, 7] a a43 → (∀ i, i ∉ [2, 3] → v43 i = v i) → (f_wdb (v43 2) = true) → (v43 3 = some L) → f_wp (f_code (t_X6_readVows (f_ev mtC d))) (43, [some (.inr (.inr (some 6))), some (.inr (.inr (some L))), o2_43], [], cH a43 b43 v43) (fun v9 h' => ∃ (a' : Nat → Nat → Int32) (b' : Nat → Nat → Int64) (v' : Nat → Option Nat), h' = cH a' b' v' ∧ RC K a' ∧ (FR [1, 3, 4, 6, 7] a a' ∧ ((∀ i, i ∉ [2, 3] → v' i = v i) ∧ (f_wdb (v' 2) = true ∧ v' 3 = some L)) ∧ True) ∧ ∃ x : Int32, v9 = some (.inl x) ∧ True) := by
    intro ms9
    induction ms9 using Nat.strongRecOn with
    | _ ms43 ih43 =>
      intro  a43 b43 v43 o2_43 hm43 hR43 hF43 hG43 hw9 h39
      refine w_aload rfl rfl ?_
      refine c_getI rfl rfl rfl rfl ?_
      exact wp_iret (z := false) rfl (fun h9 => by cases h9) ⟨a43, b43, v43, rfl, hR43, ⟨hF43, ⟨hG43, ⟨hw9, h39⟩⟩, trivial⟩, ⟨_, rfl, trivial⟩⟩
  refine w_const rfl ?_
  refine w_istore (lo' := [some (.inr (.inr (some 6))), some (.inr (.inr (some L))), some (.inl 0)]) rfl rfl ?_
  have loop12 : ∀ (ms9 : Nat) (k : Int32) (a12 : Nat → Nat → Int32) (b12 : Nat → Nat → Int64) (v12 : Nat → Option Nat) , (25 - k.toInt).toNat = ms9 → RC K a12 → FR [1, 3, 4, 6, 7] a a12 → (∀ i, i ∉ [2, 3] → v12 i = v i) → (0 ≤ k.toInt ∧ k.toInt ≤ 25) → (f_wdb (v12 2) = true) → (v12 3 = some L) → f_wp (f_code (t_X6_readVows (f_ev mtC d))) (12, [some (.inr (.inr (some 6))), some (.inr (.inr (some L))), some (.inl k)], [], cH a12 b12 v12) (fun v9 h' => ∃ (a' : Nat → Nat → Int32) (b' : Nat → Nat → Int64) (v' : Nat → Option Nat), h' = cH a' b' v' ∧ RC K a' ∧ (FR [1, 3, 4, 6, 7] a a' ∧ ((∀ i, i ∉ [2, 3] → v' i = v i) ∧ (f_wdb (v' 2) = true ∧ v' 3 = some L)) ∧ True) ∧ ∃ x : Int32, v9 = some (.inl x) ∧ True) := by
    intro ms9
    induction ms9 using Nat.strongRecOn with
    | _ ms12 ih12 =>
      intro k a12 b12 v12  hm12 hR12 hF12 hG12 hk hw9 h39
      refine w_iload rfl rfl ?_
      refine w_const rfl ?_
      refine w_ic_gt rfl (fun c7 => ?_) (fun c7 => ?_)
      · skip
        exact loop43 _ a12 b12 v12 (some (.inl k)) rfl hR12 (hF12) (hG12) (hw9) (h39)
      · skip
        refine w_aload rfl rfl ?_
        refine w_invV (rest := []) rfl rfl rfl rfl rfl (Nat.le_of_ble_eq_true rfl) rfl (by omega) (s_X6_goesOn (K := K) a12 b12 v12   hR12  ) (fun z8 h9 hq9 => ?_)
        obtain ⟨rfl, x10, rfl, px10⟩ := hq9
        show f_wp _ (22, [some (.inr (.inr (some 6))), some (.inr (.inr (some L))), some (.inl k)], [.inl x10], cH a12 b12 v12) _
        refine w_if_eq rfl (fun c11 => ?_) (fun c11 => ?_)
        · skip
          exact loop43 _ a12 b12 v12 (some (.inl k)) rfl hR12 (hF12) (hG12) (hw9) (h39)
        · skip
          refine w_aload rfl rfl ?_
          refine w_invV (rest := []) rfl rfl rfl rfl rfl (Nat.le_of_ble_eq_true rfl) rfl (by omega) (s_X6_vowLine (K := K) a12 b12 v12 L  hR12  (hw9) (h39) (by omega)) (fun z12 h9 hq13 => ?_)
          obtain ⟨a14, b15, v16, rfl, ha14, fa14, x17, rfl, px17⟩ := hq13
          show f_wp _ (29, [some (.inr (.inr (some 6))), some (.inr (.inr (some L))), some (.inl k)], [.inl x17], cH a14 b15 v16) _
          refine w_if_eq rfl (fun c18 => ?_) (fun c18 => ?_)
          · skip
            refine w_iinc (lo' := fun z9 => [some (.inr (.inr (some 6))), some (.inr (.inr (some L))), some (.inl z9)]) rfl rfl (fun _ => rfl) (by omega) (fun x19 tx19 => ?_)
            refine w_goto rfl ?_
            exact ih12 (25 - x19.toInt).toNat (by omega) x19 a14 b15 v16 rfl ha14 (FR.tr (hF12) (FR.sub fa14.1 (by first | exact (fun _ h9 => h9) | decide | (intro c9 h9; simp only [List.mem_cons, List.not_mem_nil, or_false] at h9 ⊢; omega) | (intro c9 h9; simp at h9; simp [cA]; omega) | (intro c9 h9; simp at h9; simp [cB]; omega) | (intro c9 h9; simp [cA] at h9; simp [cB]; omega)))) (fun i9 h9 => (fa14.2.1.1 i9 (fun z9 => h9 (by first | exact z9 | (revert z9; simp; done) | (revert z9; simp; omega)))).trans ((show ∀ i9, i9 ∉ [2, 3] → v12 i9 = v i9 from hG12) i9 h9)) (by omega) (fa14.2.1.2) (((fa14.2.1.1 3 (by decide)).trans h39))
          · skip
            refine w_aload rfl rfl ?_
            refine w_invV (rest := []) rfl rfl rfl rfl rfl (Nat.le_of_ble_eq_true rfl) rfl (by omega) (s_X6_lineEnd (K := K) a14 b15 v16   ha14  (fa14.2.1.2)) (fun z20 h9 hq21 => ?_)
            obtain ⟨a22, b23, v24, rfl, ha22, fa22, x25, rfl, px25⟩ := hq21
            show f_wp _ (36, [some (.inr (.inr (some 6))), some (.inr (.inr (some L))), some (.inl k)], [.inl x25], cH a22 b23 v24) _
            refine w_pop rfl rfl ?_
            refine w_iinc (lo' := fun z9 => [some (.inr (.inr (some 6))), some (.inr (.inr (some L))), some (.inl z9)]) rfl rfl (fun _ => rfl) (by omega) (fun x26 tx26 => ?_)
            refine w_goto rfl ?_
            exact ih12 (25 - x26.toInt).toNat (by omega) x26 a22 b23 v24 rfl ha22 (FR.tr (FR.tr (hF12) (FR.sub fa14.1 (by first | exact (fun _ h9 => h9) | decide | (intro c9 h9; simp only [List.mem_cons, List.not_mem_nil, or_false] at h9 ⊢; omega) | (intro c9 h9; simp at h9; simp [cA]; omega) | (intro c9 h9; simp at h9; simp [cB]; omega) | (intro c9 h9; simp [cA] at h9; simp [cB]; omega)))) (FR.sub fa22.1 (by first | exact (fun _ h9 => h9) | decide | (intro c9 h9; simp only [List.mem_cons, List.not_mem_nil, or_false] at h9 ⊢; omega) | (intro c9 h9; simp at h9; simp [cA]; omega) | (intro c9 h9; simp at h9; simp [cB]; omega) | (intro c9 h9; simp [cA] at h9; simp [cB]; omega)))) (fun i9 h9 => (fa22.2.1.1 i9 (fun z9 => h9 (by first | exact z9 | (revert z9; simp; done) | (revert z9; simp; omega)))).trans ((show ∀ i9, i9 ∉ [2, 3] → v16 i9 = v i9 from fun i9 h9 => (fa14.2.1.1 i9 (fun z9 => h9 (by first | exact z9 | (revert z9; simp; done) | (revert z9; simp; omega)))).trans ((show ∀ i9, i9 ∉ [2, 3] → v12 i9 = v i9 from hG12) i9 h9)) i9 h9)) (by omega) (fa22.2.1.2) (((fa22.2.1.1 3 (by decide)).trans ((fa14.2.1.1 3 (by decide)).trans h39)))
  exact loop12 _ 0 a6 b4 v5 rfl ha6 (FR.up (FR.tr (FR.rf) (FR.sub fa3.1 (by first | exact (fun _ h9 => h9) | decide | (intro c9 h9; simp only [List.mem_cons, List.not_mem_nil, or_false] at h9 ⊢; omega) | (intro c9 h9; simp at h9; simp [cA]; omega) | (intro c9 h9; simp at h9; simp [cB]; omega) | (intro c9 h9; simp [cA] at h9; simp [cB]; omega)))) (by first | decide | simp | (simp [cA]; omega) | (simp [cB]; omega)) ea6) (fun i9 h9 => (fa3.2.1.1 i9 (fun z9 => h9 (by first | exact z9 | (revert z9; simp; done) | (revert z9; simp; omega)))).trans ((show ∀ i9, i9 ∉ [2, 3] → v i9 = v i9 from (fun _ _ => rfl)) i9 h9)) (by omega) (fa3.2.1.2.1) (fa3.2.1.2.2)
set_option maxHeartbeats 2000000 in
set_option maxRecDepth 4000 in
theorem s_X6_readWill {K : Nat} (a : Nat → Nat → Int32) (b : Nat → Nat → Int64) (v : Nat → Option Nat) (L : Nat)  (hR : RC K a) (hL : L = 22 ∨ L = 46) (h3 : v 3 = some L) : f_call mtC 8 43 [.inr (.inr (some 6))] (cH a b v) (fun v9 h' => ∃ (a' : Nat → Nat → Int32) (b' : Nat → Nat → Int64) (v' : Nat → Option Nat), h' = cH a' b' v' ∧ RC K a' ∧ (FR [1, 3, 4, 6, 8] a a' ∧ ((∀ i, i ∉ [2, 3] → v' i = v i) ∧ (f_wdb (v' 2) = true ∧ v' 3 = some L)) ∧ True) ∧ ∃ x : Int32, v9 = some (.inl x) ∧ True) := by
  refine f_call_of (d0 := 7) rfl (Nat.le_of_ble_eq_true rfl) (fun d hd => ?_)
  show f_wp _ (0, [some (.inr (.inr (some 6))), none], [], cH a b v) _
  have l0 : (0 : Int32).toInt = 0 := rfl
  have l1 : (1 : Int32).toInt = 1 := rfl
  have l6 : (6 : Int32).toInt = 6 := rfl
  refine w_aload rfl rfl ?_
  refine w_aload rfl rfl ?_
  refine c_getR (t := some L) rfl rfl rfl rfl h3 ?_
  refine w_invV (rest := []) rfl rfl rfl rfl rfl (Nat.le_of_ble_eq_true rfl) rfl (by omega) (s_X6_begin (K := K) a b v  L hR  (by omega)) (fun z1 h9 hq2 => ?_)
  obtain ⟨a3, b4, v5, rfl, ha3, fa3, rfl⟩ := hq2
  show f_wp _ (8, [some (.inr (.inr (some 6))), none], [], cH a3 b4 v5) _
  refine w_aload rfl rfl ?_
  refine w_const rfl ?_
  refine c_putI (z := false) rfl rfl rfl rfl (by first | (intro h9; cases h9; done) | (intro _; first | exact Or.inl rfl | exact Or.inr rfl | assumption | (rcases (by omega : (0 : Int32).toInt = 0 ∨ (0 : Int32).toInt = 1) with h8 | h8; exact Or.inl (ti_eq h8); exact Or.inr (ti_eq h8)))) (fun a6 ea6 => ?_)
  have ha6 : RC K a6 := RC.up ha3 ea6 (show (0 : Int) ≤ _ ∧ _ ≤ (6 : Int) from by omega)
  have ua6 : a6 6 3 = (0 : Int32) := by rw [ea6, mU_same]
  have wa6 := congrArg Int32.toInt ua6
  have loop46 : ∀ (ms9 : Nat)  (a46 : Nat → Nat → Int32) (b46 : Nat → Nat → Int64) (v46 : Nat → Option Nat) (o1_46 : Option f_V), ((0 : Int)).toNat = ms9 → RC K a46 → FR [1, 3, 4, 6, 8] a a46 → (∀ i, i ∉ [2, 3] → v46 i = v i) → (f_wdb (v46 2) = true) → (v46 3 = some L) → f_wp (f_code (t_X6_readWill (f_ev mtC d))) (46, [some (.inr (.inr (some 6))), o1_46], [], cH a46 b46 v46) (fun v9 h' => ∃ (a' : Nat → Nat → Int32) (b' : Nat → Nat → Int64) (v' : Nat → Option Nat), h' = cH a' b' v' ∧ RC K a' ∧ (FR [1, 3, 4, 6, 8] a a' ∧ ((∀ i, i ∉ [2, 3] → v' i = v i) ∧ (f_wdb (v' 2) = true ∧ v' 3 = some L)) ∧ True) ∧ ∃ x : Int32, v9 = some (.inl x) ∧ True) := by
    intro ms9
    induction ms9 using Nat.strongRecOn with
    | _ ms46 ih46 =>
      intro  a46 b46 v46 o1_46 hm46 hR46 hF46 hG46 hw9 h39
      refine w_aload rfl rfl ?_
      refine c_getI rfl rfl rfl rfl ?_
      exact wp_iret (z := false) rfl (fun h9 => by cases h9) ⟨a46, b46, v46, rfl, hR46, ⟨hF46, ⟨hG46, ⟨hw9, h39⟩⟩, trivial⟩, ⟨_, rfl, trivial⟩⟩
  refine w_const rfl ?_
  refine w_istore (lo' := [some (.inr (.inr (some 6))), some (.inl 0)]) rfl rfl ?_
  have loop15 : ∀ (ms9 : Nat) (k : Int32) (a15 : Nat → Nat → Int32) (b15 : Nat → Nat → Int64) (v15 : Nat → Option Nat) , (7 - k.toInt).toNat = ms9 → RC K a15 → FR [1, 3, 4, 6, 8] a a15 → (∀ i, i ∉ [2, 3] → v15 i = v i) → (0 ≤ k.toInt ∧ k.toInt ≤ 7) → (f_wdb (v15 2) = true) → (v15 3 = some L) → f_wp (f_code (t_X6_readWill (f_ev mtC d))) (15, [some (.inr (.inr (some 6))), some (.inl k)], [], cH a15 b15 v15) (fun v9 h' => ∃ (a' : Nat → Nat → Int32) (b' : Nat → Nat → Int64) (v' : Nat → Option Nat), h' = cH a' b' v' ∧ RC K a' ∧ (FR [1, 3, 4, 6, 8] a a' ∧ ((∀ i, i ∉ [2, 3] → v' i = v i) ∧ (f_wdb (v' 2) = true ∧ v' 3 = some L)) ∧ True) ∧ ∃ x : Int32, v9 = some (.inl x) ∧ True) := by
    intro ms9
    induction ms9 using Nat.strongRecOn with
    | _ ms15 ih15 =>
      intro k a15 b15 v15  hm15 hR15 hF15 hG15 hk hw9 h39
      refine w_iload rfl rfl ?_
      refine w_const rfl ?_
      refine w_ic_gt rfl (fun c7 => ?_) (fun c7 => ?_)
      · skip
        exact loop46 _ a15 b15 v15 (some (.inl k)) rfl hR15 (hF15) (hG15) (hw9) (h39)
      · skip
        refine w_aload rfl rfl ?_
        refine w_invV (rest := []) rfl rfl rfl rfl rfl (Nat.le_of_ble_eq_true rfl) rfl (by omega) (s_X6_goesOn (K := K) a15 b15 v15   hR15  ) (fun z8 h9 hq9 => ?_)
        obtain ⟨rfl, x10, rfl, px10⟩ := hq9
        show f_wp _ (25, [some (.inr (.inr (some 6))), some (.inl k)], [.inl x10], cH a15 b15 v15) _
        refine w_if_eq rfl (fun c11 => ?_) (fun c11 => ?_)
        · skip
          exact loop46 _ a15 b15 v15 (some (.inl k)) rfl hR15 (hF15) (hG15) (hw9) (h39)
        · skip
          refine w_aload rfl rfl ?_
          refine w_invV (rest := []) rfl rfl rfl rfl rfl (Nat.le_of_ble_eq_true rfl) rfl (by omega) (s_X6_heirLine (K := K) a15 b15 v15   hR15  (hw9)) (fun z12 h9 hq13 => ?_)
          obtain ⟨a14, b15, v16, rfl, ha14, fa14, x17, rfl, px17⟩ := hq13
          show f_wp _ (32, [some (.inr (.inr (some 6))), some (.inl k)], [.inl x17], cH a14 b15 v16) _
          refine w_if_eq rfl (fun c18 => ?_) (fun c18 => ?_)
          · skip
            refine w_iinc (lo' := fun z9 => [some (.inr (.inr (some 6))), some (.inl z9)]) rfl rfl (fun _ => rfl) (by omega) (fun x19 tx19 => ?_)
            refine w_goto rfl ?_
            exact ih15 (7 - x19.toInt).toNat (by omega) x19 a14 b15 v16 rfl ha14 (FR.tr (hF15) (FR.sub fa14.1 (by first | exact (fun _ h9 => h9) | decide | (intro c9 h9; simp only [List.mem_cons, List.not_mem_nil, or_false] at h9 ⊢; omega) | (intro c9 h9; simp at h9; simp [cA]; omega) | (intro c9 h9; simp at h9; simp [cB]; omega) | (intro c9 h9; simp [cA] at h9; simp [cB]; omega)))) (fun i9 h9 => (fa14.2.1.1 i9 (fun z9 => h9 (by first | exact z9 | (revert z9; simp; done) | (revert z9; simp; omega)))).trans ((show ∀ i9, i9 ∉ [2, 3] → v15 i9 = v i9 from hG15) i9 h9)) (by omega) (fa14.2.1.2) (((fa14.2.1.1 3 (by decide)).trans h39))
          · skip
            refine w_aload rfl rfl ?_
            refine w_invV (rest := []) rfl rfl rfl rfl rfl (Nat.le_of_ble_eq_true rfl) rfl (by omega) (s_X6_lineEnd (K := K) a14 b15 v16   ha14  (fa14.2.1.2)) (fun z20 h9 hq21 => ?_)
            obtain ⟨a22, b23, v24, rfl, ha22, fa22, x25, rfl, px25⟩ := hq21
            show f_wp _ (39, [some (.inr (.inr (some 6))), some (.inl k)], [.inl x25], cH a22 b23 v24) _
            refine w_pop rfl rfl ?_
            refine w_iinc (lo' := fun z9 => [some (.inr (.inr (some 6))), some (.inl z9)]) rfl rfl (fun _ => rfl) (by omega) (fun x26 tx26 => ?_)
            refine w_goto rfl ?_
            exact ih15 (7 - x26.toInt).toNat (by omega) x26 a22 b23 v24 rfl ha22 (FR.tr (FR.tr (hF15) (FR.sub fa14.1 (by first | exact (fun _ h9 => h9) | decide | (intro c9 h9; simp only [List.mem_cons, List.not_mem_nil, or_false] at h9 ⊢; omega) | (intro c9 h9; simp at h9; simp [cA]; omega) | (intro c9 h9; simp at h9; simp [cB]; omega) | (intro c9 h9; simp [cA] at h9; simp [cB]; omega)))) (FR.sub fa22.1 (by first | exact (fun _ h9 => h9) | decide | (intro c9 h9; simp only [List.mem_cons, List.not_mem_nil, or_false] at h9 ⊢; omega) | (intro c9 h9; simp at h9; simp [cA]; omega) | (intro c9 h9; simp at h9; simp [cB]; omega) | (intro c9 h9; simp [cA] at h9; simp [cB]; omega)))) (fun i9 h9 => (fa22.2.1.1 i9 (fun z9 => h9 (by first | exact z9 | (revert z9; simp; done) | (revert z9; simp; omega)))).trans ((show ∀ i9, i9 ∉ [2, 3] → v16 i9 = v i9 from fun i9 h9 => (fa14.2.1.1 i9 (fun z9 => h9 (by first | exact z9 | (revert z9; simp; done) | (revert z9; simp; omega)))).trans ((show ∀ i9, i9 ∉ [2, 3] → v15 i9 = v i9 from hG15) i9 h9)) i9 h9)) (by omega) (fa22.2.1.2) (((fa22.2.1.1 3 (by decide)).trans ((fa14.2.1.1 3 (by decide)).trans h39)))
  exact loop15 _ 0 a6 b4 v5 rfl ha6 (FR.up (FR.tr (FR.rf) (FR.sub fa3.1 (by first | exact (fun _ h9 => h9) | decide | (intro c9 h9; simp only [List.mem_cons, List.not_mem_nil, or_false] at h9 ⊢; omega) | (intro c9 h9; simp at h9; simp [cA]; omega) | (intro c9 h9; simp at h9; simp [cB]; omega) | (intro c9 h9; simp [cA] at h9; simp [cB]; omega)))) (by first | decide | simp | (simp [cA]; omega) | (simp [cB]; omega)) ea6) (fun i9 h9 => (fa3.2.1.1 i9 (fun z9 => h9 (by first | exact z9 | (revert z9; simp; done) | (revert z9; simp; omega)))).trans ((show ∀ i9, i9 ∉ [2, 3] → v i9 = v i9 from (fun _ _ => rfl)) i9 h9)) (by omega) (fa3.2.1.2.1) (fa3.2.1.2.2)
