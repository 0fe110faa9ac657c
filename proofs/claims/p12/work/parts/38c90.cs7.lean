set_option maxRecDepth 4000 in
theorem s_Jx29ce0_ordinal_8abf5 {K : Nat} (a : Nat → Nat → Int32) (b : Nat → Nat → Int64) (v : Nat → Option Nat) (o : Nat) (ho : 1000 ≤ o ∧ o < 1031) : f_call mtC 1 169 [.inr (.inr (some o))] (cH a b v) (fun v9 h' => h' = cH a b v ∧ ∃ x : Int32, v9 = some (.inl x) ∧ (0 ≤ x.toInt ∧ x.toInt < 31)) := by
  refine f_call_of (d0 := 0) rfl (Nat.le_of_ble_eq_true rfl) (fun d hd => ?_)
  show f_wp _ (0, [some (.inr (.inr (some o)))], [], cH a b v) _
  refine w_aload rfl rfl ?_
  refine c_sfld rfl (if_pos (by omega)) ?_
  have h9 : (Int32.ofNat (o - 1000)).toInt = ((o - 1000 : Nat) : Int) := Int32.toInt_ofNat_of_lt (by omega)
  exact wp_iret (z := false) rfl (fun h9 => by cases h9) ⟨rfl, ⟨_, rfl, by omega⟩⟩
set_option maxRecDepth 4000 in
theorem s_X6_riverName {K : Nat} (a : Nat → Nat → Int32) (b : Nat → Nat → Int64) (v : Nat → Option Nat) (L : Nat) (q : Nat) (hR : RC K a) (hw : f_wdb (v 2) = true) (h3 : v 3 = some L) (hL : L = 22 ∨ L = 46) (hq : (34 ≤ q ∧ q < 46 ∨ 58 ≤ q ∧ q < 70) ∧ q % 2 = 0) : f_call mtC 3 58 [.inr (.inr (some 6)), .inr (.inr (some q))] (cH a b v) (fun v9 h' => ∃ (a' : Nat → Nat → Int32) (b' : Nat → Nat → Int64) (v' : Nat → Option Nat), h' = cH a' b' v' ∧ RC K a' ∧ (FR [1, 6, q] a a' ∧ ((∀ i, i ∉ [2] → v' i = v i) ∧ f_wdb (v' 2) = true) ∧ True) ∧ ∃ x : Int32, v9 = some (.inl x) ∧ (x.toInt = 0 ∨ x.toInt = 1)) := by
  refine f_call_of (d0 := 2) rfl (Nat.le_of_ble_eq_true rfl) (fun d hd => ?_)
  show f_wp _ (0, [some (.inr (.inr (some 6))), some (.inr (.inr (some q)))], [], cH a b v) _
  have lm1 : (-1 : Int32).toInt = -1 := rfl
  have l0 : (0 : Int32).toInt = 0 := rfl
  have l1 : (1 : Int32).toInt = 1 := rfl
  have l3 : (3 : Int32).toInt = 3 := rfl
  refine w_aload rfl rfl ?_
  refine w_invV (rest := []) rfl rfl rfl rfl rfl (Nat.le_of_ble_eq_true rfl) rfl (by omega) (s_X6_isName (K := K) a b v   hR  (hw)) (fun z1 h9 hq2 => ?_)
  obtain ⟨a3, rfl, ha3, fa3, x4, rfl, px4⟩ := hq2
  show f_wp _ (4, [some (.inr (.inr (some 6))), some (.inr (.inr (some q)))], [.inl x4], cH a3 b v) _
  refine w_if_ne rfl (fun c5 => ?_) (fun c5 => ?_)
  · skip
    refine w_const rfl ?_
    exact wp_iret (z := true) rfl (fun _ => by first | exact Or.inl rfl | exact Or.inr rfl | (rcases (by omega : (0 : Int32).toInt = 0 ∨ (0 : Int32).toInt = 1) with h8 | h8; exact Or.inl (ti_eq h8); exact Or.inr (ti_eq h8))) ⟨a3, b, v, rfl, ha3, ⟨FR.tr (FR.rf) (FR.sub fa3.1 (by first | exact (fun _ h9 => h9) | decide | (intro c9 h9; simp only [List.mem_cons, List.not_mem_nil, or_false] at h9 ⊢; omega) | (intro c9 h9; simp at h9; simp [cA]; omega) | (intro c9 h9; simp at h9; simp [cB]; omega) | (intro c9 h9; simp [cA] at h9; simp [cB]; omega))), ⟨(fun _ _ => rfl), hw⟩, trivial⟩, ⟨_, rfl, by omega⟩⟩
  · skip
    refine w_aload rfl rfl ?_
    refine c_getR (t := some L) rfl rfl rfl rfl h3 ?_
    refine w_aload rfl rfl ?_
    refine c_getR (t := some 1) rfl rfl rfl rfl rfl ?_
    refine c_getL rfl rfl rfl rfl ?_
    refine w_invV (rest := []) rfl rfl (sh_land (by omega)) rfl rfl (Nat.le_of_ble_eq_true rfl) rfl (by omega) (s_X3_riverNamed (K := K) a3 b v  L (b 1 10) ha3  (by omega)) (fun z6 h9 hq7 => ?_)
    obtain ⟨rfl, x8, rfl, px8⟩ := hq7
    show f_wp _ (23, [some (.inr (.inr (some 6))), some (.inr (.inr (some q)))], [.inl x8], cH a3 b v) _
    refine w_const rfl ?_
    refine w_ic_eq rfl (fun c9 => ?_) (fun c9 => ?_)
    · skip
      refine w_aload rfl rfl ?_
      refine w_aload rfl rfl ?_
      refine c_getR (t := some 1) rfl rfl rfl rfl rfl ?_
      refine c_getL rfl rfl rfl rfl ?_
      refine c_putL rfl (sh_riv (by omega)) rfl rfl (fun b10 eb10 => ?_)
      refine w_aload rfl rfl ?_
      refine w_aload rfl rfl ?_
      refine c_getR (t := some 1) rfl rfl rfl rfl rfl ?_
      refine c_getI rfl rfl rfl rfl ?_
      refine c_putI (z := false) rfl (sh_riv (by omega)) rfl rfl (by first | (intro h9; cases h9; done) | (intro _; first | exact Or.inl rfl | exact Or.inr rfl | assumption | (rcases (by omega : (a3 1 9).toInt = 0 ∨ (a3 1 9).toInt = 1) with h8 | h8; exact Or.inl (ti_eq h8); exact Or.inr (ti_eq h8)))) (fun a11 ea11 => ?_)
      have ha11 : RC K a11 := RC.up ha3 ea11 (lc_any _ (by omega))
      have ua11 : a11 q 2 = (a3 1 9) := by rw [ea11, mU_same]
      have wa11 := congrArg Int32.toInt ua11
      have ra11_41 : (a11 1 9).toInt = (a3 1 9).toInt := by rw [ea11, mU_cell (by omega)]
      refine w_aload rfl rfl ?_
      refine c_getR (t := some 1) rfl rfl rfl rfl rfl ?_
      refine w_invV (rest := []) rfl rfl rfl rfl rfl (Nat.le_of_ble_eq_true rfl) rfl (by omega) (s_X8_advance (K := K) a11 b10 v   ha11  ) (fun z12 h9 hq13 => ?_)
      obtain ⟨a14, b15, v16, rfl, ha14, fa14, rfl⟩ := hq13
      show f_wp _ (62, [some (.inr (.inr (some 6))), some (.inr (.inr (some q)))], [], cH a14 b15 v16) _
      refine w_const rfl ?_
      exact wp_iret (z := true) rfl (fun _ => by first | exact Or.inl rfl | exact Or.inr rfl | (rcases (by omega : (1 : Int32).toInt = 0 ∨ (1 : Int32).toInt = 1) with h8 | h8; exact Or.inl (ti_eq h8); exact Or.inr (ti_eq h8))) ⟨a14, b15, v16, rfl, ha14, ⟨FR.tr (FR.up (FR.tr (FR.rf) (FR.sub fa3.1 (by first | exact (fun _ h9 => h9) | decide | (intro c9 h9; simp only [List.mem_cons, List.not_mem_nil, or_false] at h9 ⊢; omega) | (intro c9 h9; simp at h9; simp [cA]; omega) | (intro c9 h9; simp at h9; simp [cB]; omega) | (intro c9 h9; simp [cA] at h9; simp [cB]; omega)))) (by first | decide | simp | (simp [cA]; omega) | (simp [cB]; omega)) ea11) (FR.sub fa14.1 (by first | exact (fun _ h9 => h9) | decide | (intro c9 h9; simp only [List.mem_cons, List.not_mem_nil, or_false] at h9 ⊢; omega) | (intro c9 h9; simp at h9; simp [cA]; omega) | (intro c9 h9; simp at h9; simp [cB]; omega) | (intro c9 h9; simp [cA] at h9; simp [cB]; omega))), ⟨fun i9 h9 => (fa14.2.1.1 i9 (fun z9 => h9 (by first | exact z9 | (revert z9; simp; done) | (revert z9; simp; omega)))).trans ((show ∀ i9, i9 ∉ [2] → v i9 = v i9 from (fun _ _ => rfl)) i9 h9), fa14.2.1.2⟩, trivial⟩, ⟨_, rfl, by omega⟩⟩
    · skip
      refine w_aload rfl rfl ?_
      refine w_const rfl ?_
      refine w_invV (rest := []) rfl rfl rfl rfl rfl (Nat.le_of_ble_eq_true rfl) rfl (by omega) (s_X6_fail (K := K) a3 b v  3 ha3  ) (fun z17 h9 hq18 => ?_)
      obtain ⟨a19, rfl, ha19, fa19, x20, rfl, px20⟩ := hq18
      show f_wp _ (32, [some (.inr (.inr (some 6))), some (.inr (.inr (some q)))], [.inl x20], cH a19 b v) _
      exact wp_iret (z := true) rfl (fun _ => by first | exact Or.inl rfl | exact Or.inr rfl | (rcases (by omega : x20.toInt = 0 ∨ x20.toInt = 1) with h8 | h8; exact Or.inl (ti_eq h8); exact Or.inr (ti_eq h8))) ⟨a19, b, v, rfl, ha19, ⟨FR.tr (FR.tr (FR.rf) (FR.sub fa3.1 (by first | exact (fun _ h9 => h9) | decide | (intro c9 h9; simp only [List.mem_cons, List.not_mem_nil, or_false] at h9 ⊢; omega) | (intro c9 h9; simp at h9; simp [cA]; omega) | (intro c9 h9; simp at h9; simp [cB]; omega) | (intro c9 h9; simp [cA] at h9; simp [cB]; omega)))) (FR.sub fa19.1 (by first | exact (fun _ h9 => h9) | decide | (intro c9 h9; simp only [List.mem_cons, List.not_mem_nil, or_false] at h9 ⊢; omega) | (intro c9 h9; simp at h9; simp [cA]; omega) | (intro c9 h9; simp at h9; simp [cB]; omega) | (intro c9 h9; simp [cA] at h9; simp [cB]; omega))), ⟨(fun _ _ => rfl), hw⟩, trivial⟩, ⟨_, rfl, by omega⟩⟩
set_option maxRecDepth 4000 in
theorem s_X6_riverKind {K : Nat} (a : Nat → Nat → Int32) (b : Nat → Nat → Int64) (v : Nat → Option Nat) (q : Nat) (hR : RC K a) (hw : f_wdb (v 2) = true) (hq : (34 ≤ q ∧ q < 46 ∨ 58 ≤ q ∧ q < 70) ∧ q % 2 = 0) : f_call mtC 2 59 [.inr (.inr (some 6)), .inr (.inr (some q))] (cH a b v) (fun v9 h' => ∃ (a' : Nat → Nat → Int32) (b' : Nat → Nat → Int64) (v' : Nat → Option Nat), h' = cH a' b' v' ∧ RC K a' ∧ (FR [1, 6, q] a a' ∧ ((∀ i, i ∉ [2] → v' i = v i) ∧ f_wdb (v' 2) = true) ∧ True) ∧ ∃ x : Int32, v9 = some (.inl x) ∧ (x.toInt = 0 ∨ x.toInt = 1)) := by
  refine f_call_of (d0 := 1) rfl (Nat.le_of_ble_eq_true rfl) (fun d hd => ?_)
  show f_wp _ (0, [some (.inr (.inr (some 6))), some (.inr (.inr (some q)))], [], cH a b v) _
  have lm1 : (-1 : Int32).toInt = -1 := rfl
  have l1 : (1 : Int32).toInt = 1 := rfl
  refine w_aload rfl rfl ?_
  refine c_getR (t := some 1) rfl rfl rfl rfl rfl ?_
  refine c_getR (t := v 2) rfl rfl rfl rfl rfl ?_
  refine c_ifnull rfl (fun c1 => ?_) (fun w2 c1 => ?_)
  · skip
    refine w_aload rfl rfl ?_
    refine w_const rfl ?_
    refine w_invV (rest := []) rfl rfl rfl rfl rfl (Nat.le_of_ble_eq_true rfl) rfl (by omega) (s_X6_fail (K := K) a b v  1 hR  ) (fun z3 h9 hq4 => ?_)
    obtain ⟨a5, rfl, ha5, fa5, x6, rfl, px6⟩ := hq4
    show f_wp _ (29, [some (.inr (.inr (some 6))), some (.inr (.inr (some q)))], [.inl x6], cH a5 b v) _
    exact wp_iret (z := true) rfl (fun _ => by first | exact Or.inl rfl | exact Or.inr rfl | (rcases (by omega : x6.toInt = 0 ∨ x6.toInt = 1) with h8 | h8; exact Or.inl (ti_eq h8); exact Or.inr (ti_eq h8))) ⟨a5, b, v, rfl, ha5, ⟨FR.tr (FR.rf) (FR.sub fa5.1 (by first | exact (fun _ h9 => h9) | decide | (intro c9 h9; simp only [List.mem_cons, List.not_mem_nil, or_false] at h9 ⊢; omega) | (intro c9 h9; simp at h9; simp [cA]; omega) | (intro c9 h9; simp at h9; simp [cB]; omega) | (intro c9 h9; simp [cA] at h9; simp [cB]; omega))), ⟨(fun _ _ => rfl), hw⟩, trivial⟩, ⟨_, rfl, by omega⟩⟩
  · skip
    have w9 := f_wdb_lt hw w2 c1
    refine w_aload rfl rfl ?_
    refine c_getR (t := some 1) rfl rfl rfl rfl rfl ?_
    refine c_getR (t := v 2) rfl rfl rfl rfl rfl ?_
    rw [c1]
    refine c_sfld rfl (if_pos (by omega)) ?_
    refine w_const rfl ?_
    refine w_ic_ne rfl (fun c7 => ?_) (fun c7 => ?_)
    · skip
      refine w_aload rfl rfl ?_
      refine w_const rfl ?_
      refine w_invV (rest := []) rfl rfl rfl rfl rfl (Nat.le_of_ble_eq_true rfl) rfl (by omega) (s_X6_fail (K := K) a b v  1 hR  ) (fun z8 h9 hq9 => ?_)
      obtain ⟨a10, rfl, ha10, fa10, x11, rfl, px11⟩ := hq9
      show f_wp _ (29, [some (.inr (.inr (some 6))), some (.inr (.inr (some q)))], [.inl x11], cH a10 b v) _
      exact wp_iret (z := true) rfl (fun _ => by first | exact Or.inl rfl | exact Or.inr rfl | (rcases (by omega : x11.toInt = 0 ∨ x11.toInt = 1) with h8 | h8; exact Or.inl (ti_eq h8); exact Or.inr (ti_eq h8))) ⟨a10, b, v, rfl, ha10, ⟨FR.tr (FR.rf) (FR.sub fa10.1 (by first | exact (fun _ h9 => h9) | decide | (intro c9 h9; simp only [List.mem_cons, List.not_mem_nil, or_false] at h9 ⊢; omega) | (intro c9 h9; simp at h9; simp [cA]; omega) | (intro c9 h9; simp at h9; simp [cB]; omega) | (intro c9 h9; simp [cA] at h9; simp [cB]; omega))), ⟨(fun _ _ => rfl), hw⟩, trivial⟩, ⟨_, rfl, by omega⟩⟩
    · skip
      refine w_aload rfl rfl ?_
      refine w_aload rfl rfl ?_
      refine c_getR (t := some 1) rfl rfl rfl rfl rfl ?_
      refine c_getR (t := v 2) rfl rfl rfl rfl rfl ?_
      rw [c1]
      refine c_sfld rfl (if_pos (by omega)) ?_
      refine c_putI (z := false) rfl (sh_riv (by omega)) rfl rfl (by first | (intro h9; cases h9; done) | (intro _; first | exact Or.inl rfl | exact Or.inr rfl | assumption | (rcases (by omega : (wKin.getD (w2 - 1000) 0).toInt = 0 ∨ (wKin.getD (w2 - 1000) 0).toInt = 1) with h8 | h8; exact Or.inl (ti_eq h8); exact Or.inr (ti_eq h8)))) (fun a12 ea12 => ?_)
      have ha12 : RC K a12 := RC.up hR ea12 (lc_any _ (by omega))
      have ua12 : a12 q 3 = (wKin.getD (w2 - 1000) 0) := by rw [ea12, mU_same]
      have wa12 := congrArg Int32.toInt ua12
      refine w_aload rfl rfl ?_
      refine c_getR (t := some 1) rfl rfl rfl rfl rfl ?_
      refine w_invV (rest := []) rfl rfl rfl rfl rfl (Nat.le_of_ble_eq_true rfl) rfl (by omega) (s_X8_advance (K := K) a12 b v   ha12  ) (fun z13 h9 hq14 => ?_)
      obtain ⟨a15, b16, v17, rfl, ha15, fa15, rfl⟩ := hq14
      show f_wp _ (51, [some (.inr (.inr (some 6))), some (.inr (.inr (some q)))], [], cH a15 b16 v17) _
      refine w_const rfl ?_
      exact wp_iret (z := true) rfl (fun _ => by first | exact Or.inl rfl | exact Or.inr rfl | (rcases (by omega : (1 : Int32).toInt = 0 ∨ (1 : Int32).toInt = 1) with h8 | h8; exact Or.inl (ti_eq h8); exact Or.inr (ti_eq h8))) ⟨a15, b16, v17, rfl, ha15, ⟨FR.tr (FR.up (FR.rf) (by first | decide | simp | (simp [cA]; omega) | (simp [cB]; omega)) ea12) (FR.sub fa15.1 (by first | exact (fun _ h9 => h9) | decide | (intro c9 h9; simp only [List.mem_cons, List.not_mem_nil, or_false] at h9 ⊢; omega) | (intro c9 h9; simp at h9; simp [cA]; omega) | (intro c9 h9; simp at h9; simp [cB]; omega) | (intro c9 h9; simp [cA] at h9; simp [cB]; omega))), ⟨fun i9 h9 => (fa15.2.1.1 i9 (fun z9 => h9 (by first | exact z9 | (revert z9; simp; done) | (revert z9; simp; omega)))).trans ((show ∀ i9, i9 ∉ [2] → v i9 = v i9 from (fun _ _ => rfl)) i9 h9), fa15.2.1.2⟩, trivial⟩, ⟨_, rfl, by omega⟩⟩
set_option maxRecDepth 4000 in
theorem s_X6_riverCourse {K : Nat} (a : Nat → Nat → Int32) (b : Nat → Nat → Int64) (v : Nat → Option Nat) (q : Nat) (hR : RC K a) (hw : f_wdb (v 2) = true) (hq : (34 ≤ q ∧ q < 46 ∨ 58 ≤ q ∧ q < 70) ∧ q % 2 = 0) : f_call mtC 4 60 [.inr (.inr (some 6)), .inr (.inr (some q))] (cH a b v) (fun v9 h' => ∃ (a' : Nat → Nat → Int32) (b' : Nat → Nat → Int64) (v' : Nat → Option Nat), h' = cH a' b' v' ∧ RC K a' ∧ (FR [1, 6, q] a a' ∧ ((∀ i, i ∉ [2] → v' i = v i) ∧ f_wdb (v' 2) = true) ∧ True) ∧ ∃ x : Int32, v9 = some (.inl x) ∧ (x.toInt = 0 ∨ x.toInt = 1)) := by
  refine f_call_of (d0 := 3) rfl (Nat.le_of_ble_eq_true rfl) (fun d hd => ?_)
  show f_wp _ (0, [some (.inr (.inr (some 6))), some (.inr (.inr (some q)))], [], cH a b v) _
  have l0 : (0 : Int32).toInt = 0 := rfl
  have l1 : (1 : Int32).toInt = 1 := rfl
  have l99 : (99 : Int32).toInt = 99 := rfl
  refine w_aload rfl rfl ?_
  refine w_const rfl ?_
  refine w_const rfl ?_
  refine w_const rfl ?_
  refine w_invV (rest := []) rfl rfl rfl rfl rfl (Nat.le_of_ble_eq_true rfl) rfl (by omega) (s_X6_numberBehind (K := K) a b v  1001 1 99 hR  (hw) (by omega)) (fun z1 h9 hq2 => ?_)
  obtain ⟨a3, b4, v5, rfl, ha3, fa3, x6, rfl, px6⟩ := hq2
  show f_wp _ (10, [some (.inr (.inr (some 6))), some (.inr (.inr (some q)))], [.inl x6], cH a3 b4 v5) _
  refine w_if_ne rfl (fun c7 => ?_) (fun c7 => ?_)
  · skip
    refine w_const rfl ?_
    exact wp_iret (z := true) rfl (fun _ => by first | exact Or.inl rfl | exact Or.inr rfl | (rcases (by omega : (0 : Int32).toInt = 0 ∨ (0 : Int32).toInt = 1) with h8 | h8; exact Or.inl (ti_eq h8); exact Or.inr (ti_eq h8))) ⟨a3, b4, v5, rfl, ha3, ⟨FR.tr (FR.rf) (FR.sub fa3.1 (by first | exact (fun _ h9 => h9) | decide | (intro c9 h9; simp only [List.mem_cons, List.not_mem_nil, or_false] at h9 ⊢; omega) | (intro c9 h9; simp at h9; simp [cA]; omega) | (intro c9 h9; simp at h9; simp [cB]; omega) | (intro c9 h9; simp [cA] at h9; simp [cB]; omega))), ⟨fun i9 h9 => (fa3.2.1.1 i9 (fun z9 => h9 (by first | exact z9 | (revert z9; simp; done) | (revert z9; simp; omega)))).trans ((show ∀ i9, i9 ∉ [2] → v i9 = v i9 from (fun _ _ => rfl)) i9 h9), fa3.2.1.2⟩, trivial⟩, ⟨_, rfl, by omega⟩⟩
  · skip
    refine w_aload rfl rfl ?_
    refine w_aload rfl rfl ?_
    refine c_getI rfl rfl rfl rfl ?_
    refine c_putI (z := false) rfl (sh_riv (by omega)) rfl rfl (by first | (intro h9; cases h9; done) | (intro _; first | exact Or.inl rfl | exact Or.inr rfl | assumption | (rcases (by omega : (a3 6 9).toInt = 0 ∨ (a3 6 9).toInt = 1) with h8 | h8; exact Or.inl (ti_eq h8); exact Or.inr (ti_eq h8)))) (fun a8 ea8 => ?_)
    have ha8 : RC K a8 := RC.up ha3 ea8 (lc_any _ (by omega))
    have ua8 : a8 q 4 = (a3 6 9) := by rw [ea8, mU_same]
    have wa8 := congrArg Int32.toInt ua8
    have ra8_26 : (a8 6 9).toInt = (a3 6 9).toInt := by rw [ea8, mU_cell (by omega)]
    refine w_aload rfl rfl ?_
    refine w_const rfl ?_
    refine w_const rfl ?_
    refine w_aload rfl rfl ?_
    refine c_getI rfl (sh_riv (by omega)) rfl rfl ?_
    refine w_const rfl ?_
    first | refine w_isub rfl (by omega) (fun x9 tx9 => ?_) | refine w_iiU rfl (fun x9 tx9 => ?_)
    refine w_invV (rest := []) rfl rfl rfl rfl rfl (Nat.le_of_ble_eq_true rfl) rfl (by omega) (s_X6_numberBehind (K := K) a8 b4 v5  1002 0 x9 ha8  (fa3.2.1.2) (by omega)) (fun z10 h9 hq11 => ?_)
    obtain ⟨a12, b13, v14, rfl, ha12, fa12, x15, rfl, px15⟩ := hq11
    show f_wp _ (37, [some (.inr (.inr (some 6))), some (.inr (.inr (some q)))], [.inl x15], cH a12 b13 v14) _
    refine w_if_ne rfl (fun c16 => ?_) (fun c16 => ?_)
    · skip
      refine w_const rfl ?_
      exact wp_iret (z := true) rfl (fun _ => by first | exact Or.inl rfl | exact Or.inr rfl | (rcases (by omega : (0 : Int32).toInt = 0 ∨ (0 : Int32).toInt = 1) with h8 | h8; exact Or.inl (ti_eq h8); exact Or.inr (ti_eq h8))) ⟨a12, b13, v14, rfl, ha12, ⟨FR.tr (FR.up (FR.tr (FR.rf) (FR.sub fa3.1 (by first | exact (fun _ h9 => h9) | decide | (intro c9 h9; simp only [List.mem_cons, List.not_mem_nil, or_false] at h9 ⊢; omega) | (intro c9 h9; simp at h9; simp [cA]; omega) | (intro c9 h9; simp at h9; simp [cB]; omega) | (intro c9 h9; simp [cA] at h9; simp [cB]; omega)))) (by first | decide | simp | (simp [cA]; omega) | (simp [cB]; omega)) ea8) (FR.sub fa12.1 (by first | exact (fun _ h9 => h9) | decide | (intro c9 h9; simp only [List.mem_cons, List.not_mem_nil, or_false] at h9 ⊢; omega) | (intro c9 h9; simp at h9; simp [cA]; omega) | (intro c9 h9; simp at h9; simp [cB]; omega) | (intro c9 h9; simp [cA] at h9; simp [cB]; omega))), ⟨fun i9 h9 => (fa12.2.1.1 i9 (fun z9 => h9 (by first | exact z9 | (revert z9; simp; done) | (revert z9; simp; omega)))).trans ((show ∀ i9, i9 ∉ [2] → v5 i9 = v i9 from fun i9 h9 => (fa3.2.1.1 i9 (fun z9 => h9 (by first | exact z9 | (revert z9; simp; done) | (revert z9; simp; omega)))).trans ((show ∀ i9, i9 ∉ [2] → v i9 = v i9 from (fun _ _ => rfl)) i9 h9)) i9 h9), fa12.2.1.2⟩, trivial⟩, ⟨_, rfl, by omega⟩⟩
    · skip
      refine w_aload rfl rfl ?_
      refine w_aload rfl rfl ?_
      refine c_getI rfl rfl rfl rfl ?_
      refine c_putI (z := false) rfl (sh_riv (by omega)) rfl rfl (by first | (intro h9; cases h9; done) | (intro _; first | exact Or.inl rfl | exact Or.inr rfl | assumption | (rcases (by omega : (a12 6 9).toInt = 0 ∨ (a12 6 9).toInt = 1) with h8 | h8; exact Or.inl (ti_eq h8); exact Or.inr (ti_eq h8)))) (fun a17 ea17 => ?_)
      have ha17 : RC K a17 := RC.up ha12 ea17 (lc_any _ (by omega))
      have ua17 : a17 q 5 = (a12 6 9) := by rw [ea17, mU_same]
      have wa17 := congrArg Int32.toInt ua17
      have ra17_49 : (a17 6 9).toInt = (a12 6 9).toInt := by rw [ea17, mU_cell (by omega)]
      refine w_aload rfl rfl ?_
      refine w_const rfl ?_
      refine w_const rfl ?_
      refine w_const rfl ?_
      refine w_invV (rest := []) rfl rfl rfl rfl rfl (Nat.le_of_ble_eq_true rfl) rfl (by omega) (s_X6_numberBehind (K := K) a17 b13 v14  1003 0 99 ha17  (fa12.2.1.2) (by omega)) (fun z18 h9 hq19 => ?_)
      obtain ⟨a20, b21, v22, rfl, ha20, fa20, x23, rfl, px23⟩ := hq19
      show f_wp _ (60, [some (.inr (.inr (some 6))), some (.inr (.inr (some q)))], [.inl x23], cH a20 b21 v22) _
      refine w_if_ne rfl (fun c24 => ?_) (fun c24 => ?_)
      · skip
        refine w_const rfl ?_
        exact wp_iret (z := true) rfl (fun _ => by first | exact Or.inl rfl | exact Or.inr rfl | (rcases (by omega : (0 : Int32).toInt = 0 ∨ (0 : Int32).toInt = 1) with h8 | h8; exact Or.inl (ti_eq h8); exact Or.inr (ti_eq h8))) ⟨a20, b21, v22, rfl, ha20, ⟨FR.tr (FR.up (FR.tr (FR.up (FR.tr (FR.rf) (FR.sub fa3.1 (by first | exact (fun _ h9 => h9) | decide | (intro c9 h9; simp only [List.mem_cons, List.not_mem_nil, or_false] at h9 ⊢; omega) | (intro c9 h9; simp at h9; simp [cA]; omega) | (intro c9 h9; simp at h9; simp [cB]; omega) | (intro c9 h9; simp [cA] at h9; simp [cB]; omega)))) (by first | decide | simp | (simp [cA]; omega) | (simp [cB]; omega)) ea8) (FR.sub fa12.1 (by first | exact (fun _ h9 => h9) | decide | (intro c9 h9; simp only [List.mem_cons, List.not_mem_nil, or_false] at h9 ⊢; omega) | (intro c9 h9; simp at h9; simp [cA]; omega) | (intro c9 h9; simp at h9; simp [cB]; omega) | (intro c9 h9; simp [cA] at h9; simp [cB]; omega)))) (by first | decide | simp | (simp [cA]; omega) | (simp [cB]; omega)) ea17) (FR.sub fa20.1 (by first | exact (fun _ h9 => h9) | decide | (intro c9 h9; simp only [List.mem_cons, List.not_mem_nil, or_false] at h9 ⊢; omega) | (intro c9 h9; simp at h9; simp [cA]; omega) | (intro c9 h9; simp at h9; simp [cB]; omega) | (intro c9 h9; simp [cA] at h9; simp [cB]; omega))), ⟨fun i9 h9 => (fa20.2.1.1 i9 (fun z9 => h9 (by first | exact z9 | (revert z9; simp; done) | (revert z9; simp; omega)))).trans ((show ∀ i9, i9 ∉ [2] → v14 i9 = v i9 from fun i9 h9 => (fa12.2.1.1 i9 (fun z9 => h9 (by first | exact z9 | (revert z9; simp; done) | (revert z9; simp; omega)))).trans ((show ∀ i9, i9 ∉ [2] → v5 i9 = v i9 from fun i9 h9 => (fa3.2.1.1 i9 (fun z9 => h9 (by first | exact z9 | (revert z9; simp; done) | (revert z9; simp; omega)))).trans ((show ∀ i9, i9 ∉ [2] → v i9 = v i9 from (fun _ _ => rfl)) i9 h9)) i9 h9)) i9 h9), fa20.2.1.2⟩, trivial⟩, ⟨_, rfl, by omega⟩⟩
      · skip
        refine w_aload rfl rfl ?_
        refine w_aload rfl rfl ?_
        refine c_getI rfl rfl rfl rfl ?_
        refine c_putI (z := false) rfl (sh_riv (by omega)) rfl rfl (by first | (intro h9; cases h9; done) | (intro _; first | exact Or.inl rfl | exact Or.inr rfl | assumption | (rcases (by omega : (a20 6 9).toInt = 0 ∨ (a20 6 9).toInt = 1) with h8 | h8; exact Or.inl (ti_eq h8); exact Or.inr (ti_eq h8)))) (fun a25 ea25 => ?_)
        have ha25 : RC K a25 := RC.up ha20 ea25 (lc_any _ (by omega))
        have ua25 : a25 q 6 = (a20 6 9) := by rw [ea25, mU_same]
        have wa25 := congrArg Int32.toInt ua25
        have ra25_69 : (a25 6 9).toInt = (a20 6 9).toInt := by rw [ea25, mU_cell (by omega)]
        refine w_const rfl ?_
        exact wp_iret (z := true) rfl (fun _ => by first | exact Or.inl rfl | exact Or.inr rfl | (rcases (by omega : (1 : Int32).toInt = 0 ∨ (1 : Int32).toInt = 1) with h8 | h8; exact Or.inl (ti_eq h8); exact Or.inr (ti_eq h8))) ⟨a25, b21, v22, rfl, ha25, ⟨FR.up (FR.tr (FR.up (FR.tr (FR.up (FR.tr (FR.rf) (FR.sub fa3.1 (by first | exact (fun _ h9 => h9) | decide | (intro c9 h9; simp only [List.mem_cons, List.not_mem_nil, or_false] at h9 ⊢; omega) | (intro c9 h9; simp at h9; simp [cA]; omega) | (intro c9 h9; simp at h9; simp [cB]; omega) | (intro c9 h9; simp [cA] at h9; simp [cB]; omega)))) (by first | decide | simp | (simp [cA]; omega) | (simp [cB]; omega)) ea8) (FR.sub fa12.1 (by first | exact (fun _ h9 => h9) | decide | (intro c9 h9; simp only [List.mem_cons, List.not_mem_nil, or_false] at h9 ⊢; omega) | (intro c9 h9; simp at h9; simp [cA]; omega) | (intro c9 h9; simp at h9; simp [cB]; omega) | (intro c9 h9; simp [cA] at h9; simp [cB]; omega)))) (by first | decide | simp | (simp [cA]; omega) | (simp [cB]; omega)) ea17) (FR.sub fa20.1 (by first | exact (fun _ h9 => h9) | decide | (intro c9 h9; simp only [List.mem_cons, List.not_mem_nil, or_false] at h9 ⊢; omega) | (intro c9 h9; simp at h9; simp [cA]; omega) | (intro c9 h9; simp at h9; simp [cB]; omega) | (intro c9 h9; simp [cA] at h9; simp [cB]; omega)))) (by first | decide | simp | (simp [cA]; omega) | (simp [cB]; omega)) ea25, ⟨fun i9 h9 => (fa20.2.1.1 i9 (fun z9 => h9 (by first | exact z9 | (revert z9; simp; done) | (revert z9; simp; omega)))).trans ((show ∀ i9, i9 ∉ [2] → v14 i9 = v i9 from fun i9 h9 => (fa12.2.1.1 i9 (fun z9 => h9 (by first | exact z9 | (revert z9; simp; done) | (revert z9; simp; omega)))).trans ((show ∀ i9, i9 ∉ [2] → v5 i9 = v i9 from fun i9 h9 => (fa3.2.1.1 i9 (fun z9 => h9 (by first | exact z9 | (revert z9; simp; done) | (revert z9; simp; omega)))).trans ((show ∀ i9, i9 ∉ [2] → v i9 = v i9 from (fun _ _ => rfl)) i9 h9)) i9 h9)) i9 h9), fa20.2.1.2⟩, trivial⟩, ⟨_, rfl, by omega⟩⟩
set_option maxRecDepth 4000 in
theorem s_X6_riverWater {K : Nat} (a : Nat → Nat → Int32) (b : Nat → Nat → Int64) (v : Nat → Option Nat) (q : Nat) (hR : RC K a) (hw : f_wdb (v 2) = true) (hq : (34 ≤ q ∧ q < 46 ∨ 58 ≤ q ∧ q < 70) ∧ q % 2 = 0) : f_call mtC 4 61 [.inr (.inr (some 6)), .inr (.inr (some q))] (cH a b v) (fun v9 h' => ∃ (a' : Nat → Nat → Int32) (b' : Nat → Nat → Int64) (v' : Nat → Option Nat), h' = cH a' b' v' ∧ RC K a' ∧ (FR [1, 6, q + 1] a a' ∧ ((∀ i, i ∉ [2] → v' i = v i) ∧ f_wdb (v' 2) = true) ∧ True) ∧ ∃ x : Int32, v9 = some (.inl x) ∧ (x.toInt = 0 ∨ x.toInt = 1)) := by
  refine f_call_of (d0 := 3) rfl (Nat.le_of_ble_eq_true rfl) (fun d hd => ?_)
  show f_wp _ (0, [some (.inr (.inr (some 6))), some (.inr (.inr (some q))), none], [], cH a b v) _
  have l0 : (0 : Int32).toInt = 0 := rfl
  have l1 : (1 : Int32).toInt = 1 := rfl
  have l4 : (4 : Int32).toInt = 4 := rfl
  have l99 : (99 : Int32).toInt = 99 := rfl
  refine w_aload rfl rfl ?_
  refine w_const rfl ?_
  refine w_invV (rest := []) rfl rfl rfl rfl rfl (Nat.le_of_ble_eq_true rfl) rfl (by omega) (s_X6_passWord (K := K) a b v  1004 hR  (hw) (by omega)) (fun z1 h9 hq2 => ?_)
  obtain ⟨a3, b4, v5, rfl, ha3, fa3, x6, rfl, px6⟩ := hq2
  show f_wp _ (7, [some (.inr (.inr (some 6))), some (.inr (.inr (some q))), none], [.inl x6], cH a3 b4 v5) _
  refine w_if_ne rfl (fun c7 => ?_) (fun c7 => ?_)
  · skip
    refine w_const rfl ?_
    exact wp_iret (z := true) rfl (fun _ => by first | exact Or.inl rfl | exact Or.inr rfl | (rcases (by omega : (0 : Int32).toInt = 0 ∨ (0 : Int32).toInt = 1) with h8 | h8; exact Or.inl (ti_eq h8); exact Or.inr (ti_eq h8))) ⟨a3, b4, v5, rfl, ha3, ⟨FR.tr (FR.rf) (FR.sub fa3.1 (by first | exact (fun _ h9 => h9) | decide | (intro c9 h9; simp only [List.mem_cons, List.not_mem_nil, or_false] at h9 ⊢; omega) | (intro c9 h9; simp at h9; simp [cA]; omega) | (intro c9 h9; simp at h9; simp [cB]; omega) | (intro c9 h9; simp [cA] at h9; simp [cB]; omega))), ⟨fun i9 h9 => (fa3.2.1.1 i9 (fun z9 => h9 (by first | exact z9 | (revert z9; simp; done) | (revert z9; simp; omega)))).trans ((show ∀ i9, i9 ∉ [2] → v i9 = v i9 from (fun _ _ => rfl)) i9 h9), fa3.2.1.2⟩, trivial⟩, ⟨_, rfl, by omega⟩⟩
  · skip
    refine w_const rfl ?_
    refine w_istore (lo' := [some (.inr (.inr (some 6))), some (.inr (.inr (some q))), some (.inl 0)]) rfl rfl ?_
    have loop14 : ∀ (ms9 : Nat) (k : Int32) (a14 : Nat → Nat → Int32) (b14 : Nat → Nat → Int64) (v14 : Nat → Option Nat) , (4 - k.toInt).toNat = ms9 → RC K a14 → FR [1, 6, q + 1] a a14 → (∀ i, i ∉ [2] → v14 i = v i) → (0 ≤ k.toInt ∧ k.toInt ≤ 4) → (f_wdb (v14 2) = true) → f_wp (f_code (t_X6_riverWater (f_ev mtC d))) (14, [some (.inr (.inr (some 6))), some (.inr (.inr (some q))), some (.inl k)], [], cH a14 b14 v14) (fun v9 h' => ∃ (a' : Nat → Nat → Int32) (b' : Nat → Nat → Int64) (v' : Nat → Option Nat), h' = cH a' b' v' ∧ RC K a' ∧ (FR [1, 6, q + 1] a a' ∧ ((∀ i, i ∉ [2] → v' i = v i) ∧ f_wdb (v' 2) = true) ∧ True) ∧ ∃ x : Int32, v9 = some (.inl x) ∧ (x.toInt = 0 ∨ x.toInt = 1)) := by
      intro ms9
      induction ms9 using Nat.strongRecOn with
      | _ ms14 ih14 =>
        intro k a14 b14 v14  hm14 hR14 hF14 hG14 hk hw9
        refine w_iload rfl rfl ?_
        refine w_const rfl ?_
        refine w_ic_ge rfl (fun c8 => ?_) (fun c8 => ?_)
        · skip
          refine w_const rfl ?_
          exact wp_iret (z := true) rfl (fun _ => by first | exact Or.inl rfl | exact Or.inr rfl | (rcases (by omega : (1 : Int32).toInt = 0 ∨ (1 : Int32).toInt = 1) with h8 | h8; exact Or.inl (ti_eq h8); exact Or.inr (ti_eq h8))) ⟨a14, b14, v14, rfl, hR14, ⟨hF14, ⟨hG14, hw9⟩, trivial⟩, ⟨_, rfl, by omega⟩⟩
        · skip
          refine w_aload rfl rfl ?_
          refine w_const rfl ?_
          refine w_const rfl ?_
          refine w_invV (rest := []) rfl rfl rfl rfl rfl (Nat.le_of_ble_eq_true rfl) rfl (by omega) (s_X6_passNumber (K := K) a14 b14 v14  0 99 hR14  (hw9)) (fun z9 h9 hq10 => ?_)
          obtain ⟨a11, b12, v13, rfl, ha11, fa11, x14, rfl, px14⟩ := hq10
          show f_wp _ (26, [some (.inr (.inr (some 6))), some (.inr (.inr (some q))), some (.inl k)], [.inl x14], cH a11 b12 v13) _
          refine w_if_ne rfl (fun c15 => ?_) (fun c15 => ?_)
          · skip
            refine w_const rfl ?_
            exact wp_iret (z := true) rfl (fun _ => by first | exact Or.inl rfl | exact Or.inr rfl | (rcases (by omega : (0 : Int32).toInt = 0 ∨ (0 : Int32).toInt = 1) with h8 | h8; exact Or.inl (ti_eq h8); exact Or.inr (ti_eq h8))) ⟨a11, b12, v13, rfl, ha11, ⟨FR.tr (hF14) (FR.sub fa11.1 (by first | exact (fun _ h9 => h9) | decide | (intro c9 h9; simp only [List.mem_cons, List.not_mem_nil, or_false] at h9 ⊢; omega) | (intro c9 h9; simp at h9; simp [cA]; omega) | (intro c9 h9; simp at h9; simp [cB]; omega) | (intro c9 h9; simp [cA] at h9; simp [cB]; omega))), ⟨fun i9 h9 => (fa11.2.1.1 i9 (fun z9 => h9 (by first | exact z9 | (revert z9; simp; done) | (revert z9; simp; omega)))).trans ((show ∀ i9, i9 ∉ [2] → v14 i9 = v i9 from hG14) i9 h9), fa11.2.1.2⟩, trivial⟩, ⟨_, rfl, by omega⟩⟩
          · skip
            refine w_aload rfl rfl ?_
            refine c_getR (t := some (q + 1)) rfl (sh_riv (by omega)) rfl rfl (rC_riv0 (by omega)) ?_
            refine w_iload rfl rfl ?_
            refine w_aload rfl rfl ?_
            refine c_getI rfl rfl rfl rfl ?_
            refine c_iast rfl (sh_wat (by omega)) (by omega) (fun a16 ea16 => ?_)
            have ha16 : RC K a16 := RC.up ha11 ea16 (lc_any _ (by omega))
            have ra16_50 : (a16 6 9).toInt = (a11 6 9).toInt := by rw [ea16, mU_cell (by omega)]
            refine w_iinc (lo' := fun z9 => [some (.inr (.inr (some 6))), some (.inr (.inr (some q))), some (.inl z9)]) rfl rfl (fun _ => rfl) (by omega) (fun x17 tx17 => ?_)
            refine w_goto rfl ?_
            exact ih14 (4 - x17.toInt).toNat (by omega) x17 a16 b12 v13 rfl ha16 (FR.up (FR.tr (hF14) (FR.sub fa11.1 (by first | exact (fun _ h9 => h9) | decide | (intro c9 h9; simp only [List.mem_cons, List.not_mem_nil, or_false] at h9 ⊢; omega) | (intro c9 h9; simp at h9; simp [cA]; omega) | (intro c9 h9; simp at h9; simp [cB]; omega) | (intro c9 h9; simp [cA] at h9; simp [cB]; omega)))) (by first | decide | simp | (simp [cA]; omega) | (simp [cB]; omega)) ea16) (fun i9 h9 => (fa11.2.1.1 i9 (fun z9 => h9 (by first | exact z9 | (revert z9; simp; done) | (revert z9; simp; omega)))).trans ((show ∀ i9, i9 ∉ [2] → v14 i9 = v i9 from hG14) i9 h9)) (by omega) (fa11.2.1.2)
    exact loop14 _ 0 a3 b4 v5 rfl ha3 (FR.tr (FR.rf) (FR.sub fa3.1 (by first | exact (fun _ h9 => h9) | decide | (intro c9 h9; simp only [List.mem_cons, List.not_mem_nil, or_false] at h9 ⊢; omega) | (intro c9 h9; simp at h9; simp [cA]; omega) | (intro c9 h9; simp at h9; simp [cB]; omega) | (intro c9 h9; simp [cA] at h9; simp [cB]; omega)))) (fun i9 h9 => (fa3.2.1.1 i9 (fun z9 => h9 (by first | exact z9 | (revert z9; simp; done) | (revert z9; simp; omega)))).trans ((show ∀ i9, i9 ∉ [2] → v i9 = v i9 from (fun _ _ => rfl)) i9 h9)) (by omega) (fa3.2.1.2)
set_option maxRecDepth 4000 in
theorem s_X6_riverMill {K : Nat} (a : Nat → Nat → Int32) (b : Nat → Nat → Int64) (v : Nat → Option Nat) (q : Nat) (hR : RC K a) (hw : f_wdb (v 2) = true) (hq : (34 ≤ q ∧ q < 46 ∨ 58 ≤ q ∧ q < 70) ∧ q % 2 = 0) : f_call mtC 4 62 [.inr (.inr (some 6)), .inr (.inr (some q))] (cH a b v) (fun v9 h' => ∃ (a' : Nat → Nat → Int32) (b' : Nat → Nat → Int64) (v' : Nat → Option Nat), h' = cH a' b' v' ∧ RC K a' ∧ (FR [1, 6, q] a a' ∧ ((∀ i, i ∉ [2] → v' i = v i) ∧ f_wdb (v' 2) = true) ∧ True) ∧ ∃ x : Int32, v9 = some (.inl x) ∧ (x.toInt = 0 ∨ x.toInt = 1)) := by
  refine f_call_of (d0 := 3) rfl (Nat.le_of_ble_eq_true rfl) (fun d hd => ?_)
  show f_wp _ (0, [some (.inr (.inr (some 6))), some (.inr (.inr (some q)))], [], cH a b v) _
  have l0 : (0 : Int32).toInt = 0 := rfl
  have l1 : (1 : Int32).toInt = 1 := rfl
  have l999 : (999 : Int32).toInt = 999 := rfl
  refine w_aload rfl rfl ?_
  refine c_getR (t := some 1) rfl rfl rfl rfl rfl ?_
  refine c_getR (t := v 2) rfl rfl rfl rfl rfl ?_
  refine w_const rfl ?_
  refine c_aw_eq rfl ⟨hw, rfl⟩ (fun c1 => ?_) (fun c1 => ?_)
  · skip
    refine w_aload rfl rfl ?_
    refine w_const rfl ?_
    refine w_const rfl ?_
    refine w_const rfl ?_
    refine w_invV (rest := []) rfl rfl rfl rfl rfl (Nat.le_of_ble_eq_true rfl) rfl (by omega) (s_X6_numberBehind (K := K) a b v  1005 1 999 hR  (hw) (by omega)) (fun z2 h9 hq3 => ?_)
    obtain ⟨a4, b5, v6, rfl, ha4, fa4, x7, rfl, px7⟩ := hq3
    show f_wp _ (26, [some (.inr (.inr (some 6))), some (.inr (.inr (some q)))], [.inl x7], cH a4 b5 v6) _
    refine w_if_ne rfl (fun c8 => ?_) (fun c8 => ?_)
    · skip
      refine w_const rfl ?_
      exact wp_iret (z := true) rfl (fun _ => by first | exact Or.inl rfl | exact Or.inr rfl | (rcases (by omega : (0 : Int32).toInt = 0 ∨ (0 : Int32).toInt = 1) with h8 | h8; exact Or.inl (ti_eq h8); exact Or.inr (ti_eq h8))) ⟨a4, b5, v6, rfl, ha4, ⟨FR.tr (FR.rf) (FR.sub fa4.1 (by first | exact (fun _ h9 => h9) | decide | (intro c9 h9; simp only [List.mem_cons, List.not_mem_nil, or_false] at h9 ⊢; omega) | (intro c9 h9; simp at h9; simp [cA]; omega) | (intro c9 h9; simp at h9; simp [cB]; omega) | (intro c9 h9; simp [cA] at h9; simp [cB]; omega))), ⟨fun i9 h9 => (fa4.2.1.1 i9 (fun z9 => h9 (by first | exact z9 | (revert z9; simp; done) | (revert z9; simp; omega)))).trans ((show ∀ i9, i9 ∉ [2] → v i9 = v i9 from (fun _ _ => rfl)) i9 h9), fa4.2.1.2⟩, trivial⟩, ⟨_, rfl, by omega⟩⟩
    · skip
      refine w_aload rfl rfl ?_
      refine w_aload rfl rfl ?_
      refine c_getI rfl rfl rfl rfl ?_
      refine c_putI (z := false) rfl (sh_riv (by omega)) rfl rfl (by first | (intro h9; cases h9; done) | (intro _; first | exact Or.inl rfl | exact Or.inr rfl | assumption | (rcases (by omega : (a4 6 9).toInt = 0 ∨ (a4 6 9).toInt = 1) with h8 | h8; exact Or.inl (ti_eq h8); exact Or.inr (ti_eq h8)))) (fun a9 ea9 => ?_)
      have ha9 : RC K a9 := RC.up ha4 ea9 (lc_any _ (by omega))
      have ua9 : a9 q 7 = (a4 6 9) := by rw [ea9, mU_same]
      have wa9 := congrArg Int32.toInt ua9
      have ra9_32 : (a9 6 9).toInt = (a4 6 9).toInt := by rw [ea9, mU_cell (by omega)]
      refine w_aload rfl rfl ?_
      refine w_const rfl ?_
      refine w_aload rfl rfl ?_
      refine c_getI rfl (sh_riv (by omega)) rfl rfl ?_
      refine w_aload rfl rfl ?_
      refine c_getI rfl (sh_riv (by omega)) rfl rfl ?_
      refine w_invV (rest := []) rfl rfl rfl rfl rfl (Nat.le_of_ble_eq_true rfl) rfl (by omega) (s_X6_numberBehind (K := K) a9 b5 v6  1007 (a9 q 5) (a9 q 4) ha9  (fa4.2.1.2) (by omega)) (fun z10 h9 hq11 => ?_)
      obtain ⟨a12, b13, v14, rfl, ha12, fa12, x15, rfl, px15⟩ := hq11
      show f_wp _ (54, [some (.inr (.inr (some 6))), some (.inr (.inr (some q)))], [.inl x15], cH a12 b13 v14) _
      refine w_if_ne rfl (fun c16 => ?_) (fun c16 => ?_)
      · skip
        refine w_const rfl ?_
        exact wp_iret (z := true) rfl (fun _ => by first | exact Or.inl rfl | exact Or.inr rfl | (rcases (by omega : (0 : Int32).toInt = 0 ∨ (0 : Int32).toInt = 1) with h8 | h8; exact Or.inl (ti_eq h8); exact Or.inr (ti_eq h8))) ⟨a12, b13, v14, rfl, ha12, ⟨FR.tr (FR.up (FR.tr (FR.rf) (FR.sub fa4.1 (by first | exact (fun _ h9 => h9) | decide | (intro c9 h9; simp only [List.mem_cons, List.not_mem_nil, or_false] at h9 ⊢; omega) | (intro c9 h9; simp at h9; simp [cA]; omega) | (intro c9 h9; simp at h9; simp [cB]; omega) | (intro c9 h9; simp [cA] at h9; simp [cB]; omega)))) (by first | decide | simp | (simp [cA]; omega) | (simp [cB]; omega)) ea9) (FR.sub fa12.1 (by first | exact (fun _ h9 => h9) | decide | (intro c9 h9; simp only [List.mem_cons, List.not_mem_nil, or_false] at h9 ⊢; omega) | (intro c9 h9; simp at h9; simp [cA]; omega) | (intro c9 h9; simp at h9; simp [cB]; omega) | (intro c9 h9; simp [cA] at h9; simp [cB]; omega))), ⟨fun i9 h9 => (fa12.2.1.1 i9 (fun z9 => h9 (by first | exact z9 | (revert z9; simp; done) | (revert z9; simp; omega)))).trans ((show ∀ i9, i9 ∉ [2] → v6 i9 = v i9 from fun i9 h9 => (fa4.2.1.1 i9 (fun z9 => h9 (by first | exact z9 | (revert z9; simp; done) | (revert z9; simp; omega)))).trans ((show ∀ i9, i9 ∉ [2] → v i9 = v i9 from (fun _ _ => rfl)) i9 h9)) i9 h9), fa12.2.1.2⟩, trivial⟩, ⟨_, rfl, by omega⟩⟩
      · skip
        refine w_aload rfl rfl ?_
        refine w_aload rfl rfl ?_
        refine c_getI rfl rfl rfl rfl ?_
        refine c_putI (z := false) rfl (sh_riv (by omega)) rfl rfl (by first | (intro h9; cases h9; done) | (intro _; first | exact Or.inl rfl | exact Or.inr rfl | assumption | (rcases (by omega : (a12 6 9).toInt = 0 ∨ (a12 6 9).toInt = 1) with h8 | h8; exact Or.inl (ti_eq h8); exact Or.inr (ti_eq h8)))) (fun a17 ea17 => ?_)
        have ha17 : RC K a17 := RC.up ha12 ea17 (lc_any _ (by omega))
        have ua17 : a17 q 8 = (a12 6 9) := by rw [ea17, mU_same]
        have wa17 := congrArg Int32.toInt ua17
        have ra17_54 : (a17 6 9).toInt = (a12 6 9).toInt := by rw [ea17, mU_cell (by omega)]
        refine w_const rfl ?_
        exact wp_iret (z := true) rfl (fun _ => by first | exact Or.inl rfl | exact Or.inr rfl | (rcases (by omega : (1 : Int32).toInt = 0 ∨ (1 : Int32).toInt = 1) with h8 | h8; exact Or.inl (ti_eq h8); exact Or.inr (ti_eq h8))) ⟨a17, b13, v14, rfl, ha17, ⟨FR.up (FR.tr (FR.up (FR.tr (FR.rf) (FR.sub fa4.1 (by first | exact (fun _ h9 => h9) | decide | (intro c9 h9; simp only [List.mem_cons, List.not_mem_nil, or_false] at h9 ⊢; omega) | (intro c9 h9; simp at h9; simp [cA]; omega) | (intro c9 h9; simp at h9; simp [cB]; omega) | (intro c9 h9; simp [cA] at h9; simp [cB]; omega)))) (by first | decide | simp | (simp [cA]; omega) | (simp [cB]; omega)) ea9) (FR.sub fa12.1 (by first | exact (fun _ h9 => h9) | decide | (intro c9 h9; simp only [List.mem_cons, List.not_mem_nil, or_false] at h9 ⊢; omega) | (intro c9 h9; simp at h9; simp [cA]; omega) | (intro c9 h9; simp at h9; simp [cB]; omega) | (intro c9 h9; simp [cA] at h9; simp [cB]; omega)))) (by first | decide | simp | (simp [cA]; omega) | (simp [cB]; omega)) ea17, ⟨fun i9 h9 => (fa12.2.1.1 i9 (fun z9 => h9 (by first | exact z9 | (revert z9; simp; done) | (revert z9; simp; omega)))).trans ((show ∀ i9, i9 ∉ [2] → v6 i9 = v i9 from fun i9 h9 => (fa4.2.1.1 i9 (fun z9 => h9 (by first | exact z9 | (revert z9; simp; done) | (revert z9; simp; omega)))).trans ((show ∀ i9, i9 ∉ [2] → v i9 = v i9 from (fun _ _ => rfl)) i9 h9)) i9 h9), fa12.2.1.2⟩, trivial⟩, ⟨_, rfl, by omega⟩⟩
  · skip
    refine w_const rfl ?_
    exact wp_iret (z := true) rfl (fun _ => by first | exact Or.inl rfl | exact Or.inr rfl | (rcases (by omega : (1 : Int32).toInt = 0 ∨ (1 : Int32).toInt = 1) with h8 | h8; exact Or.inl (ti_eq h8); exact Or.inr (ti_eq h8))) ⟨a, b, v, rfl, hR, ⟨FR.rf, ⟨(fun _ _ => rfl), hw⟩, trivial⟩, ⟨_, rfl, by omega⟩⟩
set_option maxRecDepth 4000 in
theorem s_X6_riverTown {K : Nat} (a : Nat → Nat → Int32) (b : Nat → Nat → Int64) (v : Nat → Option Nat) (q : Nat) (hR : RC K a) (hw : f_wdb (v 2) = true) (hq : (34 ≤ q ∧ q < 46 ∨ 58 ≤ q ∧ q < 70) ∧ q % 2 = 0) : f_call mtC 4 63 [.inr (.inr (some 6)), .inr (.inr (some q))] (cH a b v) (fun v9 h' => ∃ (a' : Nat → Nat → Int32) (b' : Nat → Nat → Int64) (v' : Nat → Option Nat), h' = cH a' b' v' ∧ RC K a' ∧ (FR [1, 6, q] a a' ∧ ((∀ i, i ∉ [2] → v' i = v i) ∧ f_wdb (v' 2) = true) ∧ True) ∧ ∃ x : Int32, v9 = some (.inl x) ∧ (x.toInt = 0 ∨ x.toInt = 1)) := by
  refine f_call_of (d0 := 3) rfl (Nat.le_of_ble_eq_true rfl) (fun d hd => ?_)
  show f_wp _ (0, [some (.inr (.inr (some 6))), some (.inr (.inr (some q)))], [], cH a b v) _
  have l0 : (0 : Int32).toInt = 0 := rfl
  have l1 : (1 : Int32).toInt = 1 := rfl
  have l999 : (999 : Int32).toInt = 999 := rfl
  refine w_aload rfl rfl ?_
  refine c_getR (t := some 1) rfl rfl rfl rfl rfl ?_
  refine c_getR (t := v 2) rfl rfl rfl rfl rfl ?_
  refine w_const rfl ?_
  refine c_aw_eq rfl ⟨hw, rfl⟩ (fun c1 => ?_) (fun c1 => ?_)
  · skip
    refine w_aload rfl rfl ?_
    refine w_const rfl ?_
    refine w_const rfl ?_
    refine w_const rfl ?_
    refine w_invV (rest := []) rfl rfl rfl rfl rfl (Nat.le_of_ble_eq_true rfl) rfl (by omega) (s_X6_numberBehind (K := K) a b v  1006 0 999 hR  (hw) (by omega)) (fun z2 h9 hq3 => ?_)
    obtain ⟨a4, b5, v6, rfl, ha4, fa4, x7, rfl, px7⟩ := hq3
    show f_wp _ (26, [some (.inr (.inr (some 6))), some (.inr (.inr (some q)))], [.inl x7], cH a4 b5 v6) _
    refine w_if_ne rfl (fun c8 => ?_) (fun c8 => ?_)
    · skip
      refine w_const rfl ?_
      exact wp_iret (z := true) rfl (fun _ => by first | exact Or.inl rfl | exact Or.inr rfl | (rcases (by omega : (0 : Int32).toInt = 0 ∨ (0 : Int32).toInt = 1) with h8 | h8; exact Or.inl (ti_eq h8); exact Or.inr (ti_eq h8))) ⟨a4, b5, v6, rfl, ha4, ⟨FR.tr (FR.rf) (FR.sub fa4.1 (by first | exact (fun _ h9 => h9) | decide | (intro c9 h9; simp only [List.mem_cons, List.not_mem_nil, or_false] at h9 ⊢; omega) | (intro c9 h9; simp at h9; simp [cA]; omega) | (intro c9 h9; simp at h9; simp [cB]; omega) | (intro c9 h9; simp [cA] at h9; simp [cB]; omega))), ⟨fun i9 h9 => (fa4.2.1.1 i9 (fun z9 => h9 (by first | exact z9 | (revert z9; simp; done) | (revert z9; simp; omega)))).trans ((show ∀ i9, i9 ∉ [2] → v i9 = v i9 from (fun _ _ => rfl)) i9 h9), fa4.2.1.2⟩, trivial⟩, ⟨_, rfl, by omega⟩⟩
    · skip
      refine w_aload rfl rfl ?_
      refine w_aload rfl rfl ?_
      refine c_getI rfl rfl rfl rfl ?_
      refine c_putI (z := false) rfl (sh_riv (by omega)) rfl rfl (by first | (intro h9; cases h9; done) | (intro _; first | exact Or.inl rfl | exact Or.inr rfl | assumption | (rcases (by omega : (a4 6 9).toInt = 0 ∨ (a4 6 9).toInt = 1) with h8 | h8; exact Or.inl (ti_eq h8); exact Or.inr (ti_eq h8)))) (fun a9 ea9 => ?_)
      have ha9 : RC K a9 := RC.up ha4 ea9 (lc_any _ (by omega))
      have ua9 : a9 q 9 = (a4 6 9) := by rw [ea9, mU_same]
      have wa9 := congrArg Int32.toInt ua9
      have ra9_32 : (a9 6 9).toInt = (a4 6 9).toInt := by rw [ea9, mU_cell (by omega)]
      refine w_aload rfl rfl ?_
      refine w_const rfl ?_
      refine w_aload rfl rfl ?_
      refine c_getI rfl (sh_riv (by omega)) rfl rfl ?_
      refine w_aload rfl rfl ?_
      refine c_getI rfl (sh_riv (by omega)) rfl rfl ?_
      refine w_invV (rest := []) rfl rfl rfl rfl rfl (Nat.le_of_ble_eq_true rfl) rfl (by omega) (s_X6_numberBehind (K := K) a9 b5 v6  1007 (a9 q 5) (a9 q 4) ha9  (fa4.2.1.2) (by omega)) (fun z10 h9 hq11 => ?_)
      obtain ⟨a12, b13, v14, rfl, ha12, fa12, x15, rfl, px15⟩ := hq11
      show f_wp _ (54, [some (.inr (.inr (some 6))), some (.inr (.inr (some q)))], [.inl x15], cH a12 b13 v14) _
      refine w_if_ne rfl (fun c16 => ?_) (fun c16 => ?_)
      · skip
        refine w_const rfl ?_
        exact wp_iret (z := true) rfl (fun _ => by first | exact Or.inl rfl | exact Or.inr rfl | (rcases (by omega : (0 : Int32).toInt = 0 ∨ (0 : Int32).toInt = 1) with h8 | h8; exact Or.inl (ti_eq h8); exact Or.inr (ti_eq h8))) ⟨a12, b13, v14, rfl, ha12, ⟨FR.tr (FR.up (FR.tr (FR.rf) (FR.sub fa4.1 (by first | exact (fun _ h9 => h9) | decide | (intro c9 h9; simp only [List.mem_cons, List.not_mem_nil, or_false] at h9 ⊢; omega) | (intro c9 h9; simp at h9; simp [cA]; omega) | (intro c9 h9; simp at h9; simp [cB]; omega) | (intro c9 h9; simp [cA] at h9; simp [cB]; omega)))) (by first | decide | simp | (simp [cA]; omega) | (simp [cB]; omega)) ea9) (FR.sub fa12.1 (by first | exact (fun _ h9 => h9) | decide | (intro c9 h9; simp only [List.mem_cons, List.not_mem_nil, or_false] at h9 ⊢; omega) | (intro c9 h9; simp at h9; simp [cA]; omega) | (intro c9 h9; simp at h9; simp [cB]; omega) | (intro c9 h9; simp [cA] at h9; simp [cB]; omega))), ⟨fun i9 h9 => (fa12.2.1.1 i9 (fun z9 => h9 (by first | exact z9 | (revert z9; simp; done) | (revert z9; simp; omega)))).trans ((show ∀ i9, i9 ∉ [2] → v6 i9 = v i9 from fun i9 h9 => (fa4.2.1.1 i9 (fun z9 => h9 (by first | exact z9 | (revert z9; simp; done) | (revert z9; simp; omega)))).trans ((show ∀ i9, i9 ∉ [2] → v i9 = v i9 from (fun _ _ => rfl)) i9 h9)) i9 h9), fa12.2.1.2⟩, trivial⟩, ⟨_, rfl, by omega⟩⟩
      · skip
        refine w_aload rfl rfl ?_
        refine w_aload rfl rfl ?_
        refine c_getI rfl rfl rfl rfl ?_
        refine c_putI (z := false) rfl (sh_riv (by omega)) rfl rfl (by first | (intro h9; cases h9; done) | (intro _; first | exact Or.inl rfl | exact Or.inr rfl | assumption | (rcases (by omega : (a12 6 9).toInt = 0 ∨ (a12 6 9).toInt = 1) with h8 | h8; exact Or.inl (ti_eq h8); exact Or.inr (ti_eq h8)))) (fun a17 ea17 => ?_)
        have ha17 : RC K a17 := RC.up ha12 ea17 (lc_any _ (by omega))
        have ua17 : a17 q 10 = (a12 6 9) := by rw [ea17, mU_same]
        have wa17 := congrArg Int32.toInt ua17
        have ra17_54 : (a17 6 9).toInt = (a12 6 9).toInt := by rw [ea17, mU_cell (by omega)]
        refine w_const rfl ?_
        exact wp_iret (z := true) rfl (fun _ => by first | exact Or.inl rfl | exact Or.inr rfl | (rcases (by omega : (1 : Int32).toInt = 0 ∨ (1 : Int32).toInt = 1) with h8 | h8; exact Or.inl (ti_eq h8); exact Or.inr (ti_eq h8))) ⟨a17, b13, v14, rfl, ha17, ⟨FR.up (FR.tr (FR.up (FR.tr (FR.rf) (FR.sub fa4.1 (by first | exact (fun _ h9 => h9) | decide | (intro c9 h9; simp only [List.mem_cons, List.not_mem_nil, or_false] at h9 ⊢; omega) | (intro c9 h9; simp at h9; simp [cA]; omega) | (intro c9 h9; simp at h9; simp [cB]; omega) | (intro c9 h9; simp [cA] at h9; simp [cB]; omega)))) (by first | decide | simp | (simp [cA]; omega) | (simp [cB]; omega)) ea9) (FR.sub fa12.1 (by first | exact (fun _ h9 => h9) | decide | (intro c9 h9; simp only [List.mem_cons, List.not_mem_nil, or_false] at h9 ⊢; omega) | (intro c9 h9; simp at h9; simp [cA]; omega) | (intro c9 h9; simp at h9; simp [cB]; omega) | (intro c9 h9; simp [cA] at h9; simp [cB]; omega)))) (by first | decide | simp | (simp [cA]; omega) | (simp [cB]; omega)) ea17, ⟨fun i9 h9 => (fa12.2.1.1 i9 (fun z9 => h9 (by first | exact z9 | (revert z9; simp; done) | (revert z9; simp; omega)))).trans ((show ∀ i9, i9 ∉ [2] → v6 i9 = v i9 from fun i9 h9 => (fa4.2.1.1 i9 (fun z9 => h9 (by first | exact z9 | (revert z9; simp; done) | (revert z9; simp; omega)))).trans ((show ∀ i9, i9 ∉ [2] → v i9 = v i9 from (fun _ _ => rfl)) i9 h9)) i9 h9), fa12.2.1.2⟩, trivial⟩, ⟨_, rfl, by omega⟩⟩
  · skip
    refine w_const rfl ?_
    exact wp_iret (z := true) rfl (fun _ => by first | exact Or.inl rfl | exact Or.inr rfl | (rcases (by omega : (1 : Int32).toInt = 0 ∨ (1 : Int32).toInt = 1) with h8 | h8; exact Or.inl (ti_eq h8); exact Or.inr (ti_eq h8))) ⟨a, b, v, rfl, hR, ⟨FR.rf, ⟨(fun _ _ => rfl), hw⟩, trivial⟩, ⟨_, rfl, by omega⟩⟩
set_option maxRecDepth 4000 in
theorem s_X6_riverMother {K : Nat} (a : Nat → Nat → Int32) (b : Nat → Nat → Int64) (v : Nat → Option Nat) (L : Nat) (q : Nat) (hR : RC K a) (hw : f_wdb (v 2) = true) (h3 : v 3 = some L) (hL : L = 22 ∨ L = 46) (hq : (34 ≤ q ∧ q < 46 ∨ 58 ≤ q ∧ q < 70) ∧ q % 2 = 0) : f_call mtC 4 64 [.inr (.inr (some 6)), .inr (.inr (some q))] (cH a b v) (fun v9 h' => ∃ (a' : Nat → Nat → Int32) (b' : Nat → Nat → Int64) (v' : Nat → Option Nat), h' = cH a' b' v' ∧ RC K a' ∧ (FR [1, 6, q] a a' ∧ ((∀ i, i ∉ [2] → v' i = v i) ∧ f_wdb (v' 2) = true) ∧ True) ∧ ∃ x : Int32, v9 = some (.inl x) ∧ (x.toInt = 0 ∨ x.toInt = 1)) := by
  refine f_call_of (d0 := 3) rfl (Nat.le_of_ble_eq_true rfl) (fun d hd => ?_)
  show f_wp _ (0, [some (.inr (.inr (some 6))), some (.inr (.inr (some q)))], [], cH a b v) _
  have l0 : (0 : Int32).toInt = 0 := rfl
  have l1 : (1 : Int32).toInt = 1 := rfl
  refine w_aload rfl rfl ?_
  refine c_getR (t := some 1) rfl rfl rfl rfl rfl ?_
  refine c_getR (t := v 2) rfl rfl rfl rfl rfl ?_
  refine w_const rfl ?_
  refine c_aw_eq rfl ⟨hw, rfl⟩ (fun c1 => ?_) (fun c1 => ?_)
  · skip
    refine w_aload rfl rfl ?_
    refine c_getR (t := some 1) rfl rfl rfl rfl rfl ?_
    refine w_invV (rest := []) rfl rfl rfl rfl rfl (Nat.le_of_ble_eq_true rfl) rfl (by omega) (s_X8_advance (K := K) a b v   hR  ) (fun z2 h9 hq3 => ?_)
    obtain ⟨a4, b5, v6, rfl, ha4, fa4, rfl⟩ := hq3
    show f_wp _ (22, [some (.inr (.inr (some 6))), some (.inr (.inr (some q)))], [], cH a4 b5 v6) _
    refine w_aload rfl rfl ?_
    refine w_invV (rest := []) rfl rfl rfl rfl rfl (Nat.le_of_ble_eq_true rfl) rfl (by omega) (s_X6_isToldName (K := K) a4 b5 v6 L  ha4  (fa4.2.1.2) (((fa4.2.1.1 3 (by decide)).trans h3)) (by omega)) (fun z7 h9 hq8 => ?_)
    obtain ⟨a9, rfl, ha9, fa9, x10, rfl, px10⟩ := hq8
    show f_wp _ (26, [some (.inr (.inr (some 6))), some (.inr (.inr (some q)))], [.inl x10], cH a9 b5 v6) _
    have n9 := px10
    refine w_if_ne rfl (fun c11 => ?_) (fun c11 => ?_)
    · skip
      refine w_const rfl ?_
      exact wp_iret (z := true) rfl (fun _ => by first | exact Or.inl rfl | exact Or.inr rfl | (rcases (by omega : (0 : Int32).toInt = 0 ∨ (0 : Int32).toInt = 1) with h8 | h8; exact Or.inl (ti_eq h8); exact Or.inr (ti_eq h8))) ⟨a9, b5, v6, rfl, ha9, ⟨FR.tr (FR.tr (FR.rf) (FR.sub fa4.1 (by first | exact (fun _ h9 => h9) | decide | (intro c9 h9; simp only [List.mem_cons, List.not_mem_nil, or_false] at h9 ⊢; omega) | (intro c9 h9; simp at h9; simp [cA]; omega) | (intro c9 h9; simp at h9; simp [cB]; omega) | (intro c9 h9; simp [cA] at h9; simp [cB]; omega)))) (FR.sub fa9.1 (by first | exact (fun _ h9 => h9) | decide | (intro c9 h9; simp only [List.mem_cons, List.not_mem_nil, or_false] at h9 ⊢; omega) | (intro c9 h9; simp at h9; simp [cA]; omega) | (intro c9 h9; simp at h9; simp [cB]; omega) | (intro c9 h9; simp [cA] at h9; simp [cB]; omega))), ⟨fun i9 h9 => (fa4.2.1.1 i9 (fun z9 => h9 (by first | exact z9 | (revert z9; simp; done) | (revert z9; simp; omega)))).trans ((show ∀ i9, i9 ∉ [2] → v i9 = v i9 from (fun _ _ => rfl)) i9 h9), fa4.2.1.2⟩, trivial⟩, ⟨_, rfl, by omega⟩⟩
    · skip
      refine w_aload rfl rfl ?_
      refine w_aload rfl rfl ?_
      refine c_getI rfl rfl rfl rfl ?_
      refine c_putI (z := false) rfl (sh_riv (by omega)) rfl rfl (by first | (intro h9; cases h9; done) | (intro _; first | exact Or.inl rfl | exact Or.inr rfl | assumption | (rcases (by omega : (a9 6 9).toInt = 0 ∨ (a9 6 9).toInt = 1) with h8 | h8; exact Or.inl (ti_eq h8); exact Or.inr (ti_eq h8)))) (fun a12 ea12 => ?_)
      have ha12 : RC K a12 := RC.up ha9 ea12 (lc_mot (by omega) (by omega))
      have ua12 : a12 q 11 = (a9 6 9) := by rw [ea12, mU_same]
      have wa12 := congrArg Int32.toInt ua12
      have ra12_34 : (a12 6 9).toInt = (a9 6 9).toInt := by rw [ea12, mU_cell (by omega)]
      refine w_aload rfl rfl ?_
      refine c_getR (t := some 1) rfl rfl rfl rfl rfl ?_
      refine w_invV (rest := []) rfl rfl rfl rfl rfl (Nat.le_of_ble_eq_true rfl) rfl (by omega) (s_X8_advance (K := K) a12 b5 v6   ha12  ) (fun z13 h9 hq14 => ?_)
      obtain ⟨a15, b16, v17, rfl, ha15, fa15, rfl⟩ := hq14
      show f_wp _ (46, [some (.inr (.inr (some 6))), some (.inr (.inr (some q)))], [], cH a15 b16 v17) _
      refine w_const rfl ?_
      exact wp_iret (z := true) rfl (fun _ => by first | exact Or.inl rfl | exact Or.inr rfl | (rcases (by omega : (1 : Int32).toInt = 0 ∨ (1 : Int32).toInt = 1) with h8 | h8; exact Or.inl (ti_eq h8); exact Or.inr (ti_eq h8))) ⟨a15, b16, v17, rfl, ha15, ⟨FR.tr (FR.up (FR.tr (FR.tr (FR.rf) (FR.sub fa4.1 (by first | exact (fun _ h9 => h9) | decide | (intro c9 h9; simp only [List.mem_cons, List.not_mem_nil, or_false] at h9 ⊢; omega) | (intro c9 h9; simp at h9; simp [cA]; omega) | (intro c9 h9; simp at h9; simp [cB]; omega) | (intro c9 h9; simp [cA] at h9; simp [cB]; omega)))) (FR.sub fa9.1 (by first | exact (fun _ h9 => h9) | decide | (intro c9 h9; simp only [List.mem_cons, List.not_mem_nil, or_false] at h9 ⊢; omega) | (intro c9 h9; simp at h9; simp [cA]; omega) | (intro c9 h9; simp at h9; simp [cB]; omega) | (intro c9 h9; simp [cA] at h9; simp [cB]; omega)))) (by first | decide | simp | (simp [cA]; omega) | (simp [cB]; omega)) ea12) (FR.sub fa15.1 (by first | exact (fun _ h9 => h9) | decide | (intro c9 h9; simp only [List.mem_cons, List.not_mem_nil, or_false] at h9 ⊢; omega) | (intro c9 h9; simp at h9; simp [cA]; omega) | (intro c9 h9; simp at h9; simp [cB]; omega) | (intro c9 h9; simp [cA] at h9; simp [cB]; omega))), ⟨fun i9 h9 => (fa15.2.1.1 i9 (fun z9 => h9 (by first | exact z9 | (revert z9; simp; done) | (revert z9; simp; omega)))).trans ((show ∀ i9, i9 ∉ [2] → v6 i9 = v i9 from fun i9 h9 => (fa4.2.1.1 i9 (fun z9 => h9 (by first | exact z9 | (revert z9; simp; done) | (revert z9; simp; omega)))).trans ((show ∀ i9, i9 ∉ [2] → v i9 = v i9 from (fun _ _ => rfl)) i9 h9)) i9 h9), fa15.2.1.2⟩, trivial⟩, ⟨_, rfl, by omega⟩⟩
  · skip
    refine w_const rfl ?_
    exact wp_iret (z := true) rfl (fun _ => by first | exact Or.inl rfl | exact Or.inr rfl | (rcases (by omega : (1 : Int32).toInt = 0 ∨ (1 : Int32).toInt = 1) with h8 | h8; exact Or.inl (ti_eq h8); exact Or.inr (ti_eq h8))) ⟨a, b, v, rfl, hR, ⟨FR.rf, ⟨(fun _ _ => rfl), hw⟩, trivial⟩, ⟨_, rfl, by omega⟩⟩
set_option maxHeartbeats 2000000 in
set_option maxRecDepth 4000 in
theorem s_X6_riverLine {K : Nat} (a : Nat → Nat → Int32) (b : Nat → Nat → Int64) (v : Nat → Option Nat) (L : Nat)  (hR : RC K a) (hw : f_wdb (v 2) = true) (h3 : v 3 = some L) (hL : L = 22 ∨ L = 46) : f_call mtC 5 57 [.inr (.inr (some 6))] (cH a b v) (fun v9 h' => ∃ (a' : Nat → Nat → Int32) (b' : Nat → Nat → Int64) (v' : Nat → Option Nat), h' = cH a' b' v' ∧ RC K a' ∧ (FR [1, 6, L, L + 12, L + 13, L + 14, L + 15, L + 16, L + 17, L + 18, L + 19, L + 20, L + 21, L + 22, L + 23] a a' ∧ ((∀ i, i ∉ [2] → v' i = v i) ∧ f_wdb (v' 2) = true) ∧ True) ∧ ∃ x : Int32, v9 = some (.inl x) ∧ (x.toInt = 0 ∨ x.toInt = 1)) := by
  refine f_call_of (d0 := 4) rfl (Nat.le_of_ble_eq_true rfl) (fun d hd => ?_)
  show f_wp _ (0, [some (.inr (.inr (some 6))), none, none], [], cH a b v) _
  have l0 : (0 : Int32).toInt = 0 := rfl
  have l1 : (1 : Int32).toInt = 1 := rfl
  have l5 : (5 : Int32).toInt = 5 := rfl
  have l6 : (6 : Int32).toInt = 6 := rfl
  refine w_aload rfl rfl ?_
  refine c_getR (t := some L) rfl rfl rfl rfl h3 ?_
  refine c_getI rfl (sh_land (by omega)) rfl rfl ?_
  have q1 : 0 ≤ (a L 7).toInt ∧ (a L 7).toInt ≤ 6 := RC.riv hR (by omega)
  refine w_const rfl ?_
  refine w_ic_lt rfl (fun c2 => ?_) (fun c2 => ?_)
  · skip
    refine w_aload rfl rfl ?_
    refine c_getR (t := some 1) rfl rfl rfl rfl rfl ?_
    refine w_invV (rest := []) rfl rfl rfl rfl rfl (Nat.le_of_ble_eq_true rfl) rfl (by omega) (s_X8_advance (K := K) a b v   hR  ) (fun z3 h9 hq4 => ?_)
    obtain ⟨a5, b6, v7, rfl, ha5, fa5, rfl⟩ := hq4
    show f_wp _ (25, [some (.inr (.inr (some 6))), none, none], [], cH a5 b6 v7) _
    refine w_aload rfl rfl ?_
    refine c_getR (t := some L) rfl rfl rfl rfl ((fa5.2.1.1 3 (by decide)).trans h3) ?_
    refine c_getR (t := some (L + 1)) rfl (sh_land (by omega)) rfl rfl (rC_land0 (by omega)) ?_
    refine w_aload rfl rfl ?_
    refine c_getR (t := some L) rfl rfl rfl rfl ((fa5.2.1.1 3 (by decide)).trans h3) ?_
    refine c_getI rfl (sh_land (by omega)) rfl rfl ?_
    have q8 : 0 ≤ (a5 L 7).toInt ∧ (a5 L 7).toInt ≤ 6 := RC.riv ha5 (by omega)
    have k9_a5 : (a5 L 7).toInt = (a L 7).toInt := by rw [fa5.1 L (by simp only [List.mem_cons, List.not_mem_nil, or_false, not_or]; omega)]
    refine c_aald5 (t := some ((L + 1) + 11 + 2 * (a5 L 7).toInt.toNat)) rfl (sh_row (by omega)) (by omega) (rC_row (by omega)) ?_
    refine w_astore (lo' := [some (.inr (.inr (some 6))), some (.inr (.inr (some ((L + 1) + 11 + 2 * (a5 L 7).toInt.toNat)))), none]) rfl rfl ?_
    refine w_aload rfl rfl ?_
    refine w_invV (rest := []) rfl rfl (sh_riv (by omega)) rfl rfl (Nat.le_of_ble_eq_true rfl) rfl (by omega) (s_X7_clear (K := K) a5 b6 v7  ((L + 1) + 11 + 2 * (a5 L 7).toInt.toNat) ha5  (by omega)) (fun z9 h9 hq10 => ?_)
    obtain ⟨a11, rfl, ha11, fa11, rfl⟩ := hq10
    show f_wp _ (45, [some (.inr (.inr (some 6))), some (.inr (.inr (some ((L + 1) + 11 + 2 * (a5 L 7).toInt.toNat)))), none], [], cH a11 b6 v7) _
    have loop107 : ∀ (ms9 : Nat) (g : Int32) (a107 : Nat → Nat → Int32) (b107 : Nat → Nat → Int64) (v107 : Nat → Option Nat) , ((0 : Int)).toNat = ms9 → RC K a107 → FR [1, 6, L, L + 12, L + 13, L + 14, L + 15, L + 16, L + 17, L + 18, L + 19, L + 20, L + 21, L + 22, L + 23] a a107 → (∀ i, i ∉ [2] → v107 i = v i) → (f_wdb (v107 2) = true) → ((g.toInt = 1 ∧ (a107 L 7).toInt ≤ 5) ∨ g.toInt = 0) → f_wp (f_code (t_X6_riverLine (f_ev mtC d))) (107, [some (.inr (.inr (some 6))), some (.inr (.inr (some ((L + 1) + 11 + 2 * (a5 L 7).toInt.toNat)))), some (.inl g)], [], cH a107 b107 v107) (fun v9 h' => ∃ (a' : Nat → Nat → Int32) (b' : Nat → Nat → Int64) (v' : Nat → Option Nat), h' = cH a' b' v' ∧ RC K a' ∧ (FR [1, 6, L, L + 12, L + 13, L + 14, L + 15, L + 16, L + 17, L + 18, L + 19, L + 20, L + 21, L + 22, L + 23] a a' ∧ ((∀ i, i ∉ [2] → v' i = v i) ∧ f_wdb (v' 2) = true) ∧ True) ∧ ∃ x : Int32, v9 = some (.inl x) ∧ (x.toInt = 0 ∨ x.toInt = 1)) := by
      intro ms9
      induction ms9 using Nat.strongRecOn with
      | _ ms107 ih107 =>
        intro g a107 b107 v107  hm107 hR107 hF107 hG107 hw9 hg
        refine w_iload rfl rfl ?_
        refine w_if_eq rfl (fun c12 => ?_) (fun c12 => ?_)
        · skip
          refine w_iload rfl rfl ?_
          exact wp_iret (z := true) rfl (fun _ => by first | exact Or.inl rfl | exact Or.inr rfl | (rcases (by omega : g.toInt = 0 ∨ g.toInt = 1) with h8 | h8; exact Or.inl (ti_eq h8); exact Or.inr (ti_eq h8))) ⟨a107, b107, v107, rfl, hR107, ⟨hF107, ⟨hG107, hw9⟩, trivial⟩, ⟨_, rfl, by omega⟩⟩
        · skip
          refine w_aload rfl rfl ?_
          refine c_getR (t := some L) rfl rfl rfl rfl ((hG107 3 (by decide)).trans h3) ?_
          refine w_dup rfl rfl ?_
          refine c_getI rfl (sh_land (by omega)) rfl rfl ?_
          have q13 : 0 ≤ (a107 L 7).toInt ∧ (a107 L 7).toInt ≤ 6 := RC.riv hR107 (by omega)
          refine w_const rfl ?_
          first | refine w_iadd rfl (by omega) (fun x14 tx14 => ?_) | refine w_iiU rfl (fun x14 tx14 => ?_)
          refine c_putI (z := false) rfl (sh_land (by omega)) rfl rfl (by first | (intro h9; cases h9; done) | (intro _; first | exact Or.inl rfl | exact Or.inr rfl | assumption | (rcases (by omega : x14.toInt = 0 ∨ x14.toInt = 1) with h8 | h8; exact Or.inl (ti_eq h8); exact Or.inr (ti_eq h8)))) (fun a15 ea15 => ?_)
          have ha15 : RC K a15 := RC.up hR107 ea15 (lc_riv (by omega) (by omega))
          have ua15 : a15 L 7 = x14 := by rw [ea15, mU_same]
          have wa15 := congrArg Int32.toInt ua15
          refine w_iload rfl rfl ?_
          exact wp_iret (z := true) rfl (fun _ => by first | exact Or.inl rfl | exact Or.inr rfl | (rcases (by omega : g.toInt = 0 ∨ g.toInt = 1) with h8 | h8; exact Or.inl (ti_eq h8); exact Or.inr (ti_eq h8))) ⟨a15, b107, v107, rfl, ha15, ⟨FR.up (hF107) (by first | decide | simp | (simp [cA]; omega) | (simp [cB]; omega)) ea15, ⟨hG107, hw9⟩, trivial⟩, ⟨_, rfl, by omega⟩⟩
    refine w_aload rfl rfl ?_
    refine w_aload rfl rfl ?_
    refine w_invV (rest := []) rfl rfl rfl rfl rfl (Nat.le_of_ble_eq_true rfl) rfl (by omega) (s_X6_riverName (K := K) a11 b6 v7 L ((L + 1) + 11 + 2 * (a5 L 7).toInt.toNat) ha11  (fa5.2.1.2) (((fa5.2.1.1 3 (by decide)).trans h3)) (by omega) (by omega)) (fun z16 h9 hq17 => ?_)
    obtain ⟨a18, b19, v20, rfl, ha18, fa18, x21, rfl, px21⟩ := hq17
    show f_wp _ (50, [some (.inr (.inr (some 6))), some (.inr (.inr (some ((L + 1) + 11 + 2 * (a5 L 7).toInt.toNat)))), none], [.inl x21], cH a18 b19 v20) _
    refine w_if_eq rfl (fun c22 => ?_) (fun c22 => ?_)
    · skip
      refine w_const rfl ?_
      refine w_istore (lo' := [some (.inr (.inr (some 6))), some (.inr (.inr (some ((L + 1) + 11 + 2 * (a5 L 7).toInt.toNat)))), some (.inl 0)]) rfl rfl ?_
      exact loop107 _ 0 a18 b19 v20 rfl ha18 (FR.tr (FR.tr (FR.tr (FR.rf) (FR.sub fa5.1 (by first | exact (fun _ h9 => h9) | decide | (intro c9 h9; simp only [List.mem_cons, List.not_mem_nil, or_false] at h9 ⊢; omega) | (intro c9 h9; simp at h9; simp [cA]; omega) | (intro c9 h9; simp at h9; simp [cB]; omega) | (intro c9 h9; simp [cA] at h9; simp [cB]; omega)))) (FR.sub fa11.1 (by first | exact (fun _ h9 => h9) | decide | (intro c9 h9; simp only [List.mem_cons, List.not_mem_nil, or_false] at h9 ⊢; omega) | (intro c9 h9; simp at h9; simp [cA]; omega) | (intro c9 h9; simp at h9; simp [cB]; omega) | (intro c9 h9; simp [cA] at h9; simp [cB]; omega)))) (FR.sub fa18.1 (by first | exact (fun _ h9 => h9) | decide | (intro c9 h9; simp only [List.mem_cons, List.not_mem_nil, or_false] at h9 ⊢; omega) | (intro c9 h9; simp at h9; simp [cA]; omega) | (intro c9 h9; simp at h9; simp [cB]; omega) | (intro c9 h9; simp [cA] at h9; simp [cB]; omega)))) (fun i9 h9 => (fa18.2.1.1 i9 (fun z9 => h9 (by first | exact z9 | (revert z9; simp; done) | (revert z9; simp; omega)))).trans ((show ∀ i9, i9 ∉ [2] → v7 i9 = v i9 from fun i9 h9 => (fa5.2.1.1 i9 (fun z9 => h9 (by first | exact z9 | (revert z9; simp; done) | (revert z9; simp; omega)))).trans ((show ∀ i9, i9 ∉ [2] → v i9 = v i9 from (fun _ _ => rfl)) i9 h9)) i9 h9)) (fa18.2.1.2) (Or.inr rfl)
    · skip
      refine w_aload rfl rfl ?_
      refine w_aload rfl rfl ?_
      refine w_invV (rest := []) rfl rfl rfl rfl rfl (Nat.le_of_ble_eq_true rfl) rfl (by omega) (s_X6_riverKind (K := K) a18 b19 v20  ((L + 1) + 11 + 2 * (a5 L 7).toInt.toNat) ha18  (fa18.2.1.2) (by omega)) (fun z23 h9 hq24 => ?_)
      obtain ⟨a25, b26, v27, rfl, ha25, fa25, x28, rfl, px28⟩ := hq24
      show f_wp _ (58, [some (.inr (.inr (some 6))), some (.inr (.inr (some ((L + 1) + 11 + 2 * (a5 L 7).toInt.toNat)))), none], [.inl x28], cH a25 b26 v27) _
      refine w_if_eq rfl (fun c29 => ?_) (fun c29 => ?_)
      · skip
        refine w_const rfl ?_
        refine w_istore (lo' := [some (.inr (.inr (some 6))), some (.inr (.inr (some ((L + 1) + 11 + 2 * (a5 L 7).toInt.toNat)))), some (.inl 0)]) rfl rfl ?_
        exact loop107 _ 0 a25 b26 v27 rfl ha25 (FR.tr (FR.tr (FR.tr (FR.tr (FR.rf) (FR.sub fa5.1 (by first | exact (fun _ h9 => h9) | decide | (intro c9 h9; simp only [List.mem_cons, List.not_mem_nil, or_false] at h9 ⊢; omega) | (intro c9 h9; simp at h9; simp [cA]; omega) | (intro c9 h9; simp at h9; simp [cB]; omega) | (intro c9 h9; simp [cA] at h9; simp [cB]; omega)))) (FR.sub fa11.1 (by first | exact (fun _ h9 => h9) | decide | (intro c9 h9; simp only [List.mem_cons, List.not_mem_nil, or_false] at h9 ⊢; omega) | (intro c9 h9; simp at h9; simp [cA]; omega) | (intro c9 h9; simp at h9; simp [cB]; omega) | (intro c9 h9; simp [cA] at h9; simp [cB]; omega)))) (FR.sub fa18.1 (by first | exact (fun _ h9 => h9) | decide | (intro c9 h9; simp only [List.mem_cons, List.not_mem_nil, or_false] at h9 ⊢; omega) | (intro c9 h9; simp at h9; simp [cA]; omega) | (intro c9 h9; simp at h9; simp [cB]; omega) | (intro c9 h9; simp [cA] at h9; simp [cB]; omega)))) (FR.sub fa25.1 (by first | exact (fun _ h9 => h9) | decide | (intro c9 h9; simp only [List.mem_cons, List.not_mem_nil, or_false] at h9 ⊢; omega) | (intro c9 h9; simp at h9; simp [cA]; omega) | (intro c9 h9; simp at h9; simp [cB]; omega) | (intro c9 h9; simp [cA] at h9; simp [cB]; omega)))) (fun i9 h9 => (fa25.2.1.1 i9 (fun z9 => h9 (by first | exact z9 | (revert z9; simp; done) | (revert z9; simp; omega)))).trans ((show ∀ i9, i9 ∉ [2] → v20 i9 = v i9 from fun i9 h9 => (fa18.2.1.1 i9 (fun z9 => h9 (by first | exact z9 | (revert z9; simp; done) | (revert z9; simp; omega)))).trans ((show ∀ i9, i9 ∉ [2] → v7 i9 = v i9 from fun i9 h9 => (fa5.2.1.1 i9 (fun z9 => h9 (by first | exact z9 | (revert z9; simp; done) | (revert z9; simp; omega)))).trans ((show ∀ i9, i9 ∉ [2] → v i9 = v i9 from (fun _ _ => rfl)) i9 h9)) i9 h9)) i9 h9)) (fa25.2.1.2) (Or.inr rfl)
      · skip
        refine w_aload rfl rfl ?_
        refine w_aload rfl rfl ?_
        refine w_invV (rest := []) rfl rfl rfl rfl rfl (Nat.le_of_ble_eq_true rfl) rfl (by omega) (s_X6_riverCourse (K := K) a25 b26 v27  ((L + 1) + 11 + 2 * (a5 L 7).toInt.toNat) ha25  (fa25.2.1.2) (by omega)) (fun z30 h9 hq31 => ?_)
        obtain ⟨a32, b33, v34, rfl, ha32, fa32, x35, rfl, px35⟩ := hq31
        show f_wp _ (66, [some (.inr (.inr (some 6))), some (.inr (.inr (some ((L + 1) + 11 + 2 * (a5 L 7).toInt.toNat)))), none], [.inl x35], cH a32 b33 v34) _
        refine w_if_eq rfl (fun c36 => ?_) (fun c36 => ?_)
        · skip
          refine w_const rfl ?_
          refine w_istore (lo' := [some (.inr (.inr (some 6))), some (.inr (.inr (some ((L + 1) + 11 + 2 * (a5 L 7).toInt.toNat)))), some (.inl 0)]) rfl rfl ?_
          exact loop107 _ 0 a32 b33 v34 rfl ha32 (FR.tr (FR.tr (FR.tr (FR.tr (FR.tr (FR.rf) (FR.sub fa5.1 (by first | exact (fun _ h9 => h9) | decide | (intro c9 h9; simp only [List.mem_cons, List.not_mem_nil, or_false] at h9 ⊢; omega) | (intro c9 h9; simp at h9; simp [cA]; omega) | (intro c9 h9; simp at h9; simp [cB]; omega) | (intro c9 h9; simp [cA] at h9; simp [cB]; omega)))) (FR.sub fa11.1 (by first | exact (fun _ h9 => h9) | decide | (intro c9 h9; simp only [List.mem_cons, List.not_mem_nil, or_false] at h9 ⊢; omega) | (intro c9 h9; simp at h9; simp [cA]; omega) | (intro c9 h9; simp at h9; simp [cB]; omega) | (intro c9 h9; simp [cA] at h9; simp [cB]; omega)))) (FR.sub fa18.1 (by first | exact (fun _ h9 => h9) | decide | (intro c9 h9; simp only [List.mem_cons, List.not_mem_nil, or_false] at h9 ⊢; omega) | (intro c9 h9; simp at h9; simp [cA]; omega) | (intro c9 h9; simp at h9; simp [cB]; omega) | (intro c9 h9; simp [cA] at h9; simp [cB]; omega)))) (FR.sub fa25.1 (by first | exact (fun _ h9 => h9) | decide | (intro c9 h9; simp only [List.mem_cons, List.not_mem_nil, or_false] at h9 ⊢; omega) | (intro c9 h9; simp at h9; simp [cA]; omega) | (intro c9 h9; simp at h9; simp [cB]; omega) | (intro c9 h9; simp [cA] at h9; simp [cB]; omega)))) (FR.sub fa32.1 (by first | exact (fun _ h9 => h9) | decide | (intro c9 h9; simp only [List.mem_cons, List.not_mem_nil, or_false] at h9 ⊢; omega) | (intro c9 h9; simp at h9; simp [cA]; omega) | (intro c9 h9; simp at h9; simp [cB]; omega) | (intro c9 h9; simp [cA] at h9; simp [cB]; omega)))) (fun i9 h9 => (fa32.2.1.1 i9 (fun z9 => h9 (by first | exact z9 | (revert z9; simp; done) | (revert z9; simp; omega)))).trans ((show ∀ i9, i9 ∉ [2] → v27 i9 = v i9 from fun i9 h9 => (fa25.2.1.1 i9 (fun z9 => h9 (by first | exact z9 | (revert z9; simp; done) | (revert z9; simp; omega)))).trans ((show ∀ i9, i9 ∉ [2] → v20 i9 = v i9 from fun i9 h9 => (fa18.2.1.1 i9 (fun z9 => h9 (by first | exact z9 | (revert z9; simp; done) | (revert z9; simp; omega)))).trans ((show ∀ i9, i9 ∉ [2] → v7 i9 = v i9 from fun i9 h9 => (fa5.2.1.1 i9 (fun z9 => h9 (by first | exact z9 | (revert z9; simp; done) | (revert z9; simp; omega)))).trans ((show ∀ i9, i9 ∉ [2] → v i9 = v i9 from (fun _ _ => rfl)) i9 h9)) i9 h9)) i9 h9)) i9 h9)) (fa32.2.1.2) (Or.inr rfl)
        · skip
          refine w_aload rfl rfl ?_
          refine w_aload rfl rfl ?_
          refine w_invV (rest := []) rfl rfl rfl rfl rfl (Nat.le_of_ble_eq_true rfl) rfl (by omega) (s_X6_riverWater (K := K) a32 b33 v34  ((L + 1) + 11 + 2 * (a5 L 7).toInt.toNat) ha32  (fa32.2.1.2) (by omega)) (fun z37 h9 hq38 => ?_)
          obtain ⟨a39, b40, v41, rfl, ha39, fa39, x42, rfl, px42⟩ := hq38
          show f_wp _ (74, [some (.inr (.inr (some 6))), some (.inr (.inr (some ((L + 1) + 11 + 2 * (a5 L 7).toInt.toNat)))), none], [.inl x42], cH a39 b40 v41) _
          refine w_if_eq rfl (fun c43 => ?_) (fun c43 => ?_)
          · skip
            refine w_const rfl ?_
            refine w_istore (lo' := [some (.inr (.inr (some 6))), some (.inr (.inr (some ((L + 1) + 11 + 2 * (a5 L 7).toInt.toNat)))), some (.inl 0)]) rfl rfl ?_
            exact loop107 _ 0 a39 b40 v41 rfl ha39 (FR.tr (FR.tr (FR.tr (FR.tr (FR.tr (FR.tr (FR.rf) (FR.sub fa5.1 (by first | exact (fun _ h9 => h9) | decide | (intro c9 h9; simp only [List.mem_cons, List.not_mem_nil, or_false] at h9 ⊢; omega) | (intro c9 h9; simp at h9; simp [cA]; omega) | (intro c9 h9; simp at h9; simp [cB]; omega) | (intro c9 h9; simp [cA] at h9; simp [cB]; omega)))) (FR.sub fa11.1 (by first | exact (fun _ h9 => h9) | decide | (intro c9 h9; simp only [List.mem_cons, List.not_mem_nil, or_false] at h9 ⊢; omega) | (intro c9 h9; simp at h9; simp [cA]; omega) | (intro c9 h9; simp at h9; simp [cB]; omega) | (intro c9 h9; simp [cA] at h9; simp [cB]; omega)))) (FR.sub fa18.1 (by first | exact (fun _ h9 => h9) | decide | (intro c9 h9; simp only [List.mem_cons, List.not_mem_nil, or_false] at h9 ⊢; omega) | (intro c9 h9; simp at h9; simp [cA]; omega) | (intro c9 h9; simp at h9; simp [cB]; omega) | (intro c9 h9; simp [cA] at h9; simp [cB]; omega)))) (FR.sub fa25.1 (by first | exact (fun _ h9 => h9) | decide | (intro c9 h9; simp only [List.mem_cons, List.not_mem_nil, or_false] at h9 ⊢; omega) | (intro c9 h9; simp at h9; simp [cA]; omega) | (intro c9 h9; simp at h9; simp [cB]; omega) | (intro c9 h9; simp [cA] at h9; simp [cB]; omega)))) (FR.sub fa32.1 (by first | exact (fun _ h9 => h9) | decide | (intro c9 h9; simp only [List.mem_cons, List.not_mem_nil, or_false] at h9 ⊢; omega) | (intro c9 h9; simp at h9; simp [cA]; omega) | (intro c9 h9; simp at h9; simp [cB]; omega) | (intro c9 h9; simp [cA] at h9; simp [cB]; omega)))) (FR.sub fa39.1 (by first | exact (fun _ h9 => h9) | decide | (intro c9 h9; simp only [List.mem_cons, List.not_mem_nil, or_false] at h9 ⊢; omega) | (intro c9 h9; simp at h9; simp [cA]; omega) | (intro c9 h9; simp at h9; simp [cB]; omega) | (intro c9 h9; simp [cA] at h9; simp [cB]; omega)))) (fun i9 h9 => (fa39.2.1.1 i9 (fun z9 => h9 (by first | exact z9 | (revert z9; simp; done) | (revert z9; simp; omega)))).trans ((show ∀ i9, i9 ∉ [2] → v34 i9 = v i9 from fun i9 h9 => (fa32.2.1.1 i9 (fun z9 => h9 (by first | exact z9 | (revert z9; simp; done) | (revert z9; simp; omega)))).trans ((show ∀ i9, i9 ∉ [2] → v27 i9 = v i9 from fun i9 h9 => (fa25.2.1.1 i9 (fun z9 => h9 (by first | exact z9 | (revert z9; simp; done) | (revert z9; simp; omega)))).trans ((show ∀ i9, i9 ∉ [2] → v20 i9 = v i9 from fun i9 h9 => (fa18.2.1.1 i9 (fun z9 => h9 (by first | exact z9 | (revert z9; simp; done) | (revert z9; simp; omega)))).trans ((show ∀ i9, i9 ∉ [2] → v7 i9 = v i9 from fun i9 h9 => (fa5.2.1.1 i9 (fun z9 => h9 (by first | exact z9 | (revert z9; simp; done) | (revert z9; simp; omega)))).trans ((show ∀ i9, i9 ∉ [2] → v i9 = v i9 from (fun _ _ => rfl)) i9 h9)) i9 h9)) i9 h9)) i9 h9)) i9 h9)) (fa39.2.1.2) (Or.inr rfl)
          · skip
            refine w_aload rfl rfl ?_
            refine w_aload rfl rfl ?_
            refine w_invV (rest := []) rfl rfl rfl rfl rfl (Nat.le_of_ble_eq_true rfl) rfl (by omega) (s_X6_riverMill (K := K) a39 b40 v41  ((L + 1) + 11 + 2 * (a5 L 7).toInt.toNat) ha39  (fa39.2.1.2) (by omega)) (fun z44 h9 hq45 => ?_)
            obtain ⟨a46, b47, v48, rfl, ha46, fa46, x49, rfl, px49⟩ := hq45
            show f_wp _ (82, [some (.inr (.inr (some 6))), some (.inr (.inr (some ((L + 1) + 11 + 2 * (a5 L 7).toInt.toNat)))), none], [.inl x49], cH a46 b47 v48) _
            refine w_if_eq rfl (fun c50 => ?_) (fun c50 => ?_)
            · skip
              refine w_const rfl ?_
              refine w_istore (lo' := [some (.inr (.inr (some 6))), some (.inr (.inr (some ((L + 1) + 11 + 2 * (a5 L 7).toInt.toNat)))), some (.inl 0)]) rfl rfl ?_
              exact loop107 _ 0 a46 b47 v48 rfl ha46 (FR.tr (FR.tr (FR.tr (FR.tr (FR.tr (FR.tr (FR.tr (FR.rf) (FR.sub fa5.1 (by first | exact (fun _ h9 => h9) | decide | (intro c9 h9; simp only [List.mem_cons, List.not_mem_nil, or_false] at h9 ⊢; omega) | (intro c9 h9; simp at h9; simp [cA]; omega) | (intro c9 h9; simp at h9; simp [cB]; omega) | (intro c9 h9; simp [cA] at h9; simp [cB]; omega)))) (FR.sub fa11.1 (by first | exact (fun _ h9 => h9) | decide | (intro c9 h9; simp only [List.mem_cons, List.not_mem_nil, or_false] at h9 ⊢; omega) | (intro c9 h9; simp at h9; simp [cA]; omega) | (intro c9 h9; simp at h9; simp [cB]; omega) | (intro c9 h9; simp [cA] at h9; simp [cB]; omega)))) (FR.sub fa18.1 (by first | exact (fun _ h9 => h9) | decide | (intro c9 h9; simp only [List.mem_cons, List.not_mem_nil, or_false] at h9 ⊢; omega) | (intro c9 h9; simp at h9; simp [cA]; omega) | (intro c9 h9; simp at h9; simp [cB]; omega) | (intro c9 h9; simp [cA] at h9; simp [cB]; omega)))) (FR.sub fa25.1 (by first | exact (fun _ h9 => h9) | decide | (intro c9 h9; simp only [List.mem_cons, List.not_mem_nil, or_false] at h9 ⊢; omega) | (intro c9 h9; simp at h9; simp [cA]; omega) | (intro c9 h9; simp at h9; simp [cB]; omega) | (intro c9 h9; simp [cA] at h9; simp [cB]; omega)))) (FR.sub fa32.1 (by first | exact (fun _ h9 => h9) | decide | (intro c9 h9; simp only [List.mem_cons, List.not_mem_nil, or_false] at h9 ⊢; omega) | (intro c9 h9; simp at h9; simp [cA]; omega) | (intro c9 h9; simp at h9; simp [cB]; omega) | (intro c9 h9; simp [cA] at h9; simp [cB]; omega)))) (FR.sub fa39.1 (by first | exact (fun _ h9 => h9) | decide | (intro c9 h9; simp only [List.mem_cons, List.not_mem_nil, or_false] at h9 ⊢; omega) | (intro c9 h9; simp at h9; simp [cA]; omega) | (intro c9 h9; simp at h9; simp [cB]; omega) | (intro c9 h9; simp [cA] at h9; simp [cB]; omega)))) (FR.sub fa46.1 (by first | exact (fun _ h9 => h9) | decide | (intro c9 h9; simp only [List.mem_cons, List.not_mem_nil, or_false] at h9 ⊢; omega) | (intro c9 h9; simp at h9; simp [cA]; omega) | (intro c9 h9; simp at h9; simp [cB]; omega) | (intro c9 h9; simp [cA] at h9; simp [cB]; omega)))) (fun i9 h9 => (fa46.2.1.1 i9 (fun z9 => h9 (by first | exact z9 | (revert z9; simp; done) | (revert z9; simp; omega)))).trans ((show ∀ i9, i9 ∉ [2] → v41 i9 = v i9 from fun i9 h9 => (fa39.2.1.1 i9 (fun z9 => h9 (by first | exact z9 | (revert z9; simp; done) | (revert z9; simp; omega)))).trans ((show ∀ i9, i9 ∉ [2] → v34 i9 = v i9 from fun i9 h9 => (fa32.2.1.1 i9 (fun z9 => h9 (by first | exact z9 | (revert z9; simp; done) | (revert z9; simp; omega)))).trans ((show ∀ i9, i9 ∉ [2] → v27 i9 = v i9 from fun i9 h9 => (fa25.2.1.1 i9 (fun z9 => h9 (by first | exact z9 | (revert z9; simp; done) | (revert z9; simp; omega)))).trans ((show ∀ i9, i9 ∉ [2] → v20 i9 = v i9 from fun i9 h9 => (fa18.2.1.1 i9 (fun z9 => h9 (by first | exact z9 | (revert z9; simp; done) | (revert z9; simp; omega)))).trans ((show ∀ i9, i9 ∉ [2] → v7 i9 = v i9 from fun i9 h9 => (fa5.2.1.1 i9 (fun z9 => h9 (by first | exact z9 | (revert z9; simp; done) | (revert z9; simp; omega)))).trans ((show ∀ i9, i9 ∉ [2] → v i9 = v i9 from (fun _ _ => rfl)) i9 h9)) i9 h9)) i9 h9)) i9 h9)) i9 h9)) i9 h9)) (fa46.2.1.2) (Or.inr rfl)
            · skip
              refine w_aload rfl rfl ?_
              refine w_aload rfl rfl ?_
              refine w_invV (rest := []) rfl rfl rfl rfl rfl (Nat.le_of_ble_eq_true rfl) rfl (by omega) (s_X6_riverTown (K := K) a46 b47 v48  ((L + 1) + 11 + 2 * (a5 L 7).toInt.toNat) ha46  (fa46.2.1.2) (by omega)) (fun z51 h9 hq52 => ?_)
              obtain ⟨a53, b54, v55, rfl, ha53, fa53, x56, rfl, px56⟩ := hq52
              show f_wp _ (90, [some (.inr (.inr (some 6))), some (.inr (.inr (some ((L + 1) + 11 + 2 * (a5 L 7).toInt.toNat)))), none], [.inl x56], cH a53 b54 v55) _
              refine w_if_eq rfl (fun c57 => ?_) (fun c57 => ?_)
              · skip
                refine w_const rfl ?_
                refine w_istore (lo' := [some (.inr (.inr (some 6))), some (.inr (.inr (some ((L + 1) + 11 + 2 * (a5 L 7).toInt.toNat)))), some (.inl 0)]) rfl rfl ?_
                exact loop107 _ 0 a53 b54 v55 rfl ha53 (FR.tr (FR.tr (FR.tr (FR.tr (FR.tr (FR.tr (FR.tr (FR.tr (FR.rf) (FR.sub fa5.1 (by first | exact (fun _ h9 => h9) | decide | (intro c9 h9; simp only [List.mem_cons, List.not_mem_nil, or_false] at h9 ⊢; omega) | (intro c9 h9; simp at h9; simp [cA]; omega) | (intro c9 h9; simp at h9; simp [cB]; omega) | (intro c9 h9; simp [cA] at h9; simp [cB]; omega)))) (FR.sub fa11.1 (by first | exact (fun _ h9 => h9) | decide | (intro c9 h9; simp only [List.mem_cons, List.not_mem_nil, or_false] at h9 ⊢; omega) | (intro c9 h9; simp at h9; simp [cA]; omega) | (intro c9 h9; simp at h9; simp [cB]; omega) | (intro c9 h9; simp [cA] at h9; simp [cB]; omega)))) (FR.sub fa18.1 (by first | exact (fun _ h9 => h9) | decide | (intro c9 h9; simp only [List.mem_cons, List.not_mem_nil, or_false] at h9 ⊢; omega) | (intro c9 h9; simp at h9; simp [cA]; omega) | (intro c9 h9; simp at h9; simp [cB]; omega) | (intro c9 h9; simp [cA] at h9; simp [cB]; omega)))) (FR.sub fa25.1 (by first | exact (fun _ h9 => h9) | decide | (intro c9 h9; simp only [List.mem_cons, List.not_mem_nil, or_false] at h9 ⊢; omega) | (intro c9 h9; simp at h9; simp [cA]; omega) | (intro c9 h9; simp at h9; simp [cB]; omega) | (intro c9 h9; simp [cA] at h9; simp [cB]; omega)))) (FR.sub fa32.1 (by first | exact (fun _ h9 => h9) | decide | (intro c9 h9; simp only [List.mem_cons, List.not_mem_nil, or_false] at h9 ⊢; omega) | (intro c9 h9; simp at h9; simp [cA]; omega) | (intro c9 h9; simp at h9; simp [cB]; omega) | (intro c9 h9; simp [cA] at h9; simp [cB]; omega)))) (FR.sub fa39.1 (by first | exact (fun _ h9 => h9) | decide | (intro c9 h9; simp only [List.mem_cons, List.not_mem_nil, or_false] at h9 ⊢; omega) | (intro c9 h9; simp at h9; simp [cA]; omega) | (intro c9 h9; simp at h9; simp [cB]; omega) | (intro c9 h9; simp [cA] at h9; simp [cB]; omega)))) (FR.sub fa46.1 (by first | exact (fun _ h9 => h9) | decide | (intro c9 h9; simp only [List.mem_cons, List.not_mem_nil, or_false] at h9 ⊢; omega) | (intro c9 h9; simp at h9; simp [cA]; omega) | (intro c9 h9; simp at h9; simp [cB]; omega) | (intro c9 h9; simp [cA] at h9; simp [cB]; omega)))) (FR.sub fa53.1 (by first | exact (fun _ h9 => h9) | decide | (intro c9 h9; simp only [List.mem_cons, List.not_mem_nil, or_false] at h9 ⊢; omega) | (intro c9 h9; simp at h9; simp [cA]; omega) | (intro c9 h9; simp at h9; simp [cB]; omega) | (intro c9 h9; simp [cA] at h9; simp [cB]; omega)))) (fun i9 h9 => (fa53.2.1.1 i9 (fun z9 => h9 (by first | exact z9 | (revert z9; simp; done) | (revert z9; simp; omega)))).trans ((show ∀ i9, i9 ∉ [2] → v48 i9 = v i9 from fun i9 h9 => (fa46.2.1.1 i9 (fun z9 => h9 (by first | exact z9 | (revert z9; simp; done) | (revert z9; simp; omega)))).trans ((show ∀ i9, i9 ∉ [2] → v41 i9 = v i9 from fun i9 h9 => (fa39.2.1.1 i9 (fun z9 => h9 (by first | exact z9 | (revert z9; simp; done) | (revert z9; simp; omega)))).trans ((show ∀ i9, i9 ∉ [2] → v34 i9 = v i9 from fun i9 h9 => (fa32.2.1.1 i9 (fun z9 => h9 (by first | exact z9 | (revert z9; simp; done) | (revert z9; simp; omega)))).trans ((show ∀ i9, i9 ∉ [2] → v27 i9 = v i9 from fun i9 h9 => (fa25.2.1.1 i9 (fun z9 => h9 (by first | exact z9 | (revert z9; simp; done) | (revert z9; simp; omega)))).trans ((show ∀ i9, i9 ∉ [2] → v20 i9 = v i9 from fun i9 h9 => (fa18.2.1.1 i9 (fun z9 => h9 (by first | exact z9 | (revert z9; simp; done) | (revert z9; simp; omega)))).trans ((show ∀ i9, i9 ∉ [2] → v7 i9 = v i9 from fun i9 h9 => (fa5.2.1.1 i9 (fun z9 => h9 (by first | exact z9 | (revert z9; simp; done) | (revert z9; simp; omega)))).trans ((show ∀ i9, i9 ∉ [2] → v i9 = v i9 from (fun _ _ => rfl)) i9 h9)) i9 h9)) i9 h9)) i9 h9)) i9 h9)) i9 h9)) i9 h9)) (fa53.2.1.2) (Or.inr rfl)
              · skip
                refine w_aload rfl rfl ?_
                refine w_aload rfl rfl ?_
                refine w_invV (rest := []) rfl rfl rfl rfl rfl (Nat.le_of_ble_eq_true rfl) rfl (by omega) (s_X6_riverMother (K := K) a53 b54 v55 L ((L + 1) + 11 + 2 * (a5 L 7).toInt.toNat) ha53  (fa53.2.1.2) (((fa53.2.1.1 3 (by decide)).trans ((fa46.2.1.1 3 (by decide)).trans ((fa39.2.1.1 3 (by decide)).trans ((fa32.2.1.1 3 (by decide)).trans ((fa25.2.1.1 3 (by decide)).trans ((fa18.2.1.1 3 (by decide)).trans ((fa5.2.1.1 3 (by decide)).trans h3)))))))) (by omega) (by omega)) (fun z58 h9 hq59 => ?_)
                obtain ⟨a60, b61, v62, rfl, ha60, fa60, x63, rfl, px63⟩ := hq59
                show f_wp _ (98, [some (.inr (.inr (some 6))), some (.inr (.inr (some ((L + 1) + 11 + 2 * (a5 L 7).toInt.toNat)))), none], [.inl x63], cH a60 b61 v62) _
                refine w_if_eq rfl (fun c64 => ?_) (fun c64 => ?_)
                · skip
                  refine w_const rfl ?_
                  refine w_istore (lo' := [some (.inr (.inr (some 6))), some (.inr (.inr (some ((L + 1) + 11 + 2 * (a5 L 7).toInt.toNat)))), some (.inl 0)]) rfl rfl ?_
                  exact loop107 _ 0 a60 b61 v62 rfl ha60 (FR.tr (FR.tr (FR.tr (FR.tr (FR.tr (FR.tr (FR.tr (FR.tr (FR.tr (FR.rf) (FR.sub fa5.1 (by first | exact (fun _ h9 => h9) | decide | (intro c9 h9; simp only [List.mem_cons, List.not_mem_nil, or_false] at h9 ⊢; omega) | (intro c9 h9; simp at h9; simp [cA]; omega) | (intro c9 h9; simp at h9; simp [cB]; omega) | (intro c9 h9; simp [cA] at h9; simp [cB]; omega)))) (FR.sub fa11.1 (by first | exact (fun _ h9 => h9) | decide | (intro c9 h9; simp only [List.mem_cons, List.not_mem_nil, or_false] at h9 ⊢; omega) | (intro c9 h9; simp at h9; simp [cA]; omega) | (intro c9 h9; simp at h9; simp [cB]; omega) | (intro c9 h9; simp [cA] at h9; simp [cB]; omega)))) (FR.sub fa18.1 (by first | exact (fun _ h9 => h9) | decide | (intro c9 h9; simp only [List.mem_cons, List.not_mem_nil, or_false] at h9 ⊢; omega) | (intro c9 h9; simp at h9; simp [cA]; omega) | (intro c9 h9; simp at h9; simp [cB]; omega) | (intro c9 h9; simp [cA] at h9; simp [cB]; omega)))) (FR.sub fa25.1 (by first | exact (fun _ h9 => h9) | decide | (intro c9 h9; simp only [List.mem_cons, List.not_mem_nil, or_false] at h9 ⊢; omega) | (intro c9 h9; simp at h9; simp [cA]; omega) | (intro c9 h9; simp at h9; simp [cB]; omega) | (intro c9 h9; simp [cA] at h9; simp [cB]; omega)))) (FR.sub fa32.1 (by first | exact (fun _ h9 => h9) | decide | (intro c9 h9; simp only [List.mem_cons, List.not_mem_nil, or_false] at h9 ⊢; omega) | (intro c9 h9; simp at h9; simp [cA]; omega) | (intro c9 h9; simp at h9; simp [cB]; omega) | (intro c9 h9; simp [cA] at h9; simp [cB]; omega)))) (FR.sub fa39.1 (by first | exact (fun _ h9 => h9) | decide | (intro c9 h9; simp only [List.mem_cons, List.not_mem_nil, or_false] at h9 ⊢; omega) | (intro c9 h9; simp at h9; simp [cA]; omega) | (intro c9 h9; simp at h9; simp [cB]; omega) | (intro c9 h9; simp [cA] at h9; simp [cB]; omega)))) (FR.sub fa46.1 (by first | exact (fun _ h9 => h9) | decide | (intro c9 h9; simp only [List.mem_cons, List.not_mem_nil, or_false] at h9 ⊢; omega) | (intro c9 h9; simp at h9; simp [cA]; omega) | (intro c9 h9; simp at h9; simp [cB]; omega) | (intro c9 h9; simp [cA] at h9; simp [cB]; omega)))) (FR.sub fa53.1 (by first | exact (fun _ h9 => h9) | decide | (intro c9 h9; simp only [List.mem_cons, List.not_mem_nil, or_false] at h9 ⊢; omega) | (intro c9 h9; simp at h9; simp [cA]; omega) | (intro c9 h9; simp at h9; simp [cB]; omega) | (intro c9 h9; simp [cA] at h9; simp [cB]; omega)))) (FR.sub fa60.1 (by first | exact (fun _ h9 => h9) | decide | (intro c9 h9; simp only [List.mem_cons, List.not_mem_nil, or_false] at h9 ⊢; omega) | (intro c9 h9; simp at h9; simp [cA]; omega) | (intro c9 h9; simp at h9; simp [cB]; omega) | (intro c9 h9; simp [cA] at h9; simp [cB]; omega)))) (fun i9 h9 => (fa60.2.1.1 i9 (fun z9 => h9 (by first | exact z9 | (revert z9; simp; done) | (revert z9; simp; omega)))).trans ((show ∀ i9, i9 ∉ [2] → v55 i9 = v i9 from fun i9 h9 => (fa53.2.1.1 i9 (fun z9 => h9 (by first | exact z9 | (revert z9; simp; done) | (revert z9; simp; omega)))).trans ((show ∀ i9, i9 ∉ [2] → v48 i9 = v i9 from fun i9 h9 => (fa46.2.1.1 i9 (fun z9 => h9 (by first | exact z9 | (revert z9; simp; done) | (revert z9; simp; omega)))).trans ((show ∀ i9, i9 ∉ [2] → v41 i9 = v i9 from fun i9 h9 => (fa39.2.1.1 i9 (fun z9 => h9 (by first | exact z9 | (revert z9; simp; done) | (revert z9; simp; omega)))).trans ((show ∀ i9, i9 ∉ [2] → v34 i9 = v i9 from fun i9 h9 => (fa32.2.1.1 i9 (fun z9 => h9 (by first | exact z9 | (revert z9; simp; done) | (revert z9; simp; omega)))).trans ((show ∀ i9, i9 ∉ [2] → v27 i9 = v i9 from fun i9 h9 => (fa25.2.1.1 i9 (fun z9 => h9 (by first | exact z9 | (revert z9; simp; done) | (revert z9; simp; omega)))).trans ((show ∀ i9, i9 ∉ [2] → v20 i9 = v i9 from fun i9 h9 => (fa18.2.1.1 i9 (fun z9 => h9 (by first | exact z9 | (revert z9; simp; done) | (revert z9; simp; omega)))).trans ((show ∀ i9, i9 ∉ [2] → v7 i9 = v i9 from fun i9 h9 => (fa5.2.1.1 i9 (fun z9 => h9 (by first | exact z9 | (revert z9; simp; done) | (revert z9; simp; omega)))).trans ((show ∀ i9, i9 ∉ [2] → v i9 = v i9 from (fun _ _ => rfl)) i9 h9)) i9 h9)) i9 h9)) i9 h9)) i9 h9)) i9 h9)) i9 h9)) i9 h9)) (fa60.2.1.2) (Or.inr rfl)
                · skip
                  refine w_const rfl ?_
                  have k9_a60 : (a60 L 7).toInt = (a L 7).toInt := by rw [fa60.1 L (by simp only [List.mem_cons, List.not_mem_nil, or_false, not_or]; omega), fa53.1 L (by simp only [List.mem_cons, List.not_mem_nil, or_false, not_or]; omega), fa46.1 L (by simp only [List.mem_cons, List.not_mem_nil, or_false, not_or]; omega), fa39.1 L (by simp only [List.mem_cons, List.not_mem_nil, or_false, not_or]; omega), fa32.1 L (by simp only [List.mem_cons, List.not_mem_nil, or_false, not_or]; omega), fa25.1 L (by simp only [List.mem_cons, List.not_mem_nil, or_false, not_or]; omega), fa18.1 L (by simp only [List.mem_cons, List.not_mem_nil, or_false, not_or]; omega), fa11.1 L (by simp only [List.mem_cons, List.not_mem_nil, or_false, not_or]; omega), fa5.1 L (by simp only [List.mem_cons, List.not_mem_nil, or_false, not_or]; omega)]
                  refine w_goto rfl ?_
                  refine w_istore (lo' := [some (.inr (.inr (some 6))), some (.inr (.inr (some ((L + 1) + 11 + 2 * (a5 L 7).toInt.toNat)))), some (.inl 1)]) rfl rfl ?_
                  exact loop107 _ 1 a60 b61 v62 rfl ha60 (FR.tr (FR.tr (FR.tr (FR.tr (FR.tr (FR.tr (FR.tr (FR.tr (FR.tr (FR.rf) (FR.sub fa5.1 (by first | exact (fun _ h9 => h9) | decide | (intro c9 h9; simp only [List.mem_cons, List.not_mem_nil, or_false] at h9 ⊢; omega) | (intro c9 h9; simp at h9; simp [cA]; omega) | (intro c9 h9; simp at h9; simp [cB]; omega) | (intro c9 h9; simp [cA] at h9; simp [cB]; omega)))) (FR.sub fa11.1 (by first | exact (fun _ h9 => h9) | decide | (intro c9 h9; simp only [List.mem_cons, List.not_mem_nil, or_false] at h9 ⊢; omega) | (intro c9 h9; simp at h9; simp [cA]; omega) | (intro c9 h9; simp at h9; simp [cB]; omega) | (intro c9 h9; simp [cA] at h9; simp [cB]; omega)))) (FR.sub fa18.1 (by first | exact (fun _ h9 => h9) | decide | (intro c9 h9; simp only [List.mem_cons, List.not_mem_nil, or_false] at h9 ⊢; omega) | (intro c9 h9; simp at h9; simp [cA]; omega) | (intro c9 h9; simp at h9; simp [cB]; omega) | (intro c9 h9; simp [cA] at h9; simp [cB]; omega)))) (FR.sub fa25.1 (by first | exact (fun _ h9 => h9) | decide | (intro c9 h9; simp only [List.mem_cons, List.not_mem_nil, or_false] at h9 ⊢; omega) | (intro c9 h9; simp at h9; simp [cA]; omega) | (intro c9 h9; simp at h9; simp [cB]; omega) | (intro c9 h9; simp [cA] at h9; simp [cB]; omega)))) (FR.sub fa32.1 (by first | exact (fun _ h9 => h9) | decide | (intro c9 h9; simp only [List.mem_cons, List.not_mem_nil, or_false] at h9 ⊢; omega) | (intro c9 h9; simp at h9; simp [cA]; omega) | (intro c9 h9; simp at h9; simp [cB]; omega) | (intro c9 h9; simp [cA] at h9; simp [cB]; omega)))) (FR.sub fa39.1 (by first | exact (fun _ h9 => h9) | decide | (intro c9 h9; simp only [List.mem_cons, List.not_mem_nil, or_false] at h9 ⊢; omega) | (intro c9 h9; simp at h9; simp [cA]; omega) | (intro c9 h9; simp at h9; simp [cB]; omega) | (intro c9 h9; simp [cA] at h9; simp [cB]; omega)))) (FR.sub fa46.1 (by first | exact (fun _ h9 => h9) | decide | (intro c9 h9; simp only [List.mem_cons, List.not_mem_nil, or_false] at h9 ⊢; omega) | (intro c9 h9; simp at h9; simp [cA]; omega) | (intro c9 h9; simp at h9; simp [cB]; omega) | (intro c9 h9; simp [cA] at h9; simp [cB]; omega)))) (FR.sub fa53.1 (by first | exact (fun _ h9 => h9) | decide | (intro c9 h9; simp only [List.mem_cons, List.not_mem_nil, or_false] at h9 ⊢; omega) | (intro c9 h9; simp at h9; simp [cA]; omega) | (intro c9 h9; simp at h9; simp [cB]; omega) | (intro c9 h9; simp [cA] at h9; simp [cB]; omega)))) (FR.sub fa60.1 (by first | exact (fun _ h9 => h9) | decide | (intro c9 h9; simp only [List.mem_cons, List.not_mem_nil, or_false] at h9 ⊢; omega) | (intro c9 h9; simp at h9; simp [cA]; omega) | (intro c9 h9; simp at h9; simp [cB]; omega) | (intro c9 h9; simp [cA] at h9; simp [cB]; omega)))) (fun i9 h9 => (fa60.2.1.1 i9 (fun z9 => h9 (by first | exact z9 | (revert z9; simp; done) | (revert z9; simp; omega)))).trans ((show ∀ i9, i9 ∉ [2] → v55 i9 = v i9 from fun i9 h9 => (fa53.2.1.1 i9 (fun z9 => h9 (by first | exact z9 | (revert z9; simp; done) | (revert z9; simp; omega)))).trans ((show ∀ i9, i9 ∉ [2] → v48 i9 = v i9 from fun i9 h9 => (fa46.2.1.1 i9 (fun z9 => h9 (by first | exact z9 | (revert z9; simp; done) | (revert z9; simp; omega)))).trans ((show ∀ i9, i9 ∉ [2] → v41 i9 = v i9 from fun i9 h9 => (fa39.2.1.1 i9 (fun z9 => h9 (by first | exact z9 | (revert z9; simp; done) | (revert z9; simp; omega)))).trans ((show ∀ i9, i9 ∉ [2] → v34 i9 = v i9 from fun i9 h9 => (fa32.2.1.1 i9 (fun z9 => h9 (by first | exact z9 | (revert z9; simp; done) | (revert z9; simp; omega)))).trans ((show ∀ i9, i9 ∉ [2] → v27 i9 = v i9 from fun i9 h9 => (fa25.2.1.1 i9 (fun z9 => h9 (by first | exact z9 | (revert z9; simp; done) | (revert z9; simp; omega)))).trans ((show ∀ i9, i9 ∉ [2] → v20 i9 = v i9 from fun i9 h9 => (fa18.2.1.1 i9 (fun z9 => h9 (by first | exact z9 | (revert z9; simp; done) | (revert z9; simp; omega)))).trans ((show ∀ i9, i9 ∉ [2] → v7 i9 = v i9 from fun i9 h9 => (fa5.2.1.1 i9 (fun z9 => h9 (by first | exact z9 | (revert z9; simp; done) | (revert z9; simp; omega)))).trans ((show ∀ i9, i9 ∉ [2] → v i9 = v i9 from (fun _ _ => rfl)) i9 h9)) i9 h9)) i9 h9)) i9 h9)) i9 h9)) i9 h9)) i9 h9)) i9 h9)) (fa60.2.1.2) (Or.inl ⟨rfl, by omega⟩)
  · skip
    refine w_aload rfl rfl ?_
    refine w_const rfl ?_
    refine w_invV (rest := []) rfl rfl rfl rfl rfl (Nat.le_of_ble_eq_true rfl) rfl (by omega) (s_X6_fail (K := K) a b v  5 hR  ) (fun z65 h9 hq66 => ?_)
    obtain ⟨a67, rfl, ha67, fa67, x68, rfl, px68⟩ := hq66
    show f_wp _ (17, [some (.inr (.inr (some 6))), none, none], [.inl x68], cH a67 b v) _
    exact wp_iret (z := true) rfl (fun _ => by first | exact Or.inl rfl | exact Or.inr rfl | (rcases (by omega : x68.toInt = 0 ∨ x68.toInt = 1) with h8 | h8; exact Or.inl (ti_eq h8); exact Or.inr (ti_eq h8))) ⟨a67, b, v, rfl, ha67, ⟨FR.tr (FR.rf) (FR.sub fa67.1 (by first | exact (fun _ h9 => h9) | decide | (intro c9 h9; simp only [List.mem_cons, List.not_mem_nil, or_false] at h9 ⊢; omega) | (intro c9 h9; simp at h9; simp [cA]; omega) | (intro c9 h9; simp at h9; simp [cB]; omega) | (intro c9 h9; simp [cA] at h9; simp [cB]; omega))), ⟨(fun _ _ => rfl), hw⟩, trivial⟩, ⟨_, rfl, by omega⟩⟩
set_option maxRecDepth 4000 in
theorem s_X6_rangeLine {K : Nat} (a : Nat → Nat → Int32) (b : Nat → Nat → Int64) (v : Nat → Option Nat) (L : Nat)  (hR : RC K a) (hw : f_wdb (v 2) = true) (h3 : v 3 = some L) (hL : L = 22 ∨ L = 46) : f_call mtC 4 65 [.inr (.inr (some 6))] (cH a b v) (fun v9 h' => ∃ (a' : Nat → Nat → Int32) (b' : Nat → Nat → Int64) (v' : Nat → Option Nat), h' = cH a' b' v' ∧ RC K a' ∧ (FR [1, 6, L, L + 2, L + 3] a a' ∧ ((∀ i, i ∉ [2] → v' i = v i) ∧ f_wdb (v' 2) = true) ∧ True) ∧ ∃ x : Int32, v9 = some (.inl x) ∧ (x.toInt = 0 ∨ x.toInt = 1)) := by
  refine f_call_of (d0 := 3) rfl (Nat.le_of_ble_eq_true rfl) (fun d hd => ?_)
  show f_wp _ (0, [some (.inr (.inr (some 6))), none], [], cH a b v) _
  have l0 : (0 : Int32).toInt = 0 := rfl
  have l1 : (1 : Int32).toInt = 1 := rfl
  have l3 : (3 : Int32).toInt = 3 := rfl
  have l4 : (4 : Int32).toInt = 4 := rfl
  have l5 : (5 : Int32).toInt = 5 := rfl
  have l99 : (99 : Int32).toInt = 99 := rfl
  refine w_aload rfl rfl ?_
  refine c_getR (t := some L) rfl rfl rfl rfl h3 ?_
  refine c_getI rfl (sh_land (by omega)) rfl rfl ?_
  have q1 : 0 ≤ (a L 8).toInt ∧ (a L 8).toInt ≤ 4 := RC.ran hR (by omega)
  refine w_const rfl ?_
  refine w_ic_lt rfl (fun c2 => ?_) (fun c2 => ?_)
  · skip
    refine w_aload rfl rfl ?_
    refine c_getR (t := some 1) rfl rfl rfl rfl rfl ?_
    refine w_invV (rest := []) rfl rfl rfl rfl rfl (Nat.le_of_ble_eq_true rfl) rfl (by omega) (s_X8_advance (K := K) a b v   hR  ) (fun z3 h9 hq4 => ?_)
    obtain ⟨a5, b6, v7, rfl, ha5, fa5, rfl⟩ := hq4
    show f_wp _ (24, [some (.inr (.inr (some 6))), none], [], cH a5 b6 v7) _
    refine w_aload rfl rfl ?_
    refine w_const rfl ?_
    refine w_const rfl ?_
    refine w_invV (rest := []) rfl rfl rfl rfl rfl (Nat.le_of_ble_eq_true rfl) rfl (by omega) (s_X6_isNumber (K := K) a5 b6 v7  0 99 ha5  ) (fun z8 h9 hq9 => ?_)
    obtain ⟨a10, rfl, ha10, fa10, x11, rfl, px11⟩ := hq9
    show f_wp _ (31, [some (.inr (.inr (some 6))), none], [.inl x11], cH a10 b6 v7) _
    refine w_if_ne rfl (fun c12 => ?_) (fun c12 => ?_)
    · skip
      refine w_const rfl ?_
      exact wp_iret (z := true) rfl (fun _ => by first | exact Or.inl rfl | exact Or.inr rfl | (rcases (by omega : (0 : Int32).toInt = 0 ∨ (0 : Int32).toInt = 1) with h8 | h8; exact Or.inl (ti_eq h8); exact Or.inr (ti_eq h8))) ⟨a10, b6, v7, rfl, ha10, ⟨FR.tr (FR.tr (FR.rf) (FR.sub fa5.1 (by first | exact (fun _ h9 => h9) | decide | (intro c9 h9; simp only [List.mem_cons, List.not_mem_nil, or_false] at h9 ⊢; omega) | (intro c9 h9; simp at h9; simp [cA]; omega) | (intro c9 h9; simp at h9; simp [cB]; omega) | (intro c9 h9; simp [cA] at h9; simp [cB]; omega)))) (FR.sub fa10.1 (by first | exact (fun _ h9 => h9) | decide | (intro c9 h9; simp only [List.mem_cons, List.not_mem_nil, or_false] at h9 ⊢; omega) | (intro c9 h9; simp at h9; simp [cA]; omega) | (intro c9 h9; simp at h9; simp [cB]; omega) | (intro c9 h9; simp [cA] at h9; simp [cB]; omega))), ⟨fun i9 h9 => (fa5.2.1.1 i9 (fun z9 => h9 (by first | exact z9 | (revert z9; simp; done) | (revert z9; simp; omega)))).trans ((show ∀ i9, i9 ∉ [2] → v i9 = v i9 from (fun _ _ => rfl)) i9 h9), fa5.2.1.2⟩, trivial⟩, ⟨_, rfl, by omega⟩⟩
    · skip
      refine w_aload rfl rfl ?_
      refine c_getI rfl rfl rfl rfl ?_
      refine w_istore (lo' := [some (.inr (.inr (some 6))), some (.inl (a10 6 9))]) rfl rfl ?_
      refine w_aload rfl rfl ?_
      refine c_getR (t := some L) rfl rfl rfl rfl ((fa5.2.1.1 3 (by decide)).trans h3) ?_
      refine w_iload rfl rfl ?_
      refine w_invV (rest := []) rfl rfl (sh_land (by omega)) rfl rfl (Nat.le_of_ble_eq_true rfl) rfl (by omega) (s_X3_hasRange (K := K) a10 b6 v7  L (a10 6 9) ha10  (by omega)) (fun z13 h9 hq14 => ?_)
      obtain ⟨rfl, x15, rfl, px15⟩ := hq14
      show f_wp _ (49, [some (.inr (.inr (some 6))), some (.inl (a10 6 9))], [.inl x15], cH a10 b6 v7) _
      refine w_if_eq rfl (fun c16 => ?_) (fun c16 => ?_)
      · skip
        refine w_aload rfl rfl ?_
        refine c_getR (t := some 1) rfl rfl rfl rfl rfl ?_
        refine w_invV (rest := []) rfl rfl rfl rfl rfl (Nat.le_of_ble_eq_true rfl) rfl (by omega) (s_X8_advance (K := K) a10 b6 v7   ha10  ) (fun z17 h9 hq18 => ?_)
        obtain ⟨a19, b20, v21, rfl, ha19, fa19, rfl⟩ := hq18
        show f_wp _ (65, [some (.inr (.inr (some 6))), some (.inl (a10 6 9))], [], cH a19 b20 v21) _
        refine w_aload rfl rfl ?_
        refine w_const rfl ?_
        refine w_const rfl ?_
        refine w_const rfl ?_
        refine w_invV (rest := []) rfl rfl rfl rfl rfl (Nat.le_of_ble_eq_true rfl) rfl (by omega) (s_X6_numberBehind (K := K) a19 b20 v21  1010 1 99 ha19  (fa19.2.1.2) (by omega)) (fun z22 h9 hq23 => ?_)
        obtain ⟨a24, b25, v26, rfl, ha24, fa24, x27, rfl, px27⟩ := hq23
        show f_wp _ (75, [some (.inr (.inr (some 6))), some (.inl (a10 6 9))], [.inl x27], cH a24 b25 v26) _
        refine w_if_ne rfl (fun c28 => ?_) (fun c28 => ?_)
        · skip
          refine w_const rfl ?_
          exact wp_iret (z := true) rfl (fun _ => by first | exact Or.inl rfl | exact Or.inr rfl | (rcases (by omega : (0 : Int32).toInt = 0 ∨ (0 : Int32).toInt = 1) with h8 | h8; exact Or.inl (ti_eq h8); exact Or.inr (ti_eq h8))) ⟨a24, b25, v26, rfl, ha24, ⟨FR.tr (FR.tr (FR.tr (FR.tr (FR.rf) (FR.sub fa5.1 (by first | exact (fun _ h9 => h9) | decide | (intro c9 h9; simp only [List.mem_cons, List.not_mem_nil, or_false] at h9 ⊢; omega) | (intro c9 h9; simp at h9; simp [cA]; omega) | (intro c9 h9; simp at h9; simp [cB]; omega) | (intro c9 h9; simp [cA] at h9; simp [cB]; omega)))) (FR.sub fa10.1 (by first | exact (fun _ h9 => h9) | decide | (intro c9 h9; simp only [List.mem_cons, List.not_mem_nil, or_false] at h9 ⊢; omega) | (intro c9 h9; simp at h9; simp [cA]; omega) | (intro c9 h9; simp at h9; simp [cB]; omega) | (intro c9 h9; simp [cA] at h9; simp [cB]; omega)))) (FR.sub fa19.1 (by first | exact (fun _ h9 => h9) | decide | (intro c9 h9; simp only [List.mem_cons, List.not_mem_nil, or_false] at h9 ⊢; omega) | (intro c9 h9; simp at h9; simp [cA]; omega) | (intro c9 h9; simp at h9; simp [cB]; omega) | (intro c9 h9; simp [cA] at h9; simp [cB]; omega)))) (FR.sub fa24.1 (by first | exact (fun _ h9 => h9) | decide | (intro c9 h9; simp only [List.mem_cons, List.not_mem_nil, or_false] at h9 ⊢; omega) | (intro c9 h9; simp at h9; simp [cA]; omega) | (intro c9 h9; simp at h9; simp [cB]; omega) | (intro c9 h9; simp [cA] at h9; simp [cB]; omega))), ⟨fun i9 h9 => (fa24.2.1.1 i9 (fun z9 => h9 (by first | exact z9 | (revert z9; simp; done) | (revert z9; simp; omega)))).trans ((show ∀ i9, i9 ∉ [2] → v21 i9 = v i9 from fun i9 h9 => (fa19.2.1.1 i9 (fun z9 => h9 (by first | exact z9 | (revert z9; simp; done) | (revert z9; simp; omega)))).trans ((show ∀ i9, i9 ∉ [2] → v7 i9 = v i9 from fun i9 h9 => (fa5.2.1.1 i9 (fun z9 => h9 (by first | exact z9 | (revert z9; simp; done) | (revert z9; simp; omega)))).trans ((show ∀ i9, i9 ∉ [2] → v i9 = v i9 from (fun _ _ => rfl)) i9 h9)) i9 h9)) i9 h9), fa24.2.1.2⟩, trivial⟩, ⟨_, rfl, by omega⟩⟩
        · skip
          refine w_aload rfl rfl ?_
          refine c_getR (t := some L) rfl rfl rfl rfl ((fa24.2.1.1 3 (by decide)).trans ((fa19.2.1.1 3 (by decide)).trans ((fa5.2.1.1 3 (by decide)).trans h3))) ?_
          refine c_getR (t := some (L + 2)) rfl (sh_land (by omega)) rfl rfl (rC_land1 (by omega)) ?_
          refine w_aload rfl rfl ?_
          refine c_getR (t := some L) rfl rfl rfl rfl ((fa24.2.1.1 3 (by decide)).trans ((fa19.2.1.1 3 (by decide)).trans ((fa5.2.1.1 3 (by decide)).trans h3))) ?_
          refine c_getI rfl (sh_land (by omega)) rfl rfl ?_
          have q29 : 0 ≤ (a24 L 8).toInt ∧ (a24 L 8).toInt ≤ 4 := RC.ran ha24 (by omega)
          have k9_a24 : (a24 L 8).toInt = (a L 8).toInt := by rw [fa24.1 L (by simp only [List.mem_cons, List.not_mem_nil, or_false, not_or]; omega), fa19.1 L (by simp only [List.mem_cons, List.not_mem_nil, or_false, not_or]; omega), fa10.1 L (by simp only [List.mem_cons, List.not_mem_nil, or_false, not_or]; omega), fa5.1 L (by simp only [List.mem_cons, List.not_mem_nil, or_false, not_or]; omega)]
          refine w_iload rfl rfl ?_
          refine c_iast rfl (sh_rng (by omega)) (by omega) (fun a30 ea30 => ?_)
          have ha30 : RC K a30 := RC.up ha24 ea30 (lc_any _ (by omega))
          have ra30_72 : (a30 L 8).toInt = (a24 L 8).toInt := by rw [ea30, mU_cell (by omega)]
          refine w_aload rfl rfl ?_
          refine c_getR (t := some L) rfl rfl rfl rfl ((fa24.2.1.1 3 (by decide)).trans ((fa19.2.1.1 3 (by decide)).trans ((fa5.2.1.1 3 (by decide)).trans h3))) ?_
          refine c_getR (t := some (L + 3)) rfl (sh_land (by omega)) rfl rfl (rC_land2 (by omega)) ?_
          refine w_aload rfl rfl ?_
          refine c_getR (t := some L) rfl rfl rfl rfl ((fa24.2.1.1 3 (by decide)).trans ((fa19.2.1.1 3 (by decide)).trans ((fa5.2.1.1 3 (by decide)).trans h3))) ?_
          refine c_getI rfl (sh_land (by omega)) rfl rfl ?_
          have q31 : 0 ≤ (a30 L 8).toInt ∧ (a30 L 8).toInt ≤ 4 := RC.ran ha30 (by omega)
          have k9_a30 : (a30 L 8).toInt = (a L 8).toInt := by rw [ea30, mU_cell (by omega), fa24.1 L (by simp only [List.mem_cons, List.not_mem_nil, or_false, not_or]; omega), fa19.1 L (by simp only [List.mem_cons, List.not_mem_nil, or_false, not_or]; omega), fa10.1 L (by simp only [List.mem_cons, List.not_mem_nil, or_false, not_or]; omega), fa5.1 L (by simp only [List.mem_cons, List.not_mem_nil, or_false, not_or]; omega)]
          refine w_aload rfl rfl ?_
          refine c_getI rfl rfl rfl rfl ?_
          refine c_iast rfl (sh_rng (by omega)) (by omega) (fun a32 ea32 => ?_)
          have ha32 : RC K a32 := RC.up ha30 ea32 (lc_any _ (by omega))
          have ra32_85 : (a32 6 9).toInt = (a30 6 9).toInt := by rw [ea32, mU_cell (by omega)]
          have ra32_86 : (a32 L 8).toInt = (a30 L 8).toInt := by rw [ea32, mU_cell (by omega)]
          refine w_aload rfl rfl ?_
          refine c_getR (t := some L) rfl rfl rfl rfl ((fa24.2.1.1 3 (by decide)).trans ((fa19.2.1.1 3 (by decide)).trans ((fa5.2.1.1 3 (by decide)).trans h3))) ?_
          refine w_dup rfl rfl ?_
          refine c_getI rfl (sh_land (by omega)) rfl rfl ?_
          have q33 : 0 ≤ (a32 L 8).toInt ∧ (a32 L 8).toInt ≤ 4 := RC.ran ha32 (by omega)
          have k9_a32 : (a32 L 8).toInt = (a L 8).toInt := by rw [ea32, mU_cell (by omega), ea30, mU_cell (by omega), fa24.1 L (by simp only [List.mem_cons, List.not_mem_nil, or_false, not_or]; omega), fa19.1 L (by simp only [List.mem_cons, List.not_mem_nil, or_false, not_or]; omega), fa10.1 L (by simp only [List.mem_cons, List.not_mem_nil, or_false, not_or]; omega), fa5.1 L (by simp only [List.mem_cons, List.not_mem_nil, or_false, not_or]; omega)]
          refine w_const rfl ?_
          first | refine w_iadd rfl (by omega) (fun x34 tx34 => ?_) | refine w_iiU rfl (fun x34 tx34 => ?_)
          refine c_putI (z := false) rfl (sh_land (by omega)) rfl rfl (by first | (intro h9; cases h9; done) | (intro _; first | exact Or.inl rfl | exact Or.inr rfl | assumption | (rcases (by omega : x34.toInt = 0 ∨ x34.toInt = 1) with h8 | h8; exact Or.inl (ti_eq h8); exact Or.inr (ti_eq h8)))) (fun a35 ea35 => ?_)
          have ha35 : RC K a35 := RC.up ha32 ea35 (lc_ran (by omega) (by omega))
          have ua35 : a35 L 8 = x34 := by rw [ea35, mU_same]
          have wa35 := congrArg Int32.toInt ua35
          have ra35_99 : (a35 6 9).toInt = (a32 6 9).toInt := by rw [ea35, mU_cell (by omega)]
          refine w_const rfl ?_
          exact wp_iret (z := true) rfl (fun _ => by first | exact Or.inl rfl | exact Or.inr rfl | (rcases (by omega : (1 : Int32).toInt = 0 ∨ (1 : Int32).toInt = 1) with h8 | h8; exact Or.inl (ti_eq h8); exact Or.inr (ti_eq h8))) ⟨a35, b25, v26, rfl, ha35, ⟨FR.up (FR.up (FR.up (FR.tr (FR.tr (FR.tr (FR.tr (FR.rf) (FR.sub fa5.1 (by first | exact (fun _ h9 => h9) | decide | (intro c9 h9; simp only [List.mem_cons, List.not_mem_nil, or_false] at h9 ⊢; omega) | (intro c9 h9; simp at h9; simp [cA]; omega) | (intro c9 h9; simp at h9; simp [cB]; omega) | (intro c9 h9; simp [cA] at h9; simp [cB]; omega)))) (FR.sub fa10.1 (by first | exact (fun _ h9 => h9) | decide | (intro c9 h9; simp only [List.mem_cons, List.not_mem_nil, or_false] at h9 ⊢; omega) | (intro c9 h9; simp at h9; simp [cA]; omega) | (intro c9 h9; simp at h9; simp [cB]; omega) | (intro c9 h9; simp [cA] at h9; simp [cB]; omega)))) (FR.sub fa19.1 (by first | exact (fun _ h9 => h9) | decide | (intro c9 h9; simp only [List.mem_cons, List.not_mem_nil, or_false] at h9 ⊢; omega) | (intro c9 h9; simp at h9; simp [cA]; omega) | (intro c9 h9; simp at h9; simp [cB]; omega) | (intro c9 h9; simp [cA] at h9; simp [cB]; omega)))) (FR.sub fa24.1 (by first | exact (fun _ h9 => h9) | decide | (intro c9 h9; simp only [List.mem_cons, List.not_mem_nil, or_false] at h9 ⊢; omega) | (intro c9 h9; simp at h9; simp [cA]; omega) | (intro c9 h9; simp at h9; simp [cB]; omega) | (intro c9 h9; simp [cA] at h9; simp [cB]; omega)))) (by first | decide | simp | (simp [cA]; omega) | (simp [cB]; omega)) ea30) (by first | decide | simp | (simp [cA]; omega) | (simp [cB]; omega)) ea32) (by first | decide | simp | (simp [cA]; omega) | (simp [cB]; omega)) ea35, ⟨fun i9 h9 => (fa24.2.1.1 i9 (fun z9 => h9 (by first | exact z9 | (revert z9; simp; done) | (revert z9; simp; omega)))).trans ((show ∀ i9, i9 ∉ [2] → v21 i9 = v i9 from fun i9 h9 => (fa19.2.1.1 i9 (fun z9 => h9 (by first | exact z9 | (revert z9; simp; done) | (revert z9; simp; omega)))).trans ((show ∀ i9, i9 ∉ [2] → v7 i9 = v i9 from fun i9 h9 => (fa5.2.1.1 i9 (fun z9 => h9 (by first | exact z9 | (revert z9; simp; done) | (revert z9; simp; omega)))).trans ((show ∀ i9, i9 ∉ [2] → v i9 = v i9 from (fun _ _ => rfl)) i9 h9)) i9 h9)) i9 h9), fa24.2.1.2⟩, trivial⟩, ⟨_, rfl, by omega⟩⟩
      · skip
        refine w_aload rfl rfl ?_
        refine w_const rfl ?_
        refine w_invV (rest := []) rfl rfl rfl rfl rfl (Nat.le_of_ble_eq_true rfl) rfl (by omega) (s_X6_fail (K := K) a10 b6 v7  3 ha10  ) (fun z36 h9 hq37 => ?_)
        obtain ⟨a38, rfl, ha38, fa38, x39, rfl, px39⟩ := hq37
        show f_wp _ (57, [some (.inr (.inr (some 6))), some (.inl (a10 6 9))], [.inl x39], cH a38 b6 v7) _
        exact wp_iret (z := true) rfl (fun _ => by first | exact Or.inl rfl | exact Or.inr rfl | (rcases (by omega : x39.toInt = 0 ∨ x39.toInt = 1) with h8 | h8; exact Or.inl (ti_eq h8); exact Or.inr (ti_eq h8))) ⟨a38, b6, v7, rfl, ha38, ⟨FR.tr (FR.tr (FR.tr (FR.rf) (FR.sub fa5.1 (by first | exact (fun _ h9 => h9) | decide | (intro c9 h9; simp only [List.mem_cons, List.not_mem_nil, or_false] at h9 ⊢; omega) | (intro c9 h9; simp at h9; simp [cA]; omega) | (intro c9 h9; simp at h9; simp [cB]; omega) | (intro c9 h9; simp [cA] at h9; simp [cB]; omega)))) (FR.sub fa10.1 (by first | exact (fun _ h9 => h9) | decide | (intro c9 h9; simp only [List.mem_cons, List.not_mem_nil, or_false] at h9 ⊢; omega) | (intro c9 h9; simp at h9; simp [cA]; omega) | (intro c9 h9; simp at h9; simp [cB]; omega) | (intro c9 h9; simp [cA] at h9; simp [cB]; omega)))) (FR.sub fa38.1 (by first | exact (fun _ h9 => h9) | decide | (intro c9 h9; simp only [List.mem_cons, List.not_mem_nil, or_false] at h9 ⊢; omega) | (intro c9 h9; simp at h9; simp [cA]; omega) | (intro c9 h9; simp at h9; simp [cB]; omega) | (intro c9 h9; simp [cA] at h9; simp [cB]; omega))), ⟨fun i9 h9 => (fa5.2.1.1 i9 (fun z9 => h9 (by first | exact z9 | (revert z9; simp; done) | (revert z9; simp; omega)))).trans ((show ∀ i9, i9 ∉ [2] → v i9 = v i9 from (fun _ _ => rfl)) i9 h9), fa5.2.1.2⟩, trivial⟩, ⟨_, rfl, by omega⟩⟩
  · skip
    refine w_aload rfl rfl ?_
    refine w_const rfl ?_
    refine w_invV (rest := []) rfl rfl rfl rfl rfl (Nat.le_of_ble_eq_true rfl) rfl (by omega) (s_X6_fail (K := K) a b v  5 hR  ) (fun z40 h9 hq41 => ?_)
    obtain ⟨a42, rfl, ha42, fa42, x43, rfl, px43⟩ := hq41
    show f_wp _ (16, [some (.inr (.inr (some 6))), none], [.inl x43], cH a42 b v) _
    exact wp_iret (z := true) rfl (fun _ => by first | exact Or.inl rfl | exact Or.inr rfl | (rcases (by omega : x43.toInt = 0 ∨ x43.toInt = 1) with h8 | h8; exact Or.inl (ti_eq h8); exact Or.inr (ti_eq h8))) ⟨a42, b, v, rfl, ha42, ⟨FR.tr (FR.rf) (FR.sub fa42.1 (by first | exact (fun _ h9 => h9) | decide | (intro c9 h9; simp only [List.mem_cons, List.not_mem_nil, or_false] at h9 ⊢; omega) | (intro c9 h9; simp at h9; simp [cA]; omega) | (intro c9 h9; simp at h9; simp [cB]; omega) | (intro c9 h9; simp [cA] at h9; simp [cB]; omega))), ⟨(fun _ _ => rfl), hw⟩, trivial⟩, ⟨_, rfl, by omega⟩⟩
set_option maxRecDepth 4000 in
theorem s_X6_passOnce {K : Nat} (a : Nat → Nat → Int32) (b : Nat → Nat → Int64) (v : Nat → Option Nat) (p : Int32) (hR : RC K a) (hw : f_wdb (v 2) = true) : f_call mtC 2 66 [.inr (.inr (some 6)), .inl p] (cH a b v) (fun v9 h' => ∃ (a' : Nat → Nat → Int32) (b' : Nat → Nat → Int64) (v' : Nat → Option Nat), h' = cH a' b' v' ∧ RC K a' ∧ (FR [1, 6] a a' ∧ ((∀ i, i ∉ [2] → v' i = v i) ∧ f_wdb (v' 2) = true) ∧ True) ∧ ∃ x : Int32, v9 = some (.inl x) ∧ (x.toInt = 0 ∨ x.toInt = 1)) := by
  refine f_call_of (d0 := 1) rfl (Nat.le_of_ble_eq_true rfl) (fun d hd => ?_)
  show f_wp _ (0, [some (.inr (.inr (some 6))), some (.inl p)], [], cH a b v) _
  have l1 : (1 : Int32).toInt = 1 := rfl
  have l3 : (3 : Int32).toInt = 3 := rfl
  refine w_aload rfl rfl ?_
  refine c_getI rfl rfl rfl rfl ?_
  refine w_iload rfl rfl ?_
  refine w_iiE rfl (fun x1 tx1 => ?_)
  refine w_if_eq rfl (fun c2 => ?_) (fun c2 => ?_)
  · skip
    refine w_aload rfl rfl ?_
    refine w_dup rfl rfl ?_
    refine c_getI rfl rfl rfl rfl ?_
    refine w_iload rfl rfl ?_
    refine w_iiE rfl (fun x3 tx3 => ?_)
    refine c_putI (z := false) rfl rfl rfl rfl (by first | (intro h9; cases h9; done) | (intro _; first | exact Or.inl rfl | exact Or.inr rfl | assumption | (rcases (by omega : x3.toInt = 0 ∨ x3.toInt = 1) with h8 | h8; exact Or.inl (ti_eq h8); exact Or.inr (ti_eq h8)))) (fun a4 ea4 => ?_)
    have ha4 : RC K a4 := RC.up hR ea4 (lc_any _ (by omega))
    have ua4 : a4 6 8 = x3 := by rw [ea4, mU_same]
    have wa4 := congrArg Int32.toInt ua4
    refine w_aload rfl rfl ?_
    refine c_getR (t := some 1) rfl rfl rfl rfl rfl ?_
    refine w_invV (rest := []) rfl rfl rfl rfl rfl (Nat.le_of_ble_eq_true rfl) rfl (by omega) (s_X8_advance (K := K) a4 b v   ha4  ) (fun z5 h9 hq6 => ?_)
    obtain ⟨a7, b8, v9, rfl, ha7, fa7, rfl⟩ := hq6
    show f_wp _ (32, [some (.inr (.inr (some 6))), some (.inl p)], [], cH a7 b8 v9) _
    refine w_const rfl ?_
    exact wp_iret (z := true) rfl (fun _ => by first | exact Or.inl rfl | exact Or.inr rfl | (rcases (by omega : (1 : Int32).toInt = 0 ∨ (1 : Int32).toInt = 1) with h8 | h8; exact Or.inl (ti_eq h8); exact Or.inr (ti_eq h8))) ⟨a7, b8, v9, rfl, ha7, ⟨FR.tr (FR.up (FR.rf) (by first | decide | simp | (simp [cA]; omega) | (simp [cB]; omega)) ea4) (FR.sub fa7.1 (by first | exact (fun _ h9 => h9) | decide | (intro c9 h9; simp only [List.mem_cons, List.not_mem_nil, or_false] at h9 ⊢; omega) | (intro c9 h9; simp at h9; simp [cA]; omega) | (intro c9 h9; simp at h9; simp [cB]; omega) | (intro c9 h9; simp [cA] at h9; simp [cB]; omega))), ⟨fun i9 h9 => (fa7.2.1.1 i9 (fun z9 => h9 (by first | exact z9 | (revert z9; simp; done) | (revert z9; simp; omega)))).trans ((show ∀ i9, i9 ∉ [2] → v i9 = v i9 from (fun _ _ => rfl)) i9 h9), fa7.2.1.2⟩, trivial⟩, ⟨_, rfl, by omega⟩⟩
  · skip
    refine w_aload rfl rfl ?_
    refine w_const rfl ?_
    refine w_invV (rest := []) rfl rfl rfl rfl rfl (Nat.le_of_ble_eq_true rfl) rfl (by omega) (s_X6_fail (K := K) a b v  3 hR  ) (fun z10 h9 hq11 => ?_)
    obtain ⟨a12, rfl, ha12, fa12, x13, rfl, px13⟩ := hq11
    show f_wp _ (14, [some (.inr (.inr (some 6))), some (.inl p)], [.inl x13], cH a12 b v) _
    exact wp_iret (z := true) rfl (fun _ => by first | exact Or.inl rfl | exact Or.inr rfl | (rcases (by omega : x13.toInt = 0 ∨ x13.toInt = 1) with h8 | h8; exact Or.inl (ti_eq h8); exact Or.inr (ti_eq h8))) ⟨a12, b, v, rfl, ha12, ⟨FR.tr (FR.rf) (FR.sub fa12.1 (by first | exact (fun _ h9 => h9) | decide | (intro c9 h9; simp only [List.mem_cons, List.not_mem_nil, or_false] at h9 ⊢; omega) | (intro c9 h9; simp at h9; simp [cA]; omega) | (intro c9 h9; simp at h9; simp [cB]; omega) | (intro c9 h9; simp [cA] at h9; simp [cB]; omega))), ⟨(fun _ _ => rfl), hw⟩, trivial⟩, ⟨_, rfl, by omega⟩⟩
set_option maxRecDepth 4000 in
theorem s_X6_kinLine {K : Nat} (a : Nat → Nat → Int32) (b : Nat → Nat → Int64) (v : Nat → Option Nat) (L : Nat)  (hR : RC K a) (hw : f_wdb (v 2) = true) (h3 : v 3 = some L) (hL : L = 22 ∨ L = 46) : f_call mtC 4 67 [.inr (.inr (some 6))] (cH a b v) (fun v9 h' => ∃ (a' : Nat → Nat → Int32) (b' : Nat → Nat → Int64) (v' : Nat → Option Nat), h' = cH a' b' v' ∧ RC K a' ∧ (FR [1, 6, L] a a' ∧ ((∀ i, i ∉ [2] → v' i = v i) ∧ f_wdb (v' 2) = true) ∧ True) ∧ ∃ x : Int32, v9 = some (.inl x) ∧ (x.toInt = 0 ∨ x.toInt = 1)) := by
  refine f_call_of (d0 := 3) rfl (Nat.le_of_ble_eq_true rfl) (fun d hd => ?_)
  show f_wp _ (0, [some (.inr (.inr (some 6)))], [], cH a b v) _
  have l0 : (0 : Int32).toInt = 0 := rfl
  have l1 : (1 : Int32).toInt = 1 := rfl
  have l9 : (9 : Int32).toInt = 9 := rfl
  refine w_aload rfl rfl ?_
  refine w_const rfl ?_
  refine w_invV (rest := []) rfl rfl rfl rfl rfl (Nat.le_of_ble_eq_true rfl) rfl (by omega) (s_X6_passOnce (K := K) a b v  1 hR  (hw)) (fun z1 h9 hq2 => ?_)
  obtain ⟨a3, b4, v5, rfl, ha3, fa3, x6, rfl, px6⟩ := hq2
  show f_wp _ (5, [some (.inr (.inr (some 6)))], [.inl x6], cH a3 b4 v5) _
  refine w_if_eq rfl (fun c7 => ?_) (fun c7 => ?_)
  · skip
    refine w_const rfl ?_
    exact wp_iret (z := true) rfl (fun _ => by first | exact Or.inl rfl | exact Or.inr rfl | (rcases (by omega : (0 : Int32).toInt = 0 ∨ (0 : Int32).toInt = 1) with h8 | h8; exact Or.inl (ti_eq h8); exact Or.inr (ti_eq h8))) ⟨a3, b4, v5, rfl, ha3, ⟨FR.tr (FR.rf) (FR.sub fa3.1 (by first | exact (fun _ h9 => h9) | decide | (intro c9 h9; simp only [List.mem_cons, List.not_mem_nil, or_false] at h9 ⊢; omega) | (intro c9 h9; simp at h9; simp [cA]; omega) | (intro c9 h9; simp at h9; simp [cB]; omega) | (intro c9 h9; simp [cA] at h9; simp [cB]; omega))), ⟨fun i9 h9 => (fa3.2.1.1 i9 (fun z9 => h9 (by first | exact z9 | (revert z9; simp; done) | (revert z9; simp; omega)))).trans ((show ∀ i9, i9 ∉ [2] → v i9 = v i9 from (fun _ _ => rfl)) i9 h9), fa3.2.1.2⟩, trivial⟩, ⟨_, rfl, by omega⟩⟩
  · skip
    refine w_aload rfl rfl ?_
    refine w_const rfl ?_
    refine w_const rfl ?_
    refine w_invV (rest := []) rfl rfl rfl rfl rfl (Nat.le_of_ble_eq_true rfl) rfl (by omega) (s_X6_passNumber (K := K) a3 b4 v5  0 9 ha3  (fa3.2.1.2)) (fun z8 h9 hq9 => ?_)
    obtain ⟨a10, b11, v12, rfl, ha10, fa10, x13, rfl, px13⟩ := hq9
    show f_wp _ (15, [some (.inr (.inr (some 6)))], [.inl x13], cH a10 b11 v12) _
    refine w_if_ne rfl (fun c14 => ?_) (fun c14 => ?_)
    · skip
      refine w_const rfl ?_
      exact wp_iret (z := true) rfl (fun _ => by first | exact Or.inl rfl | exact Or.inr rfl | (rcases (by omega : (0 : Int32).toInt = 0 ∨ (0 : Int32).toInt = 1) with h8 | h8; exact Or.inl (ti_eq h8); exact Or.inr (ti_eq h8))) ⟨a10, b11, v12, rfl, ha10, ⟨FR.tr (FR.tr (FR.rf) (FR.sub fa3.1 (by first | exact (fun _ h9 => h9) | decide | (intro c9 h9; simp only [List.mem_cons, List.not_mem_nil, or_false] at h9 ⊢; omega) | (intro c9 h9; simp at h9; simp [cA]; omega) | (intro c9 h9; simp at h9; simp [cB]; omega) | (intro c9 h9; simp [cA] at h9; simp [cB]; omega)))) (FR.sub fa10.1 (by first | exact (fun _ h9 => h9) | decide | (intro c9 h9; simp only [List.mem_cons, List.not_mem_nil, or_false] at h9 ⊢; omega) | (intro c9 h9; simp at h9; simp [cA]; omega) | (intro c9 h9; simp at h9; simp [cB]; omega) | (intro c9 h9; simp [cA] at h9; simp [cB]; omega))), ⟨fun i9 h9 => (fa10.2.1.1 i9 (fun z9 => h9 (by first | exact z9 | (revert z9; simp; done) | (revert z9; simp; omega)))).trans ((show ∀ i9, i9 ∉ [2] → v5 i9 = v i9 from fun i9 h9 => (fa3.2.1.1 i9 (fun z9 => h9 (by first | exact z9 | (revert z9; simp; done) | (revert z9; simp; omega)))).trans ((show ∀ i9, i9 ∉ [2] → v i9 = v i9 from (fun _ _ => rfl)) i9 h9)) i9 h9), fa10.2.1.2⟩, trivial⟩, ⟨_, rfl, by omega⟩⟩
    · skip
      refine w_aload rfl rfl ?_
      refine c_getR (t := some L) rfl rfl rfl rfl ((fa10.2.1.1 3 (by decide)).trans ((fa3.2.1.1 3 (by decide)).trans h3)) ?_
      refine w_aload rfl rfl ?_
      refine c_getI rfl rfl rfl rfl ?_
      refine c_putI (z := false) rfl (sh_land (by omega)) rfl rfl (by first | (intro h9; cases h9; done) | (intro _; first | exact Or.inl rfl | exact Or.inr rfl | assumption | (rcases (by omega : (a10 6 9).toInt = 0 ∨ (a10 6 9).toInt = 1) with h8 | h8; exact Or.inl (ti_eq h8); exact Or.inr (ti_eq h8)))) (fun a15 ea15 => ?_)
      have ha15 : RC K a15 := RC.up ha10 ea15 (lc_any _ (by omega))
      have ua15 : a15 L 9 = (a10 6 9) := by rw [ea15, mU_same]
      have wa15 := congrArg Int32.toInt ua15
      have ra15_36 : (a15 6 9).toInt = (a10 6 9).toInt := by rw [ea15, mU_cell (by omega)]
      refine w_const rfl ?_
      exact wp_iret (z := true) rfl (fun _ => by first | exact Or.inl rfl | exact Or.inr rfl | (rcases (by omega : (1 : Int32).toInt = 0 ∨ (1 : Int32).toInt = 1) with h8 | h8; exact Or.inl (ti_eq h8); exact Or.inr (ti_eq h8))) ⟨a15, b11, v12, rfl, ha15, ⟨FR.up (FR.tr (FR.tr (FR.rf) (FR.sub fa3.1 (by first | exact (fun _ h9 => h9) | decide | (intro c9 h9; simp only [List.mem_cons, List.not_mem_nil, or_false] at h9 ⊢; omega) | (intro c9 h9; simp at h9; simp [cA]; omega) | (intro c9 h9; simp at h9; simp [cB]; omega) | (intro c9 h9; simp [cA] at h9; simp [cB]; omega)))) (FR.sub fa10.1 (by first | exact (fun _ h9 => h9) | decide | (intro c9 h9; simp only [List.mem_cons, List.not_mem_nil, or_false] at h9 ⊢; omega) | (intro c9 h9; simp at h9; simp [cA]; omega) | (intro c9 h9; simp at h9; simp [cB]; omega) | (intro c9 h9; simp [cA] at h9; simp [cB]; omega)))) (by first | decide | simp | (simp [cA]; omega) | (simp [cB]; omega)) ea15, ⟨fun i9 h9 => (fa10.2.1.1 i9 (fun z9 => h9 (by first | exact z9 | (revert z9; simp; done) | (revert z9; simp; omega)))).trans ((show ∀ i9, i9 ∉ [2] → v5 i9 = v i9 from fun i9 h9 => (fa3.2.1.1 i9 (fun z9 => h9 (by first | exact z9 | (revert z9; simp; done) | (revert z9; simp; omega)))).trans ((show ∀ i9, i9 ∉ [2] → v i9 = v i9 from (fun _ _ => rfl)) i9 h9)) i9 h9), fa10.2.1.2⟩, trivial⟩, ⟨_, rfl, by omega⟩⟩
set_option maxRecDepth 4000 in
theorem s_X6_stormLine {K : Nat} (a : Nat → Nat → Int32) (b : Nat → Nat → Int64) (v : Nat → Option Nat) (L : Nat)  (hR : RC K a) (hw : f_wdb (v 2) = true) (h3 : v 3 = some L) (hL : L = 22 ∨ L = 46) : f_call mtC 4 68 [.inr (.inr (some 6))] (cH a b v) (fun v9 h' => ∃ (a' : Nat → Nat → Int32) (b' : Nat → Nat → Int64) (v' : Nat → Option Nat), h' = cH a' b' v' ∧ RC K a' ∧ (FR [1, 6, L] a a' ∧ ((∀ i, i ∉ [2] → v' i = v i) ∧ f_wdb (v' 2) = true) ∧ True) ∧ ∃ x : Int32, v9 = some (.inl x) ∧ (x.toInt = 0 ∨ x.toInt = 1)) := by
  refine f_call_of (d0 := 3) rfl (Nat.le_of_ble_eq_true rfl) (fun d hd => ?_)
  show f_wp _ (0, [some (.inr (.inr (some 6)))], [], cH a b v) _
  have l0 : (0 : Int32).toInt = 0 := rfl
  have l1 : (1 : Int32).toInt = 1 := rfl
  have l2 : (2 : Int32).toInt = 2 := rfl
  have l10 : (10 : Int32).toInt = 10 := rfl
  have l99 : (99 : Int32).toInt = 99 := rfl
  refine w_aload rfl rfl ?_
  refine w_const rfl ?_
  refine w_invV (rest := []) rfl rfl rfl rfl rfl (Nat.le_of_ble_eq_true rfl) rfl (by omega) (s_X6_passOnce (K := K) a b v  2 hR  (hw)) (fun z1 h9 hq2 => ?_)
  obtain ⟨a3, b4, v5, rfl, ha3, fa3, x6, rfl, px6⟩ := hq2
  show f_wp _ (5, [some (.inr (.inr (some 6)))], [.inl x6], cH a3 b4 v5) _
  refine w_if_eq rfl (fun c7 => ?_) (fun c7 => ?_)
  · skip
    refine w_const rfl ?_
    exact wp_iret (z := true) rfl (fun _ => by first | exact Or.inl rfl | exact Or.inr rfl | (rcases (by omega : (0 : Int32).toInt = 0 ∨ (0 : Int32).toInt = 1) with h8 | h8; exact Or.inl (ti_eq h8); exact Or.inr (ti_eq h8))) ⟨a3, b4, v5, rfl, ha3, ⟨FR.tr (FR.rf) (FR.sub fa3.1 (by first | exact (fun _ h9 => h9) | decide | (intro c9 h9; simp only [List.mem_cons, List.not_mem_nil, or_false] at h9 ⊢; omega) | (intro c9 h9; simp at h9; simp [cA]; omega) | (intro c9 h9; simp at h9; simp [cB]; omega) | (intro c9 h9; simp [cA] at h9; simp [cB]; omega))), ⟨fun i9 h9 => (fa3.2.1.1 i9 (fun z9 => h9 (by first | exact z9 | (revert z9; simp; done) | (revert z9; simp; omega)))).trans ((show ∀ i9, i9 ∉ [2] → v i9 = v i9 from (fun _ _ => rfl)) i9 h9), fa3.2.1.2⟩, trivial⟩, ⟨_, rfl, by omega⟩⟩
  · skip
    refine w_aload rfl rfl ?_
    refine w_const rfl ?_
    refine w_const rfl ?_
    refine w_invV (rest := []) rfl rfl rfl rfl rfl (Nat.le_of_ble_eq_true rfl) rfl (by omega) (s_X6_passNumber (K := K) a3 b4 v5  0 10 ha3  (fa3.2.1.2)) (fun z8 h9 hq9 => ?_)
    obtain ⟨a10, b11, v12, rfl, ha10, fa10, x13, rfl, px13⟩ := hq9
    show f_wp _ (15, [some (.inr (.inr (some 6)))], [.inl x13], cH a10 b11 v12) _
    refine w_if_ne rfl (fun c14 => ?_) (fun c14 => ?_)
    · skip
      refine w_const rfl ?_
      exact wp_iret (z := true) rfl (fun _ => by first | exact Or.inl rfl | exact Or.inr rfl | (rcases (by omega : (0 : Int32).toInt = 0 ∨ (0 : Int32).toInt = 1) with h8 | h8; exact Or.inl (ti_eq h8); exact Or.inr (ti_eq h8))) ⟨a10, b11, v12, rfl, ha10, ⟨FR.tr (FR.tr (FR.rf) (FR.sub fa3.1 (by first | exact (fun _ h9 => h9) | decide | (intro c9 h9; simp only [List.mem_cons, List.not_mem_nil, or_false] at h9 ⊢; omega) | (intro c9 h9; simp at h9; simp [cA]; omega) | (intro c9 h9; simp at h9; simp [cB]; omega) | (intro c9 h9; simp [cA] at h9; simp [cB]; omega)))) (FR.sub fa10.1 (by first | exact (fun _ h9 => h9) | decide | (intro c9 h9; simp only [List.mem_cons, List.not_mem_nil, or_false] at h9 ⊢; omega) | (intro c9 h9; simp at h9; simp [cA]; omega) | (intro c9 h9; simp at h9; simp [cB]; omega) | (intro c9 h9; simp [cA] at h9; simp [cB]; omega))), ⟨fun i9 h9 => (fa10.2.1.1 i9 (fun z9 => h9 (by first | exact z9 | (revert z9; simp; done) | (revert z9; simp; omega)))).trans ((show ∀ i9, i9 ∉ [2] → v5 i9 = v i9 from fun i9 h9 => (fa3.2.1.1 i9 (fun z9 => h9 (by first | exact z9 | (revert z9; simp; done) | (revert z9; simp; omega)))).trans ((show ∀ i9, i9 ∉ [2] → v i9 = v i9 from (fun _ _ => rfl)) i9 h9)) i9 h9), fa10.2.1.2⟩, trivial⟩, ⟨_, rfl, by omega⟩⟩
    · skip
      refine w_aload rfl rfl ?_
      refine c_getR (t := some L) rfl rfl rfl rfl ((fa10.2.1.1 3 (by decide)).trans ((fa3.2.1.1 3 (by decide)).trans h3)) ?_
      refine w_aload rfl rfl ?_
      refine c_getI rfl rfl rfl rfl ?_
      refine c_putI (z := false) rfl (sh_land (by omega)) rfl rfl (by first | (intro h9; cases h9; done) | (intro _; first | exact Or.inl rfl | exact Or.inr rfl | assumption | (rcases (by omega : (a10 6 9).toInt = 0 ∨ (a10 6 9).toInt = 1) with h8 | h8; exact Or.inl (ti_eq h8); exact Or.inr (ti_eq h8)))) (fun a15 ea15 => ?_)
      have ha15 : RC K a15 := RC.up ha10 ea15 (lc_any _ (by omega))
      have ua15 : a15 L 10 = (a10 6 9) := by rw [ea15, mU_same]
      have wa15 := congrArg Int32.toInt ua15
      have ra15_38 : (a15 6 9).toInt = (a10 6 9).toInt := by rw [ea15, mU_cell (by omega)]
      refine w_aload rfl rfl ?_
      refine w_const rfl ?_
      refine w_const rfl ?_
      refine w_const rfl ?_
      refine w_invV (rest := []) rfl rfl rfl rfl rfl (Nat.le_of_ble_eq_true rfl) rfl (by omega) (s_X6_numberBehind (K := K) a15 b11 v12  1013 0 99 ha15  (fa10.2.1.2) (by omega)) (fun z16 h9 hq17 => ?_)
      obtain ⟨a18, b19, v20, rfl, ha18, fa18, x21, rfl, px21⟩ := hq17
      show f_wp _ (41, [some (.inr (.inr (some 6)))], [.inl x21], cH a18 b19 v20) _
      refine w_if_ne rfl (fun c22 => ?_) (fun c22 => ?_)
      · skip
        refine w_const rfl ?_
        exact wp_iret (z := true) rfl (fun _ => by first | exact Or.inl rfl | exact Or.inr rfl | (rcases (by omega : (0 : Int32).toInt = 0 ∨ (0 : Int32).toInt = 1) with h8 | h8; exact Or.inl (ti_eq h8); exact Or.inr (ti_eq h8))) ⟨a18, b19, v20, rfl, ha18, ⟨FR.tr (FR.up (FR.tr (FR.tr (FR.rf) (FR.sub fa3.1 (by first | exact (fun _ h9 => h9) | decide | (intro c9 h9; simp only [List.mem_cons, List.not_mem_nil, or_false] at h9 ⊢; omega) | (intro c9 h9; simp at h9; simp [cA]; omega) | (intro c9 h9; simp at h9; simp [cB]; omega) | (intro c9 h9; simp [cA] at h9; simp [cB]; omega)))) (FR.sub fa10.1 (by first | exact (fun _ h9 => h9) | decide | (intro c9 h9; simp only [List.mem_cons, List.not_mem_nil, or_false] at h9 ⊢; omega) | (intro c9 h9; simp at h9; simp [cA]; omega) | (intro c9 h9; simp at h9; simp [cB]; omega) | (intro c9 h9; simp [cA] at h9; simp [cB]; omega)))) (by first | decide | simp | (simp [cA]; omega) | (simp [cB]; omega)) ea15) (FR.sub fa18.1 (by first | exact (fun _ h9 => h9) | decide | (intro c9 h9; simp only [List.mem_cons, List.not_mem_nil, or_false] at h9 ⊢; omega) | (intro c9 h9; simp at h9; simp [cA]; omega) | (intro c9 h9; simp at h9; simp [cB]; omega) | (intro c9 h9; simp [cA] at h9; simp [cB]; omega))), ⟨fun i9 h9 => (fa18.2.1.1 i9 (fun z9 => h9 (by first | exact z9 | (revert z9; simp; done) | (revert z9; simp; omega)))).trans ((show ∀ i9, i9 ∉ [2] → v12 i9 = v i9 from fun i9 h9 => (fa10.2.1.1 i9 (fun z9 => h9 (by first | exact z9 | (revert z9; simp; done) | (revert z9; simp; omega)))).trans ((show ∀ i9, i9 ∉ [2] → v5 i9 = v i9 from fun i9 h9 => (fa3.2.1.1 i9 (fun z9 => h9 (by first | exact z9 | (revert z9; simp; done) | (revert z9; simp; omega)))).trans ((show ∀ i9, i9 ∉ [2] → v i9 = v i9 from (fun _ _ => rfl)) i9 h9)) i9 h9)) i9 h9), fa18.2.1.2⟩, trivial⟩, ⟨_, rfl, by omega⟩⟩
      · skip
        refine w_aload rfl rfl ?_
        refine c_getR (t := some L) rfl rfl rfl rfl ((fa18.2.1.1 3 (by decide)).trans ((fa10.2.1.1 3 (by decide)).trans ((fa3.2.1.1 3 (by decide)).trans h3))) ?_
        refine w_aload rfl rfl ?_
        refine c_getI rfl rfl rfl rfl ?_
        refine c_putI (z := false) rfl (sh_land (by omega)) rfl rfl (by first | (intro h9; cases h9; done) | (intro _; first | exact Or.inl rfl | exact Or.inr rfl | assumption | (rcases (by omega : (a18 6 9).toInt = 0 ∨ (a18 6 9).toInt = 1) with h8 | h8; exact Or.inl (ti_eq h8); exact Or.inr (ti_eq h8)))) (fun a23 ea23 => ?_)
        have ha23 : RC K a23 := RC.up ha18 ea23 (lc_any _ (by omega))
        have ua23 : a23 L 11 = (a18 6 9) := by rw [ea23, mU_same]
        have wa23 := congrArg Int32.toInt ua23
        have ra23_59 : (a23 6 9).toInt = (a18 6 9).toInt := by rw [ea23, mU_cell (by omega)]
        refine w_const rfl ?_
        exact wp_iret (z := true) rfl (fun _ => by first | exact Or.inl rfl | exact Or.inr rfl | (rcases (by omega : (1 : Int32).toInt = 0 ∨ (1 : Int32).toInt = 1) with h8 | h8; exact Or.inl (ti_eq h8); exact Or.inr (ti_eq h8))) ⟨a23, b19, v20, rfl, ha23, ⟨FR.up (FR.tr (FR.up (FR.tr (FR.tr (FR.rf) (FR.sub fa3.1 (by first | exact (fun _ h9 => h9) | decide | (intro c9 h9; simp only [List.mem_cons, List.not_mem_nil, or_false] at h9 ⊢; omega) | (intro c9 h9; simp at h9; simp [cA]; omega) | (intro c9 h9; simp at h9; simp [cB]; omega) | (intro c9 h9; simp [cA] at h9; simp [cB]; omega)))) (FR.sub fa10.1 (by first | exact (fun _ h9 => h9) | decide | (intro c9 h9; simp only [List.mem_cons, List.not_mem_nil, or_false] at h9 ⊢; omega) | (intro c9 h9; simp at h9; simp [cA]; omega) | (intro c9 h9; simp at h9; simp [cB]; omega) | (intro c9 h9; simp [cA] at h9; simp [cB]; omega)))) (by first | decide | simp | (simp [cA]; omega) | (simp [cB]; omega)) ea15) (FR.sub fa18.1 (by first | exact (fun _ h9 => h9) | decide | (intro c9 h9; simp only [List.mem_cons, List.not_mem_nil, or_false] at h9 ⊢; omega) | (intro c9 h9; simp at h9; simp [cA]; omega) | (intro c9 h9; simp at h9; simp [cB]; omega) | (intro c9 h9; simp [cA] at h9; simp [cB]; omega)))) (by first | decide | simp | (simp [cA]; omega) | (simp [cB]; omega)) ea23, ⟨fun i9 h9 => (fa18.2.1.1 i9 (fun z9 => h9 (by first | exact z9 | (revert z9; simp; done) | (revert z9; simp; omega)))).trans ((show ∀ i9, i9 ∉ [2] → v12 i9 = v i9 from fun i9 h9 => (fa10.2.1.1 i9 (fun z9 => h9 (by first | exact z9 | (revert z9; simp; done) | (revert z9; simp; omega)))).trans ((show ∀ i9, i9 ∉ [2] → v5 i9 = v i9 from fun i9 h9 => (fa3.2.1.1 i9 (fun z9 => h9 (by first | exact z9 | (revert z9; simp; done) | (revert z9; simp; omega)))).trans ((show ∀ i9, i9 ∉ [2] → v i9 = v i9 from (fun _ _ => rfl)) i9 h9)) i9 h9)) i9 h9), fa18.2.1.2⟩, trivial⟩, ⟨_, rfl, by omega⟩⟩
set_option maxRecDepth 4000 in
theorem s_X6_isLink {K : Nat} (a : Nat → Nat → Int32) (b : Nat → Nat → Int64) (v : Nat → Option Nat)  (hR : RC K a) (hw : f_wdb (v 2) = true) : f_call mtC 1 71 [.inr (.inr (some 6))] (cH a b v) (fun v9 h' => h' = cH a b v ∧ ∃ x : Int32, v9 = some (.inl x) ∧ (x.toInt = 0 ∨ x.toInt = 1)) := by
  refine f_call_of (d0 := 0) rfl (Nat.le_of_ble_eq_true rfl) (fun d hd => ?_)
  show f_wp _ (0, [some (.inr (.inr (some 6)))], [], cH a b v) _
  have l0 : (0 : Int32).toInt = 0 := rfl
  have l1 : (1 : Int32).toInt = 1 := rfl
  refine w_aload rfl rfl ?_
  refine c_getR (t := some 1) rfl rfl rfl rfl rfl ?_
  refine c_getR (t := v 2) rfl rfl rfl rfl rfl ?_
  refine w_const rfl ?_
  refine c_aw_eq rfl ⟨hw, rfl⟩ (fun c1 => ?_) (fun c1 => ?_)
  · skip
    refine w_const rfl ?_
    refine w_goto rfl ?_
    exact wp_iret (z := true) rfl (fun _ => by first | exact Or.inl rfl | exact Or.inr rfl | (rcases (by omega : (1 : Int32).toInt = 0 ∨ (1 : Int32).toInt = 1) with h8 | h8; exact Or.inl (ti_eq h8); exact Or.inr (ti_eq h8))) ⟨rfl, ⟨_, rfl, by omega⟩⟩
  · skip
    refine w_aload rfl rfl ?_
    refine c_getR (t := some 1) rfl rfl rfl rfl rfl ?_
    refine c_getR (t := v 2) rfl rfl rfl rfl rfl ?_
    refine w_const rfl ?_
    refine c_aw_ne rfl ⟨hw, rfl⟩ (fun c2 => ?_) (fun c2 => ?_)
    · skip
      refine w_const rfl ?_
      refine w_goto rfl ?_
      exact wp_iret (z := true) rfl (fun _ => by first | exact Or.inl rfl | exact Or.inr rfl | (rcases (by omega : (1 : Int32).toInt = 0 ∨ (1 : Int32).toInt = 1) with h8 | h8; exact Or.inl (ti_eq h8); exact Or.inr (ti_eq h8))) ⟨rfl, ⟨_, rfl, by omega⟩⟩
    · skip
      refine w_const rfl ?_
      exact wp_iret (z := true) rfl (fun _ => by first | exact Or.inl rfl | exact Or.inr rfl | (rcases (by omega : (0 : Int32).toInt = 0 ∨ (0 : Int32).toInt = 1) with h8 | h8; exact Or.inl (ti_eq h8); exact Or.inr (ti_eq h8))) ⟨rfl, ⟨_, rfl, by omega⟩⟩
set_option maxRecDepth 4000 in
theorem s_X6_factStep {K : Nat} (a : Nat → Nat → Int32) (b : Nat → Nat → Int64) (v : Nat → Option Nat)  (hR : RC K a) (hw : f_wdb (v 2) = true) : f_call mtC 2 76 [.inr (.inr (some 6))] (cH a b v) (fun v9 h' => h' = cH a b v ∧ ∃ x : Int32, v9 = some (.inl x) ∧ True) := by
  refine f_call_of (d0 := 1) rfl (Nat.le_of_ble_eq_true rfl) (fun d hd => ?_)
  show f_wp _ (0, [some (.inr (.inr (some 6)))], [], cH a b v) _
  have lm13 : (-13 : Int32).toInt = -13 := rfl
  have lm4 : (-4 : Int32).toInt = -4 := rfl
  have lm3 : (-3 : Int32).toInt = -3 := rfl
  have lm2 : (-2 : Int32).toInt = -2 := rfl
  have lm1 : (-1 : Int32).toInt = -1 := rfl
  refine w_aload rfl rfl ?_
  refine c_getR (t := some 1) rfl rfl rfl rfl rfl ?_
  refine c_getR (t := v 2) rfl rfl rfl rfl rfl ?_
  refine c_ifnull rfl (fun c1 => ?_) (fun w2 c1 => ?_)
  · skip
    refine w_const rfl ?_
    exact wp_iret (z := false) rfl (fun h9 => by cases h9) ⟨rfl, ⟨_, rfl, trivial⟩⟩
  · skip
    have w9 := f_wdb_lt hw w2 c1
    refine w_const rfl ?_
    refine w_aload rfl rfl ?_
    refine c_getR (t := some 1) rfl rfl rfl rfl rfl ?_
    refine c_getR (t := v 2) rfl rfl rfl rfl rfl ?_
    rw [c1]
    refine c_invW (rest := [.inr (.inr (some 1032))]) rfl rfl (pW_some (by omega)) rfl (Nat.le_of_ble_eq_true rfl) rfl (by omega) (s_Jx29ce0_ordinal_8abf5 (K := K) a b v  w2   (by omega)) (fun z3 h9 hq4 => ?_)
    obtain ⟨rfl, x5, rfl, px5⟩ := hq4
    show f_wp _ (26, [some (.inr (.inr (some 6)))], [.inl x5, .inr (.inr (some 1032))], cH a b v) _
    have o9 := px5
    refine c_sel (N := 31) rfl (by omega) ?_
    refine w_tab rfl (fun c6 => ?_) (fun k9 t9 hk9 c6 => ?_)
    · skip
      have c6d := c6
      simp only [List.length_cons, List.length_nil] at c6d
      refine w_const rfl ?_
      exact wp_iret (z := false) rfl (fun h9 => by cases h9) ⟨rfl, ⟨_, rfl, trivial⟩⟩
    · skip
      match k9, hk9, c6 with
      | 0, hk9, c6 =>
        cases hk9
        refine w_const rfl ?_
        exact wp_iret (z := false) rfl (fun h9 => by cases h9) ⟨rfl, ⟨_, rfl, trivial⟩⟩
      | 1, hk9, c6 =>
        cases hk9
        refine w_const rfl ?_
        exact wp_iret (z := false) rfl (fun h9 => by cases h9) ⟨rfl, ⟨_, rfl, trivial⟩⟩
      | 2, hk9, c6 =>
        cases hk9
        refine w_aload rfl rfl ?_
        refine c_getI rfl rfl rfl rfl ?_
        refine w_if_eq rfl (fun c7 => ?_) (fun c7 => ?_)
        · skip
          refine w_const rfl ?_
          exact wp_iret (z := false) rfl (fun h9 => by cases h9) ⟨rfl, ⟨_, rfl, trivial⟩⟩
        · skip
          refine w_const rfl ?_
          refine w_goto rfl ?_
          exact wp_iret (z := false) rfl (fun h9 => by cases h9) ⟨rfl, ⟨_, rfl, trivial⟩⟩
      | 3, hk9, c6 =>
        cases hk9
        refine w_aload rfl rfl ?_
        refine c_getI rfl rfl rfl rfl ?_
        refine w_if_eq rfl (fun c8 => ?_) (fun c8 => ?_)
        · skip
          refine w_const rfl ?_
          exact wp_iret (z := false) rfl (fun h9 => by cases h9) ⟨rfl, ⟨_, rfl, trivial⟩⟩
        · skip
          refine w_const rfl ?_
          refine w_goto rfl ?_
          exact wp_iret (z := false) rfl (fun h9 => by cases h9) ⟨rfl, ⟨_, rfl, trivial⟩⟩
      | n9 + 4, hk9, c6 => simp at hk9
def CPH (K F m c : Nat) (e : Int32) : Prop := ∀ (a : Nat → Nat → Int32) (b : Nat → Nat → Int64) (v : Nat → Option Nat), RC K a → f_wdb (v 2) = true → v 4 = some F → f_call mtC c m [.inr (.inr (some 6)), .inl e] (cH a b v) (fun v9 h' => ∃ (a' : Nat → Nat → Int32) (b' : Nat → Nat → Int64) (v' : Nat → Option Nat), h' = cH a' b' v' ∧ RC K a' ∧ (FR [1, 6, F, F + 1] a a' ∧ ((∀ i, i ∉ [2] → v' i = v i) ∧ f_wdb (v' 2) = true) ∧ True) ∧ ∃ x : Int32, v9 = some (.inl x) ∧ (x.toInt = 0 ∨ x.toInt = 1))
set_option maxRecDepth 4000 in
theorem s_X6_product_r {K F c : Nat} {e : Int32} (hF : F = 26 ∨ F = 29 ∨ F = 50 ∨ F = 53) (hc : 4 ≤ c) (hX : CPH K F 75 c e) : CPH K F 74 (c + 1) e := by
  intro a b v hR hw h4
  refine f_call_of (d0 := c) rfl (Nat.le_of_ble_eq_true rfl) (fun d hd => ?_)
  show f_wp _ (0, [some (.inr (.inr (some 6))), some (.inl e), none, none], [], cH a b v) _
  have lm12 : (-12 : Int32).toInt = -12 := rfl
  have l0 : (0 : Int32).toInt = 0 := rfl
  have l1 : (1 : Int32).toInt = 1 := rfl
  have l42 : (42 : Int32).toInt = 42 := rfl
  have l1000 : (1000 : Int32).toInt = 1000 := rfl
  refine w_aload rfl rfl ?_
  refine w_iload rfl rfl ?_
  refine w_invV (rest := []) rfl rfl rfl rfl rfl (Nat.le_of_ble_eq_true rfl) rfl (by omega) (hX a b v hR hw h4) (fun z1 h9 hq2 => ?_)
  obtain ⟨a3, b4, v5, rfl, ha3, fa3, x6, rfl, px6⟩ := hq2
  show f_wp _ (5, [some (.inr (.inr (some 6))), some (.inl e), none, none], [.inl x6], cH a3 b4 v5) _
  refine w_istore (lo' := [some (.inr (.inr (some 6))), some (.inl e), some (.inl x6), none]) rfl rfl ?_
  refine w_const rfl ?_
  refine w_istore (lo' := [some (.inr (.inr (some 6))), some (.inl e), some (.inl x6), some (.inl 0)]) rfl rfl ?_
  have loop8 : ∀ (ms9 : Nat) (g : Int32) (k : Int32) (a8 : Nat → Nat → Int32) (b8 : Nat → Nat → Int64) (v8 : Nat → Option Nat) , (1000 - k.toInt).toNat = ms9 → RC K a8 → FR [1, 6, F, F + 1] a a8 → (∀ i, i ∉ [2] → v8 i = v i) → (0 ≤ k.toInt ∧ k.toInt ≤ 1000) → (g.toInt = 0 ∨ g.toInt = 1) → (f_wdb (v8 2) = true) → f_wp (f_code (t_X6_product (f_ev mtC d))) (8, [some (.inr (.inr (some 6))), some (.inl e), some (.inl g), some (.inl k)], [], cH a8 b8 v8) (fun v9 h' => ∃ (a' : Nat → Nat → Int32) (b' : Nat → Nat → Int64) (v' : Nat → Option Nat), h' = cH a' b' v' ∧ RC K a' ∧ (FR [1, 6, F, F + 1] a a' ∧ ((∀ i, i ∉ [2] → v' i = v i) ∧ f_wdb (v' 2) = true) ∧ True) ∧ ∃ x : Int32, v9 = some (.inl x) ∧ (x.toInt = 0 ∨ x.toInt = 1)) := by
    intro ms9
    induction ms9 using Nat.strongRecOn with
    | _ ms8 ih8 =>
      intro g k a8 b8 v8  hm8 hR8 hF8 hG8 hk hg hw9
      refine w_iload rfl rfl ?_
      refine w_const rfl ?_
      refine w_ic_ge rfl (fun c7 => ?_) (fun c7 => ?_)
      · skip
        refine w_iload rfl rfl ?_
        exact wp_iret (z := true) rfl (fun _ => by first | exact Or.inl rfl | exact Or.inr rfl | (rcases (by omega : g.toInt = 0 ∨ g.toInt = 1) with h8 | h8; exact Or.inl (ti_eq h8); exact Or.inr (ti_eq h8))) ⟨a8, b8, v8, rfl, hR8, ⟨hF8, ⟨hG8, hw9⟩, trivial⟩, ⟨_, rfl, by omega⟩⟩
      · skip
        refine w_iload rfl rfl ?_
        refine w_if_eq rfl (fun c8 => ?_) (fun c8 => ?_)
        · skip
          refine w_iload rfl rfl ?_
          exact wp_iret (z := true) rfl (fun _ => by first | exact Or.inl rfl | exact Or.inr rfl | (rcases (by omega : g.toInt = 0 ∨ g.toInt = 1) with h8 | h8; exact Or.inl (ti_eq h8); exact Or.inr (ti_eq h8))) ⟨a8, b8, v8, rfl, hR8, ⟨hF8, ⟨hG8, hw9⟩, trivial⟩, ⟨_, rfl, by omega⟩⟩
        · skip
          refine w_aload rfl rfl ?_
          refine w_const rfl ?_
          refine w_invV (rest := []) rfl rfl rfl rfl rfl (Nat.le_of_ble_eq_true rfl) rfl (by omega) (s_X6_isSign (K := K) a8 b8 v8  42 hR8  ) (fun z9 h9 hq10 => ?_)
          obtain ⟨rfl, x11, rfl, px11⟩ := hq10
          show f_wp _ (25, [some (.inr (.inr (some 6))), some (.inl e), some (.inl g), some (.inl k)], [.inl x11], cH a8 b8 v8) _
          refine w_if_eq rfl (fun c12 => ?_) (fun c12 => ?_)
          · skip
            refine w_iload rfl rfl ?_
            exact wp_iret (z := true) rfl (fun _ => by first | exact Or.inl rfl | exact Or.inr rfl | (rcases (by omega : g.toInt = 0 ∨ g.toInt = 1) with h8 | h8; exact Or.inl (ti_eq h8); exact Or.inr (ti_eq h8))) ⟨a8, b8, v8, rfl, hR8, ⟨hF8, ⟨hG8, hw9⟩, trivial⟩, ⟨_, rfl, by omega⟩⟩
          · skip
            refine w_aload rfl rfl ?_
            refine c_getR (t := some 1) rfl rfl rfl rfl rfl ?_
            refine w_invV (rest := []) rfl rfl rfl rfl rfl (Nat.le_of_ble_eq_true rfl) rfl (by omega) (s_X8_advance (K := K) a8 b8 v8   hR8  ) (fun z13 h9 hq14 => ?_)
            obtain ⟨a15, b16, v17, rfl, ha15, fa15, rfl⟩ := hq14
            show f_wp _ (35, [some (.inr (.inr (some 6))), some (.inl e), some (.inl g), some (.inl k)], [], cH a15 b16 v17) _
            refine w_aload rfl rfl ?_
            refine w_iload rfl rfl ?_
            refine w_invV (rest := []) rfl rfl rfl rfl rfl (Nat.le_of_ble_eq_true rfl) rfl (by omega) (hX a15 b16 v17 ha15 fa15.2.1.2 ((fa15.2.1.1 4 (by decide)).trans ((hG8 4 (by decide)).trans h4))) (fun z18 h9 hq19 => ?_)
            obtain ⟨a20, b21, v22, rfl, ha20, fa20, x23, rfl, px23⟩ := hq19
            show f_wp _ (40, [some (.inr (.inr (some 6))), some (.inl e), some (.inl g), some (.inl k)], [.inl x23], cH a20 b21 v22) _
            refine w_istore (lo' := [some (.inr (.inr (some 6))), some (.inl e), some (.inl x23), some (.inl k)]) rfl rfl ?_
            refine w_aload rfl rfl ?_
            refine c_getR (t := some F) rfl rfl rfl rfl ((fa20.2.1.1 4 (by decide)).trans ((fa15.2.1.1 4 (by decide)).trans ((hG8 4 (by decide)).trans h4))) ?_
            refine w_const rfl ?_
            refine w_invV (rest := []) rfl rfl (sh_form (by omega)) rfl rfl (Nat.le_of_ble_eq_true rfl) rfl (by omega) (s_X2_add (K := K) a20 b21 v22  F (-12) ha20  (by omega)) (fun z24 h9 hq25 => ?_)
            obtain ⟨a26, rfl, ha26, fa26, rfl⟩ := hq25
            show f_wp _ (50, [some (.inr (.inr (some 6))), some (.inl e), some (.inl x23), some (.inl k)], [], cH a26 b21 v22) _
            refine w_iinc (lo' := fun z9 => [some (.inr (.inr (some 6))), some (.inl e), some (.inl x23), some (.inl z9)]) rfl rfl (fun _ => rfl) (by omega) (fun x27 tx27 => ?_)
            refine w_goto rfl ?_
            exact ih8 (1000 - x27.toInt).toNat (by omega) x23 x27 a26 b21 v22 rfl ha26 (FR.tr (FR.tr (FR.tr (hF8) (FR.sub fa15.1 (by first | exact (fun _ h9 => h9) | decide | (intro c9 h9; simp only [List.mem_cons, List.not_mem_nil, or_false] at h9 ⊢; omega) | (intro c9 h9; simp at h9; simp [cA]; omega) | (intro c9 h9; simp at h9; simp [cB]; omega) | (intro c9 h9; simp [cA] at h9; simp [cB]; omega)))) (FR.sub fa20.1 (by first | exact (fun _ h9 => h9) | decide | (intro c9 h9; simp only [List.mem_cons, List.not_mem_nil, or_false] at h9 ⊢; omega) | (intro c9 h9; simp at h9; simp [cA]; omega) | (intro c9 h9; simp at h9; simp [cB]; omega) | (intro c9 h9; simp [cA] at h9; simp [cB]; omega)))) (FR.sub fa26.1 (by first | exact (fun _ h9 => h9) | decide | (intro c9 h9; simp only [List.mem_cons, List.not_mem_nil, or_false] at h9 ⊢; omega) | (intro c9 h9; simp at h9; simp [cA]; omega) | (intro c9 h9; simp at h9; simp [cB]; omega) | (intro c9 h9; simp [cA] at h9; simp [cB]; omega)))) (fun i9 h9 => (fa20.2.1.1 i9 (fun z9 => h9 (by first | exact z9 | (revert z9; simp; done) | (revert z9; simp; omega)))).trans ((show ∀ i9, i9 ∉ [2] → v17 i9 = v i9 from fun i9 h9 => (fa15.2.1.1 i9 (fun z9 => h9 (by first | exact z9 | (revert z9; simp; done) | (revert z9; simp; omega)))).trans ((show ∀ i9, i9 ∉ [2] → v8 i9 = v i9 from hG8) i9 h9)) i9 h9)) (by omega) (by omega) (fa20.2.1.2)
  exact loop8 _ x6 0 a3 b4 v5 rfl ha3 (FR.tr (FR.rf) (FR.sub fa3.1 (by first | exact (fun _ h9 => h9) | decide | (intro c9 h9; simp only [List.mem_cons, List.not_mem_nil, or_false] at h9 ⊢; omega) | (intro c9 h9; simp at h9; simp [cA]; omega) | (intro c9 h9; simp at h9; simp [cB]; omega) | (intro c9 h9; simp [cA] at h9; simp [cB]; omega)))) (fun i9 h9 => (fa3.2.1.1 i9 (fun z9 => h9 (by first | exact z9 | (revert z9; simp; done) | (revert z9; simp; omega)))).trans ((show ∀ i9, i9 ∉ [2] → v i9 = v i9 from (fun _ _ => rfl)) i9 h9)) (by omega) (by omega) (fa3.2.1.2)
set_option maxRecDepth 4000 in
theorem s_X6_sum_r {K F c : Nat} {e : Int32} (hF : F = 26 ∨ F = 29 ∨ F = 50 ∨ F = 53) (hc : 4 ≤ c) (hX : CPH K F 74 c e) : CPH K F 73 (c + 1) e := by
  intro a b v hR hw h4
  refine f_call_of (d0 := c) rfl (Nat.le_of_ble_eq_true rfl) (fun d hd => ?_)
  show f_wp _ (0, [some (.inr (.inr (some 6))), some (.inl e), none, none, none], [], cH a b v) _
  have lm11 : (-11 : Int32).toInt = -11 := rfl
  have lm10 : (-10 : Int32).toInt = -10 := rfl
  have l0 : (0 : Int32).toInt = 0 := rfl
  have l1 : (1 : Int32).toInt = 1 := rfl
  have l43 : (43 : Int32).toInt = 43 := rfl
  have l45 : (45 : Int32).toInt = 45 := rfl
  have l1000 : (1000 : Int32).toInt = 1000 := rfl
  refine w_aload rfl rfl ?_
  refine w_iload rfl rfl ?_
  refine w_invV (rest := []) rfl rfl rfl rfl rfl (Nat.le_of_ble_eq_true rfl) rfl (by omega) (hX a b v hR hw h4) (fun z1 h9 hq2 => ?_)
  obtain ⟨a3, b4, v5, rfl, ha3, fa3, x6, rfl, px6⟩ := hq2
  show f_wp _ (5, [some (.inr (.inr (some 6))), some (.inl e), none, none, none], [.inl x6], cH a3 b4 v5) _
  refine w_istore (lo' := [some (.inr (.inr (some 6))), some (.inl e), some (.inl x6), none, none]) rfl rfl ?_
  refine w_const rfl ?_
  refine w_istore (lo' := [some (.inr (.inr (some 6))), some (.inl e), some (.inl x6), some (.inl 0), none]) rfl rfl ?_
  have loop8 : ∀ (ms9 : Nat) (g : Int32) (k : Int32) (a8 : Nat → Nat → Int32) (b8 : Nat → Nat → Int64) (v8 : Nat → Option Nat) (o4_8 : Option f_V), (1000 - k.toInt).toNat = ms9 → RC K a8 → FR [1, 6, F, F + 1] a a8 → (∀ i, i ∉ [2] → v8 i = v i) → (0 ≤ k.toInt ∧ k.toInt ≤ 1000) → (g.toInt = 0 ∨ g.toInt = 1) → (f_wdb (v8 2) = true) → f_wp (f_code (t_X6_sum (f_ev mtC d))) (8, [some (.inr (.inr (some 6))), some (.inl e), some (.inl g), some (.inl k), o4_8], [], cH a8 b8 v8) (fun v9 h' => ∃ (a' : Nat → Nat → Int32) (b' : Nat → Nat → Int64) (v' : Nat → Option Nat), h' = cH a' b' v' ∧ RC K a' ∧ (FR [1, 6, F, F + 1] a a' ∧ ((∀ i, i ∉ [2] → v' i = v i) ∧ f_wdb (v' 2) = true) ∧ True) ∧ ∃ x : Int32, v9 = some (.inl x) ∧ (x.toInt = 0 ∨ x.toInt = 1)) := by
    intro ms9
    induction ms9 using Nat.strongRecOn with
    | _ ms8 ih8 =>
      intro g k a8 b8 v8 o4_8 hm8 hR8 hF8 hG8 hk hg hw9
      refine w_iload rfl rfl ?_
      refine w_const rfl ?_
      refine w_ic_ge rfl (fun c7 => ?_) (fun c7 => ?_)
      · skip
        refine w_iload rfl rfl ?_
        exact wp_iret (z := true) rfl (fun _ => by first | exact Or.inl rfl | exact Or.inr rfl | (rcases (by omega : g.toInt = 0 ∨ g.toInt = 1) with h8 | h8; exact Or.inl (ti_eq h8); exact Or.inr (ti_eq h8))) ⟨a8, b8, v8, rfl, hR8, ⟨hF8, ⟨hG8, hw9⟩, trivial⟩, ⟨_, rfl, by omega⟩⟩
      · skip
        refine w_iload rfl rfl ?_
        refine w_if_eq rfl (fun c8 => ?_) (fun c8 => ?_)
        · skip
          refine w_iload rfl rfl ?_
          exact wp_iret (z := true) rfl (fun _ => by first | exact Or.inl rfl | exact Or.inr rfl | (rcases (by omega : g.toInt = 0 ∨ g.toInt = 1) with h8 | h8; exact Or.inl (ti_eq h8); exact Or.inr (ti_eq h8))) ⟨a8, b8, v8, rfl, hR8, ⟨hF8, ⟨hG8, hw9⟩, trivial⟩, ⟨_, rfl, by omega⟩⟩
        · skip
          refine w_aload rfl rfl ?_
          refine w_const rfl ?_
          refine w_invV (rest := []) rfl rfl rfl rfl rfl (Nat.le_of_ble_eq_true rfl) rfl (by omega) (s_X6_isSign (K := K) a8 b8 v8  43 hR8  ) (fun z9 h9 hq10 => ?_)
          obtain ⟨rfl, x11, rfl, px11⟩ := hq10
          show f_wp _ (25, [some (.inr (.inr (some 6))), some (.inl e), some (.inl g), some (.inl k), o4_8], [.inl x11], cH a8 b8 v8) _
          refine w_if_ne rfl (fun c12 => ?_) (fun c12 => ?_)
          · skip
            refine w_aload rfl rfl ?_
            refine w_const rfl ?_
            refine w_invV (rest := []) rfl rfl rfl rfl rfl (Nat.le_of_ble_eq_true rfl) rfl (by omega) (s_X6_isSign (K := K) a8 b8 v8  45 hR8  ) (fun z13 h9 hq14 => ?_)
            obtain ⟨rfl, x15, rfl, px15⟩ := hq14
            show f_wp _ (34, [some (.inr (.inr (some 6))), some (.inl e), some (.inl g), some (.inl k), o4_8], [.inl x15], cH a8 b8 v8) _
            refine w_if_eq rfl (fun c16 => ?_) (fun c16 => ?_)
            · skip
              refine w_iload rfl rfl ?_
              exact wp_iret (z := true) rfl (fun _ => by first | exact Or.inl rfl | exact Or.inr rfl | (rcases (by omega : g.toInt = 0 ∨ g.toInt = 1) with h8 | h8; exact Or.inl (ti_eq h8); exact Or.inr (ti_eq h8))) ⟨a8, b8, v8, rfl, hR8, ⟨hF8, ⟨hG8, hw9⟩, trivial⟩, ⟨_, rfl, by omega⟩⟩
            · skip
              refine w_aload rfl rfl ?_
              refine w_const rfl ?_
              refine w_invV (rest := []) rfl rfl rfl rfl rfl (Nat.le_of_ble_eq_true rfl) rfl (by omega) (s_X6_isSign (K := K) a8 b8 v8  43 hR8  ) (fun z17 h9 hq18 => ?_)
              obtain ⟨rfl, x19, rfl, px19⟩ := hq18
              show f_wp _ (43, [some (.inr (.inr (some 6))), some (.inl e), some (.inl g), some (.inl k), o4_8], [.inl x19], cH a8 b8 v8) _
              refine w_if_eq rfl (fun c20 => ?_) (fun c20 => ?_)
              · skip
                refine w_const rfl ?_
                refine w_istore (lo' := [some (.inr (.inr (some 6))), some (.inl e), some (.inl g), some (.inl k), some (.inl (-11))]) rfl rfl ?_
                refine w_aload rfl rfl ?_
                refine c_getR (t := some 1) rfl rfl rfl rfl rfl ?_
                refine w_invV (rest := []) rfl rfl rfl rfl rfl (Nat.le_of_ble_eq_true rfl) rfl (by omega) (s_X8_advance (K := K) a8 b8 v8   hR8  ) (fun z21 h9 hq22 => ?_)
                obtain ⟨a23, b24, v25, rfl, ha23, fa23, rfl⟩ := hq22
                show f_wp _ (62, [some (.inr (.inr (some 6))), some (.inl e), some (.inl g), some (.inl k), some (.inl (-11))], [], cH a23 b24 v25) _
                refine w_aload rfl rfl ?_
                refine w_iload rfl rfl ?_
                refine w_invV (rest := []) rfl rfl rfl rfl rfl (Nat.le_of_ble_eq_true rfl) rfl (by omega) (hX a23 b24 v25 ha23 fa23.2.1.2 ((fa23.2.1.1 4 (by decide)).trans ((hG8 4 (by decide)).trans h4))) (fun z26 h9 hq27 => ?_)
                obtain ⟨a28, b29, v30, rfl, ha28, fa28, x31, rfl, px31⟩ := hq27
                show f_wp _ (67, [some (.inr (.inr (some 6))), some (.inl e), some (.inl g), some (.inl k), some (.inl (-11))], [.inl x31], cH a28 b29 v30) _
                refine w_istore (lo' := [some (.inr (.inr (some 6))), some (.inl e), some (.inl x31), some (.inl k), some (.inl (-11))]) rfl rfl ?_
                refine w_aload rfl rfl ?_
                refine c_getR (t := some F) rfl rfl rfl rfl ((fa28.2.1.1 4 (by decide)).trans ((fa23.2.1.1 4 (by decide)).trans ((hG8 4 (by decide)).trans h4))) ?_
                refine w_iload rfl rfl ?_
                refine w_invV (rest := []) rfl rfl (sh_form (by omega)) rfl rfl (Nat.le_of_ble_eq_true rfl) rfl (by omega) (s_X2_add (K := K) a28 b29 v30  F (-11) ha28  (by omega)) (fun z32 h9 hq33 => ?_)
                obtain ⟨a34, rfl, ha34, fa34, rfl⟩ := hq33
                show f_wp _ (77, [some (.inr (.inr (some 6))), some (.inl e), some (.inl x31), some (.inl k), some (.inl (-11))], [], cH a34 b29 v30) _
                refine w_iinc (lo' := fun z9 => [some (.inr (.inr (some 6))), some (.inl e), some (.inl x31), some (.inl z9), some (.inl (-11))]) rfl rfl (fun _ => rfl) (by omega) (fun x35 tx35 => ?_)
                refine w_goto rfl ?_
                exact ih8 (1000 - x35.toInt).toNat (by omega) x31 x35 a34 b29 v30 (some (.inl (-11))) rfl ha34 (FR.tr (FR.tr (FR.tr (hF8) (FR.sub fa23.1 (by first | exact (fun _ h9 => h9) | decide | (intro c9 h9; simp only [List.mem_cons, List.not_mem_nil, or_false] at h9 ⊢; omega) | (intro c9 h9; simp at h9; simp [cA]; omega) | (intro c9 h9; simp at h9; simp [cB]; omega) | (intro c9 h9; simp [cA] at h9; simp [cB]; omega)))) (FR.sub fa28.1 (by first | exact (fun _ h9 => h9) | decide | (intro c9 h9; simp only [List.mem_cons, List.not_mem_nil, or_false] at h9 ⊢; omega) | (intro c9 h9; simp at h9; simp [cA]; omega) | (intro c9 h9; simp at h9; simp [cB]; omega) | (intro c9 h9; simp [cA] at h9; simp [cB]; omega)))) (FR.sub fa34.1 (by first | exact (fun _ h9 => h9) | decide | (intro c9 h9; simp only [List.mem_cons, List.not_mem_nil, or_false] at h9 ⊢; omega) | (intro c9 h9; simp at h9; simp [cA]; omega) | (intro c9 h9; simp at h9; simp [cB]; omega) | (intro c9 h9; simp [cA] at h9; simp [cB]; omega)))) (fun i9 h9 => (fa28.2.1.1 i9 (fun z9 => h9 (by first | exact z9 | (revert z9; simp; done) | (revert z9; simp; omega)))).trans ((show ∀ i9, i9 ∉ [2] → v25 i9 = v i9 from fun i9 h9 => (fa23.2.1.1 i9 (fun z9 => h9 (by first | exact z9 | (revert z9; simp; done) | (revert z9; simp; omega)))).trans ((show ∀ i9, i9 ∉ [2] → v8 i9 = v i9 from hG8) i9 h9)) i9 h9)) (by omega) (by omega) (fa28.2.1.2)
              · skip
                refine w_const rfl ?_
                refine w_goto rfl ?_
                refine w_istore (lo' := [some (.inr (.inr (some 6))), some (.inl e), some (.inl g), some (.inl k), some (.inl (-10))]) rfl rfl ?_
                refine w_aload rfl rfl ?_
                refine c_getR (t := some 1) rfl rfl rfl rfl rfl ?_
                refine w_invV (rest := []) rfl rfl rfl rfl rfl (Nat.le_of_ble_eq_true rfl) rfl (by omega) (s_X8_advance (K := K) a8 b8 v8   hR8  ) (fun z36 h9 hq37 => ?_)
                obtain ⟨a38, b39, v40, rfl, ha38, fa38, rfl⟩ := hq37
                show f_wp _ (62, [some (.inr (.inr (some 6))), some (.inl e), some (.inl g), some (.inl k), some (.inl (-10))], [], cH a38 b39 v40) _
                refine w_aload rfl rfl ?_
                refine w_iload rfl rfl ?_
                refine w_invV (rest := []) rfl rfl rfl rfl rfl (Nat.le_of_ble_eq_true rfl) rfl (by omega) (hX a38 b39 v40 ha38 fa38.2.1.2 ((fa38.2.1.1 4 (by decide)).trans ((hG8 4 (by decide)).trans h4))) (fun z41 h9 hq42 => ?_)
                obtain ⟨a43, b44, v45, rfl, ha43, fa43, x46, rfl, px46⟩ := hq42
                show f_wp _ (67, [some (.inr (.inr (some 6))), some (.inl e), some (.inl g), some (.inl k), some (.inl (-10))], [.inl x46], cH a43 b44 v45) _
                refine w_istore (lo' := [some (.inr (.inr (some 6))), some (.inl e), some (.inl x46), some (.inl k), some (.inl (-10))]) rfl rfl ?_
                refine w_aload rfl rfl ?_
                refine c_getR (t := some F) rfl rfl rfl rfl ((fa43.2.1.1 4 (by decide)).trans ((fa38.2.1.1 4 (by decide)).trans ((hG8 4 (by decide)).trans h4))) ?_
                refine w_iload rfl rfl ?_
                refine w_invV (rest := []) rfl rfl (sh_form (by omega)) rfl rfl (Nat.le_of_ble_eq_true rfl) rfl (by omega) (s_X2_add (K := K) a43 b44 v45  F (-10) ha43  (by omega)) (fun z47 h9 hq48 => ?_)
                obtain ⟨a49, rfl, ha49, fa49, rfl⟩ := hq48
                show f_wp _ (77, [some (.inr (.inr (some 6))), some (.inl e), some (.inl x46), some (.inl k), some (.inl (-10))], [], cH a49 b44 v45) _
                refine w_iinc (lo' := fun z9 => [some (.inr (.inr (some 6))), some (.inl e), some (.inl x46), some (.inl z9), some (.inl (-10))]) rfl rfl (fun _ => rfl) (by omega) (fun x50 tx50 => ?_)
                refine w_goto rfl ?_
                exact ih8 (1000 - x50.toInt).toNat (by omega) x46 x50 a49 b44 v45 (some (.inl (-10))) rfl ha49 (FR.tr (FR.tr (FR.tr (hF8) (FR.sub fa38.1 (by first | exact (fun _ h9 => h9) | decide | (intro c9 h9; simp only [List.mem_cons, List.not_mem_nil, or_false] at h9 ⊢; omega) | (intro c9 h9; simp at h9; simp [cA]; omega) | (intro c9 h9; simp at h9; simp [cB]; omega) | (intro c9 h9; simp [cA] at h9; simp [cB]; omega)))) (FR.sub fa43.1 (by first | exact (fun _ h9 => h9) | decide | (intro c9 h9; simp only [List.mem_cons, List.not_mem_nil, or_false] at h9 ⊢; omega) | (intro c9 h9; simp at h9; simp [cA]; omega) | (intro c9 h9; simp at h9; simp [cB]; omega) | (intro c9 h9; simp [cA] at h9; simp [cB]; omega)))) (FR.sub fa49.1 (by first | exact (fun _ h9 => h9) | decide | (intro c9 h9; simp only [List.mem_cons, List.not_mem_nil, or_false] at h9 ⊢; omega) | (intro c9 h9; simp at h9; simp [cA]; omega) | (intro c9 h9; simp at h9; simp [cB]; omega) | (intro c9 h9; simp [cA] at h9; simp [cB]; omega)))) (fun i9 h9 => (fa43.2.1.1 i9 (fun z9 => h9 (by first | exact z9 | (revert z9; simp; done) | (revert z9; simp; omega)))).trans ((show ∀ i9, i9 ∉ [2] → v40 i9 = v i9 from fun i9 h9 => (fa38.2.1.1 i9 (fun z9 => h9 (by first | exact z9 | (revert z9; simp; done) | (revert z9; simp; omega)))).trans ((show ∀ i9, i9 ∉ [2] → v8 i9 = v i9 from hG8) i9 h9)) i9 h9)) (by omega) (by omega) (fa43.2.1.2)
          · skip
            refine w_aload rfl rfl ?_
            refine w_const rfl ?_
            refine w_invV (rest := []) rfl rfl rfl rfl rfl (Nat.le_of_ble_eq_true rfl) rfl (by omega) (s_X6_isSign (K := K) a8 b8 v8  43 hR8  ) (fun z51 h9 hq52 => ?_)
            obtain ⟨rfl, x53, rfl, px53⟩ := hq52
            show f_wp _ (43, [some (.inr (.inr (some 6))), some (.inl e), some (.inl g), some (.inl k), o4_8], [.inl x53], cH a8 b8 v8) _
            refine w_if_eq rfl (fun c54 => ?_) (fun c54 => ?_)
            · skip
              refine w_const rfl ?_
              refine w_istore (lo' := [some (.inr (.inr (some 6))), some (.inl e), some (.inl g), some (.inl k), some (.inl (-11))]) rfl rfl ?_
              refine w_aload rfl rfl ?_
              refine c_getR (t := some 1) rfl rfl rfl rfl rfl ?_
              refine w_invV (rest := []) rfl rfl rfl rfl rfl (Nat.le_of_ble_eq_true rfl) rfl (by omega) (s_X8_advance (K := K) a8 b8 v8   hR8  ) (fun z55 h9 hq56 => ?_)
              obtain ⟨a57, b58, v59, rfl, ha57, fa57, rfl⟩ := hq56
              show f_wp _ (62, [some (.inr (.inr (some 6))), some (.inl e), some (.inl g), some (.inl k), some (.inl (-11))], [], cH a57 b58 v59) _
              refine w_aload rfl rfl ?_
              refine w_iload rfl rfl ?_
              refine w_invV (rest := []) rfl rfl rfl rfl rfl (Nat.le_of_ble_eq_true rfl) rfl (by omega) (hX a57 b58 v59 ha57 fa57.2.1.2 ((fa57.2.1.1 4 (by decide)).trans ((hG8 4 (by decide)).trans h4))) (fun z60 h9 hq61 => ?_)
              obtain ⟨a62, b63, v64, rfl, ha62, fa62, x65, rfl, px65⟩ := hq61
              show f_wp _ (67, [some (.inr (.inr (some 6))), some (.inl e), some (.inl g), some (.inl k), some (.inl (-11))], [.inl x65], cH a62 b63 v64) _
              refine w_istore (lo' := [some (.inr (.inr (some 6))), some (.inl e), some (.inl x65), some (.inl k), some (.inl (-11))]) rfl rfl ?_
              refine w_aload rfl rfl ?_
              refine c_getR (t := some F) rfl rfl rfl rfl ((fa62.2.1.1 4 (by decide)).trans ((fa57.2.1.1 4 (by decide)).trans ((hG8 4 (by decide)).trans h4))) ?_
              refine w_iload rfl rfl ?_
              refine w_invV (rest := []) rfl rfl (sh_form (by omega)) rfl rfl (Nat.le_of_ble_eq_true rfl) rfl (by omega) (s_X2_add (K := K) a62 b63 v64  F (-11) ha62  (by omega)) (fun z66 h9 hq67 => ?_)
              obtain ⟨a68, rfl, ha68, fa68, rfl⟩ := hq67
              show f_wp _ (77, [some (.inr (.inr (some 6))), some (.inl e), some (.inl x65), some (.inl k), some (.inl (-11))], [], cH a68 b63 v64) _
              refine w_iinc (lo' := fun z9 => [some (.inr (.inr (some 6))), some (.inl e), some (.inl x65), some (.inl z9), some (.inl (-11))]) rfl rfl (fun _ => rfl) (by omega) (fun x69 tx69 => ?_)
              refine w_goto rfl ?_
              exact ih8 (1000 - x69.toInt).toNat (by omega) x65 x69 a68 b63 v64 (some (.inl (-11))) rfl ha68 (FR.tr (FR.tr (FR.tr (hF8) (FR.sub fa57.1 (by first | exact (fun _ h9 => h9) | decide | (intro c9 h9; simp only [List.mem_cons, List.not_mem_nil, or_false] at h9 ⊢; omega) | (intro c9 h9; simp at h9; simp [cA]; omega) | (intro c9 h9; simp at h9; simp [cB]; omega) | (intro c9 h9; simp [cA] at h9; simp [cB]; omega)))) (FR.sub fa62.1 (by first | exact (fun _ h9 => h9) | decide | (intro c9 h9; simp only [List.mem_cons, List.not_mem_nil, or_false] at h9 ⊢; omega) | (intro c9 h9; simp at h9; simp [cA]; omega) | (intro c9 h9; simp at h9; simp [cB]; omega) | (intro c9 h9; simp [cA] at h9; simp [cB]; omega)))) (FR.sub fa68.1 (by first | exact (fun _ h9 => h9) | decide | (intro c9 h9; simp only [List.mem_cons, List.not_mem_nil, or_false] at h9 ⊢; omega) | (intro c9 h9; simp at h9; simp [cA]; omega) | (intro c9 h9; simp at h9; simp [cB]; omega) | (intro c9 h9; simp [cA] at h9; simp [cB]; omega)))) (fun i9 h9 => (fa62.2.1.1 i9 (fun z9 => h9 (by first | exact z9 | (revert z9; simp; done) | (revert z9; simp; omega)))).trans ((show ∀ i9, i9 ∉ [2] → v59 i9 = v i9 from fun i9 h9 => (fa57.2.1.1 i9 (fun z9 => h9 (by first | exact z9 | (revert z9; simp; done) | (revert z9; simp; omega)))).trans ((show ∀ i9, i9 ∉ [2] → v8 i9 = v i9 from hG8) i9 h9)) i9 h9)) (by omega) (by omega) (fa62.2.1.2)
            · skip
              refine w_const rfl ?_
              refine w_goto rfl ?_
              refine w_istore (lo' := [some (.inr (.inr (some 6))), some (.inl e), some (.inl g), some (.inl k), some (.inl (-10))]) rfl rfl ?_
              refine w_aload rfl rfl ?_
              refine c_getR (t := some 1) rfl rfl rfl rfl rfl ?_
              refine w_invV (rest := []) rfl rfl rfl rfl rfl (Nat.le_of_ble_eq_true rfl) rfl (by omega) (s_X8_advance (K := K) a8 b8 v8   hR8  ) (fun z70 h9 hq71 => ?_)
              obtain ⟨a72, b73, v74, rfl, ha72, fa72, rfl⟩ := hq71
              show f_wp _ (62, [some (.inr (.inr (some 6))), some (.inl e), some (.inl g), some (.inl k), some (.inl (-10))], [], cH a72 b73 v74) _
              refine w_aload rfl rfl ?_
              refine w_iload rfl rfl ?_
              refine w_invV (rest := []) rfl rfl rfl rfl rfl (Nat.le_of_ble_eq_true rfl) rfl (by omega) (hX a72 b73 v74 ha72 fa72.2.1.2 ((fa72.2.1.1 4 (by decide)).trans ((hG8 4 (by decide)).trans h4))) (fun z75 h9 hq76 => ?_)
              obtain ⟨a77, b78, v79, rfl, ha77, fa77, x80, rfl, px80⟩ := hq76
              show f_wp _ (67, [some (.inr (.inr (some 6))), some (.inl e), some (.inl g), some (.inl k), some (.inl (-10))], [.inl x80], cH a77 b78 v79) _
              refine w_istore (lo' := [some (.inr (.inr (some 6))), some (.inl e), some (.inl x80), some (.inl k), some (.inl (-10))]) rfl rfl ?_
              refine w_aload rfl rfl ?_
              refine c_getR (t := some F) rfl rfl rfl rfl ((fa77.2.1.1 4 (by decide)).trans ((fa72.2.1.1 4 (by decide)).trans ((hG8 4 (by decide)).trans h4))) ?_
              refine w_iload rfl rfl ?_
              refine w_invV (rest := []) rfl rfl (sh_form (by omega)) rfl rfl (Nat.le_of_ble_eq_true rfl) rfl (by omega) (s_X2_add (K := K) a77 b78 v79  F (-10) ha77  (by omega)) (fun z81 h9 hq82 => ?_)
              obtain ⟨a83, rfl, ha83, fa83, rfl⟩ := hq82
              show f_wp _ (77, [some (.inr (.inr (some 6))), some (.inl e), some (.inl x80), some (.inl k), some (.inl (-10))], [], cH a83 b78 v79) _
              refine w_iinc (lo' := fun z9 => [some (.inr (.inr (some 6))), some (.inl e), some (.inl x80), some (.inl z9), some (.inl (-10))]) rfl rfl (fun _ => rfl) (by omega) (fun x84 tx84 => ?_)
              refine w_goto rfl ?_
              exact ih8 (1000 - x84.toInt).toNat (by omega) x80 x84 a83 b78 v79 (some (.inl (-10))) rfl ha83 (FR.tr (FR.tr (FR.tr (hF8) (FR.sub fa72.1 (by first | exact (fun _ h9 => h9) | decide | (intro c9 h9; simp only [List.mem_cons, List.not_mem_nil, or_false] at h9 ⊢; omega) | (intro c9 h9; simp at h9; simp [cA]; omega) | (intro c9 h9; simp at h9; simp [cB]; omega) | (intro c9 h9; simp [cA] at h9; simp [cB]; omega)))) (FR.sub fa77.1 (by first | exact (fun _ h9 => h9) | decide | (intro c9 h9; simp only [List.mem_cons, List.not_mem_nil, or_false] at h9 ⊢; omega) | (intro c9 h9; simp at h9; simp [cA]; omega) | (intro c9 h9; simp at h9; simp [cB]; omega) | (intro c9 h9; simp [cA] at h9; simp [cB]; omega)))) (FR.sub fa83.1 (by first | exact (fun _ h9 => h9) | decide | (intro c9 h9; simp only [List.mem_cons, List.not_mem_nil, or_false] at h9 ⊢; omega) | (intro c9 h9; simp at h9; simp [cA]; omega) | (intro c9 h9; simp at h9; simp [cB]; omega) | (intro c9 h9; simp [cA] at h9; simp [cB]; omega)))) (fun i9 h9 => (fa77.2.1.1 i9 (fun z9 => h9 (by first | exact z9 | (revert z9; simp; done) | (revert z9; simp; omega)))).trans ((show ∀ i9, i9 ∉ [2] → v74 i9 = v i9 from fun i9 h9 => (fa72.2.1.1 i9 (fun z9 => h9 (by first | exact z9 | (revert z9; simp; done) | (revert z9; simp; omega)))).trans ((show ∀ i9, i9 ∉ [2] → v8 i9 = v i9 from hG8) i9 h9)) i9 h9)) (by omega) (by omega) (fa77.2.1.2)
  exact loop8 _ x6 0 a3 b4 v5 none rfl ha3 (FR.tr (FR.rf) (FR.sub fa3.1 (by first | exact (fun _ h9 => h9) | decide | (intro c9 h9; simp only [List.mem_cons, List.not_mem_nil, or_false] at h9 ⊢; omega) | (intro c9 h9; simp at h9; simp [cA]; omega) | (intro c9 h9; simp at h9; simp [cB]; omega) | (intro c9 h9; simp [cA] at h9; simp [cB]; omega)))) (fun i9 h9 => (fa3.2.1.1 i9 (fun z9 => h9 (by first | exact z9 | (revert z9; simp; done) | (revert z9; simp; omega)))).trans ((show ∀ i9, i9 ∉ [2] → v i9 = v i9 from (fun _ _ => rfl)) i9 h9)) (by omega) (by omega) (fa3.2.1.2)
set_option maxRecDepth 4000 in
theorem s_X6_test_r {K F c : Nat} {e : Int32} (hF : F = 26 ∨ F = 29 ∨ F = 50 ∨ F = 53) (hc : 4 ≤ c) (hX : CPH K F 73 c e) : CPH K F 72 (c + 1) e := by
  intro a b v hR hw h4
  refine f_call_of (d0 := c) rfl (Nat.le_of_ble_eq_true rfl) (fun d hd => ?_)
  show f_wp _ (0, [some (.inr (.inr (some 6))), some (.inl e), none, none], [], cH a b v) _
  have lm9 : (-9 : Int32).toInt = -9 := rfl
  have lm8 : (-8 : Int32).toInt = -8 := rfl
  have l0 : (0 : Int32).toInt = 0 := rfl
  have l1 : (1 : Int32).toInt = 1 := rfl
  have l60 : (60 : Int32).toInt = 60 := rfl
  have l61 : (61 : Int32).toInt = 61 := rfl
  refine w_aload rfl rfl ?_
  refine w_iload rfl rfl ?_
  refine w_invV (rest := []) rfl rfl rfl rfl rfl (Nat.le_of_ble_eq_true rfl) rfl (by omega) (hX a b v hR hw h4) (fun z1 h9 hq2 => ?_)
  obtain ⟨a3, b4, v5, rfl, ha3, fa3, x6, rfl, px6⟩ := hq2
  show f_wp _ (5, [some (.inr (.inr (some 6))), some (.inl e), none, none], [.inl x6], cH a3 b4 v5) _
  refine w_if_ne rfl (fun c7 => ?_) (fun c7 => ?_)
  · skip
    refine w_const rfl ?_
    exact wp_iret (z := true) rfl (fun _ => by first | exact Or.inl rfl | exact Or.inr rfl | (rcases (by omega : (0 : Int32).toInt = 0 ∨ (0 : Int32).toInt = 1) with h8 | h8; exact Or.inl (ti_eq h8); exact Or.inr (ti_eq h8))) ⟨a3, b4, v5, rfl, ha3, ⟨FR.tr (FR.rf) (FR.sub fa3.1 (by first | exact (fun _ h9 => h9) | decide | (intro c9 h9; simp only [List.mem_cons, List.not_mem_nil, or_false] at h9 ⊢; omega) | (intro c9 h9; simp at h9; simp [cA]; omega) | (intro c9 h9; simp at h9; simp [cB]; omega) | (intro c9 h9; simp [cA] at h9; simp [cB]; omega))), ⟨fun i9 h9 => (fa3.2.1.1 i9 (fun z9 => h9 (by first | exact z9 | (revert z9; simp; done) | (revert z9; simp; omega)))).trans ((show ∀ i9, i9 ∉ [2] → v i9 = v i9 from (fun _ _ => rfl)) i9 h9), fa3.2.1.2⟩, trivial⟩, ⟨_, rfl, by omega⟩⟩
  · skip
    refine w_aload rfl rfl ?_
    refine w_const rfl ?_
    refine w_invV (rest := []) rfl rfl rfl rfl rfl (Nat.le_of_ble_eq_true rfl) rfl (by omega) (s_X6_isSign (K := K) a3 b4 v5  60 ha3  ) (fun z8 h9 hq9 => ?_)
    obtain ⟨rfl, x10, rfl, px10⟩ := hq9
    show f_wp _ (16, [some (.inr (.inr (some 6))), some (.inl e), none, none], [.inl x10], cH a3 b4 v5) _
    refine w_if_ne rfl (fun c11 => ?_) (fun c11 => ?_)
    · skip
      refine w_aload rfl rfl ?_
      refine w_const rfl ?_
      refine w_invV (rest := []) rfl rfl rfl rfl rfl (Nat.le_of_ble_eq_true rfl) rfl (by omega) (s_X6_isSign (K := K) a3 b4 v5  61 ha3  ) (fun z12 h9 hq13 => ?_)
      obtain ⟨rfl, x14, rfl, px14⟩ := hq13
      show f_wp _ (25, [some (.inr (.inr (some 6))), some (.inl e), none, none], [.inl x14], cH a3 b4 v5) _
      refine w_if_ne rfl (fun c15 => ?_) (fun c15 => ?_)
      · skip
        refine w_const rfl ?_
        exact wp_iret (z := true) rfl (fun _ => by first | exact Or.inl rfl | exact Or.inr rfl | (rcases (by omega : (1 : Int32).toInt = 0 ∨ (1 : Int32).toInt = 1) with h8 | h8; exact Or.inl (ti_eq h8); exact Or.inr (ti_eq h8))) ⟨a3, b4, v5, rfl, ha3, ⟨FR.tr (FR.rf) (FR.sub fa3.1 (by first | exact (fun _ h9 => h9) | decide | (intro c9 h9; simp only [List.mem_cons, List.not_mem_nil, or_false] at h9 ⊢; omega) | (intro c9 h9; simp at h9; simp [cA]; omega) | (intro c9 h9; simp at h9; simp [cB]; omega) | (intro c9 h9; simp [cA] at h9; simp [cB]; omega))), ⟨fun i9 h9 => (fa3.2.1.1 i9 (fun z9 => h9 (by first | exact z9 | (revert z9; simp; done) | (revert z9; simp; omega)))).trans ((show ∀ i9, i9 ∉ [2] → v i9 = v i9 from (fun _ _ => rfl)) i9 h9), fa3.2.1.2⟩, trivial⟩, ⟨_, rfl, by omega⟩⟩
      · skip
        refine w_aload rfl rfl ?_
        refine w_const rfl ?_
        refine w_invV (rest := []) rfl rfl rfl rfl rfl (Nat.le_of_ble_eq_true rfl) rfl (by omega) (s_X6_isSign (K := K) a3 b4 v5  60 ha3  ) (fun z16 h9 hq17 => ?_)
        obtain ⟨rfl, x18, rfl, px18⟩ := hq17
        show f_wp _ (36, [some (.inr (.inr (some 6))), some (.inl e), none, none], [.inl x18], cH a3 b4 v5) _
        refine w_if_eq rfl (fun c19 => ?_) (fun c19 => ?_)
        · skip
          refine w_const rfl ?_
          refine w_istore (lo' := [some (.inr (.inr (some 6))), some (.inl e), some (.inl (-9)), none]) rfl rfl ?_
          refine w_aload rfl rfl ?_
          refine c_getR (t := some 1) rfl rfl rfl rfl rfl ?_
          refine w_invV (rest := []) rfl rfl rfl rfl rfl (Nat.le_of_ble_eq_true rfl) rfl (by omega) (s_X8_advance (K := K) a3 b4 v5   ha3  ) (fun z20 h9 hq21 => ?_)
          obtain ⟨a22, b23, v24, rfl, ha22, fa22, rfl⟩ := hq21
          show f_wp _ (54, [some (.inr (.inr (some 6))), some (.inl e), some (.inl (-9)), none], [], cH a22 b23 v24) _
          refine w_aload rfl rfl ?_
          refine w_iload rfl rfl ?_
          refine w_invV (rest := []) rfl rfl rfl rfl rfl (Nat.le_of_ble_eq_true rfl) rfl (by omega) (hX a22 b23 v24 ha22 fa22.2.1.2 ((fa22.2.1.1 4 (by decide)).trans ((fa3.2.1.1 4 (by decide)).trans h4))) (fun z25 h9 hq26 => ?_)
          obtain ⟨a27, b28, v29, rfl, ha27, fa27, x30, rfl, px30⟩ := hq26
          show f_wp _ (59, [some (.inr (.inr (some 6))), some (.inl e), some (.inl (-9)), none], [.inl x30], cH a27 b28 v29) _
          refine w_istore (lo' := [some (.inr (.inr (some 6))), some (.inl e), some (.inl (-9)), some (.inl x30)]) rfl rfl ?_
          refine w_aload rfl rfl ?_
          refine c_getR (t := some F) rfl rfl rfl rfl ((fa27.2.1.1 4 (by decide)).trans ((fa22.2.1.1 4 (by decide)).trans ((fa3.2.1.1 4 (by decide)).trans h4))) ?_
          refine w_iload rfl rfl ?_
          refine w_invV (rest := []) rfl rfl (sh_form (by omega)) rfl rfl (Nat.le_of_ble_eq_true rfl) rfl (by omega) (s_X2_add (K := K) a27 b28 v29  F (-9) ha27  (by omega)) (fun z31 h9 hq32 => ?_)
          obtain ⟨a33, rfl, ha33, fa33, rfl⟩ := hq32
          show f_wp _ (68, [some (.inr (.inr (some 6))), some (.inl e), some (.inl (-9)), some (.inl x30)], [], cH a33 b28 v29) _
          refine w_iload rfl rfl ?_
          exact wp_iret (z := true) rfl (fun _ => by first | exact Or.inl rfl | exact Or.inr rfl | (rcases (by omega : x30.toInt = 0 ∨ x30.toInt = 1) with h8 | h8; exact Or.inl (ti_eq h8); exact Or.inr (ti_eq h8))) ⟨a33, b28, v29, rfl, ha33, ⟨FR.tr (FR.tr (FR.tr (FR.tr (FR.rf) (FR.sub fa3.1 (by first | exact (fun _ h9 => h9) | decide | (intro c9 h9; simp only [List.mem_cons, List.not_mem_nil, or_false] at h9 ⊢; omega) | (intro c9 h9; simp at h9; simp [cA]; omega) | (intro c9 h9; simp at h9; simp [cB]; omega) | (intro c9 h9; simp [cA] at h9; simp [cB]; omega)))) (FR.sub fa22.1 (by first | exact (fun _ h9 => h9) | decide | (intro c9 h9; simp only [List.mem_cons, List.not_mem_nil, or_false] at h9 ⊢; omega) | (intro c9 h9; simp at h9; simp [cA]; omega) | (intro c9 h9; simp at h9; simp [cB]; omega) | (intro c9 h9; simp [cA] at h9; simp [cB]; omega)))) (FR.sub fa27.1 (by first | exact (fun _ h9 => h9) | decide | (intro c9 h9; simp only [List.mem_cons, List.not_mem_nil, or_false] at h9 ⊢; omega) | (intro c9 h9; simp at h9; simp [cA]; omega) | (intro c9 h9; simp at h9; simp [cB]; omega) | (intro c9 h9; simp [cA] at h9; simp [cB]; omega)))) (FR.sub fa33.1 (by first | exact (fun _ h9 => h9) | decide | (intro c9 h9; simp only [List.mem_cons, List.not_mem_nil, or_false] at h9 ⊢; omega) | (intro c9 h9; simp at h9; simp [cA]; omega) | (intro c9 h9; simp at h9; simp [cB]; omega) | (intro c9 h9; simp [cA] at h9; simp [cB]; omega))), ⟨fun i9 h9 => (fa27.2.1.1 i9 (fun z9 => h9 (by first | exact z9 | (revert z9; simp; done) | (revert z9; simp; omega)))).trans ((show ∀ i9, i9 ∉ [2] → v24 i9 = v i9 from fun i9 h9 => (fa22.2.1.1 i9 (fun z9 => h9 (by first | exact z9 | (revert z9; simp; done) | (revert z9; simp; omega)))).trans ((show ∀ i9, i9 ∉ [2] → v5 i9 = v i9 from fun i9 h9 => (fa3.2.1.1 i9 (fun z9 => h9 (by first | exact z9 | (revert z9; simp; done) | (revert z9; simp; omega)))).trans ((show ∀ i9, i9 ∉ [2] → v i9 = v i9 from (fun _ _ => rfl)) i9 h9)) i9 h9)) i9 h9), fa27.2.1.2⟩, trivial⟩, ⟨_, rfl, by omega⟩⟩
        · skip
          refine w_const rfl ?_
          refine w_goto rfl ?_
          refine w_istore (lo' := [some (.inr (.inr (some 6))), some (.inl e), some (.inl (-8)), none]) rfl rfl ?_
          refine w_aload rfl rfl ?_
          refine c_getR (t := some 1) rfl rfl rfl rfl rfl ?_
          refine w_invV (rest := []) rfl rfl rfl rfl rfl (Nat.le_of_ble_eq_true rfl) rfl (by omega) (s_X8_advance (K := K) a3 b4 v5   ha3  ) (fun z34 h9 hq35 => ?_)
          obtain ⟨a36, b37, v38, rfl, ha36, fa36, rfl⟩ := hq35
          show f_wp _ (54, [some (.inr (.inr (some 6))), some (.inl e), some (.inl (-8)), none], [], cH a36 b37 v38) _
          refine w_aload rfl rfl ?_
          refine w_iload rfl rfl ?_
          refine w_invV (rest := []) rfl rfl rfl rfl rfl (Nat.le_of_ble_eq_true rfl) rfl (by omega) (hX a36 b37 v38 ha36 fa36.2.1.2 ((fa36.2.1.1 4 (by decide)).trans ((fa3.2.1.1 4 (by decide)).trans h4))) (fun z39 h9 hq40 => ?_)
          obtain ⟨a41, b42, v43, rfl, ha41, fa41, x44, rfl, px44⟩ := hq40
          show f_wp _ (59, [some (.inr (.inr (some 6))), some (.inl e), some (.inl (-8)), none], [.inl x44], cH a41 b42 v43) _
          refine w_istore (lo' := [some (.inr (.inr (some 6))), some (.inl e), some (.inl (-8)), some (.inl x44)]) rfl rfl ?_
          refine w_aload rfl rfl ?_
          refine c_getR (t := some F) rfl rfl rfl rfl ((fa41.2.1.1 4 (by decide)).trans ((fa36.2.1.1 4 (by decide)).trans ((fa3.2.1.1 4 (by decide)).trans h4))) ?_
          refine w_iload rfl rfl ?_
          refine w_invV (rest := []) rfl rfl (sh_form (by omega)) rfl rfl (Nat.le_of_ble_eq_true rfl) rfl (by omega) (s_X2_add (K := K) a41 b42 v43  F (-8) ha41  (by omega)) (fun z45 h9 hq46 => ?_)
          obtain ⟨a47, rfl, ha47, fa47, rfl⟩ := hq46
          show f_wp _ (68, [some (.inr (.inr (some 6))), some (.inl e), some (.inl (-8)), some (.inl x44)], [], cH a47 b42 v43) _
          refine w_iload rfl rfl ?_
          exact wp_iret (z := true) rfl (fun _ => by first | exact Or.inl rfl | exact Or.inr rfl | (rcases (by omega : x44.toInt = 0 ∨ x44.toInt = 1) with h8 | h8; exact Or.inl (ti_eq h8); exact Or.inr (ti_eq h8))) ⟨a47, b42, v43, rfl, ha47, ⟨FR.tr (FR.tr (FR.tr (FR.tr (FR.rf) (FR.sub fa3.1 (by first | exact (fun _ h9 => h9) | decide | (intro c9 h9; simp only [List.mem_cons, List.not_mem_nil, or_false] at h9 ⊢; omega) | (intro c9 h9; simp at h9; simp [cA]; omega) | (intro c9 h9; simp at h9; simp [cB]; omega) | (intro c9 h9; simp [cA] at h9; simp [cB]; omega)))) (FR.sub fa36.1 (by first | exact (fun _ h9 => h9) | decide | (intro c9 h9; simp only [List.mem_cons, List.not_mem_nil, or_false] at h9 ⊢; omega) | (intro c9 h9; simp at h9; simp [cA]; omega) | (intro c9 h9; simp at h9; simp [cB]; omega) | (intro c9 h9; simp [cA] at h9; simp [cB]; omega)))) (FR.sub fa41.1 (by first | exact (fun _ h9 => h9) | decide | (intro c9 h9; simp only [List.mem_cons, List.not_mem_nil, or_false] at h9 ⊢; omega) | (intro c9 h9; simp at h9; simp [cA]; omega) | (intro c9 h9; simp at h9; simp [cB]; omega) | (intro c9 h9; simp [cA] at h9; simp [cB]; omega)))) (FR.sub fa47.1 (by first | exact (fun _ h9 => h9) | decide | (intro c9 h9; simp only [List.mem_cons, List.not_mem_nil, or_false] at h9 ⊢; omega) | (intro c9 h9; simp at h9; simp [cA]; omega) | (intro c9 h9; simp at h9; simp [cB]; omega) | (intro c9 h9; simp [cA] at h9; simp [cB]; omega))), ⟨fun i9 h9 => (fa41.2.1.1 i9 (fun z9 => h9 (by first | exact z9 | (revert z9; simp; done) | (revert z9; simp; omega)))).trans ((show ∀ i9, i9 ∉ [2] → v38 i9 = v i9 from fun i9 h9 => (fa36.2.1.1 i9 (fun z9 => h9 (by first | exact z9 | (revert z9; simp; done) | (revert z9; simp; omega)))).trans ((show ∀ i9, i9 ∉ [2] → v5 i9 = v i9 from fun i9 h9 => (fa3.2.1.1 i9 (fun z9 => h9 (by first | exact z9 | (revert z9; simp; done) | (revert z9; simp; omega)))).trans ((show ∀ i9, i9 ∉ [2] → v i9 = v i9 from (fun _ _ => rfl)) i9 h9)) i9 h9)) i9 h9), fa41.2.1.2⟩, trivial⟩, ⟨_, rfl, by omega⟩⟩
    · skip
      refine w_aload rfl rfl ?_
      refine w_const rfl ?_
      refine w_invV (rest := []) rfl rfl rfl rfl rfl (Nat.le_of_ble_eq_true rfl) rfl (by omega) (s_X6_isSign (K := K) a3 b4 v5  60 ha3  ) (fun z48 h9 hq49 => ?_)
      obtain ⟨rfl, x50, rfl, px50⟩ := hq49
      show f_wp _ (36, [some (.inr (.inr (some 6))), some (.inl e), none, none], [.inl x50], cH a3 b4 v5) _
      refine w_if_eq rfl (fun c51 => ?_) (fun c51 => ?_)
      · skip
        refine w_const rfl ?_
        refine w_istore (lo' := [some (.inr (.inr (some 6))), some (.inl e), some (.inl (-9)), none]) rfl rfl ?_
        refine w_aload rfl rfl ?_
        refine c_getR (t := some 1) rfl rfl rfl rfl rfl ?_
        refine w_invV (rest := []) rfl rfl rfl rfl rfl (Nat.le_of_ble_eq_true rfl) rfl (by omega) (s_X8_advance (K := K) a3 b4 v5   ha3  ) (fun z52 h9 hq53 => ?_)
        obtain ⟨a54, b55, v56, rfl, ha54, fa54, rfl⟩ := hq53
        show f_wp _ (54, [some (.inr (.inr (some 6))), some (.inl e), some (.inl (-9)), none], [], cH a54 b55 v56) _
        refine w_aload rfl rfl ?_
        refine w_iload rfl rfl ?_
        refine w_invV (rest := []) rfl rfl rfl rfl rfl (Nat.le_of_ble_eq_true rfl) rfl (by omega) (hX a54 b55 v56 ha54 fa54.2.1.2 ((fa54.2.1.1 4 (by decide)).trans ((fa3.2.1.1 4 (by decide)).trans h4))) (fun z57 h9 hq58 => ?_)
        obtain ⟨a59, b60, v61, rfl, ha59, fa59, x62, rfl, px62⟩ := hq58
        show f_wp _ (59, [some (.inr (.inr (some 6))), some (.inl e), some (.inl (-9)), none], [.inl x62], cH a59 b60 v61) _
        refine w_istore (lo' := [some (.inr (.inr (some 6))), some (.inl e), some (.inl (-9)), some (.inl x62)]) rfl rfl ?_
        refine w_aload rfl rfl ?_
        refine c_getR (t := some F) rfl rfl rfl rfl ((fa59.2.1.1 4 (by decide)).trans ((fa54.2.1.1 4 (by decide)).trans ((fa3.2.1.1 4 (by decide)).trans h4))) ?_
        refine w_iload rfl rfl ?_
        refine w_invV (rest := []) rfl rfl (sh_form (by omega)) rfl rfl (Nat.le_of_ble_eq_true rfl) rfl (by omega) (s_X2_add (K := K) a59 b60 v61  F (-9) ha59  (by omega)) (fun z63 h9 hq64 => ?_)
        obtain ⟨a65, rfl, ha65, fa65, rfl⟩ := hq64
        show f_wp _ (68, [some (.inr (.inr (some 6))), some (.inl e), some (.inl (-9)), some (.inl x62)], [], cH a65 b60 v61) _
        refine w_iload rfl rfl ?_
        exact wp_iret (z := true) rfl (fun _ => by first | exact Or.inl rfl | exact Or.inr rfl | (rcases (by omega : x62.toInt = 0 ∨ x62.toInt = 1) with h8 | h8; exact Or.inl (ti_eq h8); exact Or.inr (ti_eq h8))) ⟨a65, b60, v61, rfl, ha65, ⟨FR.tr (FR.tr (FR.tr (FR.tr (FR.rf) (FR.sub fa3.1 (by first | exact (fun _ h9 => h9) | decide | (intro c9 h9; simp only [List.mem_cons, List.not_mem_nil, or_false] at h9 ⊢; omega) | (intro c9 h9; simp at h9; simp [cA]; omega) | (intro c9 h9; simp at h9; simp [cB]; omega) | (intro c9 h9; simp [cA] at h9; simp [cB]; omega)))) (FR.sub fa54.1 (by first | exact (fun _ h9 => h9) | decide | (intro c9 h9; simp only [List.mem_cons, List.not_mem_nil, or_false] at h9 ⊢; omega) | (intro c9 h9; simp at h9; simp [cA]; omega) | (intro c9 h9; simp at h9; simp [cB]; omega) | (intro c9 h9; simp [cA] at h9; simp [cB]; omega)))) (FR.sub fa59.1 (by first | exact (fun _ h9 => h9) | decide | (intro c9 h9; simp only [List.mem_cons, List.not_mem_nil, or_false] at h9 ⊢; omega) | (intro c9 h9; simp at h9; simp [cA]; omega) | (intro c9 h9; simp at h9; simp [cB]; omega) | (intro c9 h9; simp [cA] at h9; simp [cB]; omega)))) (FR.sub fa65.1 (by first | exact (fun _ h9 => h9) | decide | (intro c9 h9; simp only [List.mem_cons, List.not_mem_nil, or_false] at h9 ⊢; omega) | (intro c9 h9; simp at h9; simp [cA]; omega) | (intro c9 h9; simp at h9; simp [cB]; omega) | (intro c9 h9; simp [cA] at h9; simp [cB]; omega))), ⟨fun i9 h9 => (fa59.2.1.1 i9 (fun z9 => h9 (by first | exact z9 | (revert z9; simp; done) | (revert z9; simp; omega)))).trans ((show ∀ i9, i9 ∉ [2] → v56 i9 = v i9 from fun i9 h9 => (fa54.2.1.1 i9 (fun z9 => h9 (by first | exact z9 | (revert z9; simp; done) | (revert z9; simp; omega)))).trans ((show ∀ i9, i9 ∉ [2] → v5 i9 = v i9 from fun i9 h9 => (fa3.2.1.1 i9 (fun z9 => h9 (by first | exact z9 | (revert z9; simp; done) | (revert z9; simp; omega)))).trans ((show ∀ i9, i9 ∉ [2] → v i9 = v i9 from (fun _ _ => rfl)) i9 h9)) i9 h9)) i9 h9), fa59.2.1.2⟩, trivial⟩, ⟨_, rfl, by omega⟩⟩
      · skip
        refine w_const rfl ?_
        refine w_goto rfl ?_
        refine w_istore (lo' := [some (.inr (.inr (some 6))), some (.inl e), some (.inl (-8)), none]) rfl rfl ?_
        refine w_aload rfl rfl ?_
        refine c_getR (t := some 1) rfl rfl rfl rfl rfl ?_
        refine w_invV (rest := []) rfl rfl rfl rfl rfl (Nat.le_of_ble_eq_true rfl) rfl (by omega) (s_X8_advance (K := K) a3 b4 v5   ha3  ) (fun z66 h9 hq67 => ?_)
        obtain ⟨a68, b69, v70, rfl, ha68, fa68, rfl⟩ := hq67
        show f_wp _ (54, [some (.inr (.inr (some 6))), some (.inl e), some (.inl (-8)), none], [], cH a68 b69 v70) _
        refine w_aload rfl rfl ?_
        refine w_iload rfl rfl ?_
        refine w_invV (rest := []) rfl rfl rfl rfl rfl (Nat.le_of_ble_eq_true rfl) rfl (by omega) (hX a68 b69 v70 ha68 fa68.2.1.2 ((fa68.2.1.1 4 (by decide)).trans ((fa3.2.1.1 4 (by decide)).trans h4))) (fun z71 h9 hq72 => ?_)
        obtain ⟨a73, b74, v75, rfl, ha73, fa73, x76, rfl, px76⟩ := hq72
        show f_wp _ (59, [some (.inr (.inr (some 6))), some (.inl e), some (.inl (-8)), none], [.inl x76], cH a73 b74 v75) _
        refine w_istore (lo' := [some (.inr (.inr (some 6))), some (.inl e), some (.inl (-8)), some (.inl x76)]) rfl rfl ?_
        refine w_aload rfl rfl ?_
        refine c_getR (t := some F) rfl rfl rfl rfl ((fa73.2.1.1 4 (by decide)).trans ((fa68.2.1.1 4 (by decide)).trans ((fa3.2.1.1 4 (by decide)).trans h4))) ?_
        refine w_iload rfl rfl ?_
        refine w_invV (rest := []) rfl rfl (sh_form (by omega)) rfl rfl (Nat.le_of_ble_eq_true rfl) rfl (by omega) (s_X2_add (K := K) a73 b74 v75  F (-8) ha73  (by omega)) (fun z77 h9 hq78 => ?_)
        obtain ⟨a79, rfl, ha79, fa79, rfl⟩ := hq78
        show f_wp _ (68, [some (.inr (.inr (some 6))), some (.inl e), some (.inl (-8)), some (.inl x76)], [], cH a79 b74 v75) _
        refine w_iload rfl rfl ?_
        exact wp_iret (z := true) rfl (fun _ => by first | exact Or.inl rfl | exact Or.inr rfl | (rcases (by omega : x76.toInt = 0 ∨ x76.toInt = 1) with h8 | h8; exact Or.inl (ti_eq h8); exact Or.inr (ti_eq h8))) ⟨a79, b74, v75, rfl, ha79, ⟨FR.tr (FR.tr (FR.tr (FR.tr (FR.rf) (FR.sub fa3.1 (by first | exact (fun _ h9 => h9) | decide | (intro c9 h9; simp only [List.mem_cons, List.not_mem_nil, or_false] at h9 ⊢; omega) | (intro c9 h9; simp at h9; simp [cA]; omega) | (intro c9 h9; simp at h9; simp [cB]; omega) | (intro c9 h9; simp [cA] at h9; simp [cB]; omega)))) (FR.sub fa68.1 (by first | exact (fun _ h9 => h9) | decide | (intro c9 h9; simp only [List.mem_cons, List.not_mem_nil, or_false] at h9 ⊢; omega) | (intro c9 h9; simp at h9; simp [cA]; omega) | (intro c9 h9; simp at h9; simp [cB]; omega) | (intro c9 h9; simp [cA] at h9; simp [cB]; omega)))) (FR.sub fa73.1 (by first | exact (fun _ h9 => h9) | decide | (intro c9 h9; simp only [List.mem_cons, List.not_mem_nil, or_false] at h9 ⊢; omega) | (intro c9 h9; simp at h9; simp [cA]; omega) | (intro c9 h9; simp at h9; simp [cB]; omega) | (intro c9 h9; simp [cA] at h9; simp [cB]; omega)))) (FR.sub fa79.1 (by first | exact (fun _ h9 => h9) | decide | (intro c9 h9; simp only [List.mem_cons, List.not_mem_nil, or_false] at h9 ⊢; omega) | (intro c9 h9; simp at h9; simp [cA]; omega) | (intro c9 h9; simp at h9; simp [cB]; omega) | (intro c9 h9; simp [cA] at h9; simp [cB]; omega))), ⟨fun i9 h9 => (fa73.2.1.1 i9 (fun z9 => h9 (by first | exact z9 | (revert z9; simp; done) | (revert z9; simp; omega)))).trans ((show ∀ i9, i9 ∉ [2] → v70 i9 = v i9 from fun i9 h9 => (fa68.2.1.1 i9 (fun z9 => h9 (by first | exact z9 | (revert z9; simp; done) | (revert z9; simp; omega)))).trans ((show ∀ i9, i9 ∉ [2] → v5 i9 = v i9 from fun i9 h9 => (fa3.2.1.1 i9 (fun z9 => h9 (by first | exact z9 | (revert z9; simp; done) | (revert z9; simp; omega)))).trans ((show ∀ i9, i9 ∉ [2] → v i9 = v i9 from (fun _ _ => rfl)) i9 h9)) i9 h9)) i9 h9), fa73.2.1.2⟩, trivial⟩, ⟨_, rfl, by omega⟩⟩
set_option maxRecDepth 4000 in
theorem s_X6_expression_r {K F c : Nat} {e : Int32} (hF : F = 26 ∨ F = 29 ∨ F = 50 ∨ F = 53) (hc : 4 ≤ c) (hX : CPH K F 72 c e) : CPH K F 70 (c + 1) e := by
  intro a b v hR hw h4
  refine f_call_of (d0 := c) rfl (Nat.le_of_ble_eq_true rfl) (fun d hd => ?_)
  show f_wp _ (0, [some (.inr (.inr (some 6))), some (.inl e), none, none, none], [], cH a b v) _
  have lm7 : (-7 : Int32).toInt = -7 := rfl
  have lm6 : (-6 : Int32).toInt = -6 := rfl
  have l0 : (0 : Int32).toInt = 0 := rfl
  have l1 : (1 : Int32).toInt = 1 := rfl
  have l1000 : (1000 : Int32).toInt = 1000 := rfl
  refine w_aload rfl rfl ?_
  refine w_iload rfl rfl ?_
  refine w_invV (rest := []) rfl rfl rfl rfl rfl (Nat.le_of_ble_eq_true rfl) rfl (by omega) (hX a b v hR hw h4) (fun z1 h9 hq2 => ?_)
  obtain ⟨a3, b4, v5, rfl, ha3, fa3, x6, rfl, px6⟩ := hq2
  show f_wp _ (5, [some (.inr (.inr (some 6))), some (.inl e), none, none, none], [.inl x6], cH a3 b4 v5) _
  refine w_istore (lo' := [some (.inr (.inr (some 6))), some (.inl e), some (.inl x6), none, none]) rfl rfl ?_
  refine w_const rfl ?_
  refine w_istore (lo' := [some (.inr (.inr (some 6))), some (.inl e), some (.inl x6), some (.inl 0), none]) rfl rfl ?_
  have loop8 : ∀ (ms9 : Nat) (g : Int32) (k : Int32) (a8 : Nat → Nat → Int32) (b8 : Nat → Nat → Int64) (v8 : Nat → Option Nat) (o4_8 : Option f_V), (1000 - k.toInt).toNat = ms9 → RC K a8 → FR [1, 6, F, F + 1] a a8 → (∀ i, i ∉ [2] → v8 i = v i) → (0 ≤ k.toInt ∧ k.toInt ≤ 1000) → (g.toInt = 0 ∨ g.toInt = 1) → (f_wdb (v8 2) = true) → f_wp (f_code (t_X6_expression (f_ev mtC d))) (8, [some (.inr (.inr (some 6))), some (.inl e), some (.inl g), some (.inl k), o4_8], [], cH a8 b8 v8) (fun v9 h' => ∃ (a' : Nat → Nat → Int32) (b' : Nat → Nat → Int64) (v' : Nat → Option Nat), h' = cH a' b' v' ∧ RC K a' ∧ (FR [1, 6, F, F + 1] a a' ∧ ((∀ i, i ∉ [2] → v' i = v i) ∧ f_wdb (v' 2) = true) ∧ True) ∧ ∃ x : Int32, v9 = some (.inl x) ∧ (x.toInt = 0 ∨ x.toInt = 1)) := by
    intro ms9
    induction ms9 using Nat.strongRecOn with
    | _ ms8 ih8 =>
      intro g k a8 b8 v8 o4_8 hm8 hR8 hF8 hG8 hk hg hw9
      refine w_iload rfl rfl ?_
      refine w_const rfl ?_
      refine w_ic_ge rfl (fun c7 => ?_) (fun c7 => ?_)
      · skip
        refine w_iload rfl rfl ?_
        exact wp_iret (z := true) rfl (fun _ => by first | exact Or.inl rfl | exact Or.inr rfl | (rcases (by omega : g.toInt = 0 ∨ g.toInt = 1) with h8 | h8; exact Or.inl (ti_eq h8); exact Or.inr (ti_eq h8))) ⟨a8, b8, v8, rfl, hR8, ⟨hF8, ⟨hG8, hw9⟩, trivial⟩, ⟨_, rfl, by omega⟩⟩
      · skip
        refine w_iload rfl rfl ?_
        refine w_if_eq rfl (fun c8 => ?_) (fun c8 => ?_)
        · skip
          refine w_iload rfl rfl ?_
          exact wp_iret (z := true) rfl (fun _ => by first | exact Or.inl rfl | exact Or.inr rfl | (rcases (by omega : g.toInt = 0 ∨ g.toInt = 1) with h8 | h8; exact Or.inl (ti_eq h8); exact Or.inr (ti_eq h8))) ⟨a8, b8, v8, rfl, hR8, ⟨hF8, ⟨hG8, hw9⟩, trivial⟩, ⟨_, rfl, by omega⟩⟩
        · skip
          refine w_aload rfl rfl ?_
          refine w_invV (rest := []) rfl rfl rfl rfl rfl (Nat.le_of_ble_eq_true rfl) rfl (by omega) (s_X6_isLink (K := K) a8 b8 v8   hR8  (hw9)) (fun z9 h9 hq10 => ?_)
          obtain ⟨rfl, x11, rfl, px11⟩ := hq10
          show f_wp _ (23, [some (.inr (.inr (some 6))), some (.inl e), some (.inl g), some (.inl k), o4_8], [.inl x11], cH a8 b8 v8) _
          refine w_if_eq rfl (fun c12 => ?_) (fun c12 => ?_)
          · skip
            refine w_iload rfl rfl ?_
            exact wp_iret (z := true) rfl (fun _ => by first | exact Or.inl rfl | exact Or.inr rfl | (rcases (by omega : g.toInt = 0 ∨ g.toInt = 1) with h8 | h8; exact Or.inl (ti_eq h8); exact Or.inr (ti_eq h8))) ⟨a8, b8, v8, rfl, hR8, ⟨hF8, ⟨hG8, hw9⟩, trivial⟩, ⟨_, rfl, by omega⟩⟩
          · skip
            refine w_aload rfl rfl ?_
            refine c_getR (t := some 1) rfl rfl rfl rfl rfl ?_
            refine c_getR (t := v8 2) rfl rfl rfl rfl rfl ?_
            refine w_const rfl ?_
            refine c_aw_ne rfl ⟨hw9, rfl⟩ (fun c13 => ?_) (fun c13 => ?_)
            · skip
              refine w_const rfl ?_
              refine w_goto rfl ?_
              refine w_istore (lo' := [some (.inr (.inr (some 6))), some (.inl e), some (.inl g), some (.inl k), some (.inl (-6))]) rfl rfl ?_
              refine w_aload rfl rfl ?_
              refine c_getR (t := some 1) rfl rfl rfl rfl rfl ?_
              refine w_invV (rest := []) rfl rfl rfl rfl rfl (Nat.le_of_ble_eq_true rfl) rfl (by omega) (s_X8_advance (K := K) a8 b8 v8   hR8  ) (fun z14 h9 hq15 => ?_)
              obtain ⟨a16, b17, v18, rfl, ha16, fa16, rfl⟩ := hq15
              show f_wp _ (55, [some (.inr (.inr (some 6))), some (.inl e), some (.inl g), some (.inl k), some (.inl (-6))], [], cH a16 b17 v18) _
              refine w_aload rfl rfl ?_
              refine w_iload rfl rfl ?_
              refine w_invV (rest := []) rfl rfl rfl rfl rfl (Nat.le_of_ble_eq_true rfl) rfl (by omega) (hX a16 b17 v18 ha16 fa16.2.1.2 ((fa16.2.1.1 4 (by decide)).trans ((hG8 4 (by decide)).trans h4))) (fun z19 h9 hq20 => ?_)
              obtain ⟨a21, b22, v23, rfl, ha21, fa21, x24, rfl, px24⟩ := hq20
              show f_wp _ (60, [some (.inr (.inr (some 6))), some (.inl e), some (.inl g), some (.inl k), some (.inl (-6))], [.inl x24], cH a21 b22 v23) _
              refine w_istore (lo' := [some (.inr (.inr (some 6))), some (.inl e), some (.inl x24), some (.inl k), some (.inl (-6))]) rfl rfl ?_
              refine w_aload rfl rfl ?_
              refine c_getR (t := some F) rfl rfl rfl rfl ((fa21.2.1.1 4 (by decide)).trans ((fa16.2.1.1 4 (by decide)).trans ((hG8 4 (by decide)).trans h4))) ?_
              refine w_iload rfl rfl ?_
              refine w_invV (rest := []) rfl rfl (sh_form (by omega)) rfl rfl (Nat.le_of_ble_eq_true rfl) rfl (by omega) (s_X2_add (K := K) a21 b22 v23  F (-6) ha21  (by omega)) (fun z25 h9 hq26 => ?_)
              obtain ⟨a27, rfl, ha27, fa27, rfl⟩ := hq26
              show f_wp _ (70, [some (.inr (.inr (some 6))), some (.inl e), some (.inl x24), some (.inl k), some (.inl (-6))], [], cH a27 b22 v23) _
              refine w_iinc (lo' := fun z9 => [some (.inr (.inr (some 6))), some (.inl e), some (.inl x24), some (.inl z9), some (.inl (-6))]) rfl rfl (fun _ => rfl) (by omega) (fun x28 tx28 => ?_)
              refine w_goto rfl ?_
              exact ih8 (1000 - x28.toInt).toNat (by omega) x24 x28 a27 b22 v23 (some (.inl (-6))) rfl ha27 (FR.tr (FR.tr (FR.tr (hF8) (FR.sub fa16.1 (by first | exact (fun _ h9 => h9) | decide | (intro c9 h9; simp only [List.mem_cons, List.not_mem_nil, or_false] at h9 ⊢; omega) | (intro c9 h9; simp at h9; simp [cA]; omega) | (intro c9 h9; simp at h9; simp [cB]; omega) | (intro c9 h9; simp [cA] at h9; simp [cB]; omega)))) (FR.sub fa21.1 (by first | exact (fun _ h9 => h9) | decide | (intro c9 h9; simp only [List.mem_cons, List.not_mem_nil, or_false] at h9 ⊢; omega) | (intro c9 h9; simp at h9; simp [cA]; omega) | (intro c9 h9; simp at h9; simp [cB]; omega) | (intro c9 h9; simp [cA] at h9; simp [cB]; omega)))) (FR.sub fa27.1 (by first | exact (fun _ h9 => h9) | decide | (intro c9 h9; simp only [List.mem_cons, List.not_mem_nil, or_false] at h9 ⊢; omega) | (intro c9 h9; simp at h9; simp [cA]; omega) | (intro c9 h9; simp at h9; simp [cB]; omega) | (intro c9 h9; simp [cA] at h9; simp [cB]; omega)))) (fun i9 h9 => (fa21.2.1.1 i9 (fun z9 => h9 (by first | exact z9 | (revert z9; simp; done) | (revert z9; simp; omega)))).trans ((show ∀ i9, i9 ∉ [2] → v18 i9 = v i9 from fun i9 h9 => (fa16.2.1.1 i9 (fun z9 => h9 (by first | exact z9 | (revert z9; simp; done) | (revert z9; simp; omega)))).trans ((show ∀ i9, i9 ∉ [2] → v8 i9 = v i9 from hG8) i9 h9)) i9 h9)) (by omega) (by omega) (fa21.2.1.2)
            · skip
              refine w_const rfl ?_
              refine w_istore (lo' := [some (.inr (.inr (some 6))), some (.inl e), some (.inl g), some (.inl k), some (.inl (-7))]) rfl rfl ?_
              refine w_aload rfl rfl ?_
              refine c_getR (t := some 1) rfl rfl rfl rfl rfl ?_
              refine w_invV (rest := []) rfl rfl rfl rfl rfl (Nat.le_of_ble_eq_true rfl) rfl (by omega) (s_X8_advance (K := K) a8 b8 v8   hR8  ) (fun z29 h9 hq30 => ?_)
              obtain ⟨a31, b32, v33, rfl, ha31, fa31, rfl⟩ := hq30
              show f_wp _ (55, [some (.inr (.inr (some 6))), some (.inl e), some (.inl g), some (.inl k), some (.inl (-7))], [], cH a31 b32 v33) _
              refine w_aload rfl rfl ?_
              refine w_iload rfl rfl ?_
              refine w_invV (rest := []) rfl rfl rfl rfl rfl (Nat.le_of_ble_eq_true rfl) rfl (by omega) (hX a31 b32 v33 ha31 fa31.2.1.2 ((fa31.2.1.1 4 (by decide)).trans ((hG8 4 (by decide)).trans h4))) (fun z34 h9 hq35 => ?_)
              obtain ⟨a36, b37, v38, rfl, ha36, fa36, x39, rfl, px39⟩ := hq35
              show f_wp _ (60, [some (.inr (.inr (some 6))), some (.inl e), some (.inl g), some (.inl k), some (.inl (-7))], [.inl x39], cH a36 b37 v38) _
              refine w_istore (lo' := [some (.inr (.inr (some 6))), some (.inl e), some (.inl x39), some (.inl k), some (.inl (-7))]) rfl rfl ?_
              refine w_aload rfl rfl ?_
              refine c_getR (t := some F) rfl rfl rfl rfl ((fa36.2.1.1 4 (by decide)).trans ((fa31.2.1.1 4 (by decide)).trans ((hG8 4 (by decide)).trans h4))) ?_
              refine w_iload rfl rfl ?_
              refine w_invV (rest := []) rfl rfl (sh_form (by omega)) rfl rfl (Nat.le_of_ble_eq_true rfl) rfl (by omega) (s_X2_add (K := K) a36 b37 v38  F (-7) ha36  (by omega)) (fun z40 h9 hq41 => ?_)
              obtain ⟨a42, rfl, ha42, fa42, rfl⟩ := hq41
              show f_wp _ (70, [some (.inr (.inr (some 6))), some (.inl e), some (.inl x39), some (.inl k), some (.inl (-7))], [], cH a42 b37 v38) _
              refine w_iinc (lo' := fun z9 => [some (.inr (.inr (some 6))), some (.inl e), some (.inl x39), some (.inl z9), some (.inl (-7))]) rfl rfl (fun _ => rfl) (by omega) (fun x43 tx43 => ?_)
              refine w_goto rfl ?_
              exact ih8 (1000 - x43.toInt).toNat (by omega) x39 x43 a42 b37 v38 (some (.inl (-7))) rfl ha42 (FR.tr (FR.tr (FR.tr (hF8) (FR.sub fa31.1 (by first | exact (fun _ h9 => h9) | decide | (intro c9 h9; simp only [List.mem_cons, List.not_mem_nil, or_false] at h9 ⊢; omega) | (intro c9 h9; simp at h9; simp [cA]; omega) | (intro c9 h9; simp at h9; simp [cB]; omega) | (intro c9 h9; simp [cA] at h9; simp [cB]; omega)))) (FR.sub fa36.1 (by first | exact (fun _ h9 => h9) | decide | (intro c9 h9; simp only [List.mem_cons, List.not_mem_nil, or_false] at h9 ⊢; omega) | (intro c9 h9; simp at h9; simp [cA]; omega) | (intro c9 h9; simp at h9; simp [cB]; omega) | (intro c9 h9; simp [cA] at h9; simp [cB]; omega)))) (FR.sub fa42.1 (by first | exact (fun _ h9 => h9) | decide | (intro c9 h9; simp only [List.mem_cons, List.not_mem_nil, or_false] at h9 ⊢; omega) | (intro c9 h9; simp at h9; simp [cA]; omega) | (intro c9 h9; simp at h9; simp [cB]; omega) | (intro c9 h9; simp [cA] at h9; simp [cB]; omega)))) (fun i9 h9 => (fa36.2.1.1 i9 (fun z9 => h9 (by first | exact z9 | (revert z9; simp; done) | (revert z9; simp; omega)))).trans ((show ∀ i9, i9 ∉ [2] → v33 i9 = v i9 from fun i9 h9 => (fa31.2.1.1 i9 (fun z9 => h9 (by first | exact z9 | (revert z9; simp; done) | (revert z9; simp; omega)))).trans ((show ∀ i9, i9 ∉ [2] → v8 i9 = v i9 from hG8) i9 h9)) i9 h9)) (by omega) (by omega) (fa36.2.1.2)
  exact loop8 _ x6 0 a3 b4 v5 none rfl ha3 (FR.tr (FR.rf) (FR.sub fa3.1 (by first | exact (fun _ h9 => h9) | decide | (intro c9 h9; simp only [List.mem_cons, List.not_mem_nil, or_false] at h9 ⊢; omega) | (intro c9 h9; simp at h9; simp [cA]; omega) | (intro c9 h9; simp at h9; simp [cB]; omega) | (intro c9 h9; simp [cA] at h9; simp [cB]; omega)))) (fun i9 h9 => (fa3.2.1.1 i9 (fun z9 => h9 (by first | exact z9 | (revert z9; simp; done) | (revert z9; simp; omega)))).trans ((show ∀ i9, i9 ∉ [2] → v i9 = v i9 from (fun _ _ => rfl)) i9 h9)) (by omega) (by omega) (fa3.2.1.2)
set_option maxRecDepth 4000 in
theorem s_X6_factor_r {K F c : Nat} {e : Int32} (hF : F = 26 ∨ F = 29 ∨ F = 50 ∨ F = 53) (he : 0 ≤ e.toInt ∧ e.toInt ≤ 5) (hc : 4 ≤ c) (ihT : ∀ e1 : Int32, e.toInt < 5 → e1.toInt = e.toInt + 1 → CPH K F 75 c e1) (ihA : ∀ e1 : Int32, e.toInt < 5 → e1.toInt = e.toInt + 1 → CPH K F 70 c e1) : CPH K F 75 (c + 1) e := by
  intro a b v hR hw h4
  refine f_call_of (d0 := c) rfl (Nat.le_of_ble_eq_true rfl) (fun d hd => ?_)
  show f_wp _ (0, [some (.inr (.inr (some 6))), some (.inl e), none, none, none, none, none], [], cH a b v) _
  have lm13 : (-13 : Int32).toInt = -13 := rfl
  have lm5 : (-5 : Int32).toInt = -5 := rfl
  have l0 : (0 : Int32).toInt = 0 := rfl
  have l1 : (1 : Int32).toInt = 1 := rfl
  have l3 : (3 : Int32).toInt = 3 := rfl
  have l5 : (5 : Int32).toInt = 5 := rfl
  have l40 : (40 : Int32).toInt = 40 := rfl
  have l41 : (41 : Int32).toInt = 41 := rfl
  have loop66 : ∀ (ms9 : Nat) (o1 : Int32) (o2 : Int32) (o3 : Int32) (o4 : Int32) , ((0 : Int)).toNat = ms9 → (o1.toInt = 0 ∨ o1.toInt = 1) → f_wp (f_code (t_X6_factor (f_ev mtC d))) (66, [some (.inr (.inr (some 6))), some (.inl e), some (.inl o1), some (.inl o2), some (.inl o3), some (.inl o4), none], [], cH a b v) (fun v9 h' => ∃ (a' : Nat → Nat → Int32) (b' : Nat → Nat → Int64) (v' : Nat → Option Nat), h' = cH a' b' v' ∧ RC K a' ∧ (FR [1, 6, F, F + 1] a a' ∧ ((∀ i, i ∉ [2] → v' i = v i) ∧ f_wdb (v' 2) = true) ∧ True) ∧ ∃ x : Int32, v9 = some (.inl x) ∧ (x.toInt = 0 ∨ x.toInt = 1)) := by
    intro ms9
    induction ms9 using Nat.strongRecOn with
    | _ ms66 ih66 =>
      intro o1 o2 o3 o4  hm66 ho
      refine w_iload rfl rfl ?_
      refine w_if_ne rfl (fun c1 => ?_) (fun c1 => ?_)
      · skip
        refine w_iload rfl rfl ?_
        refine w_if_ne rfl (fun c2 => ?_) (fun c2 => ?_)
        · skip
          refine w_iload rfl rfl ?_
          refine w_if_ne rfl (fun c3 => ?_) (fun c3 => ?_)
          · skip
            refine w_iload rfl rfl ?_
            refine w_const rfl ?_
            refine w_ic_ne rfl (fun c4 => ?_) (fun c4 => ?_)
            · skip
              refine w_aload rfl rfl ?_
              refine w_const rfl ?_
              refine w_invV (rest := []) rfl rfl rfl rfl rfl (Nat.le_of_ble_eq_true rfl) rfl (by omega) (s_X6_fail (K := K) a b v  1 hR  ) (fun z5 h9 hq6 => ?_)
              obtain ⟨a7, rfl, ha7, fa7, x8, rfl, px8⟩ := hq6
              show f_wp _ (91, [some (.inr (.inr (some 6))), some (.inl e), some (.inl o1), some (.inl o2), some (.inl o3), some (.inl o4), none], [.inl x8], cH a7 b v) _
              exact wp_iret (z := true) rfl (fun _ => by first | exact Or.inl rfl | exact Or.inr rfl | (rcases (by omega : x8.toInt = 0 ∨ x8.toInt = 1) with h8 | h8; exact Or.inl (ti_eq h8); exact Or.inr (ti_eq h8))) ⟨a7, b, v, rfl, ha7, ⟨FR.tr (FR.rf) (FR.sub fa7.1 (by first | exact (fun _ h9 => h9) | decide | (intro c9 h9; simp only [List.mem_cons, List.not_mem_nil, or_false] at h9 ⊢; omega) | (intro c9 h9; simp at h9; simp [cA]; omega) | (intro c9 h9; simp at h9; simp [cB]; omega) | (intro c9 h9; simp [cA] at h9; simp [cB]; omega))), ⟨(fun _ _ => rfl), hw⟩, trivial⟩, ⟨_, rfl, by omega⟩⟩
            · skip
              refine w_iload rfl rfl ?_
              refine w_const rfl ?_
              refine w_ic_lt rfl (fun c9 => ?_) (fun c9 => ?_)
              · skip
                refine w_aload rfl rfl ?_
                refine c_getR (t := some 1) rfl rfl rfl rfl rfl ?_
                refine w_invV (rest := []) rfl rfl rfl rfl rfl (Nat.le_of_ble_eq_true rfl) rfl (by omega) (s_X8_advance (K := K) a b v   hR  ) (fun z10 h9 hq11 => ?_)
                obtain ⟨a12, b13, v14, rfl, ha12, fa12, rfl⟩ := hq11
                show f_wp _ (110, [some (.inr (.inr (some 6))), some (.inl e), some (.inl o1), some (.inl o2), some (.inl o3), some (.inl o4), none], [], cH a12 b13 v14) _
                refine w_iload rfl rfl ?_
                refine w_if_eq rfl (fun c15 => ?_) (fun c15 => ?_)
                · skip
                  refine w_iload rfl rfl ?_
                  refine w_if_eq rfl (fun c16 => ?_) (fun c16 => ?_)
                  · skip
                    refine w_aload rfl rfl ?_
                    refine c_getR (t := some F) rfl rfl rfl rfl ((fa12.2.1.1 4 (by decide)).trans h4) ?_
                    refine w_iload rfl rfl ?_
                    refine w_invV (rest := []) rfl rfl (sh_form (by omega)) rfl rfl (Nat.le_of_ble_eq_true rfl) rfl (by omega) (s_X2_add (K := K) a12 b13 v14  F o4 ha12  (by omega)) (fun z17 h9 hq18 => ?_)
                    obtain ⟨a19, rfl, ha19, fa19, rfl⟩ := hq18
                    show f_wp _ (173, [some (.inr (.inr (some 6))), some (.inl e), some (.inl o1), some (.inl o2), some (.inl o3), some (.inl o4), none], [], cH a19 b13 v14) _
                    refine w_const rfl ?_
                    exact wp_iret (z := true) rfl (fun _ => by first | exact Or.inl rfl | exact Or.inr rfl | (rcases (by omega : (1 : Int32).toInt = 0 ∨ (1 : Int32).toInt = 1) with h8 | h8; exact Or.inl (ti_eq h8); exact Or.inr (ti_eq h8))) ⟨a19, b13, v14, rfl, ha19, ⟨FR.tr (FR.tr (FR.rf) (FR.sub fa12.1 (by first | exact (fun _ h9 => h9) | decide | (intro c9 h9; simp only [List.mem_cons, List.not_mem_nil, or_false] at h9 ⊢; omega) | (intro c9 h9; simp at h9; simp [cA]; omega) | (intro c9 h9; simp at h9; simp [cB]; omega) | (intro c9 h9; simp [cA] at h9; simp [cB]; omega)))) (FR.sub fa19.1 (by first | exact (fun _ h9 => h9) | decide | (intro c9 h9; simp only [List.mem_cons, List.not_mem_nil, or_false] at h9 ⊢; omega) | (intro c9 h9; simp at h9; simp [cA]; omega) | (intro c9 h9; simp at h9; simp [cB]; omega) | (intro c9 h9; simp [cA] at h9; simp [cB]; omega))), ⟨fun i9 h9 => (fa12.2.1.1 i9 (fun z9 => h9 (by first | exact z9 | (revert z9; simp; done) | (revert z9; simp; omega)))).trans ((show ∀ i9, i9 ∉ [2] → v i9 = v i9 from (fun _ _ => rfl)) i9 h9), fa12.2.1.2⟩, trivial⟩, ⟨_, rfl, by omega⟩⟩
                  · skip
                    refine w_aload rfl rfl ?_
                    refine w_iload rfl rfl ?_
                    refine w_const rfl ?_
                    first | refine w_iadd rfl (by omega) (fun x20 tx20 => ?_) | refine w_iiU rfl (fun x20 tx20 => ?_)
                    refine w_invV (rest := []) rfl rfl rfl rfl rfl (Nat.le_of_ble_eq_true rfl) rfl (by omega) (ihT x20 (by omega) (by omega) a12 b13 v14 ha12 fa12.2.1.2 ((fa12.2.1.1 4 (by decide)).trans h4)) (fun z21 h9 hq22 => ?_)
                    obtain ⟨a23, b24, v25, rfl, ha23, fa23, x26, rfl, px26⟩ := hq22
                    show f_wp _ (150, [some (.inr (.inr (some 6))), some (.inl e), some (.inl o1), some (.inl o2), some (.inl o3), some (.inl o4), none], [.inl x26], cH a23 b24 v25) _
                    refine w_istore (lo' := [some (.inr (.inr (some 6))), some (.inl e), some (.inl o1), some (.inl o2), some (.inl o3), some (.inl o4), some (.inl x26)]) rfl rfl ?_
                    refine w_aload rfl rfl ?_
                    refine c_getR (t := some F) rfl rfl rfl rfl ((fa23.2.1.1 4 (by decide)).trans ((fa12.2.1.1 4 (by decide)).trans h4)) ?_
                    refine w_const rfl ?_
                    refine w_invV (rest := []) rfl rfl (sh_form (by omega)) rfl rfl (Nat.le_of_ble_eq_true rfl) rfl (by omega) (s_X2_add (K := K) a23 b24 v25  F (-5) ha23  (by omega)) (fun z27 h9 hq28 => ?_)
                    obtain ⟨a29, rfl, ha29, fa29, rfl⟩ := hq28
                    show f_wp _ (161, [some (.inr (.inr (some 6))), some (.inl e), some (.inl o1), some (.inl o2), some (.inl o3), some (.inl o4), some (.inl x26)], [], cH a29 b24 v25) _
                    refine w_iload rfl rfl ?_
                    exact wp_iret (z := true) rfl (fun _ => by first | exact Or.inl rfl | exact Or.inr rfl | (rcases (by omega : x26.toInt = 0 ∨ x26.toInt = 1) with h8 | h8; exact Or.inl (ti_eq h8); exact Or.inr (ti_eq h8))) ⟨a29, b24, v25, rfl, ha29, ⟨FR.tr (FR.tr (FR.tr (FR.rf) (FR.sub fa12.1 (by first | exact (fun _ h9 => h9) | decide | (intro c9 h9; simp only [List.mem_cons, List.not_mem_nil, or_false] at h9 ⊢; omega) | (intro c9 h9; simp at h9; simp [cA]; omega) | (intro c9 h9; simp at h9; simp [cB]; omega) | (intro c9 h9; simp [cA] at h9; simp [cB]; omega)))) (FR.sub fa23.1 (by first | exact (fun _ h9 => h9) | decide | (intro c9 h9; simp only [List.mem_cons, List.not_mem_nil, or_false] at h9 ⊢; omega) | (intro c9 h9; simp at h9; simp [cA]; omega) | (intro c9 h9; simp at h9; simp [cB]; omega) | (intro c9 h9; simp [cA] at h9; simp [cB]; omega)))) (FR.sub fa29.1 (by first | exact (fun _ h9 => h9) | decide | (intro c9 h9; simp only [List.mem_cons, List.not_mem_nil, or_false] at h9 ⊢; omega) | (intro c9 h9; simp at h9; simp [cA]; omega) | (intro c9 h9; simp at h9; simp [cB]; omega) | (intro c9 h9; simp [cA] at h9; simp [cB]; omega))), ⟨fun i9 h9 => (fa23.2.1.1 i9 (fun z9 => h9 (by first | exact z9 | (revert z9; simp; done) | (revert z9; simp; omega)))).trans ((show ∀ i9, i9 ∉ [2] → v14 i9 = v i9 from fun i9 h9 => (fa12.2.1.1 i9 (fun z9 => h9 (by first | exact z9 | (revert z9; simp; done) | (revert z9; simp; omega)))).trans ((show ∀ i9, i9 ∉ [2] → v i9 = v i9 from (fun _ _ => rfl)) i9 h9)) i9 h9), fa23.2.1.2⟩, trivial⟩, ⟨_, rfl, by omega⟩⟩
                · skip
                  refine w_aload rfl rfl ?_
                  refine w_iload rfl rfl ?_
                  refine w_const rfl ?_
                  first | refine w_iadd rfl (by omega) (fun x30 tx30 => ?_) | refine w_iiU rfl (fun x30 tx30 => ?_)
                  refine w_invV (rest := []) rfl rfl rfl rfl rfl (Nat.le_of_ble_eq_true rfl) rfl (by omega) (ihA x30 (by omega) (by omega) a12 b13 v14 ha12 fa12.2.1.2 ((fa12.2.1.1 4 (by decide)).trans h4)) (fun z31 h9 hq32 => ?_)
                  obtain ⟨a33, b34, v35, rfl, ha33, fa33, x36, rfl, px36⟩ := hq32
                  show f_wp _ (121, [some (.inr (.inr (some 6))), some (.inl e), some (.inl o1), some (.inl o2), some (.inl o3), some (.inl o4), none], [.inl x36], cH a33 b34 v35) _
                  refine w_if_eq rfl (fun c37 => ?_) (fun c37 => ?_)
                  · skip
                    refine w_const rfl ?_
                    exact wp_iret (z := true) rfl (fun _ => by first | exact Or.inl rfl | exact Or.inr rfl | (rcases (by omega : (0 : Int32).toInt = 0 ∨ (0 : Int32).toInt = 1) with h8 | h8; exact Or.inl (ti_eq h8); exact Or.inr (ti_eq h8))) ⟨a33, b34, v35, rfl, ha33, ⟨FR.tr (FR.tr (FR.rf) (FR.sub fa12.1 (by first | exact (fun _ h9 => h9) | decide | (intro c9 h9; simp only [List.mem_cons, List.not_mem_nil, or_false] at h9 ⊢; omega) | (intro c9 h9; simp at h9; simp [cA]; omega) | (intro c9 h9; simp at h9; simp [cB]; omega) | (intro c9 h9; simp [cA] at h9; simp [cB]; omega)))) (FR.sub fa33.1 (by first | exact (fun _ h9 => h9) | decide | (intro c9 h9; simp only [List.mem_cons, List.not_mem_nil, or_false] at h9 ⊢; omega) | (intro c9 h9; simp at h9; simp [cA]; omega) | (intro c9 h9; simp at h9; simp [cB]; omega) | (intro c9 h9; simp [cA] at h9; simp [cB]; omega))), ⟨fun i9 h9 => (fa33.2.1.1 i9 (fun z9 => h9 (by first | exact z9 | (revert z9; simp; done) | (revert z9; simp; omega)))).trans ((show ∀ i9, i9 ∉ [2] → v14 i9 = v i9 from fun i9 h9 => (fa12.2.1.1 i9 (fun z9 => h9 (by first | exact z9 | (revert z9; simp; done) | (revert z9; simp; omega)))).trans ((show ∀ i9, i9 ∉ [2] → v i9 = v i9 from (fun _ _ => rfl)) i9 h9)) i9 h9), fa33.2.1.2⟩, trivial⟩, ⟨_, rfl, by omega⟩⟩
                  · skip
                    refine w_aload rfl rfl ?_
                    refine w_const rfl ?_
                    refine w_invV (rest := []) rfl rfl rfl rfl rfl (Nat.le_of_ble_eq_true rfl) rfl (by omega) (s_X6_passSign (K := K) a33 b34 v35  41 ha33  (fa33.2.1.2)) (fun z38 h9 hq39 => ?_)
                    obtain ⟨a40, b41, v42, rfl, ha40, fa40, x43, rfl, px43⟩ := hq39
                    show f_wp _ (130, [some (.inr (.inr (some 6))), some (.inl e), some (.inl o1), some (.inl o2), some (.inl o3), some (.inl o4), none], [.inl x43], cH a40 b41 v42) _
                    refine w_if_eq rfl (fun c44 => ?_) (fun c44 => ?_)
                    · skip
                      refine w_const rfl ?_
                      exact wp_iret (z := true) rfl (fun _ => by first | exact Or.inl rfl | exact Or.inr rfl | (rcases (by omega : (0 : Int32).toInt = 0 ∨ (0 : Int32).toInt = 1) with h8 | h8; exact Or.inl (ti_eq h8); exact Or.inr (ti_eq h8))) ⟨a40, b41, v42, rfl, ha40, ⟨FR.tr (FR.tr (FR.tr (FR.rf) (FR.sub fa12.1 (by first | exact (fun _ h9 => h9) | decide | (intro c9 h9; simp only [List.mem_cons, List.not_mem_nil, or_false] at h9 ⊢; omega) | (intro c9 h9; simp at h9; simp [cA]; omega) | (intro c9 h9; simp at h9; simp [cB]; omega) | (intro c9 h9; simp [cA] at h9; simp [cB]; omega)))) (FR.sub fa33.1 (by first | exact (fun _ h9 => h9) | decide | (intro c9 h9; simp only [List.mem_cons, List.not_mem_nil, or_false] at h9 ⊢; omega) | (intro c9 h9; simp at h9; simp [cA]; omega) | (intro c9 h9; simp at h9; simp [cB]; omega) | (intro c9 h9; simp [cA] at h9; simp [cB]; omega)))) (FR.sub fa40.1 (by first | exact (fun _ h9 => h9) | decide | (intro c9 h9; simp only [List.mem_cons, List.not_mem_nil, or_false] at h9 ⊢; omega) | (intro c9 h9; simp at h9; simp [cA]; omega) | (intro c9 h9; simp at h9; simp [cB]; omega) | (intro c9 h9; simp [cA] at h9; simp [cB]; omega))), ⟨fun i9 h9 => (fa40.2.1.1 i9 (fun z9 => h9 (by first | exact z9 | (revert z9; simp; done) | (revert z9; simp; omega)))).trans ((show ∀ i9, i9 ∉ [2] → v35 i9 = v i9 from fun i9 h9 => (fa33.2.1.1 i9 (fun z9 => h9 (by first | exact z9 | (revert z9; simp; done) | (revert z9; simp; omega)))).trans ((show ∀ i9, i9 ∉ [2] → v14 i9 = v i9 from fun i9 h9 => (fa12.2.1.1 i9 (fun z9 => h9 (by first | exact z9 | (revert z9; simp; done) | (revert z9; simp; omega)))).trans ((show ∀ i9, i9 ∉ [2] → v i9 = v i9 from (fun _ _ => rfl)) i9 h9)) i9 h9)) i9 h9), fa40.2.1.2⟩, trivial⟩, ⟨_, rfl, by omega⟩⟩
                    · skip
                      refine w_const rfl ?_
                      refine w_goto rfl ?_
                      exact wp_iret (z := true) rfl (fun _ => by first | exact Or.inl rfl | exact Or.inr rfl | (rcases (by omega : (1 : Int32).toInt = 0 ∨ (1 : Int32).toInt = 1) with h8 | h8; exact Or.inl (ti_eq h8); exact Or.inr (ti_eq h8))) ⟨a40, b41, v42, rfl, ha40, ⟨FR.tr (FR.tr (FR.tr (FR.rf) (FR.sub fa12.1 (by first | exact (fun _ h9 => h9) | decide | (intro c9 h9; simp only [List.mem_cons, List.not_mem_nil, or_false] at h9 ⊢; omega) | (intro c9 h9; simp at h9; simp [cA]; omega) | (intro c9 h9; simp at h9; simp [cB]; omega) | (intro c9 h9; simp [cA] at h9; simp [cB]; omega)))) (FR.sub fa33.1 (by first | exact (fun _ h9 => h9) | decide | (intro c9 h9; simp only [List.mem_cons, List.not_mem_nil, or_false] at h9 ⊢; omega) | (intro c9 h9; simp at h9; simp [cA]; omega) | (intro c9 h9; simp at h9; simp [cB]; omega) | (intro c9 h9; simp [cA] at h9; simp [cB]; omega)))) (FR.sub fa40.1 (by first | exact (fun _ h9 => h9) | decide | (intro c9 h9; simp only [List.mem_cons, List.not_mem_nil, or_false] at h9 ⊢; omega) | (intro c9 h9; simp at h9; simp [cA]; omega) | (intro c9 h9; simp at h9; simp [cB]; omega) | (intro c9 h9; simp [cA] at h9; simp [cB]; omega))), ⟨fun i9 h9 => (fa40.2.1.1 i9 (fun z9 => h9 (by first | exact z9 | (revert z9; simp; done) | (revert z9; simp; omega)))).trans ((show ∀ i9, i9 ∉ [2] → v35 i9 = v i9 from fun i9 h9 => (fa33.2.1.1 i9 (fun z9 => h9 (by first | exact z9 | (revert z9; simp; done) | (revert z9; simp; omega)))).trans ((show ∀ i9, i9 ∉ [2] → v14 i9 = v i9 from fun i9 h9 => (fa12.2.1.1 i9 (fun z9 => h9 (by first | exact z9 | (revert z9; simp; done) | (revert z9; simp; omega)))).trans ((show ∀ i9, i9 ∉ [2] → v i9 = v i9 from (fun _ _ => rfl)) i9 h9)) i9 h9)) i9 h9), fa40.2.1.2⟩, trivial⟩, ⟨_, rfl, by omega⟩⟩
              · skip
                refine w_aload rfl rfl ?_
                refine w_const rfl ?_
                refine w_invV (rest := []) rfl rfl rfl rfl rfl (Nat.le_of_ble_eq_true rfl) rfl (by omega) (s_X6_fail (K := K) a b v  5 hR  ) (fun z45 h9 hq46 => ?_)
                obtain ⟨a47, rfl, ha47, fa47, x48, rfl, px48⟩ := hq46
                show f_wp _ (102, [some (.inr (.inr (some 6))), some (.inl e), some (.inl o1), some (.inl o2), some (.inl o3), some (.inl o4), none], [.inl x48], cH a47 b v) _
                exact wp_iret (z := true) rfl (fun _ => by first | exact Or.inl rfl | exact Or.inr rfl | (rcases (by omega : x48.toInt = 0 ∨ x48.toInt = 1) with h8 | h8; exact Or.inl (ti_eq h8); exact Or.inr (ti_eq h8))) ⟨a47, b, v, rfl, ha47, ⟨FR.tr (FR.rf) (FR.sub fa47.1 (by first | exact (fun _ h9 => h9) | decide | (intro c9 h9; simp only [List.mem_cons, List.not_mem_nil, or_false] at h9 ⊢; omega) | (intro c9 h9; simp at h9; simp [cA]; omega) | (intro c9 h9; simp at h9; simp [cB]; omega) | (intro c9 h9; simp [cA] at h9; simp [cB]; omega))), ⟨(fun _ _ => rfl), hw⟩, trivial⟩, ⟨_, rfl, by omega⟩⟩
          · skip
            refine w_iload rfl rfl ?_
            refine w_const rfl ?_
            refine w_ic_lt rfl (fun c49 => ?_) (fun c49 => ?_)
            · skip
              refine w_aload rfl rfl ?_
              refine c_getR (t := some 1) rfl rfl rfl rfl rfl ?_
              refine w_invV (rest := []) rfl rfl rfl rfl rfl (Nat.le_of_ble_eq_true rfl) rfl (by omega) (s_X8_advance (K := K) a b v   hR  ) (fun z50 h9 hq51 => ?_)
              obtain ⟨a52, b53, v54, rfl, ha52, fa52, rfl⟩ := hq51
              show f_wp _ (110, [some (.inr (.inr (some 6))), some (.inl e), some (.inl o1), some (.inl o2), some (.inl o3), some (.inl o4), none], [], cH a52 b53 v54) _
              refine w_iload rfl rfl ?_
              refine w_if_eq rfl (fun c55 => ?_) (fun c55 => ?_)
              · skip
                refine w_iload rfl rfl ?_
                refine w_if_eq rfl (fun c56 => ?_) (fun c56 => ?_)
                · skip
                  refine w_aload rfl rfl ?_
                  refine c_getR (t := some F) rfl rfl rfl rfl ((fa52.2.1.1 4 (by decide)).trans h4) ?_
                  refine w_iload rfl rfl ?_
                  refine w_invV (rest := []) rfl rfl (sh_form (by omega)) rfl rfl (Nat.le_of_ble_eq_true rfl) rfl (by omega) (s_X2_add (K := K) a52 b53 v54  F o4 ha52  (by omega)) (fun z57 h9 hq58 => ?_)
                  obtain ⟨a59, rfl, ha59, fa59, rfl⟩ := hq58
                  show f_wp _ (173, [some (.inr (.inr (some 6))), some (.inl e), some (.inl o1), some (.inl o2), some (.inl o3), some (.inl o4), none], [], cH a59 b53 v54) _
                  refine w_const rfl ?_
                  exact wp_iret (z := true) rfl (fun _ => by first | exact Or.inl rfl | exact Or.inr rfl | (rcases (by omega : (1 : Int32).toInt = 0 ∨ (1 : Int32).toInt = 1) with h8 | h8; exact Or.inl (ti_eq h8); exact Or.inr (ti_eq h8))) ⟨a59, b53, v54, rfl, ha59, ⟨FR.tr (FR.tr (FR.rf) (FR.sub fa52.1 (by first | exact (fun _ h9 => h9) | decide | (intro c9 h9; simp only [List.mem_cons, List.not_mem_nil, or_false] at h9 ⊢; omega) | (intro c9 h9; simp at h9; simp [cA]; omega) | (intro c9 h9; simp at h9; simp [cB]; omega) | (intro c9 h9; simp [cA] at h9; simp [cB]; omega)))) (FR.sub fa59.1 (by first | exact (fun _ h9 => h9) | decide | (intro c9 h9; simp only [List.mem_cons, List.not_mem_nil, or_false] at h9 ⊢; omega) | (intro c9 h9; simp at h9; simp [cA]; omega) | (intro c9 h9; simp at h9; simp [cB]; omega) | (intro c9 h9; simp [cA] at h9; simp [cB]; omega))), ⟨fun i9 h9 => (fa52.2.1.1 i9 (fun z9 => h9 (by first | exact z9 | (revert z9; simp; done) | (revert z9; simp; omega)))).trans ((show ∀ i9, i9 ∉ [2] → v i9 = v i9 from (fun _ _ => rfl)) i9 h9), fa52.2.1.2⟩, trivial⟩, ⟨_, rfl, by omega⟩⟩
                · skip
                  refine w_aload rfl rfl ?_
                  refine w_iload rfl rfl ?_
                  refine w_const rfl ?_
                  first | refine w_iadd rfl (by omega) (fun x60 tx60 => ?_) | refine w_iiU rfl (fun x60 tx60 => ?_)
                  refine w_invV (rest := []) rfl rfl rfl rfl rfl (Nat.le_of_ble_eq_true rfl) rfl (by omega) (ihT x60 (by omega) (by omega) a52 b53 v54 ha52 fa52.2.1.2 ((fa52.2.1.1 4 (by decide)).trans h4)) (fun z61 h9 hq62 => ?_)
                  obtain ⟨a63, b64, v65, rfl, ha63, fa63, x66, rfl, px66⟩ := hq62
                  show f_wp _ (150, [some (.inr (.inr (some 6))), some (.inl e), some (.inl o1), some (.inl o2), some (.inl o3), some (.inl o4), none], [.inl x66], cH a63 b64 v65) _
                  refine w_istore (lo' := [some (.inr (.inr (some 6))), some (.inl e), some (.inl o1), some (.inl o2), some (.inl o3), some (.inl o4), some (.inl x66)]) rfl rfl ?_
                  refine w_aload rfl rfl ?_
                  refine c_getR (t := some F) rfl rfl rfl rfl ((fa63.2.1.1 4 (by decide)).trans ((fa52.2.1.1 4 (by decide)).trans h4)) ?_
                  refine w_const rfl ?_
                  refine w_invV (rest := []) rfl rfl (sh_form (by omega)) rfl rfl (Nat.le_of_ble_eq_true rfl) rfl (by omega) (s_X2_add (K := K) a63 b64 v65  F (-5) ha63  (by omega)) (fun z67 h9 hq68 => ?_)
                  obtain ⟨a69, rfl, ha69, fa69, rfl⟩ := hq68
                  show f_wp _ (161, [some (.inr (.inr (some 6))), some (.inl e), some (.inl o1), some (.inl o2), some (.inl o3), some (.inl o4), some (.inl x66)], [], cH a69 b64 v65) _
                  refine w_iload rfl rfl ?_
                  exact wp_iret (z := true) rfl (fun _ => by first | exact Or.inl rfl | exact Or.inr rfl | (rcases (by omega : x66.toInt = 0 ∨ x66.toInt = 1) with h8 | h8; exact Or.inl (ti_eq h8); exact Or.inr (ti_eq h8))) ⟨a69, b64, v65, rfl, ha69, ⟨FR.tr (FR.tr (FR.tr (FR.rf) (FR.sub fa52.1 (by first | exact (fun _ h9 => h9) | decide | (intro c9 h9; simp only [List.mem_cons, List.not_mem_nil, or_false] at h9 ⊢; omega) | (intro c9 h9; simp at h9; simp [cA]; omega) | (intro c9 h9; simp at h9; simp [cB]; omega) | (intro c9 h9; simp [cA] at h9; simp [cB]; omega)))) (FR.sub fa63.1 (by first | exact (fun _ h9 => h9) | decide | (intro c9 h9; simp only [List.mem_cons, List.not_mem_nil, or_false] at h9 ⊢; omega) | (intro c9 h9; simp at h9; simp [cA]; omega) | (intro c9 h9; simp at h9; simp [cB]; omega) | (intro c9 h9; simp [cA] at h9; simp [cB]; omega)))) (FR.sub fa69.1 (by first | exact (fun _ h9 => h9) | decide | (intro c9 h9; simp only [List.mem_cons, List.not_mem_nil, or_false] at h9 ⊢; omega) | (intro c9 h9; simp at h9; simp [cA]; omega) | (intro c9 h9; simp at h9; simp [cB]; omega) | (intro c9 h9; simp [cA] at h9; simp [cB]; omega))), ⟨fun i9 h9 => (fa63.2.1.1 i9 (fun z9 => h9 (by first | exact z9 | (revert z9; simp; done) | (revert z9; simp; omega)))).trans ((show ∀ i9, i9 ∉ [2] → v54 i9 = v i9 from fun i9 h9 => (fa52.2.1.1 i9 (fun z9 => h9 (by first | exact z9 | (revert z9; simp; done) | (revert z9; simp; omega)))).trans ((show ∀ i9, i9 ∉ [2] → v i9 = v i9 from (fun _ _ => rfl)) i9 h9)) i9 h9), fa63.2.1.2⟩, trivial⟩, ⟨_, rfl, by omega⟩⟩
              · skip
                refine w_aload rfl rfl ?_
                refine w_iload rfl rfl ?_
                refine w_const rfl ?_
                first | refine w_iadd rfl (by omega) (fun x70 tx70 => ?_) | refine w_iiU rfl (fun x70 tx70 => ?_)
                refine w_invV (rest := []) rfl rfl rfl rfl rfl (Nat.le_of_ble_eq_true rfl) rfl (by omega) (ihA x70 (by omega) (by omega) a52 b53 v54 ha52 fa52.2.1.2 ((fa52.2.1.1 4 (by decide)).trans h4)) (fun z71 h9 hq72 => ?_)
                obtain ⟨a73, b74, v75, rfl, ha73, fa73, x76, rfl, px76⟩ := hq72
                show f_wp _ (121, [some (.inr (.inr (some 6))), some (.inl e), some (.inl o1), some (.inl o2), some (.inl o3), some (.inl o4), none], [.inl x76], cH a73 b74 v75) _
                refine w_if_eq rfl (fun c77 => ?_) (fun c77 => ?_)
                · skip
                  refine w_const rfl ?_
                  exact wp_iret (z := true) rfl (fun _ => by first | exact Or.inl rfl | exact Or.inr rfl | (rcases (by omega : (0 : Int32).toInt = 0 ∨ (0 : Int32).toInt = 1) with h8 | h8; exact Or.inl (ti_eq h8); exact Or.inr (ti_eq h8))) ⟨a73, b74, v75, rfl, ha73, ⟨FR.tr (FR.tr (FR.rf) (FR.sub fa52.1 (by first | exact (fun _ h9 => h9) | decide | (intro c9 h9; simp only [List.mem_cons, List.not_mem_nil, or_false] at h9 ⊢; omega) | (intro c9 h9; simp at h9; simp [cA]; omega) | (intro c9 h9; simp at h9; simp [cB]; omega) | (intro c9 h9; simp [cA] at h9; simp [cB]; omega)))) (FR.sub fa73.1 (by first | exact (fun _ h9 => h9) | decide | (intro c9 h9; simp only [List.mem_cons, List.not_mem_nil, or_false] at h9 ⊢; omega) | (intro c9 h9; simp at h9; simp [cA]; omega) | (intro c9 h9; simp at h9; simp [cB]; omega) | (intro c9 h9; simp [cA] at h9; simp [cB]; omega))), ⟨fun i9 h9 => (fa73.2.1.1 i9 (fun z9 => h9 (by first | exact z9 | (revert z9; simp; done) | (revert z9; simp; omega)))).trans ((show ∀ i9, i9 ∉ [2] → v54 i9 = v i9 from fun i9 h9 => (fa52.2.1.1 i9 (fun z9 => h9 (by first | exact z9 | (revert z9; simp; done) | (revert z9; simp; omega)))).trans ((show ∀ i9, i9 ∉ [2] → v i9 = v i9 from (fun _ _ => rfl)) i9 h9)) i9 h9), fa73.2.1.2⟩, trivial⟩, ⟨_, rfl, by omega⟩⟩
                · skip
                  refine w_aload rfl rfl ?_
                  refine w_const rfl ?_
                  refine w_invV (rest := []) rfl rfl rfl rfl rfl (Nat.le_of_ble_eq_true rfl) rfl (by omega) (s_X6_passSign (K := K) a73 b74 v75  41 ha73  (fa73.2.1.2)) (fun z78 h9 hq79 => ?_)
                  obtain ⟨a80, b81, v82, rfl, ha80, fa80, x83, rfl, px83⟩ := hq79
                  show f_wp _ (130, [some (.inr (.inr (some 6))), some (.inl e), some (.inl o1), some (.inl o2), some (.inl o3), some (.inl o4), none], [.inl x83], cH a80 b81 v82) _
                  refine w_if_eq rfl (fun c84 => ?_) (fun c84 => ?_)
                  · skip
                    refine w_const rfl ?_
                    exact wp_iret (z := true) rfl (fun _ => by first | exact Or.inl rfl | exact Or.inr rfl | (rcases (by omega : (0 : Int32).toInt = 0 ∨ (0 : Int32).toInt = 1) with h8 | h8; exact Or.inl (ti_eq h8); exact Or.inr (ti_eq h8))) ⟨a80, b81, v82, rfl, ha80, ⟨FR.tr (FR.tr (FR.tr (FR.rf) (FR.sub fa52.1 (by first | exact (fun _ h9 => h9) | decide | (intro c9 h9; simp only [List.mem_cons, List.not_mem_nil, or_false] at h9 ⊢; omega) | (intro c9 h9; simp at h9; simp [cA]; omega) | (intro c9 h9; simp at h9; simp [cB]; omega) | (intro c9 h9; simp [cA] at h9; simp [cB]; omega)))) (FR.sub fa73.1 (by first | exact (fun _ h9 => h9) | decide | (intro c9 h9; simp only [List.mem_cons, List.not_mem_nil, or_false] at h9 ⊢; omega) | (intro c9 h9; simp at h9; simp [cA]; omega) | (intro c9 h9; simp at h9; simp [cB]; omega) | (intro c9 h9; simp [cA] at h9; simp [cB]; omega)))) (FR.sub fa80.1 (by first | exact (fun _ h9 => h9) | decide | (intro c9 h9; simp only [List.mem_cons, List.not_mem_nil, or_false] at h9 ⊢; omega) | (intro c9 h9; simp at h9; simp [cA]; omega) | (intro c9 h9; simp at h9; simp [cB]; omega) | (intro c9 h9; simp [cA] at h9; simp [cB]; omega))), ⟨fun i9 h9 => (fa80.2.1.1 i9 (fun z9 => h9 (by first | exact z9 | (revert z9; simp; done) | (revert z9; simp; omega)))).trans ((show ∀ i9, i9 ∉ [2] → v75 i9 = v i9 from fun i9 h9 => (fa73.2.1.1 i9 (fun z9 => h9 (by first | exact z9 | (revert z9; simp; done) | (revert z9; simp; omega)))).trans ((show ∀ i9, i9 ∉ [2] → v54 i9 = v i9 from fun i9 h9 => (fa52.2.1.1 i9 (fun z9 => h9 (by first | exact z9 | (revert z9; simp; done) | (revert z9; simp; omega)))).trans ((show ∀ i9, i9 ∉ [2] → v i9 = v i9 from (fun _ _ => rfl)) i9 h9)) i9 h9)) i9 h9), fa80.2.1.2⟩, trivial⟩, ⟨_, rfl, by omega⟩⟩
                  · skip
                    refine w_const rfl ?_
                    refine w_goto rfl ?_
                    exact wp_iret (z := true) rfl (fun _ => by first | exact Or.inl rfl | exact Or.inr rfl | (rcases (by omega : (1 : Int32).toInt = 0 ∨ (1 : Int32).toInt = 1) with h8 | h8; exact Or.inl (ti_eq h8); exact Or.inr (ti_eq h8))) ⟨a80, b81, v82, rfl, ha80, ⟨FR.tr (FR.tr (FR.tr (FR.rf) (FR.sub fa52.1 (by first | exact (fun _ h9 => h9) | decide | (intro c9 h9; simp only [List.mem_cons, List.not_mem_nil, or_false] at h9 ⊢; omega) | (intro c9 h9; simp at h9; simp [cA]; omega) | (intro c9 h9; simp at h9; simp [cB]; omega) | (intro c9 h9; simp [cA] at h9; simp [cB]; omega)))) (FR.sub fa73.1 (by first | exact (fun _ h9 => h9) | decide | (intro c9 h9; simp only [List.mem_cons, List.not_mem_nil, or_false] at h9 ⊢; omega) | (intro c9 h9; simp at h9; simp [cA]; omega) | (intro c9 h9; simp at h9; simp [cB]; omega) | (intro c9 h9; simp [cA] at h9; simp [cB]; omega)))) (FR.sub fa80.1 (by first | exact (fun _ h9 => h9) | decide | (intro c9 h9; simp only [List.mem_cons, List.not_mem_nil, or_false] at h9 ⊢; omega) | (intro c9 h9; simp at h9; simp [cA]; omega) | (intro c9 h9; simp at h9; simp [cB]; omega) | (intro c9 h9; simp [cA] at h9; simp [cB]; omega))), ⟨fun i9 h9 => (fa80.2.1.1 i9 (fun z9 => h9 (by first | exact z9 | (revert z9; simp; done) | (revert z9; simp; omega)))).trans ((show ∀ i9, i9 ∉ [2] → v75 i9 = v i9 from fun i9 h9 => (fa73.2.1.1 i9 (fun z9 => h9 (by first | exact z9 | (revert z9; simp; done) | (revert z9; simp; omega)))).trans ((show ∀ i9, i9 ∉ [2] → v54 i9 = v i9 from fun i9 h9 => (fa52.2.1.1 i9 (fun z9 => h9 (by first | exact z9 | (revert z9; simp; done) | (revert z9; simp; omega)))).trans ((show ∀ i9, i9 ∉ [2] → v i9 = v i9 from (fun _ _ => rfl)) i9 h9)) i9 h9)) i9 h9), fa80.2.1.2⟩, trivial⟩, ⟨_, rfl, by omega⟩⟩
            · skip
              refine w_aload rfl rfl ?_
              refine w_const rfl ?_
              refine w_invV (rest := []) rfl rfl rfl rfl rfl (Nat.le_of_ble_eq_true rfl) rfl (by omega) (s_X6_fail (K := K) a b v  5 hR  ) (fun z85 h9 hq86 => ?_)
              obtain ⟨a87, rfl, ha87, fa87, x88, rfl, px88⟩ := hq86
              show f_wp _ (102, [some (.inr (.inr (some 6))), some (.inl e), some (.inl o1), some (.inl o2), some (.inl o3), some (.inl o4), none], [.inl x88], cH a87 b v) _
              exact wp_iret (z := true) rfl (fun _ => by first | exact Or.inl rfl | exact Or.inr rfl | (rcases (by omega : x88.toInt = 0 ∨ x88.toInt = 1) with h8 | h8; exact Or.inl (ti_eq h8); exact Or.inr (ti_eq h8))) ⟨a87, b, v, rfl, ha87, ⟨FR.tr (FR.rf) (FR.sub fa87.1 (by first | exact (fun _ h9 => h9) | decide | (intro c9 h9; simp only [List.mem_cons, List.not_mem_nil, or_false] at h9 ⊢; omega) | (intro c9 h9; simp at h9; simp [cA]; omega) | (intro c9 h9; simp at h9; simp [cB]; omega) | (intro c9 h9; simp [cA] at h9; simp [cB]; omega))), ⟨(fun _ _ => rfl), hw⟩, trivial⟩, ⟨_, rfl, by omega⟩⟩
        · skip
          refine w_iload rfl rfl ?_
          refine w_const rfl ?_
          refine w_ic_lt rfl (fun c89 => ?_) (fun c89 => ?_)
          · skip
            refine w_aload rfl rfl ?_
            refine c_getR (t := some 1) rfl rfl rfl rfl rfl ?_
            refine w_invV (rest := []) rfl rfl rfl rfl rfl (Nat.le_of_ble_eq_true rfl) rfl (by omega) (s_X8_advance (K := K) a b v   hR  ) (fun z90 h9 hq91 => ?_)
            obtain ⟨a92, b93, v94, rfl, ha92, fa92, rfl⟩ := hq91
            show f_wp _ (110, [some (.inr (.inr (some 6))), some (.inl e), some (.inl o1), some (.inl o2), some (.inl o3), some (.inl o4), none], [], cH a92 b93 v94) _
            refine w_iload rfl rfl ?_
            refine w_if_eq rfl (fun c95 => ?_) (fun c95 => ?_)
            · skip
              refine w_iload rfl rfl ?_
              refine w_if_eq rfl (fun c96 => ?_) (fun c96 => ?_)
              · skip
                refine w_aload rfl rfl ?_
                refine c_getR (t := some F) rfl rfl rfl rfl ((fa92.2.1.1 4 (by decide)).trans h4) ?_
                refine w_iload rfl rfl ?_
                refine w_invV (rest := []) rfl rfl (sh_form (by omega)) rfl rfl (Nat.le_of_ble_eq_true rfl) rfl (by omega) (s_X2_add (K := K) a92 b93 v94  F o4 ha92  (by omega)) (fun z97 h9 hq98 => ?_)
                obtain ⟨a99, rfl, ha99, fa99, rfl⟩ := hq98
                show f_wp _ (173, [some (.inr (.inr (some 6))), some (.inl e), some (.inl o1), some (.inl o2), some (.inl o3), some (.inl o4), none], [], cH a99 b93 v94) _
                refine w_const rfl ?_
                exact wp_iret (z := true) rfl (fun _ => by first | exact Or.inl rfl | exact Or.inr rfl | (rcases (by omega : (1 : Int32).toInt = 0 ∨ (1 : Int32).toInt = 1) with h8 | h8; exact Or.inl (ti_eq h8); exact Or.inr (ti_eq h8))) ⟨a99, b93, v94, rfl, ha99, ⟨FR.tr (FR.tr (FR.rf) (FR.sub fa92.1 (by first | exact (fun _ h9 => h9) | decide | (intro c9 h9; simp only [List.mem_cons, List.not_mem_nil, or_false] at h9 ⊢; omega) | (intro c9 h9; simp at h9; simp [cA]; omega) | (intro c9 h9; simp at h9; simp [cB]; omega) | (intro c9 h9; simp [cA] at h9; simp [cB]; omega)))) (FR.sub fa99.1 (by first | exact (fun _ h9 => h9) | decide | (intro c9 h9; simp only [List.mem_cons, List.not_mem_nil, or_false] at h9 ⊢; omega) | (intro c9 h9; simp at h9; simp [cA]; omega) | (intro c9 h9; simp at h9; simp [cB]; omega) | (intro c9 h9; simp [cA] at h9; simp [cB]; omega))), ⟨fun i9 h9 => (fa92.2.1.1 i9 (fun z9 => h9 (by first | exact z9 | (revert z9; simp; done) | (revert z9; simp; omega)))).trans ((show ∀ i9, i9 ∉ [2] → v i9 = v i9 from (fun _ _ => rfl)) i9 h9), fa92.2.1.2⟩, trivial⟩, ⟨_, rfl, by omega⟩⟩
              · skip
                refine w_aload rfl rfl ?_
                refine w_iload rfl rfl ?_
                refine w_const rfl ?_
                first | refine w_iadd rfl (by omega) (fun x100 tx100 => ?_) | refine w_iiU rfl (fun x100 tx100 => ?_)
                refine w_invV (rest := []) rfl rfl rfl rfl rfl (Nat.le_of_ble_eq_true rfl) rfl (by omega) (ihT x100 (by omega) (by omega) a92 b93 v94 ha92 fa92.2.1.2 ((fa92.2.1.1 4 (by decide)).trans h4)) (fun z101 h9 hq102 => ?_)
                obtain ⟨a103, b104, v105, rfl, ha103, fa103, x106, rfl, px106⟩ := hq102
                show f_wp _ (150, [some (.inr (.inr (some 6))), some (.inl e), some (.inl o1), some (.inl o2), some (.inl o3), some (.inl o4), none], [.inl x106], cH a103 b104 v105) _
                refine w_istore (lo' := [some (.inr (.inr (some 6))), some (.inl e), some (.inl o1), some (.inl o2), some (.inl o3), some (.inl o4), some (.inl x106)]) rfl rfl ?_
                refine w_aload rfl rfl ?_
                refine c_getR (t := some F) rfl rfl rfl rfl ((fa103.2.1.1 4 (by decide)).trans ((fa92.2.1.1 4 (by decide)).trans h4)) ?_
                refine w_const rfl ?_
                refine w_invV (rest := []) rfl rfl (sh_form (by omega)) rfl rfl (Nat.le_of_ble_eq_true rfl) rfl (by omega) (s_X2_add (K := K) a103 b104 v105  F (-5) ha103  (by omega)) (fun z107 h9 hq108 => ?_)
                obtain ⟨a109, rfl, ha109, fa109, rfl⟩ := hq108
                show f_wp _ (161, [some (.inr (.inr (some 6))), some (.inl e), some (.inl o1), some (.inl o2), some (.inl o3), some (.inl o4), some (.inl x106)], [], cH a109 b104 v105) _
                refine w_iload rfl rfl ?_
                exact wp_iret (z := true) rfl (fun _ => by first | exact Or.inl rfl | exact Or.inr rfl | (rcases (by omega : x106.toInt = 0 ∨ x106.toInt = 1) with h8 | h8; exact Or.inl (ti_eq h8); exact Or.inr (ti_eq h8))) ⟨a109, b104, v105, rfl, ha109, ⟨FR.tr (FR.tr (FR.tr (FR.rf) (FR.sub fa92.1 (by first | exact (fun _ h9 => h9) | decide | (intro c9 h9; simp only [List.mem_cons, List.not_mem_nil, or_false] at h9 ⊢; omega) | (intro c9 h9; simp at h9; simp [cA]; omega) | (intro c9 h9; simp at h9; simp [cB]; omega) | (intro c9 h9; simp [cA] at h9; simp [cB]; omega)))) (FR.sub fa103.1 (by first | exact (fun _ h9 => h9) | decide | (intro c9 h9; simp only [List.mem_cons, List.not_mem_nil, or_false] at h9 ⊢; omega) | (intro c9 h9; simp at h9; simp [cA]; omega) | (intro c9 h9; simp at h9; simp [cB]; omega) | (intro c9 h9; simp [cA] at h9; simp [cB]; omega)))) (FR.sub fa109.1 (by first | exact (fun _ h9 => h9) | decide | (intro c9 h9; simp only [List.mem_cons, List.not_mem_nil, or_false] at h9 ⊢; omega) | (intro c9 h9; simp at h9; simp [cA]; omega) | (intro c9 h9; simp at h9; simp [cB]; omega) | (intro c9 h9; simp [cA] at h9; simp [cB]; omega))), ⟨fun i9 h9 => (fa103.2.1.1 i9 (fun z9 => h9 (by first | exact z9 | (revert z9; simp; done) | (revert z9; simp; omega)))).trans ((show ∀ i9, i9 ∉ [2] → v94 i9 = v i9 from fun i9 h9 => (fa92.2.1.1 i9 (fun z9 => h9 (by first | exact z9 | (revert z9; simp; done) | (revert z9; simp; omega)))).trans ((show ∀ i9, i9 ∉ [2] → v i9 = v i9 from (fun _ _ => rfl)) i9 h9)) i9 h9), fa103.2.1.2⟩, trivial⟩, ⟨_, rfl, by omega⟩⟩
            · skip
              refine w_aload rfl rfl ?_
              refine w_iload rfl rfl ?_
              refine w_const rfl ?_
              first | refine w_iadd rfl (by omega) (fun x110 tx110 => ?_) | refine w_iiU rfl (fun x110 tx110 => ?_)
              refine w_invV (rest := []) rfl rfl rfl rfl rfl (Nat.le_of_ble_eq_true rfl) rfl (by omega) (ihA x110 (by omega) (by omega) a92 b93 v94 ha92 fa92.2.1.2 ((fa92.2.1.1 4 (by decide)).trans h4)) (fun z111 h9 hq112 => ?_)
              obtain ⟨a113, b114, v115, rfl, ha113, fa113, x116, rfl, px116⟩ := hq112
              show f_wp _ (121, [some (.inr (.inr (some 6))), some (.inl e), some (.inl o1), some (.inl o2), some (.inl o3), some (.inl o4), none], [.inl x116], cH a113 b114 v115) _
              refine w_if_eq rfl (fun c117 => ?_) (fun c117 => ?_)
              · skip
                refine w_const rfl ?_
                exact wp_iret (z := true) rfl (fun _ => by first | exact Or.inl rfl | exact Or.inr rfl | (rcases (by omega : (0 : Int32).toInt = 0 ∨ (0 : Int32).toInt = 1) with h8 | h8; exact Or.inl (ti_eq h8); exact Or.inr (ti_eq h8))) ⟨a113, b114, v115, rfl, ha113, ⟨FR.tr (FR.tr (FR.rf) (FR.sub fa92.1 (by first | exact (fun _ h9 => h9) | decide | (intro c9 h9; simp only [List.mem_cons, List.not_mem_nil, or_false] at h9 ⊢; omega) | (intro c9 h9; simp at h9; simp [cA]; omega) | (intro c9 h9; simp at h9; simp [cB]; omega) | (intro c9 h9; simp [cA] at h9; simp [cB]; omega)))) (FR.sub fa113.1 (by first | exact (fun _ h9 => h9) | decide | (intro c9 h9; simp only [List.mem_cons, List.not_mem_nil, or_false] at h9 ⊢; omega) | (intro c9 h9; simp at h9; simp [cA]; omega) | (intro c9 h9; simp at h9; simp [cB]; omega) | (intro c9 h9; simp [cA] at h9; simp [cB]; omega))), ⟨fun i9 h9 => (fa113.2.1.1 i9 (fun z9 => h9 (by first | exact z9 | (revert z9; simp; done) | (revert z9; simp; omega)))).trans ((show ∀ i9, i9 ∉ [2] → v94 i9 = v i9 from fun i9 h9 => (fa92.2.1.1 i9 (fun z9 => h9 (by first | exact z9 | (revert z9; simp; done) | (revert z9; simp; omega)))).trans ((show ∀ i9, i9 ∉ [2] → v i9 = v i9 from (fun _ _ => rfl)) i9 h9)) i9 h9), fa113.2.1.2⟩, trivial⟩, ⟨_, rfl, by omega⟩⟩
              · skip
                refine w_aload rfl rfl ?_
                refine w_const rfl ?_
                refine w_invV (rest := []) rfl rfl rfl rfl rfl (Nat.le_of_ble_eq_true rfl) rfl (by omega) (s_X6_passSign (K := K) a113 b114 v115  41 ha113  (fa113.2.1.2)) (fun z118 h9 hq119 => ?_)
                obtain ⟨a120, b121, v122, rfl, ha120, fa120, x123, rfl, px123⟩ := hq119
                show f_wp _ (130, [some (.inr (.inr (some 6))), some (.inl e), some (.inl o1), some (.inl o2), some (.inl o3), some (.inl o4), none], [.inl x123], cH a120 b121 v122) _
                refine w_if_eq rfl (fun c124 => ?_) (fun c124 => ?_)
                · skip
                  refine w_const rfl ?_
                  exact wp_iret (z := true) rfl (fun _ => by first | exact Or.inl rfl | exact Or.inr rfl | (rcases (by omega : (0 : Int32).toInt = 0 ∨ (0 : Int32).toInt = 1) with h8 | h8; exact Or.inl (ti_eq h8); exact Or.inr (ti_eq h8))) ⟨a120, b121, v122, rfl, ha120, ⟨FR.tr (FR.tr (FR.tr (FR.rf) (FR.sub fa92.1 (by first | exact (fun _ h9 => h9) | decide | (intro c9 h9; simp only [List.mem_cons, List.not_mem_nil, or_false] at h9 ⊢; omega) | (intro c9 h9; simp at h9; simp [cA]; omega) | (intro c9 h9; simp at h9; simp [cB]; omega) | (intro c9 h9; simp [cA] at h9; simp [cB]; omega)))) (FR.sub fa113.1 (by first | exact (fun _ h9 => h9) | decide | (intro c9 h9; simp only [List.mem_cons, List.not_mem_nil, or_false] at h9 ⊢; omega) | (intro c9 h9; simp at h9; simp [cA]; omega) | (intro c9 h9; simp at h9; simp [cB]; omega) | (intro c9 h9; simp [cA] at h9; simp [cB]; omega)))) (FR.sub fa120.1 (by first | exact (fun _ h9 => h9) | decide | (intro c9 h9; simp only [List.mem_cons, List.not_mem_nil, or_false] at h9 ⊢; omega) | (intro c9 h9; simp at h9; simp [cA]; omega) | (intro c9 h9; simp at h9; simp [cB]; omega) | (intro c9 h9; simp [cA] at h9; simp [cB]; omega))), ⟨fun i9 h9 => (fa120.2.1.1 i9 (fun z9 => h9 (by first | exact z9 | (revert z9; simp; done) | (revert z9; simp; omega)))).trans ((show ∀ i9, i9 ∉ [2] → v115 i9 = v i9 from fun i9 h9 => (fa113.2.1.1 i9 (fun z9 => h9 (by first | exact z9 | (revert z9; simp; done) | (revert z9; simp; omega)))).trans ((show ∀ i9, i9 ∉ [2] → v94 i9 = v i9 from fun i9 h9 => (fa92.2.1.1 i9 (fun z9 => h9 (by first | exact z9 | (revert z9; simp; done) | (revert z9; simp; omega)))).trans ((show ∀ i9, i9 ∉ [2] → v i9 = v i9 from (fun _ _ => rfl)) i9 h9)) i9 h9)) i9 h9), fa120.2.1.2⟩, trivial⟩, ⟨_, rfl, by omega⟩⟩
                · skip
                  refine w_const rfl ?_
                  refine w_goto rfl ?_
                  exact wp_iret (z := true) rfl (fun _ => by first | exact Or.inl rfl | exact Or.inr rfl | (rcases (by omega : (1 : Int32).toInt = 0 ∨ (1 : Int32).toInt = 1) with h8 | h8; exact Or.inl (ti_eq h8); exact Or.inr (ti_eq h8))) ⟨a120, b121, v122, rfl, ha120, ⟨FR.tr (FR.tr (FR.tr (FR.rf) (FR.sub fa92.1 (by first | exact (fun _ h9 => h9) | decide | (intro c9 h9; simp only [List.mem_cons, List.not_mem_nil, or_false] at h9 ⊢; omega) | (intro c9 h9; simp at h9; simp [cA]; omega) | (intro c9 h9; simp at h9; simp [cB]; omega) | (intro c9 h9; simp [cA] at h9; simp [cB]; omega)))) (FR.sub fa113.1 (by first | exact (fun _ h9 => h9) | decide | (intro c9 h9; simp only [List.mem_cons, List.not_mem_nil, or_false] at h9 ⊢; omega) | (intro c9 h9; simp at h9; simp [cA]; omega) | (intro c9 h9; simp at h9; simp [cB]; omega) | (intro c9 h9; simp [cA] at h9; simp [cB]; omega)))) (FR.sub fa120.1 (by first | exact (fun _ h9 => h9) | decide | (intro c9 h9; simp only [List.mem_cons, List.not_mem_nil, or_false] at h9 ⊢; omega) | (intro c9 h9; simp at h9; simp [cA]; omega) | (intro c9 h9; simp at h9; simp [cB]; omega) | (intro c9 h9; simp [cA] at h9; simp [cB]; omega))), ⟨fun i9 h9 => (fa120.2.1.1 i9 (fun z9 => h9 (by first | exact z9 | (revert z9; simp; done) | (revert z9; simp; omega)))).trans ((show ∀ i9, i9 ∉ [2] → v115 i9 = v i9 from fun i9 h9 => (fa113.2.1.1 i9 (fun z9 => h9 (by first | exact z9 | (revert z9; simp; done) | (revert z9; simp; omega)))).trans ((show ∀ i9, i9 ∉ [2] → v94 i9 = v i9 from fun i9 h9 => (fa92.2.1.1 i9 (fun z9 => h9 (by first | exact z9 | (revert z9; simp; done) | (revert z9; simp; omega)))).trans ((show ∀ i9, i9 ∉ [2] → v i9 = v i9 from (fun _ _ => rfl)) i9 h9)) i9 h9)) i9 h9), fa120.2.1.2⟩, trivial⟩, ⟨_, rfl, by omega⟩⟩
          · skip
            refine w_aload rfl rfl ?_
            refine w_const rfl ?_
            refine w_invV (rest := []) rfl rfl rfl rfl rfl (Nat.le_of_ble_eq_true rfl) rfl (by omega) (s_X6_fail (K := K) a b v  5 hR  ) (fun z125 h9 hq126 => ?_)
            obtain ⟨a127, rfl, ha127, fa127, x128, rfl, px128⟩ := hq126
            show f_wp _ (102, [some (.inr (.inr (some 6))), some (.inl e), some (.inl o1), some (.inl o2), some (.inl o3), some (.inl o4), none], [.inl x128], cH a127 b v) _
            exact wp_iret (z := true) rfl (fun _ => by first | exact Or.inl rfl | exact Or.inr rfl | (rcases (by omega : x128.toInt = 0 ∨ x128.toInt = 1) with h8 | h8; exact Or.inl (ti_eq h8); exact Or.inr (ti_eq h8))) ⟨a127, b, v, rfl, ha127, ⟨FR.tr (FR.rf) (FR.sub fa127.1 (by first | exact (fun _ h9 => h9) | decide | (intro c9 h9; simp only [List.mem_cons, List.not_mem_nil, or_false] at h9 ⊢; omega) | (intro c9 h9; simp at h9; simp [cA]; omega) | (intro c9 h9; simp at h9; simp [cB]; omega) | (intro c9 h9; simp [cA] at h9; simp [cB]; omega))), ⟨(fun _ _ => rfl), hw⟩, trivial⟩, ⟨_, rfl, by omega⟩⟩
      · skip
        refine w_iload rfl rfl ?_
        refine w_const rfl ?_
        refine w_ic_lt rfl (fun c129 => ?_) (fun c129 => ?_)
        · skip
          refine w_aload rfl rfl ?_
          refine c_getR (t := some 1) rfl rfl rfl rfl rfl ?_
          refine w_invV (rest := []) rfl rfl rfl rfl rfl (Nat.le_of_ble_eq_true rfl) rfl (by omega) (s_X8_advance (K := K) a b v   hR  ) (fun z130 h9 hq131 => ?_)
          obtain ⟨a132, b133, v134, rfl, ha132, fa132, rfl⟩ := hq131
          show f_wp _ (110, [some (.inr (.inr (some 6))), some (.inl e), some (.inl o1), some (.inl o2), some (.inl o3), some (.inl o4), none], [], cH a132 b133 v134) _
          refine w_iload rfl rfl ?_
          refine w_if_eq rfl (fun c135 => ?_) (fun c135 => ?_)
          · skip
            refine w_iload rfl rfl ?_
            refine w_if_eq rfl (fun c136 => ?_) (fun c136 => ?_)
            · skip
              refine w_aload rfl rfl ?_
              refine c_getR (t := some F) rfl rfl rfl rfl ((fa132.2.1.1 4 (by decide)).trans h4) ?_
              refine w_iload rfl rfl ?_
              refine w_invV (rest := []) rfl rfl (sh_form (by omega)) rfl rfl (Nat.le_of_ble_eq_true rfl) rfl (by omega) (s_X2_add (K := K) a132 b133 v134  F o4 ha132  (by omega)) (fun z137 h9 hq138 => ?_)
              obtain ⟨a139, rfl, ha139, fa139, rfl⟩ := hq138
              show f_wp _ (173, [some (.inr (.inr (some 6))), some (.inl e), some (.inl o1), some (.inl o2), some (.inl o3), some (.inl o4), none], [], cH a139 b133 v134) _
              refine w_const rfl ?_
              exact wp_iret (z := true) rfl (fun _ => by first | exact Or.inl rfl | exact Or.inr rfl | (rcases (by omega : (1 : Int32).toInt = 0 ∨ (1 : Int32).toInt = 1) with h8 | h8; exact Or.inl (ti_eq h8); exact Or.inr (ti_eq h8))) ⟨a139, b133, v134, rfl, ha139, ⟨FR.tr (FR.tr (FR.rf) (FR.sub fa132.1 (by first | exact (fun _ h9 => h9) | decide | (intro c9 h9; simp only [List.mem_cons, List.not_mem_nil, or_false] at h9 ⊢; omega) | (intro c9 h9; simp at h9; simp [cA]; omega) | (intro c9 h9; simp at h9; simp [cB]; omega) | (intro c9 h9; simp [cA] at h9; simp [cB]; omega)))) (FR.sub fa139.1 (by first | exact (fun _ h9 => h9) | decide | (intro c9 h9; simp only [List.mem_cons, List.not_mem_nil, or_false] at h9 ⊢; omega) | (intro c9 h9; simp at h9; simp [cA]; omega) | (intro c9 h9; simp at h9; simp [cB]; omega) | (intro c9 h9; simp [cA] at h9; simp [cB]; omega))), ⟨fun i9 h9 => (fa132.2.1.1 i9 (fun z9 => h9 (by first | exact z9 | (revert z9; simp; done) | (revert z9; simp; omega)))).trans ((show ∀ i9, i9 ∉ [2] → v i9 = v i9 from (fun _ _ => rfl)) i9 h9), fa132.2.1.2⟩, trivial⟩, ⟨_, rfl, by omega⟩⟩
            · skip
              refine w_aload rfl rfl ?_
              refine w_iload rfl rfl ?_
              refine w_const rfl ?_
              first | refine w_iadd rfl (by omega) (fun x140 tx140 => ?_) | refine w_iiU rfl (fun x140 tx140 => ?_)
              refine w_invV (rest := []) rfl rfl rfl rfl rfl (Nat.le_of_ble_eq_true rfl) rfl (by omega) (ihT x140 (by omega) (by omega) a132 b133 v134 ha132 fa132.2.1.2 ((fa132.2.1.1 4 (by decide)).trans h4)) (fun z141 h9 hq142 => ?_)
              obtain ⟨a143, b144, v145, rfl, ha143, fa143, x146, rfl, px146⟩ := hq142
              show f_wp _ (150, [some (.inr (.inr (some 6))), some (.inl e), some (.inl o1), some (.inl o2), some (.inl o3), some (.inl o4), none], [.inl x146], cH a143 b144 v145) _
              refine w_istore (lo' := [some (.inr (.inr (some 6))), some (.inl e), some (.inl o1), some (.inl o2), some (.inl o3), some (.inl o4), some (.inl x146)]) rfl rfl ?_
              refine w_aload rfl rfl ?_
              refine c_getR (t := some F) rfl rfl rfl rfl ((fa143.2.1.1 4 (by decide)).trans ((fa132.2.1.1 4 (by decide)).trans h4)) ?_
              refine w_const rfl ?_
              refine w_invV (rest := []) rfl rfl (sh_form (by omega)) rfl rfl (Nat.le_of_ble_eq_true rfl) rfl (by omega) (s_X2_add (K := K) a143 b144 v145  F (-5) ha143  (by omega)) (fun z147 h9 hq148 => ?_)
              obtain ⟨a149, rfl, ha149, fa149, rfl⟩ := hq148
              show f_wp _ (161, [some (.inr (.inr (some 6))), some (.inl e), some (.inl o1), some (.inl o2), some (.inl o3), some (.inl o4), some (.inl x146)], [], cH a149 b144 v145) _
              refine w_iload rfl rfl ?_
              exact wp_iret (z := true) rfl (fun _ => by first | exact Or.inl rfl | exact Or.inr rfl | (rcases (by omega : x146.toInt = 0 ∨ x146.toInt = 1) with h8 | h8; exact Or.inl (ti_eq h8); exact Or.inr (ti_eq h8))) ⟨a149, b144, v145, rfl, ha149, ⟨FR.tr (FR.tr (FR.tr (FR.rf) (FR.sub fa132.1 (by first | exact (fun _ h9 => h9) | decide | (intro c9 h9; simp only [List.mem_cons, List.not_mem_nil, or_false] at h9 ⊢; omega) | (intro c9 h9; simp at h9; simp [cA]; omega) | (intro c9 h9; simp at h9; simp [cB]; omega) | (intro c9 h9; simp [cA] at h9; simp [cB]; omega)))) (FR.sub fa143.1 (by first | exact (fun _ h9 => h9) | decide | (intro c9 h9; simp only [List.mem_cons, List.not_mem_nil, or_false] at h9 ⊢; omega) | (intro c9 h9; simp at h9; simp [cA]; omega) | (intro c9 h9; simp at h9; simp [cB]; omega) | (intro c9 h9; simp [cA] at h9; simp [cB]; omega)))) (FR.sub fa149.1 (by first | exact (fun _ h9 => h9) | decide | (intro c9 h9; simp only [List.mem_cons, List.not_mem_nil, or_false] at h9 ⊢; omega) | (intro c9 h9; simp at h9; simp [cA]; omega) | (intro c9 h9; simp at h9; simp [cB]; omega) | (intro c9 h9; simp [cA] at h9; simp [cB]; omega))), ⟨fun i9 h9 => (fa143.2.1.1 i9 (fun z9 => h9 (by first | exact z9 | (revert z9; simp; done) | (revert z9; simp; omega)))).trans ((show ∀ i9, i9 ∉ [2] → v134 i9 = v i9 from fun i9 h9 => (fa132.2.1.1 i9 (fun z9 => h9 (by first | exact z9 | (revert z9; simp; done) | (revert z9; simp; omega)))).trans ((show ∀ i9, i9 ∉ [2] → v i9 = v i9 from (fun _ _ => rfl)) i9 h9)) i9 h9), fa143.2.1.2⟩, trivial⟩, ⟨_, rfl, by omega⟩⟩
          · skip
            refine w_aload rfl rfl ?_
            refine w_iload rfl rfl ?_
            refine w_const rfl ?_
            first | refine w_iadd rfl (by omega) (fun x150 tx150 => ?_) | refine w_iiU rfl (fun x150 tx150 => ?_)
            refine w_invV (rest := []) rfl rfl rfl rfl rfl (Nat.le_of_ble_eq_true rfl) rfl (by omega) (ihA x150 (by omega) (by omega) a132 b133 v134 ha132 fa132.2.1.2 ((fa132.2.1.1 4 (by decide)).trans h4)) (fun z151 h9 hq152 => ?_)
            obtain ⟨a153, b154, v155, rfl, ha153, fa153, x156, rfl, px156⟩ := hq152
            show f_wp _ (121, [some (.inr (.inr (some 6))), some (.inl e), some (.inl o1), some (.inl o2), some (.inl o3), some (.inl o4), none], [.inl x156], cH a153 b154 v155) _
            refine w_if_eq rfl (fun c157 => ?_) (fun c157 => ?_)
            · skip
              refine w_const rfl ?_
              exact wp_iret (z := true) rfl (fun _ => by first | exact Or.inl rfl | exact Or.inr rfl | (rcases (by omega : (0 : Int32).toInt = 0 ∨ (0 : Int32).toInt = 1) with h8 | h8; exact Or.inl (ti_eq h8); exact Or.inr (ti_eq h8))) ⟨a153, b154, v155, rfl, ha153, ⟨FR.tr (FR.tr (FR.rf) (FR.sub fa132.1 (by first | exact (fun _ h9 => h9) | decide | (intro c9 h9; simp only [List.mem_cons, List.not_mem_nil, or_false] at h9 ⊢; omega) | (intro c9 h9; simp at h9; simp [cA]; omega) | (intro c9 h9; simp at h9; simp [cB]; omega) | (intro c9 h9; simp [cA] at h9; simp [cB]; omega)))) (FR.sub fa153.1 (by first | exact (fun _ h9 => h9) | decide | (intro c9 h9; simp only [List.mem_cons, List.not_mem_nil, or_false] at h9 ⊢; omega) | (intro c9 h9; simp at h9; simp [cA]; omega) | (intro c9 h9; simp at h9; simp [cB]; omega) | (intro c9 h9; simp [cA] at h9; simp [cB]; omega))), ⟨fun i9 h9 => (fa153.2.1.1 i9 (fun z9 => h9 (by first | exact z9 | (revert z9; simp; done) | (revert z9; simp; omega)))).trans ((show ∀ i9, i9 ∉ [2] → v134 i9 = v i9 from fun i9 h9 => (fa132.2.1.1 i9 (fun z9 => h9 (by first | exact z9 | (revert z9; simp; done) | (revert z9; simp; omega)))).trans ((show ∀ i9, i9 ∉ [2] → v i9 = v i9 from (fun _ _ => rfl)) i9 h9)) i9 h9), fa153.2.1.2⟩, trivial⟩, ⟨_, rfl, by omega⟩⟩
            · skip
              refine w_aload rfl rfl ?_
              refine w_const rfl ?_
              refine w_invV (rest := []) rfl rfl rfl rfl rfl (Nat.le_of_ble_eq_true rfl) rfl (by omega) (s_X6_passSign (K := K) a153 b154 v155  41 ha153  (fa153.2.1.2)) (fun z158 h9 hq159 => ?_)
              obtain ⟨a160, b161, v162, rfl, ha160, fa160, x163, rfl, px163⟩ := hq159
              show f_wp _ (130, [some (.inr (.inr (some 6))), some (.inl e), some (.inl o1), some (.inl o2), some (.inl o3), some (.inl o4), none], [.inl x163], cH a160 b161 v162) _
              refine w_if_eq rfl (fun c164 => ?_) (fun c164 => ?_)
              · skip
                refine w_const rfl ?_
                exact wp_iret (z := true) rfl (fun _ => by first | exact Or.inl rfl | exact Or.inr rfl | (rcases (by omega : (0 : Int32).toInt = 0 ∨ (0 : Int32).toInt = 1) with h8 | h8; exact Or.inl (ti_eq h8); exact Or.inr (ti_eq h8))) ⟨a160, b161, v162, rfl, ha160, ⟨FR.tr (FR.tr (FR.tr (FR.rf) (FR.sub fa132.1 (by first | exact (fun _ h9 => h9) | decide | (intro c9 h9; simp only [List.mem_cons, List.not_mem_nil, or_false] at h9 ⊢; omega) | (intro c9 h9; simp at h9; simp [cA]; omega) | (intro c9 h9; simp at h9; simp [cB]; omega) | (intro c9 h9; simp [cA] at h9; simp [cB]; omega)))) (FR.sub fa153.1 (by first | exact (fun _ h9 => h9) | decide | (intro c9 h9; simp only [List.mem_cons, List.not_mem_nil, or_false] at h9 ⊢; omega) | (intro c9 h9; simp at h9; simp [cA]; omega) | (intro c9 h9; simp at h9; simp [cB]; omega) | (intro c9 h9; simp [cA] at h9; simp [cB]; omega)))) (FR.sub fa160.1 (by first | exact (fun _ h9 => h9) | decide | (intro c9 h9; simp only [List.mem_cons, List.not_mem_nil, or_false] at h9 ⊢; omega) | (intro c9 h9; simp at h9; simp [cA]; omega) | (intro c9 h9; simp at h9; simp [cB]; omega) | (intro c9 h9; simp [cA] at h9; simp [cB]; omega))), ⟨fun i9 h9 => (fa160.2.1.1 i9 (fun z9 => h9 (by first | exact z9 | (revert z9; simp; done) | (revert z9; simp; omega)))).trans ((show ∀ i9, i9 ∉ [2] → v155 i9 = v i9 from fun i9 h9 => (fa153.2.1.1 i9 (fun z9 => h9 (by first | exact z9 | (revert z9; simp; done) | (revert z9; simp; omega)))).trans ((show ∀ i9, i9 ∉ [2] → v134 i9 = v i9 from fun i9 h9 => (fa132.2.1.1 i9 (fun z9 => h9 (by first | exact z9 | (revert z9; simp; done) | (revert z9; simp; omega)))).trans ((show ∀ i9, i9 ∉ [2] → v i9 = v i9 from (fun _ _ => rfl)) i9 h9)) i9 h9)) i9 h9), fa160.2.1.2⟩, trivial⟩, ⟨_, rfl, by omega⟩⟩
              · skip
                refine w_const rfl ?_
                refine w_goto rfl ?_
                exact wp_iret (z := true) rfl (fun _ => by first | exact Or.inl rfl | exact Or.inr rfl | (rcases (by omega : (1 : Int32).toInt = 0 ∨ (1 : Int32).toInt = 1) with h8 | h8; exact Or.inl (ti_eq h8); exact Or.inr (ti_eq h8))) ⟨a160, b161, v162, rfl, ha160, ⟨FR.tr (FR.tr (FR.tr (FR.rf) (FR.sub fa132.1 (by first | exact (fun _ h9 => h9) | decide | (intro c9 h9; simp only [List.mem_cons, List.not_mem_nil, or_false] at h9 ⊢; omega) | (intro c9 h9; simp at h9; simp [cA]; omega) | (intro c9 h9; simp at h9; simp [cB]; omega) | (intro c9 h9; simp [cA] at h9; simp [cB]; omega)))) (FR.sub fa153.1 (by first | exact (fun _ h9 => h9) | decide | (intro c9 h9; simp only [List.mem_cons, List.not_mem_nil, or_false] at h9 ⊢; omega) | (intro c9 h9; simp at h9; simp [cA]; omega) | (intro c9 h9; simp at h9; simp [cB]; omega) | (intro c9 h9; simp [cA] at h9; simp [cB]; omega)))) (FR.sub fa160.1 (by first | exact (fun _ h9 => h9) | decide | (intro c9 h9; simp only [List.mem_cons, List.not_mem_nil, or_false] at h9 ⊢; omega) | (intro c9 h9; simp at h9; simp [cA]; omega) | (intro c9 h9; simp at h9; simp [cB]; omega) | (intro c9 h9; simp [cA] at h9; simp [cB]; omega))), ⟨fun i9 h9 => (fa160.2.1.1 i9 (fun z9 => h9 (by first | exact z9 | (revert z9; simp; done) | (revert z9; simp; omega)))).trans ((show ∀ i9, i9 ∉ [2] → v155 i9 = v i9 from fun i9 h9 => (fa153.2.1.1 i9 (fun z9 => h9 (by first | exact z9 | (revert z9; simp; done) | (revert z9; simp; omega)))).trans ((show ∀ i9, i9 ∉ [2] → v134 i9 = v i9 from fun i9 h9 => (fa132.2.1.1 i9 (fun z9 => h9 (by first | exact z9 | (revert z9; simp; done) | (revert z9; simp; omega)))).trans ((show ∀ i9, i9 ∉ [2] → v i9 = v i9 from (fun _ _ => rfl)) i9 h9)) i9 h9)) i9 h9), fa160.2.1.2⟩, trivial⟩, ⟨_, rfl, by omega⟩⟩
        · skip
          refine w_aload rfl rfl ?_
          refine w_const rfl ?_
          refine w_invV (rest := []) rfl rfl rfl rfl rfl (Nat.le_of_ble_eq_true rfl) rfl (by omega) (s_X6_fail (K := K) a b v  5 hR  ) (fun z165 h9 hq166 => ?_)
          obtain ⟨a167, rfl, ha167, fa167, x168, rfl, px168⟩ := hq166
          show f_wp _ (102, [some (.inr (.inr (some 6))), some (.inl e), some (.inl o1), some (.inl o2), some (.inl o3), some (.inl o4), none], [.inl x168], cH a167 b v) _
          exact wp_iret (z := true) rfl (fun _ => by first | exact Or.inl rfl | exact Or.inr rfl | (rcases (by omega : x168.toInt = 0 ∨ x168.toInt = 1) with h8 | h8; exact Or.inl (ti_eq h8); exact Or.inr (ti_eq h8))) ⟨a167, b, v, rfl, ha167, ⟨FR.tr (FR.rf) (FR.sub fa167.1 (by first | exact (fun _ h9 => h9) | decide | (intro c9 h9; simp only [List.mem_cons, List.not_mem_nil, or_false] at h9 ⊢; omega) | (intro c9 h9; simp at h9; simp [cA]; omega) | (intro c9 h9; simp at h9; simp [cB]; omega) | (intro c9 h9; simp [cA] at h9; simp [cB]; omega))), ⟨(fun _ _ => rfl), hw⟩, trivial⟩, ⟨_, rfl, by omega⟩⟩
  refine w_aload rfl rfl ?_
  refine w_const rfl ?_
  refine w_invV (rest := []) rfl rfl rfl rfl rfl (Nat.le_of_ble_eq_true rfl) rfl (by omega) (s_X6_isSign (K := K) a b v  40 hR  ) (fun z169 h9 hq170 => ?_)
  obtain ⟨rfl, x171, rfl, px171⟩ := hq170
  show f_wp _ (6, [some (.inr (.inr (some 6))), some (.inl e), none, none, none, none, none], [.inl x171], cH a b v) _
  refine w_istore (lo' := [some (.inr (.inr (some 6))), some (.inl e), some (.inl x171), none, none, none, none]) rfl rfl ?_
  refine w_aload rfl rfl ?_
  refine c_getR (t := some 1) rfl rfl rfl rfl rfl ?_
  refine c_getR (t := v 2) rfl rfl rfl rfl rfl ?_
  refine w_const rfl ?_
  refine c_aw_ne rfl ⟨hw, rfl⟩ (fun c172 => ?_) (fun c172 => ?_)
  · skip
    refine w_const rfl ?_
    refine w_goto rfl ?_
    refine w_istore (lo' := [some (.inr (.inr (some 6))), some (.inl e), some (.inl x171), some (.inl 1), none, none, none]) rfl rfl ?_
    refine w_aload rfl rfl ?_
    refine c_getR (t := some 1) rfl rfl rfl rfl rfl ?_
    refine c_getI rfl rfl rfl rfl ?_
    refine w_const rfl ?_
    refine w_ic_ne rfl (fun c173 => ?_) (fun c173 => ?_)
    · skip
      refine w_const rfl ?_
      refine w_goto rfl ?_
      refine w_istore (lo' := [some (.inr (.inr (some 6))), some (.inl e), some (.inl x171), some (.inl 1), some (.inl 1), none, none]) rfl rfl ?_
      refine w_iload rfl rfl ?_
      refine w_if_eq rfl (fun c174 => ?_) (fun c174 => ?_)
      · exfalso; omega
      · skip
        refine w_aload rfl rfl ?_
        refine c_getR (t := some 1) rfl rfl rfl rfl rfl ?_
        refine c_getL rfl rfl rfl rfl ?_
        refine w_l2iE rfl (fun x175 tx175 => ?_)
        refine w_goto rfl ?_
        refine w_istore (lo' := [some (.inr (.inr (some 6))), some (.inl e), some (.inl x171), some (.inl 1), some (.inl 1), some (.inl x175), none]) rfl rfl ?_
        exact loop66 _ x171 1 1 x175 rfl  (by omega)
    · skip
      refine w_const rfl ?_
      refine w_istore (lo' := [some (.inr (.inr (some 6))), some (.inl e), some (.inl x171), some (.inl 1), some (.inl 0), none, none]) rfl rfl ?_
      refine w_iload rfl rfl ?_
      refine w_if_eq rfl (fun c176 => ?_) (fun c176 => ?_)
      · skip
        refine w_aload rfl rfl ?_
        refine w_invV (rest := []) rfl rfl rfl rfl rfl (Nat.le_of_ble_eq_true rfl) rfl (by omega) (s_X6_factStep (K := K) a b v   hR  (hw)) (fun z177 h9 hq178 => ?_)
        obtain ⟨rfl, x179, rfl, px179⟩ := hq178
        show f_wp _ (64, [some (.inr (.inr (some 6))), some (.inl e), some (.inl x171), some (.inl 1), some (.inl 0), none, none], [.inl x179], cH a b v) _
        refine w_istore (lo' := [some (.inr (.inr (some 6))), some (.inl e), some (.inl x171), some (.inl 1), some (.inl 0), some (.inl x179), none]) rfl rfl ?_
        exact loop66 _ x171 1 0 x179 rfl  (by omega)
      · exfalso; omega
  · skip
    refine w_const rfl ?_
    refine w_istore (lo' := [some (.inr (.inr (some 6))), some (.inl e), some (.inl x171), some (.inl 0), none, none, none]) rfl rfl ?_
    refine w_aload rfl rfl ?_
    refine c_getR (t := some 1) rfl rfl rfl rfl rfl ?_
    refine c_getI rfl rfl rfl rfl ?_
    refine w_const rfl ?_
    refine w_ic_ne rfl (fun c180 => ?_) (fun c180 => ?_)
    · skip
      refine w_const rfl ?_
      refine w_goto rfl ?_
      refine w_istore (lo' := [some (.inr (.inr (some 6))), some (.inl e), some (.inl x171), some (.inl 0), some (.inl 1), none, none]) rfl rfl ?_
      refine w_iload rfl rfl ?_
      refine w_if_eq rfl (fun c181 => ?_) (fun c181 => ?_)
      · exfalso; omega
      · skip
        refine w_aload rfl rfl ?_
        refine c_getR (t := some 1) rfl rfl rfl rfl rfl ?_
        refine c_getL rfl rfl rfl rfl ?_
        refine w_l2iE rfl (fun x182 tx182 => ?_)
        refine w_goto rfl ?_
        refine w_istore (lo' := [some (.inr (.inr (some 6))), some (.inl e), some (.inl x171), some (.inl 0), some (.inl 1), some (.inl x182), none]) rfl rfl ?_
        exact loop66 _ x171 0 1 x182 rfl  (by omega)
    · skip
      refine w_const rfl ?_
      refine w_istore (lo' := [some (.inr (.inr (some 6))), some (.inl e), some (.inl x171), some (.inl 0), some (.inl 0), none, none]) rfl rfl ?_
      refine w_iload rfl rfl ?_
      refine w_if_eq rfl (fun c183 => ?_) (fun c183 => ?_)
      · skip
        refine w_aload rfl rfl ?_
        refine w_invV (rest := []) rfl rfl rfl rfl rfl (Nat.le_of_ble_eq_true rfl) rfl (by omega) (s_X6_factStep (K := K) a b v   hR  (hw)) (fun z184 h9 hq185 => ?_)
        obtain ⟨rfl, x186, rfl, px186⟩ := hq185
        show f_wp _ (64, [some (.inr (.inr (some 6))), some (.inl e), some (.inl x171), some (.inl 0), some (.inl 0), none, none], [.inl x186], cH a b v) _
        refine w_istore (lo' := [some (.inr (.inr (some 6))), some (.inl e), some (.inl x171), some (.inl 0), some (.inl 0), some (.inl x186), none]) rfl rfl ?_
        exact loop66 _ x171 0 0 x186 rfl  (by omega)
      · exfalso; omega
theorem s_X6_e {K F : Nat} (hF : F = 26 ∨ F = 29 ∨ F = 50 ∨ F = 53) : ∀ (n : Nat) (e : Int32), 0 ≤ e.toInt ∧ e.toInt ≤ 5 → (5 - e.toInt).toNat = n → CPH K F 75 (5 * n + 5) e
  | 0, e, he, hn => s_X6_factor_r hF he (by omega) (fun _ h _ => absurd h (by omega)) (fun _ h _ => absurd h (by omega))
  | n + 1, e, he, hn => s_X6_factor_r (c := 5 * n + 9) hF he (by omega)
      (fun e1 h1 h2 a b v hR hw h4 d hd => s_X6_e hF n e1 (by omega) (by omega) a b v hR hw h4 d (by omega))
      (fun e1 h1 h2 => s_X6_expression_r hF (by omega) (s_X6_test_r hF (by omega) (s_X6_sum_r hF (by omega) (s_X6_product_r hF (by omega) (s_X6_e hF n e1 (by omega) (by omega))))))
theorem s_X6_e0 {K F : Nat} (hF : F = 26 ∨ F = 29 ∨ F = 50 ∨ F = 53) : CPH K F 70 34 0 := s_X6_expression_r hF (by omega) (s_X6_test_r hF (by omega) (s_X6_sum_r hF (by omega) (s_X6_product_r hF (by omega) (s_X6_e hF 5 0 (by decide) rfl))))
