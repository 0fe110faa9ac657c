set_option maxRecDepth 4000 in
theorem s_X6_goesOn_1 {K : Nat} (a : Nat → Nat → Int32) (b : Nat → Nat → Int64) (v : Nat → Option Nat)  (hR : RC K a)  : f_call mtC 1 45 [.inr (.inr (some 6))] (cH a b v) (fun v9 h' => h' = cH a b v ∧ ∃ x : Int32, v9 = some (.inl x) ∧ ((x.toInt = 1 ∧ ((a 6 10).toInt = 0 ∧ ¬ (a 1 7).toInt = 0)) ∨ (x.toInt = 0 ∧ ¬ ((a 6 10).toInt = 0 ∧ ¬ (a 1 7).toInt = 0)))) := by
  refine f_call_of (d0 := 0) rfl (Nat.le_of_ble_eq_true rfl) (fun d hd => ?_)
  show f_wp _ (0, [some (.inr (.inr (some 6)))], [], cH a b v) _
  have l0 : (0 : Int32).toInt = 0 := rfl
  have l1 : (1 : Int32).toInt = 1 := rfl
  refine w_aload rfl rfl ?_
  refine c_getI rfl rfl rfl rfl ?_
  refine w_if_ne rfl (fun c1 => ?_) (fun c1 => ?_)
  · skip
    refine w_aload rfl rfl ?_
    refine c_getR (t := some 1) rfl rfl rfl rfl rfl ?_
    refine c_getI rfl rfl rfl rfl ?_
    refine w_if_eq rfl (fun c2 => ?_) (fun c2 => ?_)
    · skip
      refine w_const rfl ?_
      exact wp_iret (z := true) rfl (fun _ => by first | exact Or.inl rfl | exact Or.inr rfl | (rcases (by omega : (0 : Int32).toInt = 0 ∨ (0 : Int32).toInt = 1) with h8 | h8; exact Or.inl (ti_eq h8); exact Or.inr (ti_eq h8))) ⟨rfl, ⟨_, rfl, by omega⟩⟩
    · skip
      refine w_const rfl ?_
      refine w_goto rfl ?_
      exact wp_iret (z := true) rfl (fun _ => by first | exact Or.inl rfl | exact Or.inr rfl | (rcases (by omega : (1 : Int32).toInt = 0 ∨ (1 : Int32).toInt = 1) with h8 | h8; exact Or.inl (ti_eq h8); exact Or.inr (ti_eq h8))) ⟨rfl, ⟨_, rfl, by omega⟩⟩
  · skip
    refine w_const rfl ?_
    exact wp_iret (z := true) rfl (fun _ => by first | exact Or.inl rfl | exact Or.inr rfl | (rcases (by omega : (0 : Int32).toInt = 0 ∨ (0 : Int32).toInt = 1) with h8 | h8; exact Or.inl (ti_eq h8); exact Or.inr (ti_eq h8))) ⟨rfl, ⟨_, rfl, by omega⟩⟩
set_option maxRecDepth 4000 in
theorem s_X6_fail_1 {K : Nat} (a : Nat → Nat → Int32) (b : Nat → Nat → Int64) (v : Nat → Option Nat) (p : Int32) (hR : RC K a) (hp : 1 ≤ p.toInt ∧ p.toInt ≤ 5) (hs : 0 ≤ (a 1 8).toInt ∧ (a 1 8).toInt ≤ 1000) : f_call mtC 1 46 [.inr (.inr (some 6)), .inl p] (cH a b v) (fun v9 h' => ∃ (a' : Nat → Nat → Int32), h' = cH a' b v ∧ RC K a' ∧ (FR [6] a a' ∧ ((∀ j, j ≠ 10 → a' 6 j = a 6 j) ∧ (a' 6 10).toInt = p.toInt + 16 * (a 1 8).toInt)) ∧ ∃ x : Int32, v9 = some (.inl x) ∧ (x.toInt = 0)) := by
  refine f_call_of (d0 := 0) rfl (Nat.le_of_ble_eq_true rfl) (fun d hd => ?_)
  show f_wp _ (0, [some (.inr (.inr (some 6))), some (.inl p)], [], cH a b v) _
  have l0 : (0 : Int32).toInt = 0 := rfl
  have l16 : (16 : Int32).toInt = 16 := rfl
  refine w_aload rfl rfl ?_
  refine w_iload rfl rfl ?_
  refine w_const rfl ?_
  refine w_aload rfl rfl ?_
  refine c_getR (t := some 1) rfl rfl rfl rfl rfl ?_
  refine c_getI rfl rfl rfl rfl ?_
  first | refine w_imul rfl (c := 16) rfl (by omega) (fun x1 tx1 => ?_) | refine w_iiU rfl (fun x1 tx1 => ?_)
  first | refine w_iadd rfl (by omega) (fun x2 tx2 => ?_) | refine w_iiU rfl (fun x2 tx2 => ?_)
  refine c_putI (z := false) rfl rfl rfl rfl (by first | (intro h9; cases h9; done) | (intro _; first | exact Or.inl rfl | exact Or.inr rfl | assumption | (rcases (by omega : x2.toInt = 0 ∨ x2.toInt = 1) with h8 | h8; exact Or.inl (ti_eq h8); exact Or.inr (ti_eq h8)))) (fun a3 ea3 => ?_)
  have ha3 : RC K a3 := RC.up hR ea3 (lc_any _ (by omega))
  have ua3 : a3 6 10 = x2 := by rw [ea3, mU_same]
  have wa3 := congrArg Int32.toInt ua3
  have ra3_18 : (a3 1 8).toInt = (a 1 8).toInt := by rw [ea3, mU_cell (by omega)]
  refine w_const rfl ?_
  exact wp_iret (z := true) rfl (fun _ => by first | exact Or.inl rfl | exact Or.inr rfl | (rcases (by omega : (0 : Int32).toInt = 0 ∨ (0 : Int32).toInt = 1) with h8 | h8; exact Or.inl (ti_eq h8); exact Or.inr (ti_eq h8))) ⟨a3, rfl, ha3, ⟨FR.up (FR.rf) (by first | decide | (simp; done) | exact cA_mem (by omega) | exact cB_mem (by omega) | exact cU_mem (by omega) | exact cM_mem (by omega)) ea3, ⟨fun j h9 => by rw [ea3, mU_slot h9], by rw [ea3, mU_same]; omega⟩⟩, ⟨_, rfl, by omega⟩⟩
set_option maxRecDepth 4000 in
theorem s_X6_isSign_1 {K : Nat} (a : Nat → Nat → Int32) (b : Nat → Nat → Int64) (v : Nat → Option Nat) (p : Int32) (hR : RC K a)  : f_call mtC 1 47 [.inr (.inr (some 6)), .inl p] (cH a b v) (fun v9 h' => h' = cH a b v ∧ ∃ x : Int32, v9 = some (.inl x) ∧ ((x.toInt = 1 ∧ ((a 1 7).toInt = 4 ∧ (b 1 10).toInt = p.toInt)) ∨ (x.toInt = 0 ∧ ¬ ((a 1 7).toInt = 4 ∧ (b 1 10).toInt = p.toInt)))) := by
  refine f_call_of (d0 := 0) rfl (Nat.le_of_ble_eq_true rfl) (fun d hd => ?_)
  show f_wp _ (0, [some (.inr (.inr (some 6))), some (.inl p)], [], cH a b v) _
  have l0 : (0 : Int32).toInt = 0 := rfl
  have l1 : (1 : Int32).toInt = 1 := rfl
  have l4 : (4 : Int32).toInt = 4 := rfl
  refine w_aload rfl rfl ?_
  refine c_getR (t := some 1) rfl rfl rfl rfl rfl ?_
  refine c_getI rfl rfl rfl rfl ?_
  refine w_const rfl ?_
  refine w_ic_ne rfl (fun c1 => ?_) (fun c1 => ?_)
  · skip
    refine w_aload rfl rfl ?_
    refine c_getR (t := some 1) rfl rfl rfl rfl rfl ?_
    refine c_getL rfl rfl rfl rfl ?_
    refine w_iload rfl rfl ?_
    refine w_i2lE rfl (fun y2 ty2 => ?_)
    have c8 := i2l_ti (x := p) ty2
    refine w_lcmpE rfl (fun x3 tx3 => ?_)
    have c9 := cmp_ti tx3
    refine w_if_ne rfl (fun c4 => ?_) (fun c4 => ?_)
    · skip
      refine w_const rfl ?_
      refine w_goto rfl ?_
      exact wp_iret (z := true) rfl (fun _ => by first | exact Or.inl rfl | exact Or.inr rfl | (rcases (by omega : (1 : Int32).toInt = 0 ∨ (1 : Int32).toInt = 1) with h8 | h8; exact Or.inl (ti_eq h8); exact Or.inr (ti_eq h8))) ⟨rfl, ⟨_, rfl, by omega⟩⟩
    · skip
      refine w_const rfl ?_
      exact wp_iret (z := true) rfl (fun _ => by first | exact Or.inl rfl | exact Or.inr rfl | (rcases (by omega : (0 : Int32).toInt = 0 ∨ (0 : Int32).toInt = 1) with h8 | h8; exact Or.inl (ti_eq h8); exact Or.inr (ti_eq h8))) ⟨rfl, ⟨_, rfl, by omega⟩⟩
  · skip
    refine w_const rfl ?_
    exact wp_iret (z := true) rfl (fun _ => by first | exact Or.inl rfl | exact Or.inr rfl | (rcases (by omega : (0 : Int32).toInt = 0 ∨ (0 : Int32).toInt = 1) with h8 | h8; exact Or.inl (ti_eq h8); exact Or.inr (ti_eq h8))) ⟨rfl, ⟨_, rfl, by omega⟩⟩
set_option maxRecDepth 4000 in
theorem s_X6_passSign_1 {K : Nat} (a : Nat → Nat → Int32) (b : Nat → Nat → Int64) (v : Nat → Option Nat) (N : Nat) (z : Nat) (c : Nat) (t : Nat → Int32) (p : Int32) (hR : RC K a) (hw : f_wdb (v 2) = true) (hP : PC t z N c a b v) (hz : z ≤ 1000) (hf : (a 6 10).toInt = 0) : f_call mtC 2 49 [.inr (.inr (some 6)), .inl p] (cH a b v) (fun v9 h' => ∃ (a' : Nat → Nat → Int32) (b' : Nat → Nat → Int64) (v' : Nat → Option Nat), h' = cH a' b' v' ∧ RC K a' ∧ (FR [1, 6] a a' ∧ ((∀ i, i ∉ [2] → v' i = v i) ∧ (f_wdb (v' 2) = true ∧ (tkG t z c p.toInt = 0 → PC t z N (c + 1) a' b' v'))) ∧ ((∀ j, j ≠ 10 → a' 6 j = a 6 j) ∧ (a' 6 10).toInt = tkG t z c p.toInt)) ∧ ∃ x : Int32, v9 = some (.inl x) ∧ ((x.toInt = 1 ∧ tkG t z c p.toInt = 0) ∨ (x.toInt = 0 ∧ ¬ tkG t z c p.toInt = 0))) := by
  refine f_call_of (d0 := 1) rfl (Nat.le_of_ble_eq_true rfl) (fun d hd => ?_)
  show f_wp _ (0, [some (.inr (.inr (some 6))), some (.inl p)], [], cH a b v) _
  have l1 : (1 : Int32).toInt = 1 := rfl
  have s1 := hP.le
  have s2 := hP.2.2.2.2.1
  have s3 := hP.2.2.2.1
  have g9 := hP.sg p.toInt
  refine w_aload rfl rfl ?_
  refine w_iload rfl rfl ?_
  refine w_invV (rest := []) rfl rfl rfl rfl rfl (Nat.le_of_ble_eq_true rfl) rfl (by omega) (s_X6_isSign_1 (K := K) a b v  p hR  ) (fun z1 h9 hq2 => ?_)
  obtain ⟨rfl, x3, rfl, px3⟩ := hq2
  show f_wp _ (5, [some (.inr (.inr (some 6))), some (.inl p)], [.inl x3], cH a b v) _
  have p9 := px3
  refine w_if_ne rfl (fun c4 => ?_) (fun c4 => ?_)
  · skip
    have G9 : tkG t z c p.toInt = 1 + 16 * (a 1 8).toInt := by rw [g9, if_neg (by omega)]
    refine w_aload rfl rfl ?_
    refine w_const rfl ?_
    refine w_invV (rest := []) rfl rfl rfl rfl rfl (Nat.le_of_ble_eq_true rfl) rfl (by omega) (s_X6_fail_1 (K := K) a b v  1 hR  (by omega) (by omega)) (fun z5 h9 hq6 => ?_)
    obtain ⟨a7, rfl, ha7, fa7, x8, rfl, px8⟩ := hq6
    show f_wp _ (13, [some (.inr (.inr (some 6))), some (.inl p)], [.inl x8], cH a7 b v) _
    exact wp_iret (z := true) rfl (fun _ => by first | exact Or.inl rfl | exact Or.inr rfl | (rcases (by omega : x8.toInt = 0 ∨ x8.toInt = 1) with h8 | h8; exact Or.inl (ti_eq h8); exact Or.inr (ti_eq h8))) ⟨a7, b, v, rfl, ha7, ⟨FR.tr (FR.rf) (FR.sub fa7.1 (by first | exact (fun _ h9 => h9) | decide | (intro c9 h9; simp only [List.mem_cons, List.not_mem_nil, or_false] at h9 ⊢; omega) | (intro c9 h9; simp only [List.mem_cons, List.not_mem_nil, or_false] at h9; exact cA_mem (by omega)) | (intro c9 h9; simp only [List.mem_cons, List.not_mem_nil, or_false] at h9; exact cB_mem (by omega)) | (intro c9 h9; simp only [List.mem_cons, List.not_mem_nil, or_false] at h9; exact cU_mem (by omega)) | (intro c9 h9; simp only [List.mem_cons, List.not_mem_nil, or_false] at h9; exact cM_mem (by omega)) | exact cA_sub)), ⟨(fun _ _ => rfl), ⟨hw, fun h9 => absurd h9 (by omega)⟩⟩, ⟨fa7.2.1, by rw [G9]; exact fa7.2.2⟩⟩, ⟨_, rfl, by omega⟩⟩
  · skip
    have G9 : tkG t z c p.toInt = 0 := by rw [g9, if_pos ⟨by omega, by omega⟩]
    refine w_aload rfl rfl ?_
    refine c_getR (t := some 1) rfl rfl rfl rfl rfl ?_
    refine w_invV (rest := []) rfl rfl rfl rfl rfl (Nat.le_of_ble_eq_true rfl) rfl (by omega) (s_X8_advance_1 (K := K) a b v   hR  ) (fun z9 h9 hq10 => ?_)
    obtain ⟨a11, b12, v13, rfl, ha11, fa11, rfl⟩ := hq10
    show f_wp _ (21, [some (.inr (.inr (some 6))), some (.inl p)], [], cH a11 b12 v13) _
    have V9 := fa11
    refine w_const rfl ?_
    exact wp_iret (z := true) rfl (fun _ => by first | exact Or.inl rfl | exact Or.inr rfl | (rcases (by omega : (1 : Int32).toInt = 0 ∨ (1 : Int32).toInt = 1) with h8 | h8; exact Or.inl (ti_eq h8); exact Or.inr (ti_eq h8))) ⟨a11, b12, v13, rfl, ha11, ⟨FR.tr (FR.rf) (FR.sub fa11.1 (by first | exact (fun _ h9 => h9) | decide | (intro c9 h9; simp only [List.mem_cons, List.not_mem_nil, or_false] at h9 ⊢; omega) | (intro c9 h9; simp only [List.mem_cons, List.not_mem_nil, or_false] at h9; exact cA_mem (by omega)) | (intro c9 h9; simp only [List.mem_cons, List.not_mem_nil, or_false] at h9; exact cB_mem (by omega)) | (intro c9 h9; simp only [List.mem_cons, List.not_mem_nil, or_false] at h9; exact cU_mem (by omega)) | (intro c9 h9; simp only [List.mem_cons, List.not_mem_nil, or_false] at h9; exact cM_mem (by omega)) | exact cA_sub)), ⟨fun i9 h9 => (fa11.2.1.1 i9 (fun z9 => h9 (by first | exact z9 | (revert z9; simp; done) | (revert z9; simp; omega)))).trans ((show ∀ i9, i9 ∉ [2] → v i9 = v i9 from (fun _ _ => rfl)) i9 h9), ⟨V9.2.1.2.1, fun h9 => hP.next (tkG_k h9) V9.1 V9.2.2 V9.2.1.2.2⟩⟩, ⟨fun j _ => by rw [V9.1 6 (by decide)], by rw [V9.1 6 (by decide), G9]; exact hf⟩⟩, ⟨_, rfl, by omega⟩⟩
set_option maxRecDepth 4000 in
theorem s_X6_lineEnd_1 {K : Nat} (a : Nat → Nat → Int32) (b : Nat → Nat → Int64) (v : Nat → Option Nat) (N : Nat) (z : Nat) (c : Nat) (t : Nat → Int32)  (hR : RC K a) (hw : f_wdb (v 2) = true) (hP : PC t z N c a b v) (hz : z ≤ 1000) (hf : (a 6 10).toInt = 0) : f_call mtC 3 48 [.inr (.inr (some 6))] (cH a b v) (fun v9 h' => ∃ (a' : Nat → Nat → Int32) (b' : Nat → Nat → Int64) (v' : Nat → Option Nat), h' = cH a' b' v' ∧ RC K a' ∧ (FR [1, 6] a a' ∧ ((∀ i, i ∉ [2] → v' i = v i) ∧ (f_wdb (v' 2) = true ∧ (tkG t z c 59 = 0 → PC t z N (c + 1) a' b' v'))) ∧ ((∀ j, j ≠ 10 → a' 6 j = a 6 j) ∧ (a' 6 10).toInt = tkG t z c 59)) ∧ ∃ x : Int32, v9 = some (.inl x) ∧ ((x.toInt = 1 ∧ tkG t z c 59 = 0) ∨ (x.toInt = 0 ∧ ¬ tkG t z c 59 = 0))) := by
  refine f_call_of (d0 := 2) rfl (Nat.le_of_ble_eq_true rfl) (fun d hd => ?_)
  show f_wp _ (0, [some (.inr (.inr (some 6)))], [], cH a b v) _
  have l59 : (59 : Int32).toInt = 59 := rfl
  refine w_aload rfl rfl ?_
  refine w_const rfl ?_
  refine w_invV (rest := []) rfl rfl rfl rfl rfl (Nat.le_of_ble_eq_true rfl) rfl (by omega) (s_X6_passSign_1 (K := K) a b v N z c t 59 hR  (hw) (by omega) (by omega) (by omega)) (fun z1 h9 hq2 => ?_)
  obtain ⟨a3, b4, v5, rfl, ha3, fa3, x6, rfl, px6⟩ := hq2
  show f_wp _ (6, [some (.inr (.inr (some 6)))], [.inl x6], cH a3 b4 v5) _
  exact wp_iret (z := true) rfl (fun _ => by first | exact Or.inl rfl | exact Or.inr rfl | (rcases (by omega : x6.toInt = 0 ∨ x6.toInt = 1) with h8 | h8; exact Or.inl (ti_eq h8); exact Or.inr (ti_eq h8))) ⟨a3, b4, v5, rfl, ha3, ⟨FR.tr (FR.rf) (FR.sub fa3.1 (by first | exact (fun _ h9 => h9) | decide | (intro c9 h9; simp only [List.mem_cons, List.not_mem_nil, or_false] at h9 ⊢; omega) | (intro c9 h9; simp only [List.mem_cons, List.not_mem_nil, or_false] at h9; exact cA_mem (by omega)) | (intro c9 h9; simp only [List.mem_cons, List.not_mem_nil, or_false] at h9; exact cB_mem (by omega)) | (intro c9 h9; simp only [List.mem_cons, List.not_mem_nil, or_false] at h9; exact cU_mem (by omega)) | (intro c9 h9; simp only [List.mem_cons, List.not_mem_nil, or_false] at h9; exact cM_mem (by omega)) | exact cA_sub)), ⟨fun i9 h9 => (fa3.2.1.1 i9 (fun z9 => h9 (by first | exact z9 | (revert z9; simp; done) | (revert z9; simp; omega)))).trans ((show ∀ i9, i9 ∉ [2] → v i9 = v i9 from (fun _ _ => rfl)) i9 h9), fa3.2.1.2⟩, fa3.2.2⟩, ⟨_, rfl, by assumption⟩⟩
set_option maxRecDepth 4000 in
theorem s_X6_isNumber_1 {K : Nat} (a : Nat → Nat → Int32) (b : Nat → Nat → Int64) (v : Nat → Option Nat) (N : Nat) (z : Nat) (c : Nat) (t : Nat → Int32) (p : Int32) (q : Int32) (hR : RC K a) (hP : PC t z N c a b v) (hz : z ≤ 1000) (hf : (a 6 10).toInt = 0) : f_call mtC 2 51 [.inr (.inr (some 6)), .inl p, .inl q] (cH a b v) (fun v9 h' => ∃ (a' : Nat → Nat → Int32), h' = cH a' b v ∧ RC K a' ∧ (FR [6] a a' ∧ ((∀ j, j ≠ 9 → j ≠ 10 → a' 6 j = a 6 j) ∧ (a' 6 10).toInt = tkN t z c p.toInt q.toInt)) ∧ ∃ x : Int32, v9 = some (.inl x) ∧ ((x.toInt = 1 ∧ tkN t z c p.toInt q.toInt = 0) ∨ (x.toInt = 0 ∧ ¬ tkN t z c p.toInt q.toInt = 0))) := by
  refine f_call_of (d0 := 1) rfl (Nat.le_of_ble_eq_true rfl) (fun d hd => ?_)
  show f_wp _ (0, [some (.inr (.inr (some 6))), some (.inl p), some (.inl q)], [], cH a b v) _
  have l1 : (1 : Int32).toInt = 1 := rfl
  have l3 : (3 : Int32).toInt = 3 := rfl
  have l4 : (4 : Int32).toInt = 4 := rfl
  have s1 := hP.le
  have s2 := hP.2.2.2.2.1
  have s3 := hP.2.2.2.1
  have g9 := hP.num p.toInt q.toInt
  refine w_aload rfl rfl ?_
  refine c_getR (t := some 1) rfl rfl rfl rfl rfl ?_
  refine c_getI rfl rfl rfl rfl ?_
  refine w_const rfl ?_
  refine w_ic_eq rfl (fun c1 => ?_) (fun c1 => ?_)
  · skip
    refine w_aload rfl rfl ?_
    refine c_getR (t := some 1) rfl rfl rfl rfl rfl ?_
    refine c_getL rfl rfl rfl rfl ?_
    refine w_iload rfl rfl ?_
    refine w_i2lE rfl (fun y2 ty2 => ?_)
    refine w_lcmpE rfl (fun x3 tx3 => ?_)
    have c9 := cmp_ti tx3
    have c8 := i2l_ti (x := p) ty2
    refine w_if_lt rfl (fun c4 => ?_) (fun c4 => ?_)
    · skip
      refine w_aload rfl rfl ?_
      refine w_const rfl ?_
      refine w_invV (rest := []) rfl rfl rfl rfl rfl (Nat.le_of_ble_eq_true rfl) rfl (by omega) (s_X6_fail_1 (K := K) a b v  4 hR  (by omega) (by omega)) (fun z5 h9 hq6 => ?_)
      obtain ⟨a7, rfl, ha7, fa7, x8, rfl, px8⟩ := hq6
      show f_wp _ (48, [some (.inr (.inr (some 6))), some (.inl p), some (.inl q)], [.inl x8], cH a7 b v) _
      have G9 : tkN t z c p.toInt q.toInt = 4 + 16 * (a 1 8).toInt := by rw [g9, if_pos (by omega), if_pos (by omega)]
      exact wp_iret (z := true) rfl (fun _ => by first | exact Or.inl rfl | exact Or.inr rfl | (rcases (by omega : x8.toInt = 0 ∨ x8.toInt = 1) with h8 | h8; exact Or.inl (ti_eq h8); exact Or.inr (ti_eq h8))) ⟨a7, rfl, ha7, ⟨FR.tr (FR.rf) (FR.sub fa7.1 (by first | exact (fun _ h9 => h9) | decide | (intro c9 h9; simp only [List.mem_cons, List.not_mem_nil, or_false] at h9 ⊢; omega) | (intro c9 h9; simp only [List.mem_cons, List.not_mem_nil, or_false] at h9; exact cA_mem (by omega)) | (intro c9 h9; simp only [List.mem_cons, List.not_mem_nil, or_false] at h9; exact cB_mem (by omega)) | (intro c9 h9; simp only [List.mem_cons, List.not_mem_nil, or_false] at h9; exact cU_mem (by omega)) | (intro c9 h9; simp only [List.mem_cons, List.not_mem_nil, or_false] at h9; exact cM_mem (by omega)) | exact cA_sub)), ⟨fun j _ h9 => fa7.2.1 j h9, by rw [G9]; exact fa7.2.2⟩⟩, ⟨_, rfl, by omega⟩⟩
    · skip
      refine w_aload rfl rfl ?_
      refine c_getR (t := some 1) rfl rfl rfl rfl rfl ?_
      refine c_getL rfl rfl rfl rfl ?_
      refine w_iload rfl rfl ?_
      refine w_i2lE rfl (fun y9 ty9 => ?_)
      refine w_lcmpE rfl (fun x10 tx10 => ?_)
      have c7 := cmp_ti tx10
      have c6 := i2l_ti (x := q) ty9
      refine w_if_le rfl (fun c11 => ?_) (fun c11 => ?_)
      · skip
        refine w_aload rfl rfl ?_
        refine w_aload rfl rfl ?_
        refine c_getR (t := some 1) rfl rfl rfl rfl rfl ?_
        refine c_getL rfl rfl rfl rfl ?_
        refine w_l2iE rfl (fun x12 tx12 => ?_)
        have p1 := ti_lo p
        have q1 := ti_hi q
        have l9 := l2i_ti tx12 (by omega)
        refine c_putI (z := false) rfl rfl rfl rfl (by first | (intro h9; cases h9; done) | (intro _; first | exact Or.inl rfl | exact Or.inr rfl | assumption | (rcases (by omega : x12.toInt = 0 ∨ x12.toInt = 1) with h8 | h8; exact Or.inl (ti_eq h8); exact Or.inr (ti_eq h8)))) (fun a13 ea13 => ?_)
        have ha13 : RC K a13 := RC.up hR ea13 (lc_any _ (by omega))
        have ua13 : a13 6 9 = x12 := by rw [ea13, mU_same]
        have wa13 := congrArg Int32.toInt ua13
        have ra13_57 : (a13 1 7).toInt = (a 1 7).toInt := by rw [ea13, mU_cell (by omega)]
        have G9 : tkN t z c p.toInt q.toInt = 0 := by rw [g9, if_pos (by omega), if_neg (by omega)]
        refine w_const rfl ?_
        exact wp_iret (z := true) rfl (fun _ => by first | exact Or.inl rfl | exact Or.inr rfl | (rcases (by omega : (1 : Int32).toInt = 0 ∨ (1 : Int32).toInt = 1) with h8 | h8; exact Or.inl (ti_eq h8); exact Or.inr (ti_eq h8))) ⟨a13, rfl, ha13, ⟨FR.up (FR.rf) (by first | decide | (simp; done) | exact cA_mem (by omega) | exact cB_mem (by omega) | exact cU_mem (by omega) | exact cM_mem (by omega)) ea13, ⟨fun j h9 _ => by rw [ea13, mU_slot h9], by rw [ea13, mU_slot (by decide), G9]; exact hf⟩⟩, ⟨_, rfl, by omega⟩⟩
      · skip
        refine w_aload rfl rfl ?_
        refine w_const rfl ?_
        refine w_invV (rest := []) rfl rfl rfl rfl rfl (Nat.le_of_ble_eq_true rfl) rfl (by omega) (s_X6_fail_1 (K := K) a b v  4 hR  (by omega) (by omega)) (fun z14 h9 hq15 => ?_)
        obtain ⟨a16, rfl, ha16, fa16, x17, rfl, px17⟩ := hq15
        show f_wp _ (48, [some (.inr (.inr (some 6))), some (.inl p), some (.inl q)], [.inl x17], cH a16 b v) _
        have G9 : tkN t z c p.toInt q.toInt = 4 + 16 * (a 1 8).toInt := by rw [g9, if_pos (by omega), if_pos (by omega)]
        exact wp_iret (z := true) rfl (fun _ => by first | exact Or.inl rfl | exact Or.inr rfl | (rcases (by omega : x17.toInt = 0 ∨ x17.toInt = 1) with h8 | h8; exact Or.inl (ti_eq h8); exact Or.inr (ti_eq h8))) ⟨a16, rfl, ha16, ⟨FR.tr (FR.rf) (FR.sub fa16.1 (by first | exact (fun _ h9 => h9) | decide | (intro c9 h9; simp only [List.mem_cons, List.not_mem_nil, or_false] at h9 ⊢; omega) | (intro c9 h9; simp only [List.mem_cons, List.not_mem_nil, or_false] at h9; exact cA_mem (by omega)) | (intro c9 h9; simp only [List.mem_cons, List.not_mem_nil, or_false] at h9; exact cB_mem (by omega)) | (intro c9 h9; simp only [List.mem_cons, List.not_mem_nil, or_false] at h9; exact cU_mem (by omega)) | (intro c9 h9; simp only [List.mem_cons, List.not_mem_nil, or_false] at h9; exact cM_mem (by omega)) | exact cA_sub)), ⟨fun j _ h9 => fa16.2.1 j h9, by rw [G9]; exact fa16.2.2⟩⟩, ⟨_, rfl, by omega⟩⟩
  · skip
    refine w_aload rfl rfl ?_
    refine w_const rfl ?_
    refine w_invV (rest := []) rfl rfl rfl rfl rfl (Nat.le_of_ble_eq_true rfl) rfl (by omega) (s_X6_fail_1 (K := K) a b v  1 hR  (by omega) (by omega)) (fun z18 h9 hq19 => ?_)
    obtain ⟨a20, rfl, ha20, fa20, x21, rfl, px21⟩ := hq19
    show f_wp _ (16, [some (.inr (.inr (some 6))), some (.inl p), some (.inl q)], [.inl x21], cH a20 b v) _
    have G9 : tkN t z c p.toInt q.toInt = 1 + 16 * (a 1 8).toInt := by rw [g9, if_neg (by omega)]
    exact wp_iret (z := true) rfl (fun _ => by first | exact Or.inl rfl | exact Or.inr rfl | (rcases (by omega : x21.toInt = 0 ∨ x21.toInt = 1) with h8 | h8; exact Or.inl (ti_eq h8); exact Or.inr (ti_eq h8))) ⟨a20, rfl, ha20, ⟨FR.tr (FR.rf) (FR.sub fa20.1 (by first | exact (fun _ h9 => h9) | decide | (intro c9 h9; simp only [List.mem_cons, List.not_mem_nil, or_false] at h9 ⊢; omega) | (intro c9 h9; simp only [List.mem_cons, List.not_mem_nil, or_false] at h9; exact cA_mem (by omega)) | (intro c9 h9; simp only [List.mem_cons, List.not_mem_nil, or_false] at h9; exact cB_mem (by omega)) | (intro c9 h9; simp only [List.mem_cons, List.not_mem_nil, or_false] at h9; exact cU_mem (by omega)) | (intro c9 h9; simp only [List.mem_cons, List.not_mem_nil, or_false] at h9; exact cM_mem (by omega)) | exact cA_sub)), ⟨fun j _ h9 => fa20.2.1 j h9, by rw [G9]; exact fa20.2.2⟩⟩, ⟨_, rfl, by omega⟩⟩
set_option maxRecDepth 4000 in
theorem s_X6_passNumber_1 {K : Nat} (a : Nat → Nat → Int32) (b : Nat → Nat → Int64) (v : Nat → Option Nat) (N : Nat) (z : Nat) (c : Nat) (t : Nat → Int32) (p : Int32) (q : Int32) (hR : RC K a) (hw : f_wdb (v 2) = true) (hP : PC t z N c a b v) (hz : z ≤ 1000) (hf : (a 6 10).toInt = 0) : f_call mtC 3 52 [.inr (.inr (some 6)), .inl p, .inl q] (cH a b v) (fun v9 h' => ∃ (a' : Nat → Nat → Int32) (b' : Nat → Nat → Int64) (v' : Nat → Option Nat), h' = cH a' b' v' ∧ RC K a' ∧ (FR [1, 6] a a' ∧ ((∀ i, i ∉ [2] → v' i = v i) ∧ (f_wdb (v' 2) = true ∧ (tkN t z c p.toInt q.toInt = 0 → PC t z N (c + 1) a' b' v'))) ∧ ((∀ j, j ≠ 9 → j ≠ 10 → a' 6 j = a 6 j) ∧ (a' 6 10).toInt = tkN t z c p.toInt q.toInt)) ∧ ∃ x : Int32, v9 = some (.inl x) ∧ ((x.toInt = 1 ∧ tkN t z c p.toInt q.toInt = 0) ∨ (x.toInt = 0 ∧ ¬ tkN t z c p.toInt q.toInt = 0))) := by
  refine f_call_of (d0 := 2) rfl (Nat.le_of_ble_eq_true rfl) (fun d hd => ?_)
  show f_wp _ (0, [some (.inr (.inr (some 6))), some (.inl p), some (.inl q)], [], cH a b v) _
  have l0 : (0 : Int32).toInt = 0 := rfl
  have l1 : (1 : Int32).toInt = 1 := rfl
  refine w_aload rfl rfl ?_
  refine w_iload rfl rfl ?_
  refine w_iload rfl rfl ?_
  refine w_invV (rest := []) rfl rfl rfl rfl rfl (Nat.le_of_ble_eq_true rfl) rfl (by omega) (s_X6_isNumber_1 (K := K) a b v N z c t p q hR  (by omega) (by omega) (by omega)) (fun z1 h9 hq2 => ?_)
  obtain ⟨a3, rfl, ha3, fa3, x4, rfl, px4⟩ := hq2
  show f_wp _ (6, [some (.inr (.inr (some 6))), some (.inl p), some (.inl q)], [.inl x4], cH a3 b v) _
  have p9 := px4
  have F9 := fa3
  have P9 : PC t z N c a3 b v := hP.fr (F9.1 1 (by decide)) (F9.1 3 (by decide)) (F9.1 4 (by decide))
  refine w_if_ne rfl (fun c5 => ?_) (fun c5 => ?_)
  · skip
    refine w_const rfl ?_
    exact wp_iret (z := true) rfl (fun _ => by first | exact Or.inl rfl | exact Or.inr rfl | (rcases (by omega : (0 : Int32).toInt = 0 ∨ (0 : Int32).toInt = 1) with h8 | h8; exact Or.inl (ti_eq h8); exact Or.inr (ti_eq h8))) ⟨a3, b, v, rfl, ha3, ⟨FR.tr (FR.rf) (FR.sub fa3.1 (by first | exact (fun _ h9 => h9) | decide | (intro c9 h9; simp only [List.mem_cons, List.not_mem_nil, or_false] at h9 ⊢; omega) | (intro c9 h9; simp only [List.mem_cons, List.not_mem_nil, or_false] at h9; exact cA_mem (by omega)) | (intro c9 h9; simp only [List.mem_cons, List.not_mem_nil, or_false] at h9; exact cB_mem (by omega)) | (intro c9 h9; simp only [List.mem_cons, List.not_mem_nil, or_false] at h9; exact cU_mem (by omega)) | (intro c9 h9; simp only [List.mem_cons, List.not_mem_nil, or_false] at h9; exact cM_mem (by omega)) | exact cA_sub)), ⟨(fun _ _ => rfl), ⟨hw, fun h9 => absurd h9 (by omega)⟩⟩, F9.2⟩, ⟨_, rfl, by omega⟩⟩
  · skip
    refine w_aload rfl rfl ?_
    refine c_getR (t := some 1) rfl rfl rfl rfl rfl ?_
    refine w_invV (rest := []) rfl rfl rfl rfl rfl (Nat.le_of_ble_eq_true rfl) rfl (by omega) (s_X8_advance_1 (K := K) a3 b v   ha3  ) (fun z6 h9 hq7 => ?_)
    obtain ⟨a8, b9, v10, rfl, ha8, fa8, rfl⟩ := hq7
    show f_wp _ (18, [some (.inr (.inr (some 6))), some (.inl p), some (.inl q)], [], cH a8 b9 v10) _
    have V9 := fa8
    refine w_const rfl ?_
    exact wp_iret (z := true) rfl (fun _ => by first | exact Or.inl rfl | exact Or.inr rfl | (rcases (by omega : (1 : Int32).toInt = 0 ∨ (1 : Int32).toInt = 1) with h8 | h8; exact Or.inl (ti_eq h8); exact Or.inr (ti_eq h8))) ⟨a8, b9, v10, rfl, ha8, ⟨FR.tr (FR.tr (FR.rf) (FR.sub fa3.1 (by first | exact (fun _ h9 => h9) | decide | (intro c9 h9; simp only [List.mem_cons, List.not_mem_nil, or_false] at h9 ⊢; omega) | (intro c9 h9; simp only [List.mem_cons, List.not_mem_nil, or_false] at h9; exact cA_mem (by omega)) | (intro c9 h9; simp only [List.mem_cons, List.not_mem_nil, or_false] at h9; exact cB_mem (by omega)) | (intro c9 h9; simp only [List.mem_cons, List.not_mem_nil, or_false] at h9; exact cU_mem (by omega)) | (intro c9 h9; simp only [List.mem_cons, List.not_mem_nil, or_false] at h9; exact cM_mem (by omega)) | exact cA_sub))) (FR.sub fa8.1 (by first | exact (fun _ h9 => h9) | decide | (intro c9 h9; simp only [List.mem_cons, List.not_mem_nil, or_false] at h9 ⊢; omega) | (intro c9 h9; simp only [List.mem_cons, List.not_mem_nil, or_false] at h9; exact cA_mem (by omega)) | (intro c9 h9; simp only [List.mem_cons, List.not_mem_nil, or_false] at h9; exact cB_mem (by omega)) | (intro c9 h9; simp only [List.mem_cons, List.not_mem_nil, or_false] at h9; exact cU_mem (by omega)) | (intro c9 h9; simp only [List.mem_cons, List.not_mem_nil, or_false] at h9; exact cM_mem (by omega)) | exact cA_sub)), ⟨fun i9 h9 => (fa8.2.1.1 i9 (fun z9 => h9 (by first | exact z9 | (revert z9; simp; done) | (revert z9; simp; omega)))).trans ((show ∀ i9, i9 ∉ [2] → v i9 = v i9 from (fun _ _ => rfl)) i9 h9), ⟨V9.2.1.2.1, fun h9 => P9.next (tkN_k h9) V9.1 V9.2.2 V9.2.1.2.2⟩⟩, ⟨fun j h8 h9 => by rw [V9.1 6 (by decide)]; exact F9.2.1 j h8 h9, by rw [V9.1 6 (by decide)]; exact F9.2.2⟩⟩, ⟨_, rfl, by omega⟩⟩
