set_option maxRecDepth 4000 in
theorem y_X6_passOnce {d : Nat} (a : Nat → Nat → Int32) (b : Nat → Nat → Int64) (v : Nat → Option Nat) (z : Nat) (N : Nat) (c : Nat) (t : Nat → Int32) (o : Nat → Bool) (i : Nat) (p : Int32) (hw : f_wdb (v 2) = true) (hS : CSt t z N c a b v) (hO : OB o (a 6 8)) (hk0 : ¬ lxK t z c = 0) (hi : i < 4) (hpi : p = nI (2 ^ i)) : f_pc mtC d 66 [.inr (.inr (some 6)), .inl p] (cH a b v) (fun v9 h' => ∃ (a' : Nat → Nat → Int32) (b' : Nat → Nat → Int64) (v' : Nat → Option Nat), h' = cH a' b' v' ∧ (FR [1, 6] a a' ∧ ((∀ i, i ∉ [2] → v' i = v i) ∧ f_wdb (v' 2) = true) ∧ ((∀ j, j ≠ 8 → j ≠ 10 → a' 6 j = a 6 j) ∧ BF b b')) ∧ ∃ x : Int32, v9 = some (.inl x) ∧ (PSt t z N (c + 1) (onF t z c o i) x a' b' v' ∧ (onF t z c o i = 0 → OB (upO o i) (a' 6 8)))) := by
  refine f_pc_of rfl (fun d0 fu hd => ?_)
  show f_pq _ _ (0, [some (.inr (.inr (some 6))), some (.inl p)], [], cH a b v) _
  have l1 : (1 : Int32).toInt = 1 := rfl
  have l3 : (3 : Int32).toInt = 3 := rfl
  obtain ⟨s0, s1, s2, s3, s4, s5, s6⟩ := hS.pl
  refine qw_aload rfl rfl ?_
  refine qc_getI rfl rfl rfl rfl ?_
  refine qw_iload rfl rfl ?_
  refine qw_iiE rfl (fun x1 tx1 => ?_)
  have g9 := hO.cg hi hpi tx1
  refine qw_if_eq rfl (fun c2 => ?_) (fun c2 => ?_)
  · skip
    have DX : onF t z c o i = 0 := onF_0 (g9.mp (by omega))
    refine qw_aload rfl rfl ?_
    refine qw_dup rfl rfl ?_
    refine qc_getI rfl rfl rfl rfl ?_
    refine qw_iload rfl rfl ?_
    refine qw_iiE rfl (fun x3 tx3 => ?_)
    have g8 := hO.cs hi hpi tx3
    refine qc_putI (z := false) rfl rfl rfl rfl (by first | (intro h9; cases h9; done) | (intro _; first | exact Or.inl rfl | exact Or.inr rfl | assumption | (rcases (by omega : x3.toInt = 0 ∨ x3.toInt = 1) with h8 | h8; exact Or.inl (ti_eq h8); exact Or.inr (ti_eq h8)))) (fun a4 ea4 => ?_)
    have ua4 : a4 6 8 = x3 := by rw [ea4, mU_same]
    have wa4 := congrArg Int32.toInt ua4
    have C1 := hS.fr (a' := a4) (by rw [ea4, mU_cell (by decide)]) (by rw [ea4, mU_cell (by decide)]) (by rw [ea4, mU_cell (by decide)]) (by rw [ea4, mU_slot (by decide)])
    have K1 := C1.pl
    refine qw_aload rfl rfl ?_
    refine qc_getR (t := some 1) rfl rfl rfl rfl rfl ?_
    refine qw_invV (rest := []) rfl rfl rfl rfl rfl (Nat.le_of_ble_eq_true rfl) rfl (y_X8_advance (d := d0) a4 b v   (by omega) (by omega)) (fun z5 h9 hq6 => ?_)
    obtain ⟨a7, b8, v9, rfl, fa7, rfl⟩ := hq6
    show f_pq _ _ (32, [some (.inr (.inr (some 6))), some (.inl p)], [], cH a7 b8 v9) _
    have V9 := fa7
    have C2 := C1.next hk0 V9.1 V9.2.2 V9.2.1.2.2
    refine qw_const rfl ?_
    exact qwp_iret (z := true) rfl (fun _ => by first | exact Or.inl rfl | exact Or.inr rfl | exact Or.inl (Int32.toInt_inj.mp (z8.trans (by rfl)))) ⟨a7, b8, v9, rfl, ⟨FR.tr (FR.up (FR.rf) (by first | decide | (simp; done) | exact cA_mem (by omega) | exact cB_mem (by omega)) ea4) (FR.sub fa7.1 (by first | exact (fun _ h9 => h9) | decide | (intro c9 h9; simp only [List.mem_cons, List.not_mem_nil, or_false] at h9 ⊢; omega) | (intro c9 h9; simp only [List.mem_cons, List.not_mem_nil, or_false] at h9; exact cA_mem (by omega)) | (intro c9 h9; simp only [List.mem_cons, List.not_mem_nil, or_false] at h9; exact cB_mem (by omega)) | exact cA_sub)), ⟨fun i9 h9 => (fa7.2.1.1 i9 (fun z9 => h9 (by first | exact z9 | (revert z9; simp; done) | (revert z9; simp; omega)))).trans ((show ∀ i9, i9 ∉ [2] → v i9 = v i9 from (fun _ _ => rfl)) i9 h9), V9.2.1.2.1⟩, ⟨fun j h8 _ => by rw [V9.1 6 (by decide), ea4, mU_slot h8], BF.av V9.2.2⟩⟩, ⟨_, rfl, ⟨PSt.ok rfl DX C2, fun _ => by rw [V9.1 6 (by decide), ea4, mU_same]; exact g8⟩⟩⟩
  · skip
    have DX : onF t z c o i = flt t z c 3 := by unfold onF; by_cases q : o i = true; exact if_pos q; exact absurd (g9.mpr q) (by omega)
    refine qw_aload rfl rfl ?_
    refine qw_const rfl ?_
    refine qw_invV (rest := []) rfl rfl rfl rfl rfl (Nat.le_of_ble_eq_true rfl) rfl (y_X6_fail (d := d0) a b v  3 (by omega) (by omega)) (fun z10 h9 hq11 => ?_)
    obtain ⟨a12, rfl, fa12, x13, rfl, px13⟩ := hq11
    show f_pq _ _ (14, [some (.inr (.inr (some 6))), some (.inl p)], [.inl x13], cH a12 b v) _
    have F8 := fa12.2
    have z8 := px13
    have Z8 : ¬ onF t z c o i = 0 ∧ (a12 6 10).toInt = onF t z c o i := by rw [DX]; exact ⟨flt_p (by decide), by rw [F8.2]; show _ = (3 : Int) + 16 * (lxP t z c : Int); have l9 : (3 : Int32).toInt = 3 := rfl; omega⟩
    exact qwp_iret (z := true) rfl (fun _ => by first | exact Or.inl rfl | exact Or.inr rfl | exact Or.inl (Int32.toInt_inj.mp (z8.trans (by rfl)))) ⟨a12, b, v, rfl, ⟨FR.tr (FR.rf) (FR.sub fa12.1 (by first | exact (fun _ h9 => h9) | decide | (intro c9 h9; simp only [List.mem_cons, List.not_mem_nil, or_false] at h9 ⊢; omega) | (intro c9 h9; simp only [List.mem_cons, List.not_mem_nil, or_false] at h9; exact cA_mem (by omega)) | (intro c9 h9; simp only [List.mem_cons, List.not_mem_nil, or_false] at h9; exact cB_mem (by omega)) | exact cA_sub)), ⟨(fun _ _ => rfl), hw⟩, ⟨fun j _ h9 => F8.1 j h9, BF.rf⟩⟩, ⟨_, rfl, ⟨PSt.fl z8 Z8 rfl, fun h => absurd h Z8.1⟩⟩⟩
set_option maxRecDepth 4000 in
theorem y_X6_kinLine {d : Nat} (a : Nat → Nat → Int32) (b : Nat → Nat → Int64) (v : Nat → Option Nat) (z : Nat) (N : Nat) (c : Nat) (t : Nat → Int32) (L : Nat) (V : Nat → Int) (M : Nat → Int64) (o : Nat → Bool)  (hw : f_wdb (v 2) = true) (h3L : v 3 = some L) (hL : L = 22 ∨ L = 46) (hS : CSt t z N c a b v) (hC : CLN t z L V M a b) (hO : OB o (a 6 8)) (hk0 : ¬ lxK t z c = 0) : f_pc mtC d 67 [.inr (.inr (some 6))] (cH a b v) (fun v9 h' => ∃ (a' : Nat → Nat → Int32) (b' : Nat → Nat → Int64) (v' : Nat → Option Nat), h' = cH a' b' v' ∧ (FR [1, 6, L] a a' ∧ ((∀ i, i ∉ [2] → v' i = v i) ∧ f_wdb (v' 2) = true) ∧ (∀ j, j ≠ 8 → j ≠ 9 → j ≠ 10 → a' 6 j = a 6 j)) ∧ ∃ x : Int32, v9 = some (.inl x) ∧ (PSt t z N (c + 2) (eE (onF t z c o 0) (tkN t z (c + 1) 0 9)) x a' b' v' ∧ (eE (onF t z c o 0) (tkN t z (c + 1) 0 9) = 0 → CLN t z L (upI V 2 (nvT t z (c + 1))) M a' b' ∧ OB (upO o 0) (a' 6 8)))) := by
  refine f_pc_of rfl (fun d0 fu hd => ?_)
  show f_pq _ _ (0, [some (.inr (.inr (some 6)))], [], cH a b v) _
  have l0 : (0 : Int32).toInt = 0 := rfl
  have l1 : (1 : Int32).toInt = 1 := rfl
  have l9 : (9 : Int32).toInt = 9 := rfl
  refine qw_aload rfl rfl ?_
  refine qw_const rfl ?_
  refine qw_invV (rest := []) rfl rfl rfl rfl rfl (Nat.le_of_ble_eq_true rfl) rfl (y_X6_passOnce (d := d0) a b v z N c t o 0 1 (hw) (by omega) (by omega) (by omega) (by decide) (rfl)) (fun z1 h9 hq2 => ?_)
  obtain ⟨a3, b4, v5, rfl, fa3, x6, rfl, px6⟩ := hq2
  show f_pq _ _ (5, [some (.inr (.inr (some 6)))], [.inl x6], cH a3 b4 v5) _
  have p9 : Hid (PSt t z N (c + 1) (onF t z c o 0) x6 a3 b4 v5 ∧ (onF t z c o 0 = 0 → OB (upO o 0) (a3 6 8))) := px6
  clear px6
  have w7 := fa3.2.1.2
  have k7 := fa3.2.2
  refine qw_if_eq rfl (fun c7 => ?_) (fun c7 => ?_)
  · skip
    have Z8 : ¬ eE (onF t z c o 0) (tkN t z (c + 1) 0 9) = 0 ∧ (a3 6 10).toInt = eE (onF t z c o 0) (tkN t z (c + 1) 0 9) := by rw [eE_x (p9.1.not c7).1]; exact p9.1.not c7
    refine qw_const rfl ?_
    exact qwp_iret (z := true) rfl (fun _ => by first | exact Or.inl rfl | exact Or.inr rfl | (rcases (by omega : (0 : Int32).toInt = 0 ∨ (0 : Int32).toInt = 1) with h8 | h8; exact Or.inl (ti_eq h8); exact Or.inr (ti_eq h8))) ⟨a3, b4, v5, rfl, ⟨FR.tr (FR.rf) (FR.sub fa3.1 (by first | exact (fun _ h9 => h9) | decide | (intro c9 h9; simp only [List.mem_cons, List.not_mem_nil, or_false] at h9 ⊢; omega) | (intro c9 h9; simp only [List.mem_cons, List.not_mem_nil, or_false] at h9; exact cA_mem (by omega)) | (intro c9 h9; simp only [List.mem_cons, List.not_mem_nil, or_false] at h9; exact cB_mem (by omega)) | exact cA_sub)), ⟨fun i9 h9 => (fa3.2.1.1 i9 (fun z9 => h9 (by first | exact z9 | (revert z9; simp; done) | (revert z9; simp; omega)))).trans ((show ∀ i9, i9 ∉ [2] → v i9 = v i9 from (fun _ _ => rfl)) i9 h9), w7⟩, fun j h8 h9 h10 => by rw [k7.1 j h8 h10]⟩, ⟨_, rfl, ⟨PSt.fl rfl Z8 rfl, fun h => absurd h Z8.1⟩⟩⟩
  · skip
    have T1 := p9.1.yes c7
    refine qw_aload rfl rfl ?_
    refine qw_const rfl ?_
    refine qw_const rfl ?_
    refine qw_invV (rest := []) rfl rfl rfl rfl rfl (Nat.le_of_ble_eq_true rfl) rfl (y_X6_passNumber (d := d0) a3 b4 v5 z N (c + 1) t 0 9 (fa3.2.1.2) (T1.2)) (fun z8 h9 hq9 => ?_)
    obtain ⟨a10, b11, v12, rfl, fa10, x13, rfl, px13⟩ := hq9
    show f_pq _ _ (15, [some (.inr (.inr (some 6)))], [.inl x13], cH a10 b11 v12) _
    have q9 : Hid (PSt t z N (c + 2) (tkN t z (c + 1) 0 9) x13 a10 b11 v12 ∧ (tkN t z (c + 1) 0 9 = 0 → (a10 6 9).toInt = nvT t z (c + 1))) := px13
    clear px13
    have w8x := fa10.2.1.2
    have k8 := fa10.2.2
    have H8 : CLN t z L V M a10 b11 := hC.same hL (fun i hi => by rw [fa10.1 i (by simp only [List.mem_cons, List.not_mem_nil, or_false, not_or]; omega), fa3.1 i (by simp only [List.mem_cons, List.not_mem_nil, or_false, not_or]; omega)]) (fun i hi => (k8.2 i hi).trans (k7.2 i hi))
    have O8 : OB (upO o 0) (a10 6 8) := by rw [k8.1 8 (by decide) (by decide)]; exact p9.2 T1.1
    refine qw_if_ne rfl (fun c14 => ?_) (fun c14 => ?_)
    · skip
      have Z8 : ¬ eE (onF t z c o 0) (tkN t z (c + 1) 0 9) = 0 ∧ (a10 6 10).toInt = eE (onF t z c o 0) (tkN t z (c + 1) 0 9) := by rw [eE_0 T1.1]; exact q9.1.not c14
      refine qw_const rfl ?_
      exact qwp_iret (z := true) rfl (fun _ => by first | exact Or.inl rfl | exact Or.inr rfl | (rcases (by omega : (0 : Int32).toInt = 0 ∨ (0 : Int32).toInt = 1) with h8 | h8; exact Or.inl (ti_eq h8); exact Or.inr (ti_eq h8))) ⟨a10, b11, v12, rfl, ⟨FR.tr (FR.tr (FR.rf) (FR.sub fa3.1 (by first | exact (fun _ h9 => h9) | decide | (intro c9 h9; simp only [List.mem_cons, List.not_mem_nil, or_false] at h9 ⊢; omega) | (intro c9 h9; simp only [List.mem_cons, List.not_mem_nil, or_false] at h9; exact cA_mem (by omega)) | (intro c9 h9; simp only [List.mem_cons, List.not_mem_nil, or_false] at h9; exact cB_mem (by omega)) | exact cA_sub))) (FR.sub fa10.1 (by first | exact (fun _ h9 => h9) | decide | (intro c9 h9; simp only [List.mem_cons, List.not_mem_nil, or_false] at h9 ⊢; omega) | (intro c9 h9; simp only [List.mem_cons, List.not_mem_nil, or_false] at h9; exact cA_mem (by omega)) | (intro c9 h9; simp only [List.mem_cons, List.not_mem_nil, or_false] at h9; exact cB_mem (by omega)) | exact cA_sub)), ⟨fun i9 h9 => (fa10.2.1.1 i9 (fun z9 => h9 (by first | exact z9 | (revert z9; simp; done) | (revert z9; simp; omega)))).trans ((show ∀ i9, i9 ∉ [2] → v5 i9 = v i9 from fun i9 h9 => (fa3.2.1.1 i9 (fun z9 => h9 (by first | exact z9 | (revert z9; simp; done) | (revert z9; simp; omega)))).trans ((show ∀ i9, i9 ∉ [2] → v i9 = v i9 from (fun _ _ => rfl)) i9 h9)) i9 h9), w8x⟩, fun j h8 h9 h10 => by rw [k8.1 j h9 h10, k7.1 j h8 h10]⟩, ⟨_, rfl, ⟨PSt.fl rfl Z8 rfl, fun h => absurd h Z8.1⟩⟩⟩
    · skip
      have T2 := q9.1.yes c14
      refine qw_aload rfl rfl ?_
      refine qc_getR (t := some L) rfl rfl rfl rfl ((fa10.2.1.1 3 (by decide)).trans ((fa3.2.1.1 3 (by decide)).trans h3L)) ?_
      refine qw_aload rfl rfl ?_
      refine qc_getI rfl rfl rfl rfl ?_
      refine qc_putI (z := false) rfl (sh_land (by omega)) rfl rfl (by first | (intro h9; cases h9; done) | (intro _; first | exact Or.inl rfl | exact Or.inr rfl | assumption | (rcases (by omega : (a10 6 9).toInt = 0 ∨ (a10 6 9).toInt = 1) with h8 | h8; exact Or.inl (ti_eq h8); exact Or.inr (ti_eq h8)))) (fun a15 ea15 => ?_)
      have ua15 : a15 L 9 = (a10 6 9) := by rw [ea15, mU_same]
      have wa15 := congrArg Int32.toInt ua15
      have ra15_49 : (a15 6 9).toInt = (a10 6 9).toInt := by rw [ea15, mU_cell (by omega)]
      have C2 := T2.2.fr (a' := a15) (by rw [ea15, mU_cell (by omega)]) (by rw [ea15, mU_cell (by omega)]) (by rw [ea15, mU_cell (by omega)]) (by rw [ea15, mU_cell (by omega)])
      have L2 := H8.put (k := 2) (Or.inl rfl) hL ea15 (q9.2 T2.1)
      refine qw_const rfl ?_
      exact qwp_iret (z := true) rfl (fun _ => by first | exact Or.inl rfl | exact Or.inr rfl | (rcases (by omega : (1 : Int32).toInt = 0 ∨ (1 : Int32).toInt = 1) with h8 | h8; exact Or.inl (ti_eq h8); exact Or.inr (ti_eq h8))) ⟨a15, b11, v12, rfl, ⟨FR.up (FR.tr (FR.tr (FR.rf) (FR.sub fa3.1 (by first | exact (fun _ h9 => h9) | decide | (intro c9 h9; simp only [List.mem_cons, List.not_mem_nil, or_false] at h9 ⊢; omega) | (intro c9 h9; simp only [List.mem_cons, List.not_mem_nil, or_false] at h9; exact cA_mem (by omega)) | (intro c9 h9; simp only [List.mem_cons, List.not_mem_nil, or_false] at h9; exact cB_mem (by omega)) | exact cA_sub))) (FR.sub fa10.1 (by first | exact (fun _ h9 => h9) | decide | (intro c9 h9; simp only [List.mem_cons, List.not_mem_nil, or_false] at h9 ⊢; omega) | (intro c9 h9; simp only [List.mem_cons, List.not_mem_nil, or_false] at h9; exact cA_mem (by omega)) | (intro c9 h9; simp only [List.mem_cons, List.not_mem_nil, or_false] at h9; exact cB_mem (by omega)) | exact cA_sub))) (by first | decide | (simp; done) | exact cA_mem (by omega) | exact cB_mem (by omega)) ea15, ⟨fun i9 h9 => (fa10.2.1.1 i9 (fun z9 => h9 (by first | exact z9 | (revert z9; simp; done) | (revert z9; simp; omega)))).trans ((show ∀ i9, i9 ∉ [2] → v5 i9 = v i9 from fun i9 h9 => (fa3.2.1.1 i9 (fun z9 => h9 (by first | exact z9 | (revert z9; simp; done) | (revert z9; simp; omega)))).trans ((show ∀ i9, i9 ∉ [2] → v i9 = v i9 from (fun _ _ => rfl)) i9 h9)) i9 h9), w8x⟩, fun j h8 h9 h10 => by rw [ea15, mU_cell (by omega), k8.1 j h9 h10, k7.1 j h8 h10]⟩, ⟨_, rfl, ⟨PSt.ok rfl (by rw [eE_0 T1.1]; exact T2.1) C2, fun _ => ⟨L2, by rw [ea15, mU_cell (by omega)]; exact O8⟩⟩⟩⟩
set_option maxRecDepth 4000 in
theorem y_X6_stormLine {d : Nat} (a : Nat → Nat → Int32) (b : Nat → Nat → Int64) (v : Nat → Option Nat) (z : Nat) (N : Nat) (c : Nat) (t : Nat → Int32) (L : Nat) (V : Nat → Int) (M : Nat → Int64) (o : Nat → Bool)  (hw : f_wdb (v 2) = true) (h3L : v 3 = some L) (hL : L = 22 ∨ L = 46) (hS : CSt t z N c a b v) (hC : CLN t z L V M a b) (hO : OB o (a 6 8)) (hk0 : ¬ lxK t z c = 0) : f_pc mtC d 68 [.inr (.inr (some 6))] (cH a b v) (fun v9 h' => ∃ (a' : Nat → Nat → Int32) (b' : Nat → Nat → Int64) (v' : Nat → Option Nat), h' = cH a' b' v' ∧ (FR [1, 6, L] a a' ∧ ((∀ i, i ∉ [2] → v' i = v i) ∧ f_wdb (v' 2) = true) ∧ (∀ j, j ≠ 8 → j ≠ 9 → j ≠ 10 → a' 6 j = a 6 j)) ∧ ∃ x : Int32, v9 = some (.inl x) ∧ (PSt t z N (c + 4) (eE (onF t z c o 1) (eE (tkN t z (c + 1) 0 10) (nb9 t z (c + 2) 13 0 99))) x a' b' v' ∧ (eE (onF t z c o 1) (eE (tkN t z (c + 1) 0 10) (nb9 t z (c + 2) 13 0 99)) = 0 → CLN t z L (upI (upI V 3 (nvT t z (c + 1))) 4 (nvT t z (c + 3))) M a' b' ∧ OB (upO o 1) (a' 6 8)))) := by
  refine f_pc_of rfl (fun d0 fu hd => ?_)
  show f_pq _ _ (0, [some (.inr (.inr (some 6)))], [], cH a b v) _
  have l0 : (0 : Int32).toInt = 0 := rfl
  have l1 : (1 : Int32).toInt = 1 := rfl
  have l2 : (2 : Int32).toInt = 2 := rfl
  have l10 : (10 : Int32).toInt = 10 := rfl
  have l99 : (99 : Int32).toInt = 99 := rfl
  refine qw_aload rfl rfl ?_
  refine qw_const rfl ?_
  refine qw_invV (rest := []) rfl rfl rfl rfl rfl (Nat.le_of_ble_eq_true rfl) rfl (y_X6_passOnce (d := d0) a b v z N c t o 1 2 (hw) (by omega) (by omega) (by omega) (by decide) (rfl)) (fun z1 h9 hq2 => ?_)
  obtain ⟨a3, b4, v5, rfl, fa3, x6, rfl, px6⟩ := hq2
  show f_pq _ _ (5, [some (.inr (.inr (some 6)))], [.inl x6], cH a3 b4 v5) _
  have p9 : Hid (PSt t z N (c + 1) (onF t z c o 1) x6 a3 b4 v5 ∧ (onF t z c o 1 = 0 → OB (upO o 1) (a3 6 8))) := px6
  clear px6
  have w7 := fa3.2.1.2
  have k7 := fa3.2.2
  refine qw_if_eq rfl (fun c7 => ?_) (fun c7 => ?_)
  · skip
    have Z8 : ¬ eE (onF t z c o 1) (eE (tkN t z (c + 1) 0 10) (nb9 t z (c + 2) 13 0 99)) = 0 ∧ (a3 6 10).toInt = eE (onF t z c o 1) (eE (tkN t z (c + 1) 0 10) (nb9 t z (c + 2) 13 0 99)) := by rw [eE_x (p9.1.not c7).1]; exact p9.1.not c7
    refine qw_const rfl ?_
    exact qwp_iret (z := true) rfl (fun _ => by first | exact Or.inl rfl | exact Or.inr rfl | (rcases (by omega : (0 : Int32).toInt = 0 ∨ (0 : Int32).toInt = 1) with h8 | h8; exact Or.inl (ti_eq h8); exact Or.inr (ti_eq h8))) ⟨a3, b4, v5, rfl, ⟨FR.tr (FR.rf) (FR.sub fa3.1 (by first | exact (fun _ h9 => h9) | decide | (intro c9 h9; simp only [List.mem_cons, List.not_mem_nil, or_false] at h9 ⊢; omega) | (intro c9 h9; simp only [List.mem_cons, List.not_mem_nil, or_false] at h9; exact cA_mem (by omega)) | (intro c9 h9; simp only [List.mem_cons, List.not_mem_nil, or_false] at h9; exact cB_mem (by omega)) | exact cA_sub)), ⟨fun i9 h9 => (fa3.2.1.1 i9 (fun z9 => h9 (by first | exact z9 | (revert z9; simp; done) | (revert z9; simp; omega)))).trans ((show ∀ i9, i9 ∉ [2] → v i9 = v i9 from (fun _ _ => rfl)) i9 h9), w7⟩, fun j h8 h9 h10 => by rw [k7.1 j h8 h10]⟩, ⟨_, rfl, ⟨PSt.fl rfl Z8 rfl, fun h => absurd h Z8.1⟩⟩⟩
  · skip
    have T1 := p9.1.yes c7
    refine qw_aload rfl rfl ?_
    refine qw_const rfl ?_
    refine qw_const rfl ?_
    refine qw_invV (rest := []) rfl rfl rfl rfl rfl (Nat.le_of_ble_eq_true rfl) rfl (y_X6_passNumber (d := d0) a3 b4 v5 z N (c + 1) t 0 10 (fa3.2.1.2) (T1.2)) (fun z8 h9 hq9 => ?_)
    obtain ⟨a10, b11, v12, rfl, fa10, x13, rfl, px13⟩ := hq9
    show f_pq _ _ (15, [some (.inr (.inr (some 6)))], [.inl x13], cH a10 b11 v12) _
    have q9 : Hid (PSt t z N (c + 2) (tkN t z (c + 1) 0 10) x13 a10 b11 v12 ∧ (tkN t z (c + 1) 0 10 = 0 → (a10 6 9).toInt = nvT t z (c + 1))) := px13
    clear px13
    have w8x := fa10.2.1.2
    have k8 := fa10.2.2
    have H8 : CLN t z L V M a10 b11 := hC.same hL (fun i hi => by rw [fa10.1 i (by simp only [List.mem_cons, List.not_mem_nil, or_false, not_or]; omega), fa3.1 i (by simp only [List.mem_cons, List.not_mem_nil, or_false, not_or]; omega)]) (fun i hi => (k8.2 i hi).trans (k7.2 i hi))
    have O8 : OB (upO o 1) (a10 6 8) := by rw [k8.1 8 (by decide) (by decide)]; exact p9.2 T1.1
    refine qw_if_ne rfl (fun c14 => ?_) (fun c14 => ?_)
    · skip
      have Z8 : ¬ eE (onF t z c o 1) (eE (tkN t z (c + 1) 0 10) (nb9 t z (c + 2) 13 0 99)) = 0 ∧ (a10 6 10).toInt = eE (onF t z c o 1) (eE (tkN t z (c + 1) 0 10) (nb9 t z (c + 2) 13 0 99)) := by rw [eE_0 T1.1, eE_x (q9.1.not c14).1]; exact q9.1.not c14
      refine qw_const rfl ?_
      exact qwp_iret (z := true) rfl (fun _ => by first | exact Or.inl rfl | exact Or.inr rfl | (rcases (by omega : (0 : Int32).toInt = 0 ∨ (0 : Int32).toInt = 1) with h8 | h8; exact Or.inl (ti_eq h8); exact Or.inr (ti_eq h8))) ⟨a10, b11, v12, rfl, ⟨FR.tr (FR.tr (FR.rf) (FR.sub fa3.1 (by first | exact (fun _ h9 => h9) | decide | (intro c9 h9; simp only [List.mem_cons, List.not_mem_nil, or_false] at h9 ⊢; omega) | (intro c9 h9; simp only [List.mem_cons, List.not_mem_nil, or_false] at h9; exact cA_mem (by omega)) | (intro c9 h9; simp only [List.mem_cons, List.not_mem_nil, or_false] at h9; exact cB_mem (by omega)) | exact cA_sub))) (FR.sub fa10.1 (by first | exact (fun _ h9 => h9) | decide | (intro c9 h9; simp only [List.mem_cons, List.not_mem_nil, or_false] at h9 ⊢; omega) | (intro c9 h9; simp only [List.mem_cons, List.not_mem_nil, or_false] at h9; exact cA_mem (by omega)) | (intro c9 h9; simp only [List.mem_cons, List.not_mem_nil, or_false] at h9; exact cB_mem (by omega)) | exact cA_sub)), ⟨fun i9 h9 => (fa10.2.1.1 i9 (fun z9 => h9 (by first | exact z9 | (revert z9; simp; done) | (revert z9; simp; omega)))).trans ((show ∀ i9, i9 ∉ [2] → v5 i9 = v i9 from fun i9 h9 => (fa3.2.1.1 i9 (fun z9 => h9 (by first | exact z9 | (revert z9; simp; done) | (revert z9; simp; omega)))).trans ((show ∀ i9, i9 ∉ [2] → v i9 = v i9 from (fun _ _ => rfl)) i9 h9)) i9 h9), w8x⟩, fun j h8 h9 h10 => by rw [k8.1 j h9 h10, k7.1 j h8 h10]⟩, ⟨_, rfl, ⟨PSt.fl rfl Z8 rfl, fun h => absurd h Z8.1⟩⟩⟩
    · skip
      have T2 := q9.1.yes c14
      refine qw_aload rfl rfl ?_
      refine qc_getR (t := some L) rfl rfl rfl rfl ((fa10.2.1.1 3 (by decide)).trans ((fa3.2.1.1 3 (by decide)).trans h3L)) ?_
      refine qw_aload rfl rfl ?_
      refine qc_getI rfl rfl rfl rfl ?_
      refine qc_putI (z := false) rfl (sh_land (by omega)) rfl rfl (by first | (intro h9; cases h9; done) | (intro _; first | exact Or.inl rfl | exact Or.inr rfl | assumption | (rcases (by omega : (a10 6 9).toInt = 0 ∨ (a10 6 9).toInt = 1) with h8 | h8; exact Or.inl (ti_eq h8); exact Or.inr (ti_eq h8)))) (fun a15 ea15 => ?_)
      have ua15 : a15 L 10 = (a10 6 9) := by rw [ea15, mU_same]
      have wa15 := congrArg Int32.toInt ua15
      have ra15_51 : (a15 6 9).toInt = (a10 6 9).toInt := by rw [ea15, mU_cell (by omega)]
      have C2 := T2.2.fr (a' := a15) (by rw [ea15, mU_cell (by omega)]) (by rw [ea15, mU_cell (by omega)]) (by rw [ea15, mU_cell (by omega)]) (by rw [ea15, mU_cell (by omega)])
      have L2 := H8.put (k := 3) (Or.inr (Or.inl rfl)) hL ea15 (q9.2 T2.1)
      have O2 : OB (upO o 1) (a15 6 8) := by rw [ea15, mU_cell (by omega)]; exact O8
      refine qw_aload rfl rfl ?_
      refine qw_const rfl ?_
      refine qw_const rfl ?_
      refine qw_const rfl ?_
      refine qw_invV (rest := []) rfl rfl rfl rfl rfl (Nat.le_of_ble_eq_true rfl) rfl (y_X6_numberBehind (d := d0) a15 b11 v12 z N (c + 2) t 1013 0 99 (fa10.2.1.2) (by omega) (C2)) (fun z16 h9 hq17 => ?_)
      obtain ⟨a18, b19, v20, rfl, fa18, x21, rfl, px21⟩ := hq17
      show f_pq _ _ (41, [some (.inr (.inr (some 6)))], [.inl x21], cH a18 b19 v20) _
      have r9 : Hid (PSt t z N (c + 4) (nb9 t z (c + 2) 13 0 99) x21 a18 b19 v20 ∧ (nb9 t z (c + 2) 13 0 99 = 0 → (a18 6 9).toInt = nvT t z (c + 3))) := px21
      clear px21
      have w9x := fa18.2.1.2
      have k9x := fa18.2.2
      have L3 : CLN t z L (upI V 3 (nvT t z (c + 1))) M a18 b19 := L2.same hL (fun i hi => by rw [fa18.1 i (by simp only [List.mem_cons, List.not_mem_nil, or_false, not_or]; omega)]) (fun i hi => k9x.2 i hi)
      have O3 : OB (upO o 1) (a18 6 8) := by rw [k9x.1 8 (by decide) (by decide)]; exact O2
      refine qw_if_ne rfl (fun c22 => ?_) (fun c22 => ?_)
      · skip
        have Z8 : ¬ eE (onF t z c o 1) (eE (tkN t z (c + 1) 0 10) (nb9 t z (c + 2) 13 0 99)) = 0 ∧ (a18 6 10).toInt = eE (onF t z c o 1) (eE (tkN t z (c + 1) 0 10) (nb9 t z (c + 2) 13 0 99)) := by rw [eE_0 T1.1, eE_0 T2.1]; exact r9.1.not c22
        refine qw_const rfl ?_
        exact qwp_iret (z := true) rfl (fun _ => by first | exact Or.inl rfl | exact Or.inr rfl | (rcases (by omega : (0 : Int32).toInt = 0 ∨ (0 : Int32).toInt = 1) with h8 | h8; exact Or.inl (ti_eq h8); exact Or.inr (ti_eq h8))) ⟨a18, b19, v20, rfl, ⟨FR.tr (FR.up (FR.tr (FR.tr (FR.rf) (FR.sub fa3.1 (by first | exact (fun _ h9 => h9) | decide | (intro c9 h9; simp only [List.mem_cons, List.not_mem_nil, or_false] at h9 ⊢; omega) | (intro c9 h9; simp only [List.mem_cons, List.not_mem_nil, or_false] at h9; exact cA_mem (by omega)) | (intro c9 h9; simp only [List.mem_cons, List.not_mem_nil, or_false] at h9; exact cB_mem (by omega)) | exact cA_sub))) (FR.sub fa10.1 (by first | exact (fun _ h9 => h9) | decide | (intro c9 h9; simp only [List.mem_cons, List.not_mem_nil, or_false] at h9 ⊢; omega) | (intro c9 h9; simp only [List.mem_cons, List.not_mem_nil, or_false] at h9; exact cA_mem (by omega)) | (intro c9 h9; simp only [List.mem_cons, List.not_mem_nil, or_false] at h9; exact cB_mem (by omega)) | exact cA_sub))) (by first | decide | (simp; done) | exact cA_mem (by omega) | exact cB_mem (by omega)) ea15) (FR.sub fa18.1 (by first | exact (fun _ h9 => h9) | decide | (intro c9 h9; simp only [List.mem_cons, List.not_mem_nil, or_false] at h9 ⊢; omega) | (intro c9 h9; simp only [List.mem_cons, List.not_mem_nil, or_false] at h9; exact cA_mem (by omega)) | (intro c9 h9; simp only [List.mem_cons, List.not_mem_nil, or_false] at h9; exact cB_mem (by omega)) | exact cA_sub)), ⟨fun i9 h9 => (fa18.2.1.1 i9 (fun z9 => h9 (by first | exact z9 | (revert z9; simp; done) | (revert z9; simp; omega)))).trans ((show ∀ i9, i9 ∉ [2] → v12 i9 = v i9 from fun i9 h9 => (fa10.2.1.1 i9 (fun z9 => h9 (by first | exact z9 | (revert z9; simp; done) | (revert z9; simp; omega)))).trans ((show ∀ i9, i9 ∉ [2] → v5 i9 = v i9 from fun i9 h9 => (fa3.2.1.1 i9 (fun z9 => h9 (by first | exact z9 | (revert z9; simp; done) | (revert z9; simp; omega)))).trans ((show ∀ i9, i9 ∉ [2] → v i9 = v i9 from (fun _ _ => rfl)) i9 h9)) i9 h9)) i9 h9), w9x⟩, fun j h8 h9 h10 => by rw [k9x.1 j h9 h10, ea15, mU_cell (by omega), k8.1 j h9 h10, k7.1 j h8 h10]⟩, ⟨_, rfl, ⟨PSt.fl rfl Z8 rfl, fun h => absurd h Z8.1⟩⟩⟩
      · skip
        have T3 := r9.1.yes c22
        refine qw_aload rfl rfl ?_
        refine qc_getR (t := some L) rfl rfl rfl rfl ((fa18.2.1.1 3 (by decide)).trans ((fa10.2.1.1 3 (by decide)).trans ((fa3.2.1.1 3 (by decide)).trans h3L))) ?_
        refine qw_aload rfl rfl ?_
        refine qc_getI rfl rfl rfl rfl ?_
        refine qc_putI (z := false) rfl (sh_land (by omega)) rfl rfl (by first | (intro h9; cases h9; done) | (intro _; first | exact Or.inl rfl | exact Or.inr rfl | assumption | (rcases (by omega : (a18 6 9).toInt = 0 ∨ (a18 6 9).toInt = 1) with h8 | h8; exact Or.inl (ti_eq h8); exact Or.inr (ti_eq h8)))) (fun a23 ea23 => ?_)
        have ua23 : a23 L 11 = (a18 6 9) := by rw [ea23, mU_same]
        have wa23 := congrArg Int32.toInt ua23
        have ra23_82 : (a23 6 9).toInt = (a18 6 9).toInt := by rw [ea23, mU_cell (by omega)]
        have C4 := T3.2.fr (a' := a23) (by rw [ea23, mU_cell (by omega)]) (by rw [ea23, mU_cell (by omega)]) (by rw [ea23, mU_cell (by omega)]) (by rw [ea23, mU_cell (by omega)])
        have L4 := L3.put (k := 4) (Or.inr (Or.inr rfl)) hL ea23 (r9.2 T3.1)
        refine qw_const rfl ?_
        exact qwp_iret (z := true) rfl (fun _ => by first | exact Or.inl rfl | exact Or.inr rfl | (rcases (by omega : (1 : Int32).toInt = 0 ∨ (1 : Int32).toInt = 1) with h8 | h8; exact Or.inl (ti_eq h8); exact Or.inr (ti_eq h8))) ⟨a23, b19, v20, rfl, ⟨FR.up (FR.tr (FR.up (FR.tr (FR.tr (FR.rf) (FR.sub fa3.1 (by first | exact (fun _ h9 => h9) | decide | (intro c9 h9; simp only [List.mem_cons, List.not_mem_nil, or_false] at h9 ⊢; omega) | (intro c9 h9; simp only [List.mem_cons, List.not_mem_nil, or_false] at h9; exact cA_mem (by omega)) | (intro c9 h9; simp only [List.mem_cons, List.not_mem_nil, or_false] at h9; exact cB_mem (by omega)) | exact cA_sub))) (FR.sub fa10.1 (by first | exact (fun _ h9 => h9) | decide | (intro c9 h9; simp only [List.mem_cons, List.not_mem_nil, or_false] at h9 ⊢; omega) | (intro c9 h9; simp only [List.mem_cons, List.not_mem_nil, or_false] at h9; exact cA_mem (by omega)) | (intro c9 h9; simp only [List.mem_cons, List.not_mem_nil, or_false] at h9; exact cB_mem (by omega)) | exact cA_sub))) (by first | decide | (simp; done) | exact cA_mem (by omega) | exact cB_mem (by omega)) ea15) (FR.sub fa18.1 (by first | exact (fun _ h9 => h9) | decide | (intro c9 h9; simp only [List.mem_cons, List.not_mem_nil, or_false] at h9 ⊢; omega) | (intro c9 h9; simp only [List.mem_cons, List.not_mem_nil, or_false] at h9; exact cA_mem (by omega)) | (intro c9 h9; simp only [List.mem_cons, List.not_mem_nil, or_false] at h9; exact cB_mem (by omega)) | exact cA_sub))) (by first | decide | (simp; done) | exact cA_mem (by omega) | exact cB_mem (by omega)) ea23, ⟨fun i9 h9 => (fa18.2.1.1 i9 (fun z9 => h9 (by first | exact z9 | (revert z9; simp; done) | (revert z9; simp; omega)))).trans ((show ∀ i9, i9 ∉ [2] → v12 i9 = v i9 from fun i9 h9 => (fa10.2.1.1 i9 (fun z9 => h9 (by first | exact z9 | (revert z9; simp; done) | (revert z9; simp; omega)))).trans ((show ∀ i9, i9 ∉ [2] → v5 i9 = v i9 from fun i9 h9 => (fa3.2.1.1 i9 (fun z9 => h9 (by first | exact z9 | (revert z9; simp; done) | (revert z9; simp; omega)))).trans ((show ∀ i9, i9 ∉ [2] → v i9 = v i9 from (fun _ _ => rfl)) i9 h9)) i9 h9)) i9 h9), w9x⟩, fun j h8 h9 h10 => by rw [ea23, mU_cell (by omega), k9x.1 j h9 h10, ea15, mU_cell (by omega), k8.1 j h9 h10, k7.1 j h8 h10]⟩, ⟨_, rfl, ⟨PSt.ok rfl (by rw [eE_0 T1.1, eE_0 T2.1]; exact T3.1) C4, fun _ => ⟨L4, by rw [ea23, mU_cell (by omega)]; exact O3⟩⟩⟩⟩
