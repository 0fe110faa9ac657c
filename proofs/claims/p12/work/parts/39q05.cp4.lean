set_option maxRecDepth 4000 in
theorem y_X7_clear {d : Nat} (a : Nat → Nat → Int32) (b : Nat → Nat → Int64) (v : Nat → Option Nat) (q : Nat) (hq : (34 ≤ q ∧ q < 46 ∨ 58 ≤ q ∧ q < 70) ∧ q % 2 = 0) : f_pc mtC d 80 [.inr (.inr (some q))] (cH a b v) (fun v9 h' => ∃ (a' : Nat → Nat → Int32), h' = cH a' b v ∧ (FR [q] a a' ∧ ((a' q 8).toInt = -1 ∧ (a' q 10).toInt = -1 ∧ (a' q 11).toInt = -1)) ∧ v9 = none) := by
  refine f_pc_of rfl (fun d0 fu hd => ?_)
  show f_pq _ _ (0, [some (.inr (.inr (some q)))], [], cH a b v) _
  have lm1 : (-1 : Int32).toInt = -1 := rfl
  refine qw_aload rfl rfl ?_
  refine qw_const rfl ?_
  refine qc_putI (z := false) rfl (sh_riv (by omega)) rfl rfl (by first | (intro h9; cases h9; done) | (intro _; first | exact Or.inl rfl | exact Or.inr rfl | assumption | (rcases (by omega : ((-1) : Int32).toInt = 0 ∨ ((-1) : Int32).toInt = 1) with h8 | h8; exact Or.inl (ti_eq h8); exact Or.inr (ti_eq h8)))) (fun a1 ea1 => ?_)
  have ua1 : a1 q 8 = ((-1) : Int32) := by rw [ea1, mU_same]
  have wa1 := congrArg Int32.toInt ua1
  refine qw_aload rfl rfl ?_
  refine qw_const rfl ?_
  refine qc_putI (z := false) rfl (sh_riv (by omega)) rfl rfl (by first | (intro h9; cases h9; done) | (intro _; first | exact Or.inl rfl | exact Or.inr rfl | assumption | (rcases (by omega : ((-1) : Int32).toInt = 0 ∨ ((-1) : Int32).toInt = 1) with h8 | h8; exact Or.inl (ti_eq h8); exact Or.inr (ti_eq h8)))) (fun a2 ea2 => ?_)
  have ua2 : a2 q 10 = ((-1) : Int32) := by rw [ea2, mU_same]
  have wa2 := congrArg Int32.toInt ua2
  refine qw_aload rfl rfl ?_
  refine qw_const rfl ?_
  refine qc_putI (z := false) rfl (sh_riv (by omega)) rfl rfl (by first | (intro h9; cases h9; done) | (intro _; first | exact Or.inl rfl | exact Or.inr rfl | assumption | (rcases (by omega : ((-1) : Int32).toInt = 0 ∨ ((-1) : Int32).toInt = 1) with h8 | h8; exact Or.inl (ti_eq h8); exact Or.inr (ti_eq h8)))) (fun a3 ea3 => ?_)
  have ua3 : a3 q 11 = ((-1) : Int32) := by rw [ea3, mU_same]
  have wa3 := congrArg Int32.toInt ua3
  exact qw_ret rfl ⟨a3, rfl, ⟨FR.up (FR.up (FR.up (FR.rf) (by first | decide | (simp; done) | exact cA_mem (by omega) | exact cB_mem (by omega)) ea1) (by first | decide | (simp; done) | exact cA_mem (by omega) | exact cB_mem (by omega)) ea2) (by first | decide | (simp; done) | exact cA_mem (by omega) | exact cB_mem (by omega)) ea3, ⟨by rw [ea3, mU_slot (by decide), ea2, mU_slot (by decide), ea1, mU_same]; rfl, by rw [ea3, mU_slot (by decide), ea2, mU_same]; rfl, by rw [ea3, mU_same]; rfl⟩⟩, rfl⟩
set_option maxRecDepth 4000 in
theorem y_X6_riverName {d : Nat} (a : Nat → Nat → Int32) (b : Nat → Nat → Int64) (v : Nat → Option Nat) (z : Nat) (N : Nat) (c : Nat) (t : Nat → Int32) (L : Nat) (M : Nat → Int64) (q : Nat) (hq : (34 ≤ q ∧ q < 46 ∨ 58 ≤ q ∧ q < 70) ∧ q % 2 = 0) (hw : f_wdb (v 2) = true) (h3L : v 3 = some L) (hS : CSt t z N c a b v) (hL : L = 22 ∨ L = 46) (h7 : 0 ≤ (a L 7).toInt ∧ (a L 7).toInt ≤ 6) (hN : NMC t z (a L 7).toInt.toNat M (fun i => b (L + 1 + 11 + 2 * i) 1)) : f_pc mtC d 58 [.inr (.inr (some 6)), .inr (.inr (some q))] (cH a b v) (fun v9 h' => ∃ (a' : Nat → Nat → Int32) (b' : Nat → Nat → Int64) (v' : Nat → Option Nat), h' = cH a' b' v' ∧ (FR [1, 6, q] a a' ∧ ((∀ i, i ∉ [2] → v' i = v i) ∧ f_wdb (v' 2) = true) ∧ ((∀ j, j ≠ 9 → j ≠ 10 → a' 6 j = a 6 j) ∧ (∀ i, i ≠ 1 → i ≠ q → b' i = b i) ∧ (∀ j, j ≠ 2 → a' q j = a q j))) ∧ ∃ x : Int32, v9 = some (.inl x) ∧ (PSt t z N (c + 1) (nmE t z M (a L 7).toInt.toNat c) x a' b' v' ∧ (nmE t z M (a L 7).toInt.toNat c = 0 → b' q 1 = lxV fC t z c ∧ isNm t z c = true))) := by
  refine f_pc_of rfl (fun d0 fu hd => ?_)
  show f_pq _ _ (0, [some (.inr (.inr (some 6))), some (.inr (.inr (some q)))], [], cH a b v) _
  have lm1 : (-1 : Int32).toInt = -1 := rfl
  have l0 : (0 : Int32).toInt = 0 := rfl
  have l1 : (1 : Int32).toInt = 1 := rfl
  have l3 : (3 : Int32).toInt = 3 := rfl
  obtain ⟨s0, s1, s2, s3, s4, s5, s6⟩ := hS.pl
  refine qw_aload rfl rfl ?_
  refine qw_invV (rest := []) rfl rfl rfl rfl rfl (Nat.le_of_ble_eq_true rfl) rfl (y_X6_isName (d := d0) a b v z N c t  (hw) (by omega)) (fun z1 h9 hq2 => ?_)
  obtain ⟨a3, rfl, fa3, x4, rfl, px4⟩ := hq2
  show f_pq _ _ (4, [some (.inr (.inr (some 6))), some (.inr (.inr (some q)))], [.inl x4], cH a3 b v) _
  have p9 := px4
  have F1 := fa3.2
  have e7 := fa3.1 L (by simp only [List.mem_cons, List.not_mem_nil, or_false, not_or]; omega)
  refine qw_if_ne rfl (fun c5 => ?_) (fun c5 => ?_)
  · skip
    have D0 : ¬ isNm t z c = true := fun q => (p9.not c5).1 (nmx_0.mpr q)
    have Z8 : ¬ nmE t z M (a L 7).toInt.toNat c = 0 ∧ (a3 6 10).toInt = nmE t z M (a L 7).toInt.toNat c := by rw [show nmE t z M (a L 7).toInt.toNat c = nmx t z c from by unfold nmE; rw [if_neg D0, nmx_x D0]]; exact p9.not c5
    refine qw_const rfl ?_
    exact qwp_iret (z := true) rfl (fun _ => by first | exact Or.inl rfl | exact Or.inr rfl | (rcases (by omega : (0 : Int32).toInt = 0 ∨ (0 : Int32).toInt = 1) with h8 | h8; exact Or.inl (ti_eq h8); exact Or.inr (ti_eq h8))) ⟨a3, b, v, rfl, ⟨FR.tr (FR.rf) (FR.sub fa3.1 (by first | exact (fun _ h9 => h9) | decide | (intro c9 h9; simp only [List.mem_cons, List.not_mem_nil, or_false] at h9 ⊢; omega) | (intro c9 h9; simp only [List.mem_cons, List.not_mem_nil, or_false] at h9; exact cA_mem (by omega)) | (intro c9 h9; simp only [List.mem_cons, List.not_mem_nil, or_false] at h9; exact cB_mem (by omega)) | exact cA_sub)), ⟨(fun _ _ => rfl), hw⟩, ⟨fun j _ h9 => F1 j h9, fun _ _ _ => rfl, fun j _ => by rw [fa3.1 q (by simp only [List.mem_cons, List.not_mem_nil, or_false, not_or]; omega)]⟩⟩, ⟨_, rfl, ⟨PSt.fl (by first | rfl | assumption) Z8 rfl, fun h => absurd h Z8.1⟩⟩⟩
  · skip
    have D1 : isNm t z c = true ∧ CSt t z N c a3 b v := ⟨nmx_0.mp (p9.yes c5).1, (p9.yes c5).2⟩
    refine qw_aload rfl rfl ?_
    refine qc_getR (t := some L) rfl rfl rfl rfl h3L ?_
    refine qw_aload rfl rfl ?_
    refine qc_getR (t := some 1) rfl rfl rfl rfl rfl ?_
    refine qc_getL rfl rfl rfl rfl ?_
    refine qw_invV (rest := []) rfl rfl (sh_land (by omega)) rfl rfl (Nat.le_of_ble_eq_true rfl) rfl (y_X3_riverNamed (d := d0) a3 b v  L (b 1 10) (by omega) (by rw [e7]; exact h7)) (fun z6 h9 hq7 => ?_)
    obtain ⟨rfl, x8, rfl, px8⟩ := hq7
    show f_pq _ _ (23, [some (.inr (.inr (some 6))), some (.inr (.inr (some q)))], [.inl x8], cH a3 b v) _
    have f9 := px8
    rw [e7, D1.2.keyn D1.1, hN.fnd ((isNm_iff.mp D1.1).1)] at f9
    refine qw_const rfl ?_
    refine qw_ic_eq rfl (fun c9 => ?_) (fun c9 => ?_)
    · skip
      have DX : nmE t z M (a L 7).toInt.toNat c = 0 := by unfold nmE; rw [if_pos D1.1, if_neg (by omega)]
      refine qw_aload rfl rfl ?_
      refine qw_aload rfl rfl ?_
      refine qc_getR (t := some 1) rfl rfl rfl rfl rfl ?_
      refine qc_getL rfl rfl rfl rfl ?_
      refine qc_putL rfl (sh_riv (by omega)) rfl rfl (fun b10 eb10 => ?_)
      have D2 := D1.2.bb (b' := b10) (by rw [eb10, mV_cell (by omega)]) (by rw [eb10, mV_cell (by omega)])
      have B2 : (∀ i, i ≠ q → b10 i = b i) ∧ b10 q 1 = b 1 10 := ⟨fun i hi => by rw [eb10, mV_cell hi], by rw [eb10, mV_same]⟩
      refine qw_aload rfl rfl ?_
      refine qw_aload rfl rfl ?_
      refine qc_getR (t := some 1) rfl rfl rfl rfl rfl ?_
      refine qc_getI rfl rfl rfl rfl ?_
      refine qc_putI (z := false) rfl (sh_riv (by omega)) rfl rfl (by first | (intro h9; cases h9; done) | (intro _; first | exact Or.inl rfl | exact Or.inr rfl | assumption | (rcases (by omega : (a3 1 9).toInt = 0 ∨ (a3 1 9).toInt = 1) with h8 | h8; exact Or.inl (ti_eq h8); exact Or.inr (ti_eq h8)))) (fun a11 ea11 => ?_)
      have ua11 : a11 q 2 = (a3 1 9) := by rw [ea11, mU_same]
      have wa11 := congrArg Int32.toInt ua11
      have ra11_52 : (a11 1 9).toInt = (a3 1 9).toInt := by rw [ea11, mU_cell (by omega)]
      have D3 := D2.fr (a' := a11) (by rw [ea11, mU_cell (by omega)]) (by rw [ea11, mU_cell (by omega)]) (by rw [ea11, mU_cell (by omega)]) (by rw [ea11, mU_cell (by omega)])
      have K3 := D3.pl
      refine qw_aload rfl rfl ?_
      refine qc_getR (t := some 1) rfl rfl rfl rfl rfl ?_
      refine qw_invV (rest := []) rfl rfl rfl rfl rfl (Nat.le_of_ble_eq_true rfl) rfl (y_X8_advance (d := d0) a11 b10 v   (by omega) (by omega)) (fun z12 h9 hq13 => ?_)
      obtain ⟨a14, b15, v16, rfl, fa14, rfl⟩ := hq13
      show f_pq _ _ (62, [some (.inr (.inr (some 6))), some (.inr (.inr (some q)))], [], cH a14 b15 v16) _
      have V9 := fa14
      have C4 := D3.next (nm_k D1.1) V9.1 V9.2.2 V9.2.1.2.2
      refine qw_const rfl ?_
      exact qwp_iret (z := true) rfl (fun _ => by first | exact Or.inl rfl | exact Or.inr rfl | (rcases (by omega : (1 : Int32).toInt = 0 ∨ (1 : Int32).toInt = 1) with h8 | h8; exact Or.inl (ti_eq h8); exact Or.inr (ti_eq h8))) ⟨a14, b15, v16, rfl, ⟨FR.tr (FR.up (FR.tr (FR.rf) (FR.sub fa3.1 (by first | exact (fun _ h9 => h9) | decide | (intro c9 h9; simp only [List.mem_cons, List.not_mem_nil, or_false] at h9 ⊢; omega) | (intro c9 h9; simp only [List.mem_cons, List.not_mem_nil, or_false] at h9; exact cA_mem (by omega)) | (intro c9 h9; simp only [List.mem_cons, List.not_mem_nil, or_false] at h9; exact cB_mem (by omega)) | exact cA_sub))) (by first | decide | (simp; done) | exact cA_mem (by omega) | exact cB_mem (by omega)) ea11) (FR.sub fa14.1 (by first | exact (fun _ h9 => h9) | decide | (intro c9 h9; simp only [List.mem_cons, List.not_mem_nil, or_false] at h9 ⊢; omega) | (intro c9 h9; simp only [List.mem_cons, List.not_mem_nil, or_false] at h9; exact cA_mem (by omega)) | (intro c9 h9; simp only [List.mem_cons, List.not_mem_nil, or_false] at h9; exact cB_mem (by omega)) | exact cA_sub)), ⟨fun i9 h9 => (fa14.2.1.1 i9 (fun z9 => h9 (by first | exact z9 | (revert z9; simp; done) | (revert z9; simp; omega)))).trans ((show ∀ i9, i9 ∉ [2] → v i9 = v i9 from (fun _ _ => rfl)) i9 h9), V9.2.1.2.1⟩, ⟨fun j h8 h9 => by rw [V9.1 6 (by decide), ea11, mU_cell (by omega)]; exact F1 j h9, fun i h1 h2 => by rw [BF.av V9.2.2 i h1]; exact B2.1 i h2, fun j h2 => by rw [V9.1 q (by simp only [List.mem_cons, List.not_mem_nil, or_false, not_or]; omega), ea11, mU_slot h2, fa3.1 q (by simp only [List.mem_cons, List.not_mem_nil, or_false, not_or]; omega)]⟩⟩, ⟨_, rfl, ⟨PSt.ok rfl DX C4, fun _ => ⟨by rw [BF.av V9.2.2 q (by omega), B2.2]; exact D1.2.keyn D1.1, D1.1⟩⟩⟩⟩
    · skip
      have K8 := D1.2.pl
      have g9 := fnd_lo M (lxV fM t z c) (a L 7).toInt.toNat
      have DX : nmE t z M (a L 7).toInt.toNat c = flt t z c 3 := by unfold nmE; rw [if_pos D1.1, if_pos (by omega)]
      refine qw_aload rfl rfl ?_
      refine qw_const rfl ?_
      refine qw_invV (rest := []) rfl rfl rfl rfl rfl (Nat.le_of_ble_eq_true rfl) rfl (y_X6_fail (d := d0) a3 b v  3 (by omega) (by omega)) (fun z17 h9 hq18 => ?_)
      obtain ⟨a19, rfl, fa19, x20, rfl, px20⟩ := hq18
      show f_pq _ _ (32, [some (.inr (.inr (some 6))), some (.inr (.inr (some q)))], [.inl x20], cH a19 b v) _
      have F8 := fa19.2
      have z8 := px20
      have Z8 : ¬ nmE t z M (a L 7).toInt.toNat c = 0 ∧ (a19 6 10).toInt = nmE t z M (a L 7).toInt.toNat c := by rw [DX]; exact ⟨flt_p (by decide), by rw [F8.2]; show _ = (3 : Int) + 16 * (lxP t z c : Int); have l9 : (3 : Int32).toInt = 3 := rfl; omega⟩
      exact qwp_iret (z := true) rfl (fun _ => by first | exact Or.inl rfl | exact Or.inr rfl | (rcases (by omega : x20.toInt = 0 ∨ x20.toInt = 1) with h8 | h8; exact Or.inl (ti_eq h8); exact Or.inr (ti_eq h8))) ⟨a19, b, v, rfl, ⟨FR.tr (FR.tr (FR.rf) (FR.sub fa3.1 (by first | exact (fun _ h9 => h9) | decide | (intro c9 h9; simp only [List.mem_cons, List.not_mem_nil, or_false] at h9 ⊢; omega) | (intro c9 h9; simp only [List.mem_cons, List.not_mem_nil, or_false] at h9; exact cA_mem (by omega)) | (intro c9 h9; simp only [List.mem_cons, List.not_mem_nil, or_false] at h9; exact cB_mem (by omega)) | exact cA_sub))) (FR.sub fa19.1 (by first | exact (fun _ h9 => h9) | decide | (intro c9 h9; simp only [List.mem_cons, List.not_mem_nil, or_false] at h9 ⊢; omega) | (intro c9 h9; simp only [List.mem_cons, List.not_mem_nil, or_false] at h9; exact cA_mem (by omega)) | (intro c9 h9; simp only [List.mem_cons, List.not_mem_nil, or_false] at h9; exact cB_mem (by omega)) | exact cA_sub)), ⟨(fun _ _ => rfl), hw⟩, ⟨fun j h8 h9 => by rw [F8.1 j h9]; exact F1 j h9, fun _ _ _ => rfl, fun j _ => by rw [fa19.1 q (by simp only [List.mem_cons, List.not_mem_nil, or_false, not_or]; omega), fa3.1 q (by simp only [List.mem_cons, List.not_mem_nil, or_false, not_or]; omega)]⟩⟩, ⟨_, rfl, ⟨PSt.fl (by first | rfl | assumption) Z8 rfl, fun h => absurd h Z8.1⟩⟩⟩
set_option maxRecDepth 4000 in
theorem y_X6_riverKind {d : Nat} (a : Nat → Nat → Int32) (b : Nat → Nat → Int64) (v : Nat → Option Nat) (z : Nat) (N : Nat) (c : Nat) (t : Nat → Int32) (q : Nat) (hq : (34 ≤ q ∧ q < 46 ∨ 58 ≤ q ∧ q < 70) ∧ q % 2 = 0) (hw : f_wdb (v 2) = true) (hS : CSt t z N c a b v) : f_pc mtC d 59 [.inr (.inr (some 6)), .inr (.inr (some q))] (cH a b v) (fun v9 h' => ∃ (a' : Nat → Nat → Int32) (b' : Nat → Nat → Int64) (v' : Nat → Option Nat), h' = cH a' b' v' ∧ (FR [1, 6, q] a a' ∧ ((∀ i, i ∉ [2] → v' i = v i) ∧ f_wdb (v' 2) = true) ∧ (((∀ j, j ≠ 10 → a' 6 j = a 6 j) ∧ BF b b') ∧ (∀ j, j ≠ 3 → a' q j = a q j))) ∧ ∃ x : Int32, v9 = some (.inl x) ∧ (PSt t z N (c + 1) (kdE t z c) x a' b' v' ∧ (kdE t z c = 0 → (a' q 3).toInt = kdF t z c))) := by
  refine f_pc_of rfl (fun d0 fu hd => ?_)
  show f_pq _ _ (0, [some (.inr (.inr (some 6))), some (.inr (.inr (some q)))], [], cH a b v) _
  have lm1 : (-1 : Int32).toInt = -1 := rfl
  have l1 : (1 : Int32).toInt = 1 := rfl
  obtain ⟨s0, s1, s2, s3, s4, s5, s6⟩ := hS.pl
  refine qw_aload rfl rfl ?_
  refine qc_getR (t := some 1) rfl rfl rfl rfl rfl ?_
  refine qc_getR (t := v 2) rfl rfl rfl rfl rfl ?_
  refine qc_ifnull rfl (fun c1 => ?_) (fun w2 c1 => ?_)
  · skip
    have DX : kdE t z c = flt t z c 1 := kdE_x (by rw [kdF_0 (hS.w0 c1)]; decide)
    refine qw_aload rfl rfl ?_
    refine qw_const rfl ?_
    refine qw_invV (rest := []) rfl rfl rfl rfl rfl (Nat.le_of_ble_eq_true rfl) rfl (y_X6_fail (d := d0) a b v  1 (by omega) (by omega)) (fun z3 h9 hq4 => ?_)
    obtain ⟨a5, rfl, fa5, x6, rfl, px6⟩ := hq4
    show f_pq _ _ (29, [some (.inr (.inr (some 6))), some (.inr (.inr (some q)))], [.inl x6], cH a5 b v) _
    have F8 := fa5.2
    have z8 := px6
    have Z8 : ¬ kdE t z c = 0 ∧ (a5 6 10).toInt = kdE t z c := by rw [DX]; exact ⟨flt_p (by decide), by rw [F8.2]; show _ = (1 : Int) + 16 * (lxP t z c : Int); have l9 : (1 : Int32).toInt = 1 := rfl; omega⟩
    exact qwp_iret (z := true) rfl (fun _ => by first | exact Or.inl rfl | exact Or.inr rfl | (rcases (by omega : x6.toInt = 0 ∨ x6.toInt = 1) with h8 | h8; exact Or.inl (ti_eq h8); exact Or.inr (ti_eq h8))) ⟨a5, b, v, rfl, ⟨FR.tr (FR.rf) (FR.sub fa5.1 (by first | exact (fun _ h9 => h9) | decide | (intro c9 h9; simp only [List.mem_cons, List.not_mem_nil, or_false] at h9 ⊢; omega) | (intro c9 h9; simp only [List.mem_cons, List.not_mem_nil, or_false] at h9; exact cA_mem (by omega)) | (intro c9 h9; simp only [List.mem_cons, List.not_mem_nil, or_false] at h9; exact cB_mem (by omega)) | exact cA_sub)), ⟨(fun _ _ => rfl), hw⟩, ⟨⟨F8.1, BF.rf⟩, fun j _ => by rw [fa5.1 q (by simp only [List.mem_cons, List.not_mem_nil, or_false, not_or]; omega)]⟩⟩, ⟨_, rfl, ⟨PSt.fl (by first | rfl | assumption) Z8 rfl, fun h => absurd h Z8.1⟩⟩⟩
  · skip
    have w9 := f_wdb_lt hw w2 c1
    have D9 := kdF_w (hS.wu c1 w9.1) (by omega)
    have r9 := wKin_r (w2 - 1000) (by omega)
    refine qw_aload rfl rfl ?_
    refine qc_getR (t := some 1) rfl rfl rfl rfl rfl ?_
    refine qc_getR (t := v 2) rfl rfl rfl rfl rfl ?_
    rw [c1]
    refine qc_sfld rfl (if_pos (by omega)) ?_
    refine qw_const rfl ?_
    refine qw_ic_ne rfl (fun c7 => ?_) (fun c7 => ?_)
    · skip
      have DX : kdE t z c = flt t z c 1 := kdE_x (by omega)
      refine qw_aload rfl rfl ?_
      refine qw_const rfl ?_
      refine qw_invV (rest := []) rfl rfl rfl rfl rfl (Nat.le_of_ble_eq_true rfl) rfl (y_X6_fail (d := d0) a b v  1 (by omega) (by omega)) (fun z8 h9 hq9 => ?_)
      obtain ⟨a10, rfl, fa10, x11, rfl, px11⟩ := hq9
      show f_pq _ _ (29, [some (.inr (.inr (some 6))), some (.inr (.inr (some q)))], [.inl x11], cH a10 b v) _
      have F8 := fa10.2
      have z8 := px11
      have Z8 : ¬ kdE t z c = 0 ∧ (a10 6 10).toInt = kdE t z c := by rw [DX]; exact ⟨flt_p (by decide), by rw [F8.2]; show _ = (1 : Int) + 16 * (lxP t z c : Int); have l9 : (1 : Int32).toInt = 1 := rfl; omega⟩
      exact qwp_iret (z := true) rfl (fun _ => by first | exact Or.inl rfl | exact Or.inr rfl | (rcases (by omega : x11.toInt = 0 ∨ x11.toInt = 1) with h8 | h8; exact Or.inl (ti_eq h8); exact Or.inr (ti_eq h8))) ⟨a10, b, v, rfl, ⟨FR.tr (FR.rf) (FR.sub fa10.1 (by first | exact (fun _ h9 => h9) | decide | (intro c9 h9; simp only [List.mem_cons, List.not_mem_nil, or_false] at h9 ⊢; omega) | (intro c9 h9; simp only [List.mem_cons, List.not_mem_nil, or_false] at h9; exact cA_mem (by omega)) | (intro c9 h9; simp only [List.mem_cons, List.not_mem_nil, or_false] at h9; exact cB_mem (by omega)) | exact cA_sub)), ⟨(fun _ _ => rfl), hw⟩, ⟨⟨F8.1, BF.rf⟩, fun j _ => by rw [fa10.1 q (by simp only [List.mem_cons, List.not_mem_nil, or_false, not_or]; omega)]⟩⟩, ⟨_, rfl, ⟨PSt.fl (by first | rfl | assumption) Z8 rfl, fun h => absurd h Z8.1⟩⟩⟩
    · skip
      have D8 : 0 ≤ kdF t z c := by omega
      have DX : kdE t z c = 0 := kdE_0 D8
      refine qw_aload rfl rfl ?_
      refine qw_aload rfl rfl ?_
      refine qc_getR (t := some 1) rfl rfl rfl rfl rfl ?_
      refine qc_getR (t := v 2) rfl rfl rfl rfl rfl ?_
      rw [c1]
      refine qc_sfld rfl (if_pos (by omega)) ?_
      refine qc_putI (z := false) rfl (sh_riv (by omega)) rfl rfl (by first | (intro h9; cases h9; done) | (intro _; first | exact Or.inl rfl | exact Or.inr rfl | assumption | (rcases (by omega : (wKin.getD (w2 - 1000) 0).toInt = 0 ∨ (wKin.getD (w2 - 1000) 0).toInt = 1) with h8 | h8; exact Or.inl (ti_eq h8); exact Or.inr (ti_eq h8)))) (fun a12 ea12 => ?_)
      have ua12 : a12 q 3 = (wKin.getD (w2 - 1000) 0) := by rw [ea12, mU_same]
      have wa12 := congrArg Int32.toInt ua12
      have C3 := hS.fr (a' := a12) (by rw [ea12, mU_cell (by omega)]) (by rw [ea12, mU_cell (by omega)]) (by rw [ea12, mU_cell (by omega)]) (by rw [ea12, mU_cell (by omega)])
      have K3 := C3.pl
      refine qw_aload rfl rfl ?_
      refine qc_getR (t := some 1) rfl rfl rfl rfl rfl ?_
      refine qw_invV (rest := []) rfl rfl rfl rfl rfl (Nat.le_of_ble_eq_true rfl) rfl (y_X8_advance (d := d0) a12 b v   (by omega) (by omega)) (fun z13 h9 hq14 => ?_)
      obtain ⟨a15, b16, v17, rfl, fa15, rfl⟩ := hq14
      show f_pq _ _ (51, [some (.inr (.inr (some 6))), some (.inr (.inr (some q)))], [], cH a15 b16 v17) _
      have V9 := fa15
      have C4 := C3.next (kd_k D8) V9.1 V9.2.2 V9.2.1.2.2
      refine qw_const rfl ?_
      exact qwp_iret (z := true) rfl (fun _ => by first | exact Or.inl rfl | exact Or.inr rfl | (rcases (by omega : (1 : Int32).toInt = 0 ∨ (1 : Int32).toInt = 1) with h8 | h8; exact Or.inl (ti_eq h8); exact Or.inr (ti_eq h8))) ⟨a15, b16, v17, rfl, ⟨FR.tr (FR.up (FR.rf) (by first | decide | (simp; done) | exact cA_mem (by omega) | exact cB_mem (by omega)) ea12) (FR.sub fa15.1 (by first | exact (fun _ h9 => h9) | decide | (intro c9 h9; simp only [List.mem_cons, List.not_mem_nil, or_false] at h9 ⊢; omega) | (intro c9 h9; simp only [List.mem_cons, List.not_mem_nil, or_false] at h9; exact cA_mem (by omega)) | (intro c9 h9; simp only [List.mem_cons, List.not_mem_nil, or_false] at h9; exact cB_mem (by omega)) | exact cA_sub)), ⟨fun i9 h9 => (fa15.2.1.1 i9 (fun z9 => h9 (by first | exact z9 | (revert z9; simp; done) | (revert z9; simp; omega)))).trans ((show ∀ i9, i9 ∉ [2] → v i9 = v i9 from (fun _ _ => rfl)) i9 h9), V9.2.1.2.1⟩, ⟨⟨fun j h9 => by rw [V9.1 6 (by decide), ea12, mU_cell (by omega)], BF.av V9.2.2⟩, fun j h3 => by rw [V9.1 q (by simp only [List.mem_cons, List.not_mem_nil, or_false, not_or]; omega), ea12, mU_slot h3]⟩⟩, ⟨_, rfl, ⟨PSt.ok rfl DX C4, fun _ => by rw [V9.1 q (by simp only [List.mem_cons, List.not_mem_nil, or_false, not_or]; omega), ea12, mU_same]; omega⟩⟩⟩
set_option maxRecDepth 4000 in
theorem y_X6_riverCourse {d : Nat} (a : Nat → Nat → Int32) (b : Nat → Nat → Int64) (v : Nat → Option Nat) (z : Nat) (N : Nat) (c : Nat) (t : Nat → Int32) (q : Nat) (hq : (34 ≤ q ∧ q < 46 ∨ 58 ≤ q ∧ q < 70) ∧ q % 2 = 0) (hw : f_wdb (v 2) = true) (hS : CSt t z N c a b v) : f_pc mtC d 60 [.inr (.inr (some 6)), .inr (.inr (some q))] (cH a b v) (fun v9 h' => ∃ (a' : Nat → Nat → Int32) (b' : Nat → Nat → Int64) (v' : Nat → Option Nat), h' = cH a' b' v' ∧ (FR [1, 6, q] a a' ∧ ((∀ i, i ∉ [2] → v' i = v i) ∧ f_wdb (v' 2) = true) ∧ (((∀ j, j ≠ 9 → j ≠ 10 → a' 6 j = a 6 j) ∧ BF b b') ∧ (∀ j, j ≠ 4 → j ≠ 5 → j ≠ 6 → a' q j = a q j))) ∧ ∃ x : Int32, v9 = some (.inl x) ∧ (PSt t z N (c + 6) (rcF t z c) x a' b' v' ∧ (rcF t z c = 0 → (a' q 4).toInt = nvT t z (c + 1) ∧ (a' q 5).toInt = nvT t z (c + 3) ∧ (a' q 6).toInt = nvT t z (c + 5)))) := by
  refine f_pc_of rfl (fun d0 fu hd => ?_)
  show f_pq _ _ (0, [some (.inr (.inr (some 6))), some (.inr (.inr (some q)))], [], cH a b v) _
  have l0 : (0 : Int32).toInt = 0 := rfl
  have l1 : (1 : Int32).toInt = 1 := rfl
  have l99 : (99 : Int32).toInt = 99 := rfl
  refine qw_aload rfl rfl ?_
  refine qw_const rfl ?_
  refine qw_const rfl ?_
  refine qw_const rfl ?_
  refine qw_invV (rest := []) rfl rfl rfl rfl rfl (Nat.le_of_ble_eq_true rfl) rfl (y_X6_numberBehind (d := d0) a b v z N c t 1001 1 99 (hw) (by omega) (by omega)) (fun z1 h9 hq2 => ?_)
  obtain ⟨a3, b4, v5, rfl, fa3, x6, rfl, px6⟩ := hq2
  show f_pq _ _ (10, [some (.inr (.inr (some 6))), some (.inr (.inr (some q)))], [.inl x6], cH a3 b4 v5) _
  have p1 : PSt t z N (c + 2) (nb9 t z c 1 1 99) x6 a3 b4 v5 ∧ (nb9 t z c 1 1 99 = 0 → (a3 6 9).toInt = nvT t z (c + 1)) := px6
  have wp1 := fa3.2.1.2
  have kp1 := fa3.2.2
  refine qw_if_ne rfl (fun c7 => ?_) (fun c7 => ?_)
  · skip
    have Z8 : ¬ rcF t z c = 0 ∧ (a3 6 10).toInt = rcF t z c := by rw [show rcF t z c = nb9 t z c 1 1 99 from eE_x (p1.1.not c7).1]; exact p1.1.not c7
    refine qw_const rfl ?_
    exact qwp_iret (z := true) rfl (fun _ => by first | exact Or.inl rfl | exact Or.inr rfl | (rcases (by omega : (0 : Int32).toInt = 0 ∨ (0 : Int32).toInt = 1) with h8 | h8; exact Or.inl (ti_eq h8); exact Or.inr (ti_eq h8))) ⟨a3, b4, v5, rfl, ⟨FR.tr (FR.rf) (FR.sub fa3.1 (by first | exact (fun _ h9 => h9) | decide | (intro c9 h9; simp only [List.mem_cons, List.not_mem_nil, or_false] at h9 ⊢; omega) | (intro c9 h9; simp only [List.mem_cons, List.not_mem_nil, or_false] at h9; exact cA_mem (by omega)) | (intro c9 h9; simp only [List.mem_cons, List.not_mem_nil, or_false] at h9; exact cB_mem (by omega)) | exact cA_sub)), ⟨fun i9 h9 => (fa3.2.1.1 i9 (fun z9 => h9 (by first | exact z9 | (revert z9; simp; done) | (revert z9; simp; omega)))).trans ((show ∀ i9, i9 ∉ [2] → v i9 = v i9 from (fun _ _ => rfl)) i9 h9), wp1⟩, ⟨⟨fun j h8 h9 => by rw [fa3.2.2.1 j h8 h9], kp1.2⟩, fun j h4 h5 h6 => by rw [fa3.1 q (by simp only [List.mem_cons, List.not_mem_nil, or_false, not_or]; omega)]⟩⟩, ⟨_, rfl, ⟨PSt.fl rfl Z8 rfl, fun h => absurd h Z8.1⟩⟩⟩
  · skip
    have T1 := p1.1.yes c7
    have N1 := (tkN_v (eE_z T1.1).2).2
    refine qw_aload rfl rfl ?_
    refine qw_aload rfl rfl ?_
    refine qc_getI rfl rfl rfl rfl ?_
    refine qc_putI (z := false) rfl (sh_riv (by omega)) rfl rfl (by first | (intro h9; cases h9; done) | (intro _; first | exact Or.inl rfl | exact Or.inr rfl | assumption | (rcases (by omega : (a3 6 9).toInt = 0 ∨ (a3 6 9).toInt = 1) with h8 | h8; exact Or.inl (ti_eq h8); exact Or.inr (ti_eq h8)))) (fun a8 ea8 => ?_)
    have ua8 : a8 q 4 = (a3 6 9) := by rw [ea8, mU_same]
    have wa8 := congrArg Int32.toInt ua8
    have ra8_31 : (a8 6 9).toInt = (a3 6 9).toInt := by rw [ea8, mU_cell (by omega)]
    have V1x : (a8 q 4).toInt = nvT t z (c + 1) := by rw [ea8, mU_same]; exact p1.2 T1.1
    have C1 := T1.2.fr (a' := a8) (by rw [ea8, mU_cell (by omega)]) (by rw [ea8, mU_cell (by omega)]) (by rw [ea8, mU_cell (by omega)]) (by rw [ea8, mU_cell (by omega)])
    refine qw_aload rfl rfl ?_
    refine qw_const rfl ?_
    refine qw_const rfl ?_
    refine qw_aload rfl rfl ?_
    refine qc_getI rfl (sh_riv (by omega)) rfl rfl ?_
    refine qw_const rfl ?_
    first | refine qw_isub rfl (by omega) (fun x9 tx9 => ?_) | refine qw_iiU rfl (fun x9 tx9 => ?_)
    have u9x : x9.toInt = nvT t z (c + 1) - 1 := by omega
    refine qw_invV (rest := []) rfl rfl rfl rfl rfl (Nat.le_of_ble_eq_true rfl) rfl (y_X6_numberBehind (d := d0) a8 b4 v5 z N (c + 2) t 1002 0 x9 (fa3.2.1.2) (by omega) (C1)) (fun z10 h9 hq11 => ?_)
    obtain ⟨a12, b13, v14, rfl, fa12, x15, rfl, px15⟩ := hq11
    show f_pq _ _ (37, [some (.inr (.inr (some 6))), some (.inr (.inr (some q)))], [.inl x15], cH a12 b13 v14) _
    have p2 : PSt t z N (c + 4) (nb9 t z (c + 2) 2 0 (nvT t z (c + 1) - 1)) x15 a12 b13 v14 ∧ (nb9 t z (c + 2) 2 0 (nvT t z (c + 1) - 1) = 0 → (a12 6 9).toInt = nvT t z (c + 3)) := by have h9 := px15; rw [u9x] at h9; exact h9
    have wp2 := fa12.2.1.2
    have kp2 := fa12.2.2
    refine qw_if_ne rfl (fun c16 => ?_) (fun c16 => ?_)
    · skip
      have Z8 : ¬ rcF t z c = 0 ∧ (a12 6 10).toInt = rcF t z c := by rw [show rcF t z c = nb9 t z (c + 2) 2 0 (nvT t z (c + 1) - 1) from by unfold rcF; rw [eE_0 T1.1, eE_x (p2.1.not c16).1]]; exact p2.1.not c16
      refine qw_const rfl ?_
      exact qwp_iret (z := true) rfl (fun _ => by first | exact Or.inl rfl | exact Or.inr rfl | (rcases (by omega : (0 : Int32).toInt = 0 ∨ (0 : Int32).toInt = 1) with h8 | h8; exact Or.inl (ti_eq h8); exact Or.inr (ti_eq h8))) ⟨a12, b13, v14, rfl, ⟨FR.tr (FR.up (FR.tr (FR.rf) (FR.sub fa3.1 (by first | exact (fun _ h9 => h9) | decide | (intro c9 h9; simp only [List.mem_cons, List.not_mem_nil, or_false] at h9 ⊢; omega) | (intro c9 h9; simp only [List.mem_cons, List.not_mem_nil, or_false] at h9; exact cA_mem (by omega)) | (intro c9 h9; simp only [List.mem_cons, List.not_mem_nil, or_false] at h9; exact cB_mem (by omega)) | exact cA_sub))) (by first | decide | (simp; done) | exact cA_mem (by omega) | exact cB_mem (by omega)) ea8) (FR.sub fa12.1 (by first | exact (fun _ h9 => h9) | decide | (intro c9 h9; simp only [List.mem_cons, List.not_mem_nil, or_false] at h9 ⊢; omega) | (intro c9 h9; simp only [List.mem_cons, List.not_mem_nil, or_false] at h9; exact cA_mem (by omega)) | (intro c9 h9; simp only [List.mem_cons, List.not_mem_nil, or_false] at h9; exact cB_mem (by omega)) | exact cA_sub)), ⟨fun i9 h9 => (fa12.2.1.1 i9 (fun z9 => h9 (by first | exact z9 | (revert z9; simp; done) | (revert z9; simp; omega)))).trans ((show ∀ i9, i9 ∉ [2] → v5 i9 = v i9 from fun i9 h9 => (fa3.2.1.1 i9 (fun z9 => h9 (by first | exact z9 | (revert z9; simp; done) | (revert z9; simp; omega)))).trans ((show ∀ i9, i9 ∉ [2] → v i9 = v i9 from (fun _ _ => rfl)) i9 h9)) i9 h9), wp2⟩, ⟨⟨fun j h8 h9 => by rw [fa12.2.2.1 j h8 h9, ea8, mU_cell (by omega), fa3.2.2.1 j h8 h9], kp1.2.tr kp2.2⟩, fun j h4 h5 h6 => by rw [fa12.1 q (by simp only [List.mem_cons, List.not_mem_nil, or_false, not_or]; omega), ea8, mU_slot (by assumption), fa3.1 q (by simp only [List.mem_cons, List.not_mem_nil, or_false, not_or]; omega)]⟩⟩, ⟨_, rfl, ⟨PSt.fl rfl Z8 rfl, fun h => absurd h Z8.1⟩⟩⟩
    · skip
      have T2 := p2.1.yes c16
      refine qw_aload rfl rfl ?_
      refine qw_aload rfl rfl ?_
      refine qc_getI rfl rfl rfl rfl ?_
      refine qc_putI (z := false) rfl (sh_riv (by omega)) rfl rfl (by first | (intro h9; cases h9; done) | (intro _; first | exact Or.inl rfl | exact Or.inr rfl | assumption | (rcases (by omega : (a12 6 9).toInt = 0 ∨ (a12 6 9).toInt = 1) with h8 | h8; exact Or.inl (ti_eq h8); exact Or.inr (ti_eq h8)))) (fun a17 ea17 => ?_)
      have ua17 : a17 q 5 = (a12 6 9) := by rw [ea17, mU_same]
      have wa17 := congrArg Int32.toInt ua17
      have ra17_61 : (a17 6 9).toInt = (a12 6 9).toInt := by rw [ea17, mU_cell (by omega)]
      have V2x : (a17 q 5).toInt = nvT t z (c + 3) := by rw [ea17, mU_same]; exact p2.2 T2.1
      have C2 := T2.2.fr (a' := a17) (by rw [ea17, mU_cell (by omega)]) (by rw [ea17, mU_cell (by omega)]) (by rw [ea17, mU_cell (by omega)]) (by rw [ea17, mU_cell (by omega)])
      refine qw_aload rfl rfl ?_
      refine qw_const rfl ?_
      refine qw_const rfl ?_
      refine qw_const rfl ?_
      refine qw_invV (rest := []) rfl rfl rfl rfl rfl (Nat.le_of_ble_eq_true rfl) rfl (y_X6_numberBehind (d := d0) a17 b13 v14 z N (c + 4) t 1003 0 99 (fa12.2.1.2) (by omega) (C2)) (fun z18 h9 hq19 => ?_)
      obtain ⟨a20, b21, v22, rfl, fa20, x23, rfl, px23⟩ := hq19
      show f_pq _ _ (60, [some (.inr (.inr (some 6))), some (.inr (.inr (some q)))], [.inl x23], cH a20 b21 v22) _
      have p3 : PSt t z N (c + 6) (nb9 t z (c + 4) 3 0 99) x23 a20 b21 v22 ∧ (nb9 t z (c + 4) 3 0 99 = 0 → (a20 6 9).toInt = nvT t z (c + 5)) := px23
      have wp3 := fa20.2.1.2
      have kp3 := fa20.2.2
      refine qw_if_ne rfl (fun c24 => ?_) (fun c24 => ?_)
      · skip
        have Z8 : ¬ rcF t z c = 0 ∧ (a20 6 10).toInt = rcF t z c := by rw [show rcF t z c = nb9 t z (c + 4) 3 0 99 from by unfold rcF; rw [eE_0 T1.1, eE_0 T2.1]]; exact p3.1.not c24
        refine qw_const rfl ?_
        exact qwp_iret (z := true) rfl (fun _ => by first | exact Or.inl rfl | exact Or.inr rfl | (rcases (by omega : (0 : Int32).toInt = 0 ∨ (0 : Int32).toInt = 1) with h8 | h8; exact Or.inl (ti_eq h8); exact Or.inr (ti_eq h8))) ⟨a20, b21, v22, rfl, ⟨FR.tr (FR.up (FR.tr (FR.up (FR.tr (FR.rf) (FR.sub fa3.1 (by first | exact (fun _ h9 => h9) | decide | (intro c9 h9; simp only [List.mem_cons, List.not_mem_nil, or_false] at h9 ⊢; omega) | (intro c9 h9; simp only [List.mem_cons, List.not_mem_nil, or_false] at h9; exact cA_mem (by omega)) | (intro c9 h9; simp only [List.mem_cons, List.not_mem_nil, or_false] at h9; exact cB_mem (by omega)) | exact cA_sub))) (by first | decide | (simp; done) | exact cA_mem (by omega) | exact cB_mem (by omega)) ea8) (FR.sub fa12.1 (by first | exact (fun _ h9 => h9) | decide | (intro c9 h9; simp only [List.mem_cons, List.not_mem_nil, or_false] at h9 ⊢; omega) | (intro c9 h9; simp only [List.mem_cons, List.not_mem_nil, or_false] at h9; exact cA_mem (by omega)) | (intro c9 h9; simp only [List.mem_cons, List.not_mem_nil, or_false] at h9; exact cB_mem (by omega)) | exact cA_sub))) (by first | decide | (simp; done) | exact cA_mem (by omega) | exact cB_mem (by omega)) ea17) (FR.sub fa20.1 (by first | exact (fun _ h9 => h9) | decide | (intro c9 h9; simp only [List.mem_cons, List.not_mem_nil, or_false] at h9 ⊢; omega) | (intro c9 h9; simp only [List.mem_cons, List.not_mem_nil, or_false] at h9; exact cA_mem (by omega)) | (intro c9 h9; simp only [List.mem_cons, List.not_mem_nil, or_false] at h9; exact cB_mem (by omega)) | exact cA_sub)), ⟨fun i9 h9 => (fa20.2.1.1 i9 (fun z9 => h9 (by first | exact z9 | (revert z9; simp; done) | (revert z9; simp; omega)))).trans ((show ∀ i9, i9 ∉ [2] → v14 i9 = v i9 from fun i9 h9 => (fa12.2.1.1 i9 (fun z9 => h9 (by first | exact z9 | (revert z9; simp; done) | (revert z9; simp; omega)))).trans ((show ∀ i9, i9 ∉ [2] → v5 i9 = v i9 from fun i9 h9 => (fa3.2.1.1 i9 (fun z9 => h9 (by first | exact z9 | (revert z9; simp; done) | (revert z9; simp; omega)))).trans ((show ∀ i9, i9 ∉ [2] → v i9 = v i9 from (fun _ _ => rfl)) i9 h9)) i9 h9)) i9 h9), wp3⟩, ⟨⟨fun j h8 h9 => by rw [fa20.2.2.1 j h8 h9, ea17, mU_cell (by omega), fa12.2.2.1 j h8 h9, ea8, mU_cell (by omega), fa3.2.2.1 j h8 h9], (kp1.2.tr kp2.2).tr kp3.2⟩, fun j h4 h5 h6 => by rw [fa20.1 q (by simp only [List.mem_cons, List.not_mem_nil, or_false, not_or]; omega), ea17, mU_slot (by assumption), fa12.1 q (by simp only [List.mem_cons, List.not_mem_nil, or_false, not_or]; omega), ea8, mU_slot (by assumption), fa3.1 q (by simp only [List.mem_cons, List.not_mem_nil, or_false, not_or]; omega)]⟩⟩, ⟨_, rfl, ⟨PSt.fl rfl Z8 rfl, fun h => absurd h Z8.1⟩⟩⟩
      · skip
        have T3 := p3.1.yes c24
        refine qw_aload rfl rfl ?_
        refine qw_aload rfl rfl ?_
        refine qc_getI rfl rfl rfl rfl ?_
        refine qc_putI (z := false) rfl (sh_riv (by omega)) rfl rfl (by first | (intro h9; cases h9; done) | (intro _; first | exact Or.inl rfl | exact Or.inr rfl | assumption | (rcases (by omega : (a20 6 9).toInt = 0 ∨ (a20 6 9).toInt = 1) with h8 | h8; exact Or.inl (ti_eq h8); exact Or.inr (ti_eq h8)))) (fun a25 ea25 => ?_)
        have ua25 : a25 q 6 = (a20 6 9) := by rw [ea25, mU_same]
        have wa25 := congrArg Int32.toInt ua25
        have ra25_87 : (a25 6 9).toInt = (a20 6 9).toInt := by rw [ea25, mU_cell (by omega)]
        have V3x : (a25 q 6).toInt = nvT t z (c + 5) := by rw [ea25, mU_same]; exact p3.2 T3.1
        have C3 := T3.2.fr (a' := a25) (by rw [ea25, mU_cell (by omega)]) (by rw [ea25, mU_cell (by omega)]) (by rw [ea25, mU_cell (by omega)]) (by rw [ea25, mU_cell (by omega)])
        refine qw_const rfl ?_
        exact qwp_iret (z := true) rfl (fun _ => by first | exact Or.inl rfl | exact Or.inr rfl | (rcases (by omega : (1 : Int32).toInt = 0 ∨ (1 : Int32).toInt = 1) with h8 | h8; exact Or.inl (ti_eq h8); exact Or.inr (ti_eq h8))) ⟨a25, b21, v22, rfl, ⟨FR.up (FR.tr (FR.up (FR.tr (FR.up (FR.tr (FR.rf) (FR.sub fa3.1 (by first | exact (fun _ h9 => h9) | decide | (intro c9 h9; simp only [List.mem_cons, List.not_mem_nil, or_false] at h9 ⊢; omega) | (intro c9 h9; simp only [List.mem_cons, List.not_mem_nil, or_false] at h9; exact cA_mem (by omega)) | (intro c9 h9; simp only [List.mem_cons, List.not_mem_nil, or_false] at h9; exact cB_mem (by omega)) | exact cA_sub))) (by first | decide | (simp; done) | exact cA_mem (by omega) | exact cB_mem (by omega)) ea8) (FR.sub fa12.1 (by first | exact (fun _ h9 => h9) | decide | (intro c9 h9; simp only [List.mem_cons, List.not_mem_nil, or_false] at h9 ⊢; omega) | (intro c9 h9; simp only [List.mem_cons, List.not_mem_nil, or_false] at h9; exact cA_mem (by omega)) | (intro c9 h9; simp only [List.mem_cons, List.not_mem_nil, or_false] at h9; exact cB_mem (by omega)) | exact cA_sub))) (by first | decide | (simp; done) | exact cA_mem (by omega) | exact cB_mem (by omega)) ea17) (FR.sub fa20.1 (by first | exact (fun _ h9 => h9) | decide | (intro c9 h9; simp only [List.mem_cons, List.not_mem_nil, or_false] at h9 ⊢; omega) | (intro c9 h9; simp only [List.mem_cons, List.not_mem_nil, or_false] at h9; exact cA_mem (by omega)) | (intro c9 h9; simp only [List.mem_cons, List.not_mem_nil, or_false] at h9; exact cB_mem (by omega)) | exact cA_sub))) (by first | decide | (simp; done) | exact cA_mem (by omega) | exact cB_mem (by omega)) ea25, ⟨fun i9 h9 => (fa20.2.1.1 i9 (fun z9 => h9 (by first | exact z9 | (revert z9; simp; done) | (revert z9; simp; omega)))).trans ((show ∀ i9, i9 ∉ [2] → v14 i9 = v i9 from fun i9 h9 => (fa12.2.1.1 i9 (fun z9 => h9 (by first | exact z9 | (revert z9; simp; done) | (revert z9; simp; omega)))).trans ((show ∀ i9, i9 ∉ [2] → v5 i9 = v i9 from fun i9 h9 => (fa3.2.1.1 i9 (fun z9 => h9 (by first | exact z9 | (revert z9; simp; done) | (revert z9; simp; omega)))).trans ((show ∀ i9, i9 ∉ [2] → v i9 = v i9 from (fun _ _ => rfl)) i9 h9)) i9 h9)) i9 h9), wp3⟩, ⟨⟨fun j h8 h9 => by rw [ea25, mU_cell (by omega), fa20.2.2.1 j h8 h9, ea17, mU_cell (by omega), fa12.2.2.1 j h8 h9, ea8, mU_cell (by omega), fa3.2.2.1 j h8 h9], (kp1.2.tr kp2.2).tr kp3.2⟩, fun j h4 h5 h6 => by rw [ea25, mU_slot (by assumption), fa20.1 q (by simp only [List.mem_cons, List.not_mem_nil, or_false, not_or]; omega), ea17, mU_slot (by assumption), fa12.1 q (by simp only [List.mem_cons, List.not_mem_nil, or_false, not_or]; omega), ea8, mU_slot (by assumption), fa3.1 q (by simp only [List.mem_cons, List.not_mem_nil, or_false, not_or]; omega)]⟩⟩, ⟨_, rfl, ⟨PSt.ok rfl (by unfold rcF; rw [eE_0 T1.1, eE_0 T2.1]; exact T3.1) C3, fun _ => ⟨by rw [ea25, mU_slot (by decide), fa20.1 q (by simp only [List.mem_cons, List.not_mem_nil, or_false, not_or]; omega), ea17, mU_slot (by decide), fa12.1 q (by simp only [List.mem_cons, List.not_mem_nil, or_false, not_or]; omega)]; exact V1x, by rw [ea25, mU_slot (by decide), fa20.1 q (by simp only [List.mem_cons, List.not_mem_nil, or_false, not_or]; omega)]; exact V2x, V3x⟩⟩⟩⟩
set_option maxRecDepth 4000 in
theorem y_X6_riverMill {d : Nat} (a : Nat → Nat → Int32) (b : Nat → Nat → Int64) (v : Nat → Option Nat) (z : Nat) (N : Nat) (c : Nat) (t : Nat → Int32) (q : Nat) (hq : (34 ≤ q ∧ q < 46 ∨ 58 ≤ q ∧ q < 70) ∧ q % 2 = 0) (hw : f_wdb (v 2) = true) (hS : CSt t z N c a b v) : f_pc mtC d 62 [.inr (.inr (some 6)), .inr (.inr (some q))] (cH a b v) (fun v9 h' => ∃ (a' : Nat → Nat → Int32) (b' : Nat → Nat → Int64) (v' : Nat → Option Nat), h' = cH a' b' v' ∧ (FR [1, 6, q] a a' ∧ ((∀ i, i ∉ [2] → v' i = v i) ∧ f_wdb (v' 2) = true) ∧ (((∀ j, j ≠ 9 → j ≠ 10 → a' 6 j = a 6 j) ∧ BF b b') ∧ (∀ j, j ≠ 7 → j ≠ 8 → a' q j = a q j))) ∧ ∃ x : Int32, v9 = some (.inl x) ∧ (PSt t z N (opC t z 5 c) (fz (opE t z 5 1 (a q 5).toInt (a q 4).toInt c)) x a' b' v' ∧ (fz (opE t z 5 1 (a q 5).toInt (a q 4).toInt c) = 0 → (tkW t z c 5 → (a' q 7).toInt = nvT t z (c + 1) ∧ (a' q 8).toInt = nvT t z (c + 3)) ∧ (¬ tkW t z c 5 → a' q 7 = a q 7 ∧ a' q 8 = a q 8)))) := by
  refine f_pc_of rfl (fun d0 fu hd => ?_)
  show f_pq _ _ (0, [some (.inr (.inr (some 6))), some (.inr (.inr (some q)))], [], cH a b v) _
  have l0 : (0 : Int32).toInt = 0 := rfl
  have l1 : (1 : Int32).toInt = 1 := rfl
  have l999 : (999 : Int32).toInt = 999 := rfl
  refine qw_aload rfl rfl ?_
  refine qc_getR (t := some 1) rfl rfl rfl rfl rfl ?_
  refine qc_getR (t := v 2) rfl rfl rfl rfl rfl ?_
  refine qw_const rfl ?_
  refine qc_aw_eq rfl ⟨hw, rfl⟩ (fun c1 => ?_) (fun c1 => ?_)
  · skip
    have T0 : tkW t z c 5 := (hS.1.wrd (by decide)).mpr c1
    refine qw_aload rfl rfl ?_
    refine qw_const rfl ?_
    refine qw_const rfl ?_
    refine qw_const rfl ?_
    refine qw_invV (rest := []) rfl rfl rfl rfl rfl (Nat.le_of_ble_eq_true rfl) rfl (y_X6_numberBehind (d := d0) a b v z N c t 1005 1 999 (hw) (by omega) (by omega)) (fun z2 h9 hq3 => ?_)
    obtain ⟨a4, b5, v6, rfl, fa4, x7, rfl, px7⟩ := hq3
    show f_pq _ _ (26, [some (.inr (.inr (some 6))), some (.inr (.inr (some q)))], [.inl x7], cH a4 b5 v6) _
    have p1 : PSt t z N (c + 2) (nb9 t z c 5 1 999) x7 a4 b5 v6 ∧ (nb9 t z c 5 1 999 = 0 → (a4 6 9).toInt = nvT t z (c + 1)) := px7
    have wp1 := fa4.2.1.2
    have kp1 := fa4.2.2
    refine qw_if_ne rfl (fun c8 => ?_) (fun c8 => ?_)
    · skip
      have Z8 : ¬ fz (opE t z 5 1 (a q 5).toInt (a q 4).toInt c) = 0 ∧ (a4 6 10).toInt = fz (opE t z 5 1 (a q 5).toInt (a q 4).toInt c) := by rw [(show fz (opE t z 5 1 (a q 5).toInt (a q 4).toInt c) = eE (nb9 t z c 5 1 999) (nb9 t z (c + 2) 7 (a q 5).toInt (a q 4).toInt) from by unfold opE; rw [if_pos T0, fz_c, fz_c, fz_c, fz_n, eE_r, show nb9 t z c 5 1 999 = tkN t z (c + 1) 1 999 from eE_0 (if_pos T0)]), eE_x (p1.1.not c8).1]; exact p1.1.not c8
      refine qw_const rfl ?_
      exact qwp_iret (z := true) rfl (fun _ => by first | exact Or.inl rfl | exact Or.inr rfl | (rcases (by omega : (0 : Int32).toInt = 0 ∨ (0 : Int32).toInt = 1) with h8 | h8; exact Or.inl (ti_eq h8); exact Or.inr (ti_eq h8))) ⟨a4, b5, v6, rfl, ⟨FR.tr (FR.rf) (FR.sub fa4.1 (by first | exact (fun _ h9 => h9) | decide | (intro c9 h9; simp only [List.mem_cons, List.not_mem_nil, or_false] at h9 ⊢; omega) | (intro c9 h9; simp only [List.mem_cons, List.not_mem_nil, or_false] at h9; exact cA_mem (by omega)) | (intro c9 h9; simp only [List.mem_cons, List.not_mem_nil, or_false] at h9; exact cB_mem (by omega)) | exact cA_sub)), ⟨fun i9 h9 => (fa4.2.1.1 i9 (fun z9 => h9 (by first | exact z9 | (revert z9; simp; done) | (revert z9; simp; omega)))).trans ((show ∀ i9, i9 ∉ [2] → v i9 = v i9 from (fun _ _ => rfl)) i9 h9), wp1⟩, ⟨⟨fun j h8 h9 => by rw [fa4.2.2.1 j h8 h9], kp1.2⟩, fun j h4 h5 => by rw [fa4.1 q (by simp only [List.mem_cons, List.not_mem_nil, or_false, not_or]; omega)]⟩⟩, ⟨_, rfl, ⟨PSt.fl rfl Z8 rfl, fun h => absurd h Z8.1⟩⟩⟩
    · skip
      have T1 := p1.1.yes c8
      refine qw_aload rfl rfl ?_
      refine qw_aload rfl rfl ?_
      refine qc_getI rfl rfl rfl rfl ?_
      refine qc_putI (z := false) rfl (sh_riv (by omega)) rfl rfl (by first | (intro h9; cases h9; done) | (intro _; first | exact Or.inl rfl | exact Or.inr rfl | assumption | (rcases (by omega : (a4 6 9).toInt = 0 ∨ (a4 6 9).toInt = 1) with h8 | h8; exact Or.inl (ti_eq h8); exact Or.inr (ti_eq h8)))) (fun a9 ea9 => ?_)
      have ua9 : a9 q 7 = (a4 6 9) := by rw [ea9, mU_same]
      have wa9 := congrArg Int32.toInt ua9
      have ra9_37 : (a9 6 9).toInt = (a4 6 9).toInt := by rw [ea9, mU_cell (by omega)]
      have V1x : (a9 q 7).toInt = nvT t z (c + 1) := by rw [ea9, mU_same]; exact p1.2 T1.1
      have C1 := T1.2.fr (a' := a9) (by rw [ea9, mU_cell (by omega)]) (by rw [ea9, mU_cell (by omega)]) (by rw [ea9, mU_cell (by omega)]) (by rw [ea9, mU_cell (by omega)])
      refine qw_aload rfl rfl ?_
      refine qw_const rfl ?_
      refine qw_aload rfl rfl ?_
      refine qc_getI rfl (sh_riv (by omega)) rfl rfl ?_
      have e5x : a9 q 5 = a q 5 := by rw [ea9, mU_slot (by decide), fa4.1 q (by simp only [List.mem_cons, List.not_mem_nil, or_false, not_or]; omega)]
      have e4x : a9 q 4 = a q 4 := by rw [ea9, mU_slot (by decide), fa4.1 q (by simp only [List.mem_cons, List.not_mem_nil, or_false, not_or]; omega)]
      refine qw_aload rfl rfl ?_
      refine qc_getI rfl (sh_riv (by omega)) rfl rfl ?_
      refine qw_invV (rest := []) rfl rfl rfl rfl rfl (Nat.le_of_ble_eq_true rfl) rfl (y_X6_numberBehind (d := d0) a9 b5 v6 z N (c + 2) t 1007 (a9 q 5) (a9 q 4) (fa4.2.1.2) (by omega) (C1)) (fun z10 h9 hq11 => ?_)
      obtain ⟨a12, b13, v14, rfl, fa12, x15, rfl, px15⟩ := hq11
      show f_pq _ _ (54, [some (.inr (.inr (some 6))), some (.inr (.inr (some q)))], [.inl x15], cH a12 b13 v14) _
      have p2 : PSt t z N (c + 4) (nb9 t z (c + 2) 7 (a q 5).toInt (a q 4).toInt) x15 a12 b13 v14 ∧ (nb9 t z (c + 2) 7 (a q 5).toInt (a q 4).toInt = 0 → (a12 6 9).toInt = nvT t z (c + 3)) := by have h9 := px15; rw [e5x, e4x] at h9; exact h9
      have wp2 := fa12.2.1.2
      have kp2 := fa12.2.2
      refine qw_if_ne rfl (fun c16 => ?_) (fun c16 => ?_)
      · skip
        have Z8 : ¬ fz (opE t z 5 1 (a q 5).toInt (a q 4).toInt c) = 0 ∧ (a12 6 10).toInt = fz (opE t z 5 1 (a q 5).toInt (a q 4).toInt c) := by rw [(show fz (opE t z 5 1 (a q 5).toInt (a q 4).toInt c) = eE (nb9 t z c 5 1 999) (nb9 t z (c + 2) 7 (a q 5).toInt (a q 4).toInt) from by unfold opE; rw [if_pos T0, fz_c, fz_c, fz_c, fz_n, eE_r, show nb9 t z c 5 1 999 = tkN t z (c + 1) 1 999 from eE_0 (if_pos T0)]), eE_0 T1.1]; exact p2.1.not c16
        refine qw_const rfl ?_
        exact qwp_iret (z := true) rfl (fun _ => by first | exact Or.inl rfl | exact Or.inr rfl | (rcases (by omega : (0 : Int32).toInt = 0 ∨ (0 : Int32).toInt = 1) with h8 | h8; exact Or.inl (ti_eq h8); exact Or.inr (ti_eq h8))) ⟨a12, b13, v14, rfl, ⟨FR.tr (FR.up (FR.tr (FR.rf) (FR.sub fa4.1 (by first | exact (fun _ h9 => h9) | decide | (intro c9 h9; simp only [List.mem_cons, List.not_mem_nil, or_false] at h9 ⊢; omega) | (intro c9 h9; simp only [List.mem_cons, List.not_mem_nil, or_false] at h9; exact cA_mem (by omega)) | (intro c9 h9; simp only [List.mem_cons, List.not_mem_nil, or_false] at h9; exact cB_mem (by omega)) | exact cA_sub))) (by first | decide | (simp; done) | exact cA_mem (by omega) | exact cB_mem (by omega)) ea9) (FR.sub fa12.1 (by first | exact (fun _ h9 => h9) | decide | (intro c9 h9; simp only [List.mem_cons, List.not_mem_nil, or_false] at h9 ⊢; omega) | (intro c9 h9; simp only [List.mem_cons, List.not_mem_nil, or_false] at h9; exact cA_mem (by omega)) | (intro c9 h9; simp only [List.mem_cons, List.not_mem_nil, or_false] at h9; exact cB_mem (by omega)) | exact cA_sub)), ⟨fun i9 h9 => (fa12.2.1.1 i9 (fun z9 => h9 (by first | exact z9 | (revert z9; simp; done) | (revert z9; simp; omega)))).trans ((show ∀ i9, i9 ∉ [2] → v6 i9 = v i9 from fun i9 h9 => (fa4.2.1.1 i9 (fun z9 => h9 (by first | exact z9 | (revert z9; simp; done) | (revert z9; simp; omega)))).trans ((show ∀ i9, i9 ∉ [2] → v i9 = v i9 from (fun _ _ => rfl)) i9 h9)) i9 h9), wp2⟩, ⟨⟨fun j h8 h9 => by rw [fa12.2.2.1 j h8 h9, ea9, mU_cell (by omega), fa4.2.2.1 j h8 h9], kp1.2.tr kp2.2⟩, fun j h4 h5 => by rw [fa12.1 q (by simp only [List.mem_cons, List.not_mem_nil, or_false, not_or]; omega), ea9, mU_slot (by assumption), fa4.1 q (by simp only [List.mem_cons, List.not_mem_nil, or_false, not_or]; omega)]⟩⟩, ⟨_, rfl, ⟨PSt.fl rfl Z8 rfl, fun h => absurd h Z8.1⟩⟩⟩
      · skip
        have T2 := p2.1.yes c16
        refine qw_aload rfl rfl ?_
        refine qw_aload rfl rfl ?_
        refine qc_getI rfl rfl rfl rfl ?_
        refine qc_putI (z := false) rfl (sh_riv (by omega)) rfl rfl (by first | (intro h9; cases h9; done) | (intro _; first | exact Or.inl rfl | exact Or.inr rfl | assumption | (rcases (by omega : (a12 6 9).toInt = 0 ∨ (a12 6 9).toInt = 1) with h8 | h8; exact Or.inl (ti_eq h8); exact Or.inr (ti_eq h8)))) (fun a17 ea17 => ?_)
        have ua17 : a17 q 8 = (a12 6 9) := by rw [ea17, mU_same]
        have wa17 := congrArg Int32.toInt ua17
        have ra17_67 : (a17 6 9).toInt = (a12 6 9).toInt := by rw [ea17, mU_cell (by omega)]
        have V2x : (a17 q 8).toInt = nvT t z (c + 3) := by rw [ea17, mU_same]; exact p2.2 T2.1
        have C2 := T2.2.fr (a' := a17) (by rw [ea17, mU_cell (by omega)]) (by rw [ea17, mU_cell (by omega)]) (by rw [ea17, mU_cell (by omega)]) (by rw [ea17, mU_cell (by omega)])
        refine qw_const rfl ?_
        exact qwp_iret (z := true) rfl (fun _ => by first | exact Or.inl rfl | exact Or.inr rfl | (rcases (by omega : (1 : Int32).toInt = 0 ∨ (1 : Int32).toInt = 1) with h8 | h8; exact Or.inl (ti_eq h8); exact Or.inr (ti_eq h8))) ⟨a17, b13, v14, rfl, ⟨FR.up (FR.tr (FR.up (FR.tr (FR.rf) (FR.sub fa4.1 (by first | exact (fun _ h9 => h9) | decide | (intro c9 h9; simp only [List.mem_cons, List.not_mem_nil, or_false] at h9 ⊢; omega) | (intro c9 h9; simp only [List.mem_cons, List.not_mem_nil, or_false] at h9; exact cA_mem (by omega)) | (intro c9 h9; simp only [List.mem_cons, List.not_mem_nil, or_false] at h9; exact cB_mem (by omega)) | exact cA_sub))) (by first | decide | (simp; done) | exact cA_mem (by omega) | exact cB_mem (by omega)) ea9) (FR.sub fa12.1 (by first | exact (fun _ h9 => h9) | decide | (intro c9 h9; simp only [List.mem_cons, List.not_mem_nil, or_false] at h9 ⊢; omega) | (intro c9 h9; simp only [List.mem_cons, List.not_mem_nil, or_false] at h9; exact cA_mem (by omega)) | (intro c9 h9; simp only [List.mem_cons, List.not_mem_nil, or_false] at h9; exact cB_mem (by omega)) | exact cA_sub))) (by first | decide | (simp; done) | exact cA_mem (by omega) | exact cB_mem (by omega)) ea17, ⟨fun i9 h9 => (fa12.2.1.1 i9 (fun z9 => h9 (by first | exact z9 | (revert z9; simp; done) | (revert z9; simp; omega)))).trans ((show ∀ i9, i9 ∉ [2] → v6 i9 = v i9 from fun i9 h9 => (fa4.2.1.1 i9 (fun z9 => h9 (by first | exact z9 | (revert z9; simp; done) | (revert z9; simp; omega)))).trans ((show ∀ i9, i9 ∉ [2] → v i9 = v i9 from (fun _ _ => rfl)) i9 h9)) i9 h9), wp2⟩, ⟨⟨fun j h8 h9 => by rw [ea17, mU_cell (by omega), fa12.2.2.1 j h8 h9, ea9, mU_cell (by omega), fa4.2.2.1 j h8 h9], kp1.2.tr kp2.2⟩, fun j h4 h5 => by rw [ea17, mU_slot (by assumption), fa12.1 q (by simp only [List.mem_cons, List.not_mem_nil, or_false, not_or]; omega), ea9, mU_slot (by assumption), fa4.1 q (by simp only [List.mem_cons, List.not_mem_nil, or_false, not_or]; omega)]⟩⟩, ⟨_, rfl, ⟨PSt.ok rfl (by rw [(show fz (opE t z 5 1 (a q 5).toInt (a q 4).toInt c) = eE (nb9 t z c 5 1 999) (nb9 t z (c + 2) 7 (a q 5).toInt (a q 4).toInt) from by unfold opE; rw [if_pos T0, fz_c, fz_c, fz_c, fz_n, eE_r, show nb9 t z c 5 1 999 = tkN t z (c + 1) 1 999 from eE_0 (if_pos T0)]), eE_0 T1.1]; exact T2.1) (by unfold opC; rw [if_pos T0]; exact C2), fun _ => ⟨fun _ => ⟨by rw [ea17, mU_slot (by decide), fa12.1 q (by simp only [List.mem_cons, List.not_mem_nil, or_false, not_or]; omega)]; exact V1x, V2x⟩, fun h => absurd T0 h⟩⟩⟩⟩
  · skip
    have T0 : ¬ tkW t z c 5 := fun h => c1 ((hS.1.wrd (by decide)).mp h)
    refine qw_const rfl ?_
    exact qwp_iret (z := true) rfl (fun _ => by first | exact Or.inl rfl | exact Or.inr rfl | (rcases (by omega : (1 : Int32).toInt = 0 ∨ (1 : Int32).toInt = 1) with h8 | h8; exact Or.inl (ti_eq h8); exact Or.inr (ti_eq h8))) ⟨a, b, v, rfl, ⟨FR.rf, ⟨(fun _ _ => rfl), hw⟩, ⟨⟨fun _ _ _ => rfl, BF.rf⟩, fun _ _ _ => rfl⟩⟩, ⟨_, rfl, ⟨PSt.ok rfl (by unfold opE; rw [if_neg T0]; rfl) (by unfold opC; rw [if_neg T0]; exact hS), fun _ => ⟨fun h => absurd h T0, fun _ => ⟨rfl, rfl⟩⟩⟩⟩⟩
set_option maxRecDepth 4000 in
theorem y_X6_riverTown {d : Nat} (a : Nat → Nat → Int32) (b : Nat → Nat → Int64) (v : Nat → Option Nat) (z : Nat) (N : Nat) (c : Nat) (t : Nat → Int32) (q : Nat) (hq : (34 ≤ q ∧ q < 46 ∨ 58 ≤ q ∧ q < 70) ∧ q % 2 = 0) (hw : f_wdb (v 2) = true) (hS : CSt t z N c a b v) : f_pc mtC d 63 [.inr (.inr (some 6)), .inr (.inr (some q))] (cH a b v) (fun v9 h' => ∃ (a' : Nat → Nat → Int32) (b' : Nat → Nat → Int64) (v' : Nat → Option Nat), h' = cH a' b' v' ∧ (FR [1, 6, q] a a' ∧ ((∀ i, i ∉ [2] → v' i = v i) ∧ f_wdb (v' 2) = true) ∧ (((∀ j, j ≠ 9 → j ≠ 10 → a' 6 j = a 6 j) ∧ BF b b') ∧ (∀ j, j ≠ 9 → j ≠ 10 → a' q j = a q j))) ∧ ∃ x : Int32, v9 = some (.inl x) ∧ (PSt t z N (opC t z 6 c) (fz (opE t z 6 0 (a q 5).toInt (a q 4).toInt c)) x a' b' v' ∧ (fz (opE t z 6 0 (a q 5).toInt (a q 4).toInt c) = 0 → (tkW t z c 6 → (a' q 9).toInt = nvT t z (c + 1) ∧ (a' q 10).toInt = nvT t z (c + 3)) ∧ (¬ tkW t z c 6 → a' q 9 = a q 9 ∧ a' q 10 = a q 10)))) := by
  refine f_pc_of rfl (fun d0 fu hd => ?_)
  show f_pq _ _ (0, [some (.inr (.inr (some 6))), some (.inr (.inr (some q)))], [], cH a b v) _
  have l0 : (0 : Int32).toInt = 0 := rfl
  have l1 : (1 : Int32).toInt = 1 := rfl
  have l999 : (999 : Int32).toInt = 999 := rfl
  refine qw_aload rfl rfl ?_
  refine qc_getR (t := some 1) rfl rfl rfl rfl rfl ?_
  refine qc_getR (t := v 2) rfl rfl rfl rfl rfl ?_
  refine qw_const rfl ?_
  refine qc_aw_eq rfl ⟨hw, rfl⟩ (fun c1 => ?_) (fun c1 => ?_)
  · skip
    have T0 : tkW t z c 6 := (hS.1.wrd (by decide)).mpr c1
    refine qw_aload rfl rfl ?_
    refine qw_const rfl ?_
    refine qw_const rfl ?_
    refine qw_const rfl ?_
    refine qw_invV (rest := []) rfl rfl rfl rfl rfl (Nat.le_of_ble_eq_true rfl) rfl (y_X6_numberBehind (d := d0) a b v z N c t 1006 0 999 (hw) (by omega) (by omega)) (fun z2 h9 hq3 => ?_)
    obtain ⟨a4, b5, v6, rfl, fa4, x7, rfl, px7⟩ := hq3
    show f_pq _ _ (26, [some (.inr (.inr (some 6))), some (.inr (.inr (some q)))], [.inl x7], cH a4 b5 v6) _
    have p1 : PSt t z N (c + 2) (nb9 t z c 6 0 999) x7 a4 b5 v6 ∧ (nb9 t z c 6 0 999 = 0 → (a4 6 9).toInt = nvT t z (c + 1)) := px7
    have wp1 := fa4.2.1.2
    have kp1 := fa4.2.2
    refine qw_if_ne rfl (fun c8 => ?_) (fun c8 => ?_)
    · skip
      have Z8 : ¬ fz (opE t z 6 0 (a q 5).toInt (a q 4).toInt c) = 0 ∧ (a4 6 10).toInt = fz (opE t z 6 0 (a q 5).toInt (a q 4).toInt c) := by rw [(show fz (opE t z 6 0 (a q 5).toInt (a q 4).toInt c) = eE (nb9 t z c 6 0 999) (nb9 t z (c + 2) 7 (a q 5).toInt (a q 4).toInt) from by unfold opE; rw [if_pos T0, fz_c, fz_c, fz_c, fz_n, eE_r, show nb9 t z c 6 0 999 = tkN t z (c + 1) 0 999 from eE_0 (if_pos T0)]), eE_x (p1.1.not c8).1]; exact p1.1.not c8
      refine qw_const rfl ?_
      exact qwp_iret (z := true) rfl (fun _ => by first | exact Or.inl rfl | exact Or.inr rfl | (rcases (by omega : (0 : Int32).toInt = 0 ∨ (0 : Int32).toInt = 1) with h8 | h8; exact Or.inl (ti_eq h8); exact Or.inr (ti_eq h8))) ⟨a4, b5, v6, rfl, ⟨FR.tr (FR.rf) (FR.sub fa4.1 (by first | exact (fun _ h9 => h9) | decide | (intro c9 h9; simp only [List.mem_cons, List.not_mem_nil, or_false] at h9 ⊢; omega) | (intro c9 h9; simp only [List.mem_cons, List.not_mem_nil, or_false] at h9; exact cA_mem (by omega)) | (intro c9 h9; simp only [List.mem_cons, List.not_mem_nil, or_false] at h9; exact cB_mem (by omega)) | exact cA_sub)), ⟨fun i9 h9 => (fa4.2.1.1 i9 (fun z9 => h9 (by first | exact z9 | (revert z9; simp; done) | (revert z9; simp; omega)))).trans ((show ∀ i9, i9 ∉ [2] → v i9 = v i9 from (fun _ _ => rfl)) i9 h9), wp1⟩, ⟨⟨fun j h8 h9 => by rw [fa4.2.2.1 j h8 h9], kp1.2⟩, fun j h4 h5 => by rw [fa4.1 q (by simp only [List.mem_cons, List.not_mem_nil, or_false, not_or]; omega)]⟩⟩, ⟨_, rfl, ⟨PSt.fl rfl Z8 rfl, fun h => absurd h Z8.1⟩⟩⟩
    · skip
      have T1 := p1.1.yes c8
      refine qw_aload rfl rfl ?_
      refine qw_aload rfl rfl ?_
      refine qc_getI rfl rfl rfl rfl ?_
      refine qc_putI (z := false) rfl (sh_riv (by omega)) rfl rfl (by first | (intro h9; cases h9; done) | (intro _; first | exact Or.inl rfl | exact Or.inr rfl | assumption | (rcases (by omega : (a4 6 9).toInt = 0 ∨ (a4 6 9).toInt = 1) with h8 | h8; exact Or.inl (ti_eq h8); exact Or.inr (ti_eq h8)))) (fun a9 ea9 => ?_)
      have ua9 : a9 q 9 = (a4 6 9) := by rw [ea9, mU_same]
      have wa9 := congrArg Int32.toInt ua9
      have ra9_37 : (a9 6 9).toInt = (a4 6 9).toInt := by rw [ea9, mU_cell (by omega)]
      have V1x : (a9 q 9).toInt = nvT t z (c + 1) := by rw [ea9, mU_same]; exact p1.2 T1.1
      have C1 := T1.2.fr (a' := a9) (by rw [ea9, mU_cell (by omega)]) (by rw [ea9, mU_cell (by omega)]) (by rw [ea9, mU_cell (by omega)]) (by rw [ea9, mU_cell (by omega)])
      refine qw_aload rfl rfl ?_
      refine qw_const rfl ?_
      refine qw_aload rfl rfl ?_
      refine qc_getI rfl (sh_riv (by omega)) rfl rfl ?_
      have e5x : a9 q 5 = a q 5 := by rw [ea9, mU_slot (by decide), fa4.1 q (by simp only [List.mem_cons, List.not_mem_nil, or_false, not_or]; omega)]
      have e4x : a9 q 4 = a q 4 := by rw [ea9, mU_slot (by decide), fa4.1 q (by simp only [List.mem_cons, List.not_mem_nil, or_false, not_or]; omega)]
      refine qw_aload rfl rfl ?_
      refine qc_getI rfl (sh_riv (by omega)) rfl rfl ?_
      refine qw_invV (rest := []) rfl rfl rfl rfl rfl (Nat.le_of_ble_eq_true rfl) rfl (y_X6_numberBehind (d := d0) a9 b5 v6 z N (c + 2) t 1007 (a9 q 5) (a9 q 4) (fa4.2.1.2) (by omega) (C1)) (fun z10 h9 hq11 => ?_)
      obtain ⟨a12, b13, v14, rfl, fa12, x15, rfl, px15⟩ := hq11
      show f_pq _ _ (54, [some (.inr (.inr (some 6))), some (.inr (.inr (some q)))], [.inl x15], cH a12 b13 v14) _
      have p2 : PSt t z N (c + 4) (nb9 t z (c + 2) 7 (a q 5).toInt (a q 4).toInt) x15 a12 b13 v14 ∧ (nb9 t z (c + 2) 7 (a q 5).toInt (a q 4).toInt = 0 → (a12 6 9).toInt = nvT t z (c + 3)) := by have h9 := px15; rw [e5x, e4x] at h9; exact h9
      have wp2 := fa12.2.1.2
      have kp2 := fa12.2.2
      refine qw_if_ne rfl (fun c16 => ?_) (fun c16 => ?_)
      · skip
        have Z8 : ¬ fz (opE t z 6 0 (a q 5).toInt (a q 4).toInt c) = 0 ∧ (a12 6 10).toInt = fz (opE t z 6 0 (a q 5).toInt (a q 4).toInt c) := by rw [(show fz (opE t z 6 0 (a q 5).toInt (a q 4).toInt c) = eE (nb9 t z c 6 0 999) (nb9 t z (c + 2) 7 (a q 5).toInt (a q 4).toInt) from by unfold opE; rw [if_pos T0, fz_c, fz_c, fz_c, fz_n, eE_r, show nb9 t z c 6 0 999 = tkN t z (c + 1) 0 999 from eE_0 (if_pos T0)]), eE_0 T1.1]; exact p2.1.not c16
        refine qw_const rfl ?_
        exact qwp_iret (z := true) rfl (fun _ => by first | exact Or.inl rfl | exact Or.inr rfl | (rcases (by omega : (0 : Int32).toInt = 0 ∨ (0 : Int32).toInt = 1) with h8 | h8; exact Or.inl (ti_eq h8); exact Or.inr (ti_eq h8))) ⟨a12, b13, v14, rfl, ⟨FR.tr (FR.up (FR.tr (FR.rf) (FR.sub fa4.1 (by first | exact (fun _ h9 => h9) | decide | (intro c9 h9; simp only [List.mem_cons, List.not_mem_nil, or_false] at h9 ⊢; omega) | (intro c9 h9; simp only [List.mem_cons, List.not_mem_nil, or_false] at h9; exact cA_mem (by omega)) | (intro c9 h9; simp only [List.mem_cons, List.not_mem_nil, or_false] at h9; exact cB_mem (by omega)) | exact cA_sub))) (by first | decide | (simp; done) | exact cA_mem (by omega) | exact cB_mem (by omega)) ea9) (FR.sub fa12.1 (by first | exact (fun _ h9 => h9) | decide | (intro c9 h9; simp only [List.mem_cons, List.not_mem_nil, or_false] at h9 ⊢; omega) | (intro c9 h9; simp only [List.mem_cons, List.not_mem_nil, or_false] at h9; exact cA_mem (by omega)) | (intro c9 h9; simp only [List.mem_cons, List.not_mem_nil, or_false] at h9; exact cB_mem (by omega)) | exact cA_sub)), ⟨fun i9 h9 => (fa12.2.1.1 i9 (fun z9 => h9 (by first | exact z9 | (revert z9; simp; done) | (revert z9; simp; omega)))).trans ((show ∀ i9, i9 ∉ [2] → v6 i9 = v i9 from fun i9 h9 => (fa4.2.1.1 i9 (fun z9 => h9 (by first | exact z9 | (revert z9; simp; done) | (revert z9; simp; omega)))).trans ((show ∀ i9, i9 ∉ [2] → v i9 = v i9 from (fun _ _ => rfl)) i9 h9)) i9 h9), wp2⟩, ⟨⟨fun j h8 h9 => by rw [fa12.2.2.1 j h8 h9, ea9, mU_cell (by omega), fa4.2.2.1 j h8 h9], kp1.2.tr kp2.2⟩, fun j h4 h5 => by rw [fa12.1 q (by simp only [List.mem_cons, List.not_mem_nil, or_false, not_or]; omega), ea9, mU_slot (by assumption), fa4.1 q (by simp only [List.mem_cons, List.not_mem_nil, or_false, not_or]; omega)]⟩⟩, ⟨_, rfl, ⟨PSt.fl rfl Z8 rfl, fun h => absurd h Z8.1⟩⟩⟩
      · skip
        have T2 := p2.1.yes c16
        refine qw_aload rfl rfl ?_
        refine qw_aload rfl rfl ?_
        refine qc_getI rfl rfl rfl rfl ?_
        refine qc_putI (z := false) rfl (sh_riv (by omega)) rfl rfl (by first | (intro h9; cases h9; done) | (intro _; first | exact Or.inl rfl | exact Or.inr rfl | assumption | (rcases (by omega : (a12 6 9).toInt = 0 ∨ (a12 6 9).toInt = 1) with h8 | h8; exact Or.inl (ti_eq h8); exact Or.inr (ti_eq h8)))) (fun a17 ea17 => ?_)
        have ua17 : a17 q 10 = (a12 6 9) := by rw [ea17, mU_same]
        have wa17 := congrArg Int32.toInt ua17
        have ra17_67 : (a17 6 9).toInt = (a12 6 9).toInt := by rw [ea17, mU_cell (by omega)]
        have V2x : (a17 q 10).toInt = nvT t z (c + 3) := by rw [ea17, mU_same]; exact p2.2 T2.1
        have C2 := T2.2.fr (a' := a17) (by rw [ea17, mU_cell (by omega)]) (by rw [ea17, mU_cell (by omega)]) (by rw [ea17, mU_cell (by omega)]) (by rw [ea17, mU_cell (by omega)])
        refine qw_const rfl ?_
        exact qwp_iret (z := true) rfl (fun _ => by first | exact Or.inl rfl | exact Or.inr rfl | (rcases (by omega : (1 : Int32).toInt = 0 ∨ (1 : Int32).toInt = 1) with h8 | h8; exact Or.inl (ti_eq h8); exact Or.inr (ti_eq h8))) ⟨a17, b13, v14, rfl, ⟨FR.up (FR.tr (FR.up (FR.tr (FR.rf) (FR.sub fa4.1 (by first | exact (fun _ h9 => h9) | decide | (intro c9 h9; simp only [List.mem_cons, List.not_mem_nil, or_false] at h9 ⊢; omega) | (intro c9 h9; simp only [List.mem_cons, List.not_mem_nil, or_false] at h9; exact cA_mem (by omega)) | (intro c9 h9; simp only [List.mem_cons, List.not_mem_nil, or_false] at h9; exact cB_mem (by omega)) | exact cA_sub))) (by first | decide | (simp; done) | exact cA_mem (by omega) | exact cB_mem (by omega)) ea9) (FR.sub fa12.1 (by first | exact (fun _ h9 => h9) | decide | (intro c9 h9; simp only [List.mem_cons, List.not_mem_nil, or_false] at h9 ⊢; omega) | (intro c9 h9; simp only [List.mem_cons, List.not_mem_nil, or_false] at h9; exact cA_mem (by omega)) | (intro c9 h9; simp only [List.mem_cons, List.not_mem_nil, or_false] at h9; exact cB_mem (by omega)) | exact cA_sub))) (by first | decide | (simp; done) | exact cA_mem (by omega) | exact cB_mem (by omega)) ea17, ⟨fun i9 h9 => (fa12.2.1.1 i9 (fun z9 => h9 (by first | exact z9 | (revert z9; simp; done) | (revert z9; simp; omega)))).trans ((show ∀ i9, i9 ∉ [2] → v6 i9 = v i9 from fun i9 h9 => (fa4.2.1.1 i9 (fun z9 => h9 (by first | exact z9 | (revert z9; simp; done) | (revert z9; simp; omega)))).trans ((show ∀ i9, i9 ∉ [2] → v i9 = v i9 from (fun _ _ => rfl)) i9 h9)) i9 h9), wp2⟩, ⟨⟨fun j h8 h9 => by rw [ea17, mU_cell (by omega), fa12.2.2.1 j h8 h9, ea9, mU_cell (by omega), fa4.2.2.1 j h8 h9], kp1.2.tr kp2.2⟩, fun j h4 h5 => by rw [ea17, mU_slot (by assumption), fa12.1 q (by simp only [List.mem_cons, List.not_mem_nil, or_false, not_or]; omega), ea9, mU_slot (by assumption), fa4.1 q (by simp only [List.mem_cons, List.not_mem_nil, or_false, not_or]; omega)]⟩⟩, ⟨_, rfl, ⟨PSt.ok rfl (by rw [(show fz (opE t z 6 0 (a q 5).toInt (a q 4).toInt c) = eE (nb9 t z c 6 0 999) (nb9 t z (c + 2) 7 (a q 5).toInt (a q 4).toInt) from by unfold opE; rw [if_pos T0, fz_c, fz_c, fz_c, fz_n, eE_r, show nb9 t z c 6 0 999 = tkN t z (c + 1) 0 999 from eE_0 (if_pos T0)]), eE_0 T1.1]; exact T2.1) (by unfold opC; rw [if_pos T0]; exact C2), fun _ => ⟨fun _ => ⟨by rw [ea17, mU_slot (by decide), fa12.1 q (by simp only [List.mem_cons, List.not_mem_nil, or_false, not_or]; omega)]; exact V1x, V2x⟩, fun h => absurd T0 h⟩⟩⟩⟩
  · skip
    have T0 : ¬ tkW t z c 6 := fun h => c1 ((hS.1.wrd (by decide)).mp h)
    refine qw_const rfl ?_
    exact qwp_iret (z := true) rfl (fun _ => by first | exact Or.inl rfl | exact Or.inr rfl | (rcases (by omega : (1 : Int32).toInt = 0 ∨ (1 : Int32).toInt = 1) with h8 | h8; exact Or.inl (ti_eq h8); exact Or.inr (ti_eq h8))) ⟨a, b, v, rfl, ⟨FR.rf, ⟨(fun _ _ => rfl), hw⟩, ⟨⟨fun _ _ _ => rfl, BF.rf⟩, fun _ _ _ => rfl⟩⟩, ⟨_, rfl, ⟨PSt.ok rfl (by unfold opE; rw [if_neg T0]; rfl) (by unfold opC; rw [if_neg T0]; exact hS), fun _ => ⟨fun h => absurd h T0, fun _ => ⟨rfl, rfl⟩⟩⟩⟩⟩
set_option maxRecDepth 4000 in
theorem y_X6_riverMother {d : Nat} (a : Nat → Nat → Int32) (b : Nat → Nat → Int64) (v : Nat → Option Nat) (z : Nat) (N : Nat) (c : Nat) (t : Nat → Int32) (L : Nat) (M : Nat → Int64) (q : Nat) (hq : (34 ≤ q ∧ q < 46 ∨ 58 ≤ q ∧ q < 70) ∧ q % 2 = 0) (hw : f_wdb (v 2) = true) (h3L : v 3 = some L) (hS : CSt t z N c a b v) (hL : L = 22 ∨ L = 46) (h7 : 0 ≤ (a L 7).toInt ∧ (a L 7).toInt ≤ 6) (hN : NMC t z (a L 7).toInt.toNat M (fun i => b (L + 1 + 11 + 2 * i) 1)) : f_pc mtC d 64 [.inr (.inr (some 6)), .inr (.inr (some q))] (cH a b v) (fun v9 h' => ∃ (a' : Nat → Nat → Int32) (b' : Nat → Nat → Int64) (v' : Nat → Option Nat), h' = cH a' b' v' ∧ (FR [1, 6, q] a a' ∧ ((∀ i, i ∉ [2] → v' i = v i) ∧ f_wdb (v' 2) = true) ∧ (((∀ j, j ≠ 9 → j ≠ 10 → a' 6 j = a 6 j) ∧ BF b b') ∧ (∀ j, j ≠ 11 → a' q j = a q j))) ∧ ∃ x : Int32, v9 = some (.inl x) ∧ (PSt t z N (ofC t z c) (fz (ofE t z M (a L 7).toInt.toNat c)) x a' b' v' ∧ (fz (ofE t z M (a L 7).toInt.toNat c) = 0 → (tkW t z c 8 → (a' q 11).toInt = fnd M (lxV fM t z (c + 1)) (a L 7).toInt.toNat) ∧ (¬ tkW t z c 8 → a' q 11 = a q 11)))) := by
  refine f_pc_of rfl (fun d0 fu hd => ?_)
  show f_pq _ _ (0, [some (.inr (.inr (some 6))), some (.inr (.inr (some q)))], [], cH a b v) _
  have l0 : (0 : Int32).toInt = 0 := rfl
  have l1 : (1 : Int32).toInt = 1 := rfl
  obtain ⟨s0, s1, s2, s3, s4, s5, s6⟩ := hS.pl
  refine qw_aload rfl rfl ?_
  refine qc_getR (t := some 1) rfl rfl rfl rfl rfl ?_
  refine qc_getR (t := v 2) rfl rfl rfl rfl rfl ?_
  refine qw_const rfl ?_
  refine qc_aw_eq rfl ⟨hw, rfl⟩ (fun c1 => ?_) (fun c1 => ?_)
  · skip
    have T0 : tkW t z c 8 := (hS.1.wrd (by decide)).mpr c1
    have OQ : fz (ofE t z M (a L 7).toInt.toNat c) = tdE t z M (a L 7).toInt.toNat (c + 1) := by unfold ofE; rw [if_pos T0, fz_c, fz_n, eE_r]; rfl
    refine qw_aload rfl rfl ?_
    refine qc_getR (t := some 1) rfl rfl rfl rfl rfl ?_
    refine qw_invV (rest := []) rfl rfl rfl rfl rfl (Nat.le_of_ble_eq_true rfl) rfl (y_X8_advance (d := d0) a b v   (by omega) (by omega)) (fun z2 h9 hq3 => ?_)
    obtain ⟨a4, b5, v6, rfl, fa4, rfl⟩ := hq3
    show f_pq _ _ (22, [some (.inr (.inr (some 6))), some (.inr (.inr (some q)))], [], cH a4 b5 v6) _
    have V9 := fa4
    have C1 := hS.next (tkW_k T0) V9.1 V9.2.2 V9.2.1.2.2
    have e7 := V9.1 L (by simp only [List.mem_cons, List.not_mem_nil, or_false, not_or]; omega)
    refine qw_aload rfl rfl ?_
    refine qw_invV (rest := []) rfl rfl rfl rfl rfl (Nat.le_of_ble_eq_true rfl) rfl (y_X6_isToldName (d := d0) a4 b5 v6 z N (c + 1) t L M  (fa4.2.1.2.1) (((fa4.2.1.1 3 (by decide)).trans h3L)) (C1) (by omega) (by rw [e7]; exact h7) (by rw [e7]; exact hN.same (fun k _ => congrFun (BF.av V9.2.2 (L + 1 + 11 + 2 * k) (by omega)) 1))) (fun z7 h9 hq8 => ?_)
    obtain ⟨a9, rfl, fa9, x10, rfl, px10⟩ := hq8
    show f_pq _ _ (26, [some (.inr (.inr (some 6))), some (.inr (.inr (some q)))], [.inl x10], cH a9 b5 v6) _
    have p9 : PSt t z N (c + 1) (tdE t z M (a L 7).toInt.toNat (c + 1)) x10 a9 b5 v6 ∧ (tdE t z M (a L 7).toInt.toNat (c + 1) = 0 → (a9 6 9).toInt = fnd M (lxV fM t z (c + 1)) (a L 7).toInt.toNat) := by have h9 := px10; rw [e7] at h9; exact h9
    have F8 := fa9.2
    refine qw_if_ne rfl (fun c11 => ?_) (fun c11 => ?_)
    · skip
      have Z8 : ¬ fz (ofE t z M (a L 7).toInt.toNat c) = 0 ∧ (a9 6 10).toInt = fz (ofE t z M (a L 7).toInt.toNat c) := by rw [OQ]; exact p9.1.not c11
      refine qw_const rfl ?_
      exact qwp_iret (z := true) rfl (fun _ => by first | exact Or.inl rfl | exact Or.inr rfl | (rcases (by omega : (0 : Int32).toInt = 0 ∨ (0 : Int32).toInt = 1) with h8 | h8; exact Or.inl (ti_eq h8); exact Or.inr (ti_eq h8))) ⟨a9, b5, v6, rfl, ⟨FR.tr (FR.tr (FR.rf) (FR.sub fa4.1 (by first | exact (fun _ h9 => h9) | decide | (intro c9 h9; simp only [List.mem_cons, List.not_mem_nil, or_false] at h9 ⊢; omega) | (intro c9 h9; simp only [List.mem_cons, List.not_mem_nil, or_false] at h9; exact cA_mem (by omega)) | (intro c9 h9; simp only [List.mem_cons, List.not_mem_nil, or_false] at h9; exact cB_mem (by omega)) | exact cA_sub))) (FR.sub fa9.1 (by first | exact (fun _ h9 => h9) | decide | (intro c9 h9; simp only [List.mem_cons, List.not_mem_nil, or_false] at h9 ⊢; omega) | (intro c9 h9; simp only [List.mem_cons, List.not_mem_nil, or_false] at h9; exact cA_mem (by omega)) | (intro c9 h9; simp only [List.mem_cons, List.not_mem_nil, or_false] at h9; exact cB_mem (by omega)) | exact cA_sub)), ⟨fun i9 h9 => (fa4.2.1.1 i9 (fun z9 => h9 (by first | exact z9 | (revert z9; simp; done) | (revert z9; simp; omega)))).trans ((show ∀ i9, i9 ∉ [2] → v i9 = v i9 from (fun _ _ => rfl)) i9 h9), V9.2.1.2.1⟩, ⟨⟨fun j h8 h9 => by rw [F8 j h8 h9, fa4.1 6 (by decide)], BF.av V9.2.2⟩, fun j h1 => by rw [fa9.1 q (by simp only [List.mem_cons, List.not_mem_nil, or_false, not_or]; omega), fa4.1 q (by simp only [List.mem_cons, List.not_mem_nil, or_false, not_or]; omega)]⟩⟩, ⟨_, rfl, ⟨PSt.fl rfl Z8 rfl, fun h => absurd h Z8.1⟩⟩⟩
    · skip
      have T1 := p9.1.yes c11
      refine qw_aload rfl rfl ?_
      refine qw_aload rfl rfl ?_
      refine qc_getI rfl rfl rfl rfl ?_
      refine qc_putI (z := false) rfl (sh_riv (by omega)) rfl rfl (by first | (intro h9; cases h9; done) | (intro _; first | exact Or.inl rfl | exact Or.inr rfl | assumption | (rcases (by omega : (a9 6 9).toInt = 0 ∨ (a9 6 9).toInt = 1) with h8 | h8; exact Or.inl (ti_eq h8); exact Or.inr (ti_eq h8)))) (fun a12 ea12 => ?_)
      have ua12 : a12 q 11 = (a9 6 9) := by rw [ea12, mU_same]
      have wa12 := congrArg Int32.toInt ua12
      have ra12_42 : (a12 6 9).toInt = (a9 6 9).toInt := by rw [ea12, mU_cell (by omega)]
      have V1x : (a12 q 11).toInt = fnd M (lxV fM t z (c + 1)) (a L 7).toInt.toNat := by rw [ea12, mU_same]; exact p9.2 T1.1
      have C2 := T1.2.fr (a' := a12) (by rw [ea12, mU_cell (by omega)]) (by rw [ea12, mU_cell (by omega)]) (by rw [ea12, mU_cell (by omega)]) (by rw [ea12, mU_cell (by omega)])
      have K2 := C2.pl
      refine qw_aload rfl rfl ?_
      refine qc_getR (t := some 1) rfl rfl rfl rfl rfl ?_
      refine qw_invV (rest := []) rfl rfl rfl rfl rfl (Nat.le_of_ble_eq_true rfl) rfl (y_X8_advance (d := d0) a12 b5 v6   (by omega) (by omega)) (fun z13 h9 hq14 => ?_)
      obtain ⟨a15, b16, v17, rfl, fa15, rfl⟩ := hq14
      show f_pq _ _ (46, [some (.inr (.inr (some 6))), some (.inr (.inr (some q)))], [], cH a15 b16 v17) _
      have W9 := fa15
      have C3 := C2.next (by have h9 := T1.1; unfold tdE at h9; split at h9; (exact nm_k (by assumption)); exact absurd h9 (flt_p (by decide))) W9.1 W9.2.2 W9.2.1.2.2
      refine qw_const rfl ?_
      exact qwp_iret (z := true) rfl (fun _ => by first | exact Or.inl rfl | exact Or.inr rfl | (rcases (by omega : (1 : Int32).toInt = 0 ∨ (1 : Int32).toInt = 1) with h8 | h8; exact Or.inl (ti_eq h8); exact Or.inr (ti_eq h8))) ⟨a15, b16, v17, rfl, ⟨FR.tr (FR.up (FR.tr (FR.tr (FR.rf) (FR.sub fa4.1 (by first | exact (fun _ h9 => h9) | decide | (intro c9 h9; simp only [List.mem_cons, List.not_mem_nil, or_false] at h9 ⊢; omega) | (intro c9 h9; simp only [List.mem_cons, List.not_mem_nil, or_false] at h9; exact cA_mem (by omega)) | (intro c9 h9; simp only [List.mem_cons, List.not_mem_nil, or_false] at h9; exact cB_mem (by omega)) | exact cA_sub))) (FR.sub fa9.1 (by first | exact (fun _ h9 => h9) | decide | (intro c9 h9; simp only [List.mem_cons, List.not_mem_nil, or_false] at h9 ⊢; omega) | (intro c9 h9; simp only [List.mem_cons, List.not_mem_nil, or_false] at h9; exact cA_mem (by omega)) | (intro c9 h9; simp only [List.mem_cons, List.not_mem_nil, or_false] at h9; exact cB_mem (by omega)) | exact cA_sub))) (by first | decide | (simp; done) | exact cA_mem (by omega) | exact cB_mem (by omega)) ea12) (FR.sub fa15.1 (by first | exact (fun _ h9 => h9) | decide | (intro c9 h9; simp only [List.mem_cons, List.not_mem_nil, or_false] at h9 ⊢; omega) | (intro c9 h9; simp only [List.mem_cons, List.not_mem_nil, or_false] at h9; exact cA_mem (by omega)) | (intro c9 h9; simp only [List.mem_cons, List.not_mem_nil, or_false] at h9; exact cB_mem (by omega)) | exact cA_sub)), ⟨fun i9 h9 => (fa15.2.1.1 i9 (fun z9 => h9 (by first | exact z9 | (revert z9; simp; done) | (revert z9; simp; omega)))).trans ((show ∀ i9, i9 ∉ [2] → v6 i9 = v i9 from fun i9 h9 => (fa4.2.1.1 i9 (fun z9 => h9 (by first | exact z9 | (revert z9; simp; done) | (revert z9; simp; omega)))).trans ((show ∀ i9, i9 ∉ [2] → v i9 = v i9 from (fun _ _ => rfl)) i9 h9)) i9 h9), W9.2.1.2.1⟩, ⟨⟨fun j h8 h9 => by rw [W9.1 6 (by decide), ea12, mU_cell (by omega), F8 j h8 h9, fa4.1 6 (by decide)], (BF.av V9.2.2).tr (BF.av W9.2.2)⟩, fun j h1 => by rw [fa15.1 q (by simp only [List.mem_cons, List.not_mem_nil, or_false, not_or]; omega), ea12, mU_slot h1, fa9.1 q (by simp only [List.mem_cons, List.not_mem_nil, or_false, not_or]; omega), fa4.1 q (by simp only [List.mem_cons, List.not_mem_nil, or_false, not_or]; omega)]⟩⟩, ⟨_, rfl, ⟨PSt.ok rfl (by rw [OQ]; exact T1.1) (by unfold ofC; rw [if_pos T0]; exact C3), fun _ => ⟨fun _ => by rw [W9.1 q (by simp only [List.mem_cons, List.not_mem_nil, or_false, not_or]; omega)]; exact V1x, fun h => absurd T0 h⟩⟩⟩⟩
  · skip
    have T0 : ¬ tkW t z c 8 := fun h => c1 ((hS.1.wrd (by decide)).mp h)
    refine qw_const rfl ?_
    exact qwp_iret (z := true) rfl (fun _ => by first | exact Or.inl rfl | exact Or.inr rfl | (rcases (by omega : (1 : Int32).toInt = 0 ∨ (1 : Int32).toInt = 1) with h8 | h8; exact Or.inl (ti_eq h8); exact Or.inr (ti_eq h8))) ⟨a, b, v, rfl, ⟨FR.rf, ⟨(fun _ _ => rfl), hw⟩, ⟨⟨fun _ _ _ => rfl, BF.rf⟩, fun _ _ => rfl⟩⟩, ⟨_, rfl, ⟨PSt.ok rfl (by unfold ofE; rw [if_neg T0]; rfl) (by unfold ofC; rw [if_neg T0]; exact hS), fun _ => ⟨fun h => absurd h T0, fun _ => rfl⟩⟩⟩⟩
set_option maxRecDepth 4000 in
theorem y_X6_riverWater {d : Nat} (a : Nat → Nat → Int32) (b : Nat → Nat → Int64) (v : Nat → Option Nat) (z : Nat) (N : Nat) (c : Nat) (t : Nat → Int32) (q : Nat) (hq : (34 ≤ q ∧ q < 46 ∨ 58 ≤ q ∧ q < 70) ∧ q % 2 = 0) (hw : f_wdb (v 2) = true) (hS : CSt t z N c a b v) : f_pc mtC d 61 [.inr (.inr (some 6)), .inr (.inr (some q))] (cH a b v) (fun v9 h' => ∃ (a' : Nat → Nat → Int32) (b' : Nat → Nat → Int64) (v' : Nat → Option Nat), h' = cH a' b' v' ∧ (FR [1, 6, q + 1] a a' ∧ ((∀ i, i ∉ [2] → v' i = v i) ∧ f_wdb (v' 2) = true) ∧ ((∀ j, j ≠ 9 → j ≠ 10 → a' 6 j = a 6 j) ∧ BF b b')) ∧ ∃ x : Int32, v9 = some (.inl x) ∧ (PSt t z N (c + 5) (wL t z c 4) x a' b' v' ∧ (wL t z c 4 = 0 → ∀ j, j < 4 → (a' (q + 1) j).toInt = nvT t z (c + 1 + j)))) := by
  refine f_pc_of rfl (fun d0 fu hd => ?_)
  show f_pq _ _ (0, [some (.inr (.inr (some 6))), some (.inr (.inr (some q))), none], [], cH a b v) _
  have l0 : (0 : Int32).toInt = 0 := rfl
  have l1 : (1 : Int32).toInt = 1 := rfl
  have l4 : (4 : Int32).toInt = 4 := rfl
  have l99 : (99 : Int32).toInt = 99 := rfl
  refine qw_aload rfl rfl ?_
  refine qw_const rfl ?_
  refine qw_invV (rest := []) rfl rfl rfl rfl rfl (Nat.le_of_ble_eq_true rfl) rfl (y_X6_passWord (d := d0) a b v z N c t 1004 (hw) (by omega) (by omega)) (fun z1 h9 hq2 => ?_)
  obtain ⟨a3, b4, v5, rfl, fa3, x6, rfl, px6⟩ := hq2
  show f_pq _ _ (7, [some (.inr (.inr (some 6))), some (.inr (.inr (some q))), none], [.inl x6], cH a3 b4 v5) _
  have p9 : PSt t z N (c + 1) (xW t z c 4) x6 a3 b4 v5 := px6
  refine qw_if_ne rfl (fun c7 => ?_) (fun c7 => ?_)
  · skip
    have Z8 : ¬ wL t z c 4 = 0 ∧ (a3 6 10).toInt = wL t z c 4 := by rw [show wL t z c 4 = xW t z c 4 from wL_st (k := 0) (p9.not c7).1 4 (by decide)]; exact p9.not c7
    have E8 : (∀ j, j ≠ 9 → j ≠ 10 → a3 6 j = a 6 j) ∧ BF b b4 := ⟨fun j _ h9 => fa3.2.2.1 j h9, fa3.2.2.2⟩
    refine qw_const rfl ?_
    exact qwp_iret (z := true) rfl (fun _ => by first | exact Or.inl rfl | exact Or.inr rfl | (rcases (by omega : (0 : Int32).toInt = 0 ∨ (0 : Int32).toInt = 1) with h8 | h8; exact Or.inl (ti_eq h8); exact Or.inr (ti_eq h8))) ⟨a3, b4, v5, rfl, ⟨FR.tr (FR.rf) (FR.sub fa3.1 (by first | exact (fun _ h9 => h9) | decide | (intro c9 h9; simp only [List.mem_cons, List.not_mem_nil, or_false] at h9 ⊢; omega) | (intro c9 h9; simp only [List.mem_cons, List.not_mem_nil, or_false] at h9; exact cA_mem (by omega)) | (intro c9 h9; simp only [List.mem_cons, List.not_mem_nil, or_false] at h9; exact cB_mem (by omega)) | exact cA_sub)), ⟨fun i9 h9 => (fa3.2.1.1 i9 (fun z9 => h9 (by first | exact z9 | (revert z9; simp; done) | (revert z9; simp; omega)))).trans ((show ∀ i9, i9 ∉ [2] → v i9 = v i9 from (fun _ _ => rfl)) i9 h9), fa3.2.1.2⟩, E8⟩, ⟨_, rfl, ⟨PSt.fl rfl Z8 rfl, fun h => absurd h Z8.1⟩⟩⟩
  · skip
    have T0 := p9.yes c7
    refine qw_const rfl ?_
    refine qw_istore (lo' := [some (.inr (.inr (some 6))), some (.inr (.inr (some q))), some (.inl 0)]) rfl rfl ?_
    have loop14 : ∀ (fu14 : Nat) (k : Int32) (a14 : Nat → Nat → Int32) (b14 : Nat → Nat → Int64) (v14 : Nat → Option Nat) ,  FR [1, 6, q + 1] a a14 → (∀ i, i ∉ [2] → v14 i = v i) → (0 ≤ k.toInt ∧ k.toInt ≤ 4) → (f_wdb (v14 2) = true) → ((∀ j, j ≠ 9 → j ≠ 10 → a14 6 j = a 6 j) ∧ BF b b14) → (CSt t z N (c + 1 + k.toInt.toNat) a14 b14 v14 ∧ wL t z c k.toInt.toNat = 0) → (∀ j, j < k.toInt.toNat → (a14 (q + 1) j).toInt = nvT t z (c + 1 + j)) → f_pq (f_code (t_X6_riverWater (f_ev mtC d0))) fu14 (14, [some (.inr (.inr (some 6))), some (.inr (.inr (some q))), some (.inl k)], [], cH a14 b14 v14) (fun v9 h' => ∃ (a' : Nat → Nat → Int32) (b' : Nat → Nat → Int64) (v' : Nat → Option Nat), h' = cH a' b' v' ∧ (FR [1, 6, q + 1] a a' ∧ ((∀ i, i ∉ [2] → v' i = v i) ∧ f_wdb (v' 2) = true) ∧ ((∀ j, j ≠ 9 → j ≠ 10 → a' 6 j = a 6 j) ∧ BF b b')) ∧ ∃ x : Int32, v9 = some (.inl x) ∧ (PSt t z N (c + 5) (wL t z c 4) x a' b' v' ∧ (wL t z c 4 = 0 → ∀ j, j < 4 → (a' (q + 1) j).toInt = nvT t z (c + 1 + j)))) := by
      intro fu14
      induction fu14 with
      | zero => intros; exact pq_0
      | succ fu14 ih14 =>
        intro k a14 b14 v14  hF14 hG14 hk hw9 hK hC hV
        refine qw_iload rfl rfl ?_
        refine qw_const rfl ?_
        refine qw_ic_ge rfl (fun c8 => ?_) (fun c8 => ?_)
        · skip
          have k4x : k.toInt.toNat = 4 := by omega
          refine qw_const rfl ?_
          exact qwp_iret (z := true) rfl (fun _ => by first | exact Or.inl rfl | exact Or.inr rfl | (rcases (by omega : (1 : Int32).toInt = 0 ∨ (1 : Int32).toInt = 1) with h8 | h8; exact Or.inl (ti_eq h8); exact Or.inr (ti_eq h8))) ⟨a14, b14, v14, rfl, ⟨hF14, ⟨hG14, hw9⟩, hK⟩, ⟨_, rfl, ⟨PSt.ok rfl (by rw [← k4x]; exact hC.2) (by have h9 := hC.1; rw [k4x] at h9; exact h9), fun _ => by rw [← k4x]; exact hV⟩⟩⟩
        · skip
          refine qw_aload rfl rfl ?_
          refine qw_const rfl ?_
          refine qw_const rfl ?_
          refine qw_invV (rest := []) rfl rfl rfl rfl rfl (Nat.le_of_ble_eq_true rfl) rfl (y_X6_passNumber (d := d0) a14 b14 v14 z N (c + 1 + k.toInt.toNat) t 0 99 (hw9) (hC.1)) (fun z9 h9 hq10 => ?_)
          obtain ⟨a11, b12, v13, rfl, fa11, x14, rfl, px14⟩ := hq10
          show f_pq _ _ (26, [some (.inr (.inr (some 6))), some (.inr (.inr (some q))), some (.inl k)], [.inl x14], cH a11 b12 v13) _
          have p8 : PSt t z N (c + 1 + k.toInt.toNat + 1) (tkN t z (c + 1 + k.toInt.toNat) 0 99) x14 a11 b12 v13 ∧ (tkN t z (c + 1 + k.toInt.toNat) 0 99 = 0 → (a11 6 9).toInt = nvT t z (c + 1 + k.toInt.toNat)) := px14
          have w8x := fa11.2.1.2
          have E8 : (∀ j, j ≠ 9 → j ≠ 10 → a11 6 j = a 6 j) ∧ BF b b12 := ⟨fun j h8 h9 => by rw [fa11.2.2.1 j h8 h9]; exact hK.1 j h8 h9, hK.2.tr fa11.2.2.2⟩
          refine qw_if_ne rfl (fun c15 => ?_) (fun c15 => ?_)
          · skip
            have G8 : wL t z c (k.toInt.toNat + 1) = tkN t z (c + 1 + k.toInt.toNat) 0 99 := eE_0 hC.2
            have Z8 : ¬ wL t z c 4 = 0 ∧ (a11 6 10).toInt = wL t z c 4 := by rw [show wL t z c 4 = tkN t z (c + 1 + k.toInt.toNat) 0 99 from by rw [← G8]; exact wL_st (by rw [G8]; exact (p8.1.not c15).1) 4 (by omega)]; exact p8.1.not c15
            refine qw_const rfl ?_
            exact qwp_iret (z := true) rfl (fun _ => by first | exact Or.inl rfl | exact Or.inr rfl | (rcases (by omega : (0 : Int32).toInt = 0 ∨ (0 : Int32).toInt = 1) with h8 | h8; exact Or.inl (ti_eq h8); exact Or.inr (ti_eq h8))) ⟨a11, b12, v13, rfl, ⟨FR.tr (hF14) (FR.sub fa11.1 (by first | exact (fun _ h9 => h9) | decide | (intro c9 h9; simp only [List.mem_cons, List.not_mem_nil, or_false] at h9 ⊢; omega) | (intro c9 h9; simp only [List.mem_cons, List.not_mem_nil, or_false] at h9; exact cA_mem (by omega)) | (intro c9 h9; simp only [List.mem_cons, List.not_mem_nil, or_false] at h9; exact cB_mem (by omega)) | exact cA_sub)), ⟨fun i9 h9 => (fa11.2.1.1 i9 (fun z9 => h9 (by first | exact z9 | (revert z9; simp; done) | (revert z9; simp; omega)))).trans ((show ∀ i9, i9 ∉ [2] → v14 i9 = v i9 from hG14) i9 h9), fa11.2.1.2⟩, E8⟩, ⟨_, rfl, ⟨PSt.fl rfl Z8 rfl, fun h => absurd h Z8.1⟩⟩⟩
          · skip
            have T1 := p8.1.yes c15
            refine qw_aload rfl rfl ?_
            refine qc_getR (t := some (q + 1)) rfl (sh_riv (by omega)) rfl rfl (rC_riv0 (by omega)) ?_
            refine qw_iload rfl rfl ?_
            refine qw_aload rfl rfl ?_
            refine qc_getI rfl rfl rfl rfl ?_
            refine qc_iast rfl (sh_wat (by omega)) (fun ja16 a16 ea16 => ?_)
            have ra16_61 : (a16 6 9).toInt = (a11 6 9).toInt := by rw [ea16, mU_cell (by omega)]
            have V1x : (a16 (q + 1) k.toInt.toNat).toInt = nvT t z (c + 1 + k.toInt.toNat) := by rw [ea16, mU_same]; exact p8.2 T1.1
            have C3 := T1.2.fr (a' := a16) (by rw [ea16, mU_cell (by omega)]) (by rw [ea16, mU_cell (by omega)]) (by rw [ea16, mU_cell (by omega)]) (by rw [ea16, mU_cell (by omega)])
            have K3 := C3.pl
            refine qw_iinc (lo' := fun z9 => [some (.inr (.inr (some 6))), some (.inr (.inr (some q))), some (.inl z9)]) rfl rfl (fun _ => rfl) (by omega) (fun x17 tx17 => ?_)
            exact qw_gotoD rfl (ih14 x17 a16 b12 v13 (FR.up (FR.tr (hF14) (FR.sub fa11.1 (by first | exact (fun _ h9 => h9) | decide | (intro c9 h9; simp only [List.mem_cons, List.not_mem_nil, or_false] at h9 ⊢; omega) | (intro c9 h9; simp only [List.mem_cons, List.not_mem_nil, or_false] at h9; exact cA_mem (by omega)) | (intro c9 h9; simp only [List.mem_cons, List.not_mem_nil, or_false] at h9; exact cB_mem (by omega)) | exact cA_sub))) (by first | decide | (simp; done) | exact cA_mem (by omega) | exact cB_mem (by omega)) ea16) (fun i9 h9 => (fa11.2.1.1 i9 (fun z9 => h9 (by first | exact z9 | (revert z9; simp; done) | (revert z9; simp; omega)))).trans ((show ∀ i9, i9 ∉ [2] → v14 i9 = v i9 from hG14) i9 h9)) (by omega) (fa11.2.1.2) (⟨fun j h8 h9 => by rw [ea16, mU_cell (by omega), fa11.2.2.1 j h8 h9]; exact hK.1 j h8 h9, hK.2.tr fa11.2.2.2⟩) (by rw [show (x17).toInt.toNat = k.toInt.toNat + 1 from by omega]; exact ⟨C3, by show eE _ _ = 0; rw [eE_0 hC.2]; exact T1.1⟩) (by rw [show (x17).toInt.toNat = k.toInt.toNat + 1 from by omega]; exact fun j hj => by rcases (by omega : j < k.toInt.toNat ∨ j = k.toInt.toNat) with h | h; (rw [ea16, mU_slot (by omega), fa11.1 (q + 1) (by simp only [List.mem_cons, List.not_mem_nil, or_false, not_or]; omega)]; exact hV j h); (rw [h]; exact V1x)))
    exact loop14 _ 0 a3 b4 v5 (FR.tr (FR.rf) (FR.sub fa3.1 (by first | exact (fun _ h9 => h9) | decide | (intro c9 h9; simp only [List.mem_cons, List.not_mem_nil, or_false] at h9 ⊢; omega) | (intro c9 h9; simp only [List.mem_cons, List.not_mem_nil, or_false] at h9; exact cA_mem (by omega)) | (intro c9 h9; simp only [List.mem_cons, List.not_mem_nil, or_false] at h9; exact cB_mem (by omega)) | exact cA_sub))) (fun i9 h9 => (fa3.2.1.1 i9 (fun z9 => h9 (by first | exact z9 | (revert z9; simp; done) | (revert z9; simp; omega)))).trans ((show ∀ i9, i9 ∉ [2] → v i9 = v i9 from (fun _ _ => rfl)) i9 h9)) (by omega) (fa3.2.1.2) (⟨fun j _ h9 => fa3.2.2.1 j h9, fa3.2.2.2⟩) (⟨T0.2, T0.1⟩) (fun j hj => absurd hj (by rw [show (0 : Int32).toInt.toNat = 0 from rfl]; omega))
