set_option maxHeartbeats 2000000 in
set_option maxRecDepth 4000 in
theorem y_X9_takeBonds {d : Nat} (a : Nat → Nat → Int32) (b : Nat → Nat → Int64) (v : Nat → Option Nat) (s : Nat) (p : Nat) (hS : 70 ≤ s ∧ s < 238 ∧ s % 8 = 6) (hp : 70 ≤ p ∧ p < 238 ∧ p % 8 = 6) : f_pc mtC d 92 [.inr (.inr (some s)), .inr (.inr (some p))] (cH a b v) (fun v9 h' => ∃ (a' : Nat → Nat → Int32), h' = cH a' b v ∧ (FR [s, s + 1, s + 2, s + 3] a a' ∧ (∀ j, j ≠ 7 → a' s j = a s j)) ∧ v9 = none) := by
  refine f_pc_of rfl (fun d0 fu hd => ?_)
  show f_pq _ _ (0, [some (.inr (.inr (some s))), some (.inr (.inr (some p)))], [], cH a b v) _
  have l0 : (0 : Int32).toInt = 0 := rfl
  have l6 : (6 : Int32).toInt = 6 := rfl
  refine qw_aload rfl rfl ?_
  refine qc_getR (t := some (p + 1)) rfl (sh_sta (by omega)) rfl rfl (rC_sta0 (by omega)) ?_
  refine qw_const rfl ?_
  refine qw_aload rfl rfl ?_
  refine qc_getR (t := some (s + 1)) rfl (sh_sta (by omega)) rfl rfl (rC_sta0 (by omega)) ?_
  refine qw_const rfl ?_
  refine qw_const rfl ?_
  refine qc_copy (x := (p + 1)) (y := (s + 1)) rfl (sh_sa6 (by omega)) (sh_sa6 (by omega)) rfl (Nat.le_of_ble_eq_true rfl) (fun a1 na1 ma1 oa1 => ?_)
  show f_pq _ _ (15, [some (.inr (.inr (some s))), some (.inr (.inr (some p)))], [], cH a1 b v) _
  refine qw_aload rfl rfl ?_
  refine qc_getR (t := some (p + 2)) rfl (sh_sta (by omega)) rfl rfl (rC_sta1 (by omega)) ?_
  refine qw_const rfl ?_
  refine qw_aload rfl rfl ?_
  refine qc_getR (t := some (s + 2)) rfl (sh_sta (by omega)) rfl rfl (rC_sta1 (by omega)) ?_
  refine qw_const rfl ?_
  refine qw_const rfl ?_
  refine qc_copy (x := (p + 2)) (y := (s + 2)) rfl (sh_sa6 (by omega)) (sh_sa6 (by omega)) rfl (Nat.le_of_ble_eq_true rfl) (fun a2 na2 ma2 oa2 => ?_)
  show f_pq _ _ (30, [some (.inr (.inr (some s))), some (.inr (.inr (some p)))], [], cH a2 b v) _
  refine qw_aload rfl rfl ?_
  refine qc_getR (t := some (p + 3)) rfl (sh_sta (by omega)) rfl rfl (rC_sta2 (by omega)) ?_
  refine qw_const rfl ?_
  refine qw_aload rfl rfl ?_
  refine qc_getR (t := some (s + 3)) rfl (sh_sta (by omega)) rfl rfl (rC_sta2 (by omega)) ?_
  refine qw_const rfl ?_
  refine qw_const rfl ?_
  refine qc_copy (x := (p + 3)) (y := (s + 3)) rfl (sh_sa6 (by omega)) (sh_sa6 (by omega)) rfl (Nat.le_of_ble_eq_true rfl) (fun a3 na3 ma3 oa3 => ?_)
  show f_pq _ _ (45, [some (.inr (.inr (some s))), some (.inr (.inr (some p)))], [], cH a3 b v) _
  refine qw_aload rfl rfl ?_
  refine qw_aload rfl rfl ?_
  refine qc_getI rfl (sh_sta (by omega)) rfl rfl ?_
  refine qc_putI (z := false) rfl (sh_sta (by omega)) rfl rfl (by first | (intro h9; cases h9; done) | (intro _; first | exact Or.inl rfl | exact Or.inr rfl | assumption | (rcases (by omega : (a3 p 7).toInt = 0 ∨ (a3 p 7).toInt = 1) with h8 | h8; exact Or.inl (ti_eq h8); exact Or.inr (ti_eq h8)))) (fun a4 ea4 => ?_)
  have ua4 : a4 s 7 = (a3 p 7) := by rw [ea4, mU_same]
  have wa4 := congrArg Int32.toInt ua4
  exact qw_ret rfl ⟨a4, rfl, ⟨FR.up (FR.cp (FR.cp (FR.cp (FR.rf) (by first | decide | (simp; done) | exact cA_mem (by omega) | exact cB_mem (by omega) | (simp only [List.mem_cons, List.not_mem_nil, or_false]; omega)) na1) (by first | decide | (simp; done) | exact cA_mem (by omega) | exact cB_mem (by omega) | (simp only [List.mem_cons, List.not_mem_nil, or_false]; omega)) na2) (by first | decide | (simp; done) | exact cA_mem (by omega) | exact cB_mem (by omega) | (simp only [List.mem_cons, List.not_mem_nil, or_false]; omega)) na3) (by first | decide | (simp; done) | exact cA_mem (by omega) | exact cB_mem (by omega) | (simp only [List.mem_cons, List.not_mem_nil, or_false]; omega)) ea4, fun j hj => by rw [ea4, mU_slot hj, na3 s (by omega), na2 s (by omega), na1 s (by omega)]⟩, rfl⟩
set_option maxHeartbeats 2000000 in
set_option maxRecDepth 4000 in
theorem y_X9_takeAll {d : Nat} (a : Nat → Nat → Int32) (b : Nat → Nat → Int64) (v : Nat → Option Nat) (s : Nat) (p : Nat) (hS : 70 ≤ s ∧ s < 238 ∧ s % 8 = 6) (hp : 70 ≤ p ∧ p < 238 ∧ p % 8 = 6) : f_pc mtC d 93 [.inr (.inr (some s)), .inr (.inr (some p))] (cH a b v) (fun v9 h' => ∃ (a' : Nat → Nat → Int32), h' = cH a' b v ∧ (FR [s, s + 1, s + 2, s + 3, s + 4, s + 5, s + 6, s + 7] a a' ∧ (∀ j, j ≠ 7 → j ≠ 8 → j ≠ 9 → a' s j = a s j)) ∧ v9 = none) := by
  refine f_pc_of rfl (fun d0 fu hd => ?_)
  show f_pq _ _ (0, [some (.inr (.inr (some s))), some (.inr (.inr (some p)))], [], cH a b v) _
  have l0 : (0 : Int32).toInt = 0 := rfl
  have l6 : (6 : Int32).toInt = 6 := rfl
  have l10 : (10 : Int32).toInt = 10 := rfl
  refine qw_aload rfl rfl ?_
  refine qw_aload rfl rfl ?_
  refine qw_invV (rest := []) rfl rfl (sh_sta (by omega)) rfl rfl (Nat.le_of_ble_eq_true rfl) rfl (y_X9_takeBonds (d := d0) a b v  s p (by omega) (by omega)) (fun z1 h9 hq2 => ?_)
  obtain ⟨a3, rfl, fa3, rfl⟩ := hq2
  show f_pq _ _ (5, [some (.inr (.inr (some s))), some (.inr (.inr (some p)))], [], cH a3 b v) _
  refine qw_aload rfl rfl ?_
  refine qc_getR (t := some (p + 4)) rfl (sh_sta (by omega)) rfl rfl (rC_sta3 (by omega)) ?_
  refine qw_const rfl ?_
  refine qw_aload rfl rfl ?_
  refine qc_getR (t := some (s + 4)) rfl (sh_sta (by omega)) rfl rfl (rC_sta3 (by omega)) ?_
  refine qw_const rfl ?_
  refine qw_const rfl ?_
  refine qc_copy (x := (p + 4)) (y := (s + 4)) rfl (sh_sa6 (by omega)) (sh_sa6 (by omega)) rfl (Nat.le_of_ble_eq_true rfl) (fun a4 na4 ma4 oa4 => ?_)
  show f_pq _ _ (20, [some (.inr (.inr (some s))), some (.inr (.inr (some p)))], [], cH a4 b v) _
  refine qw_aload rfl rfl ?_
  refine qc_getR (t := some (p + 5)) rfl (sh_sta (by omega)) rfl rfl (rC_sta4 (by omega)) ?_
  refine qw_const rfl ?_
  refine qw_aload rfl rfl ?_
  refine qc_getR (t := some (s + 5)) rfl (sh_sta (by omega)) rfl rfl (rC_sta4 (by omega)) ?_
  refine qw_const rfl ?_
  refine qw_const rfl ?_
  refine qc_copy (x := (p + 5)) (y := (s + 5)) rfl (sh_sa10 (by omega)) (sh_sa10 (by omega)) rfl (Nat.le_of_ble_eq_true rfl) (fun a5 na5 ma5 oa5 => ?_)
  show f_pq _ _ (35, [some (.inr (.inr (some s))), some (.inr (.inr (some p)))], [], cH a5 b v) _
  refine qw_aload rfl rfl ?_
  refine qc_getR (t := some (p + 6)) rfl (sh_sta (by omega)) rfl rfl (rC_sta5 (by omega)) ?_
  refine qw_const rfl ?_
  refine qw_aload rfl rfl ?_
  refine qc_getR (t := some (s + 6)) rfl (sh_sta (by omega)) rfl rfl (rC_sta5 (by omega)) ?_
  refine qw_const rfl ?_
  refine qw_const rfl ?_
  refine qc_copy (x := (p + 6)) (y := (s + 6)) rfl (sh_sa10 (by omega)) (sh_sa10 (by omega)) rfl (Nat.le_of_ble_eq_true rfl) (fun a6 na6 ma6 oa6 => ?_)
  show f_pq _ _ (50, [some (.inr (.inr (some s))), some (.inr (.inr (some p)))], [], cH a6 b v) _
  refine qw_aload rfl rfl ?_
  refine qc_getR (t := some (p + 7)) rfl (sh_sta (by omega)) rfl rfl (rC_sta6 (by omega)) ?_
  refine qw_const rfl ?_
  refine qw_aload rfl rfl ?_
  refine qc_getR (t := some (s + 7)) rfl (sh_sta (by omega)) rfl rfl (rC_sta6 (by omega)) ?_
  refine qw_const rfl ?_
  refine qw_const rfl ?_
  refine qc_copy (x := (p + 7)) (y := (s + 7)) rfl (sh_sa10 (by omega)) (sh_sa10 (by omega)) rfl (Nat.le_of_ble_eq_true rfl) (fun a7 na7 ma7 oa7 => ?_)
  show f_pq _ _ (65, [some (.inr (.inr (some s))), some (.inr (.inr (some p)))], [], cH a7 b v) _
  refine qw_aload rfl rfl ?_
  refine qw_aload rfl rfl ?_
  refine qc_getI rfl (sh_sta (by omega)) rfl rfl ?_
  refine qc_putI (z := false) rfl (sh_sta (by omega)) rfl rfl (by first | (intro h9; cases h9; done) | (intro _; first | exact Or.inl rfl | exact Or.inr rfl | assumption | (rcases (by omega : (a7 p 8).toInt = 0 ∨ (a7 p 8).toInt = 1) with h8 | h8; exact Or.inl (ti_eq h8); exact Or.inr (ti_eq h8)))) (fun a8 ea8 => ?_)
  have ua8 : a8 s 8 = (a7 p 8) := by rw [ea8, mU_same]
  have wa8 := congrArg Int32.toInt ua8
  refine qw_aload rfl rfl ?_
  refine qw_aload rfl rfl ?_
  refine qc_getI rfl (sh_sta (by omega)) rfl rfl ?_
  refine qc_putI (z := false) rfl (sh_sta (by omega)) rfl rfl (by first | (intro h9; cases h9; done) | (intro _; first | exact Or.inl rfl | exact Or.inr rfl | assumption | (rcases (by omega : (a8 p 9).toInt = 0 ∨ (a8 p 9).toInt = 1) with h8 | h8; exact Or.inl (ti_eq h8); exact Or.inr (ti_eq h8)))) (fun a9 ea9 => ?_)
  have ua9 : a9 s 9 = (a8 p 9) := by rw [ea9, mU_same]
  have wa9 := congrArg Int32.toInt ua9
  exact qw_ret rfl ⟨a9, rfl, ⟨FR.up (FR.up (FR.cp (FR.cp (FR.cp (FR.cp (FR.tr (FR.rf) (FR.sub fa3.1 (by first | exact (fun _ h9 => h9) | decide | (intro c9 h9; simp only [List.mem_cons, List.not_mem_nil, or_false] at h9 ⊢; omega) | (intro c9 h9; simp only [List.mem_cons, List.not_mem_nil, or_false] at h9; exact cA_mem (by omega)) | (intro c9 h9; simp only [List.mem_cons, List.not_mem_nil, or_false] at h9; exact cB_mem (by omega)) | exact cA_sub))) (by first | decide | (simp; done) | exact cA_mem (by omega) | exact cB_mem (by omega) | (simp only [List.mem_cons, List.not_mem_nil, or_false]; omega)) na4) (by first | decide | (simp; done) | exact cA_mem (by omega) | exact cB_mem (by omega) | (simp only [List.mem_cons, List.not_mem_nil, or_false]; omega)) na5) (by first | decide | (simp; done) | exact cA_mem (by omega) | exact cB_mem (by omega) | (simp only [List.mem_cons, List.not_mem_nil, or_false]; omega)) na6) (by first | decide | (simp; done) | exact cA_mem (by omega) | exact cB_mem (by omega) | (simp only [List.mem_cons, List.not_mem_nil, or_false]; omega)) na7) (by first | decide | (simp; done) | exact cA_mem (by omega) | exact cB_mem (by omega) | (simp only [List.mem_cons, List.not_mem_nil, or_false]; omega)) ea8) (by first | decide | (simp; done) | exact cA_mem (by omega) | exact cB_mem (by omega) | (simp only [List.mem_cons, List.not_mem_nil, or_false]; omega)) ea9, fun j h7 h8 h9 => by rw [ea9, mU_slot h9, ea8, mU_slot h8, na7 s (by omega), na6 s (by omega), na5 s (by omega), na4 s (by omega), fa3.2 j h7]⟩, rfl⟩
set_option maxHeartbeats 2000000 in
set_option maxRecDepth 4000 in
theorem y_X12_mark {d : Nat} (a : Nat → Nat → Int32) (b : Nat → Nat → Int64) (v : Nat → Option Nat) (i : Int32) (j : Int32)  : f_pc mtC d 125 [.inr (.inr (some 0)), .inl i, .inl j] (cH a b v) (fun v9 h' => ∃ (a' : Nat → Nat → Int32), h' = cH a' b v ∧ (FR cB a a' ∧ True) ∧ ∃ x : Int32, v9 = some (.inl x) ∧ (MRK i j x (mrC a) (mrC a'))) := by
  refine f_pc_of rfl (fun d0 fu hd => ?_)
  show f_pq _ _ (0, [some (.inr (.inr (some 0))), some (.inl i), some (.inl j)], [], cH a b v) _
  have l0 : (0 : Int32).toInt = 0 := rfl
  have l1 : (1 : Int32).toInt = 1 := rfl
  have l4 : (4 : Int32).toInt = 4 := rfl
  refine qw_iload rfl rfl ?_
  refine qw_if_lt rfl (fun c1 => ?_) (fun c1 => ?_)
  · skip
    refine qw_const rfl ?_
    exact qwp_iret (z := true) rfl (fun _ => by first | exact Or.inl rfl | exact Or.inr rfl | (rcases (by omega : (0 : Int32).toInt = 0 ∨ (0 : Int32).toInt = 1) with h8 | h8; exact Or.inl (ti_eq h8); exact Or.inr (ti_eq h8))) ⟨a, rfl, ⟨FR.rf, trivial⟩, ⟨_, rfl, Or.inr ⟨rfl, fun h => by (obtain ⟨h1, h2⟩ := h; have h2 : j.toInt = 0 ∨ ¬ (a (206 + 8 * i.toInt.toNat) 10).toInt = 0 := h2; omega), KPM.rf⟩⟩⟩
  · skip
    refine qw_iload rfl rfl ?_
    refine qw_const rfl ?_
    refine qw_ic_ge rfl (fun c2 => ?_) (fun c2 => ?_)
    · skip
      refine qw_const rfl ?_
      exact qwp_iret (z := true) rfl (fun _ => by first | exact Or.inl rfl | exact Or.inr rfl | (rcases (by omega : (0 : Int32).toInt = 0 ∨ (0 : Int32).toInt = 1) with h8 | h8; exact Or.inl (ti_eq h8); exact Or.inr (ti_eq h8))) ⟨a, rfl, ⟨FR.rf, trivial⟩, ⟨_, rfl, Or.inr ⟨rfl, fun h => by (obtain ⟨h1, h2⟩ := h; have h2 : j.toInt = 0 ∨ ¬ (a (206 + 8 * i.toInt.toNat) 10).toInt = 0 := h2; omega), KPM.rf⟩⟩⟩
    · skip
      refine qw_iload rfl rfl ?_
      refine qw_if_eq rfl (fun c3 => ?_) (fun c3 => ?_)
      · skip
        refine qw_iload rfl rfl ?_
        refine qw_if_eq rfl (fun c4 => ?_) (fun c4 => ?_)
        · skip
          refine qw_aload rfl rfl ?_
          refine qc_getR (t := some 18) rfl rfl rfl rfl rfl ?_
          refine qw_iload rfl rfl ?_
          refine qc_aald4 (t := some (206 + 8 * i.toInt.toNat)) rfl rfl rfl (fun jr65 => ?_)
          refine qw_aload rfl rfl ?_
          refine qc_getR (t := some 70) rfl rfl rfl rfl rfl ?_
          refine qw_invV (rest := []) rfl rfl (sh_sta (by omega)) rfl rfl (Nat.le_of_ble_eq_true rfl) rfl (y_X9_takeAll (d := d0) a b v  (206 + 8 * i.toInt.toNat) 70 (by omega) (by omega)) (fun z5 h9 hq6 => ?_)
          obtain ⟨a7, rfl, fa7, rfl⟩ := hq6
          show f_pq _ _ (73, [some (.inr (.inr (some 0))), some (.inl i), some (.inl j)], [], cH a7 b v) _
          refine qw_aload rfl rfl ?_
          refine qc_getR (t := some 18) rfl rfl rfl rfl rfl ?_
          refine qw_iload rfl rfl ?_
          refine qc_aald4 (t := some (206 + 8 * i.toInt.toNat)) rfl rfl rfl (fun jr78 => ?_)
          refine qw_const rfl ?_
          refine qc_putI (z := true) rfl (sh_sta (by omega)) rfl rfl (by first | (intro h9; cases h9; done) | (intro _; first | exact Or.inl rfl | exact Or.inr rfl | assumption | (rcases (by omega : (1 : Int32).toInt = 0 ∨ (1 : Int32).toInt = 1) with h8 | h8; exact Or.inl (ti_eq h8); exact Or.inr (ti_eq h8)))) (fun a8 ea8 => ?_)
          have ua8 : a8 (206 + 8 * i.toInt.toNat) 10 = (1 : Int32) := by rw [ea8, mU_same]
          have wa8 := congrArg Int32.toInt ua8
          refine qw_const rfl ?_
          exact qwp_iret (z := true) rfl (fun _ => by first | exact Or.inl rfl | exact Or.inr rfl | (rcases (by omega : (1 : Int32).toInt = 0 ∨ (1 : Int32).toInt = 1) with h8 | h8; exact Or.inl (ti_eq h8); exact Or.inr (ti_eq h8))) ⟨a8, rfl, ⟨FR.up (FR.tr (FR.rf) (FR.sub fa7.1 (by first | exact (fun _ h9 => h9) | decide | (intro c9 h9; simp only [List.mem_cons, List.not_mem_nil, or_false] at h9 ⊢; omega) | (intro c9 h9; simp only [List.mem_cons, List.not_mem_nil, or_false] at h9; exact cA_mem (by omega)) | (intro c9 h9; simp only [List.mem_cons, List.not_mem_nil, or_false] at h9; exact cB_mem (by omega)) | exact cA_sub))) (by first | decide | (simp; done) | exact cA_mem (by omega) | exact cB_mem (by omega) | (simp only [List.mem_cons, List.not_mem_nil, or_false]; omega)) ea8, trivial⟩, ⟨_, rfl, Or.inl ⟨rfl, ⟨by omega, by omega⟩, (show ¬ (a8 (206 + 8 * i.toInt.toNat) 10).toInt = 0 from by rw [ea8, mU_same]; decide), fun m hm hn => (show a8 (206 + 8 * m) 10 = a (206 + 8 * m) 10 from by rw [ea8, mU_cell (by omega), fa7.1 (206 + 8 * m) (by simp only [List.mem_cons, List.not_mem_nil, or_false, not_or]; omega)])⟩⟩⟩
        · skip
          refine qw_aload rfl rfl ?_
          refine qc_getR (t := some 70) rfl rfl rfl rfl rfl ?_
          refine qw_aload rfl rfl ?_
          refine qc_getR (t := some 18) rfl rfl rfl rfl rfl ?_
          refine qw_iload rfl rfl ?_
          refine qc_aald4 (t := some (206 + 8 * i.toInt.toNat)) rfl rfl rfl (fun jr40 => ?_)
          refine qw_invV (rest := []) rfl rfl rfl rfl rfl (Nat.le_of_ble_eq_true rfl) rfl (y_X9_takeAll (d := d0) a b v  70 (206 + 8 * i.toInt.toNat) (by omega) (by omega)) (fun z9 h9 hq10 => ?_)
          obtain ⟨a11, rfl, fa11, rfl⟩ := hq10
          show f_pq _ _ (44, [some (.inr (.inr (some 0))), some (.inl i), some (.inl j)], [], cH a11 b v) _
          refine qw_aload rfl rfl ?_
          refine qw_const rfl ?_
          refine qc_putI (z := false) rfl rfl rfl rfl (by first | (intro h9; cases h9; done) | (intro _; first | exact Or.inl rfl | exact Or.inr rfl | assumption | (rcases (by omega : (0 : Int32).toInt = 0 ∨ (0 : Int32).toInt = 1) with h8 | h8; exact Or.inl (ti_eq h8); exact Or.inr (ti_eq h8)))) (fun a12 ea12 => ?_)
          have ua12 : a12 0 15 = (0 : Int32) := by rw [ea12, mU_same]
          have wa12 := congrArg Int32.toInt ua12
          refine qw_aload rfl rfl ?_
          refine qc_getR (t := some 14) rfl rfl rfl rfl rfl ?_
          refine qw_const rfl ?_
          refine qc_putI (z := true) rfl rfl rfl rfl (by first | (intro h9; cases h9; done) | (intro _; first | exact Or.inl rfl | exact Or.inr rfl | assumption | (rcases (by omega : (0 : Int32).toInt = 0 ∨ (0 : Int32).toInt = 1) with h8 | h8; exact Or.inl (ti_eq h8); exact Or.inr (ti_eq h8)))) (fun a13 ea13 => ?_)
          have ua13 : a13 14 3 = (0 : Int32) := by rw [ea13, mU_same]
          have wa13 := congrArg Int32.toInt ua13
          have K9 : ∀ m, m < 4 → a13 (206 + 8 * m) 10 = a (206 + 8 * m) 10 := fun m hm => by rw [ea13, mU_cell (by omega), ea12, mU_cell (by omega), fa11.1 (206 + 8 * m) (by simp only [List.mem_cons, List.not_mem_nil, or_false, not_or]; omega)]
          refine qw_goto rfl ?_
          refine qw_const rfl ?_
          exact qwp_iret (z := true) rfl (fun _ => by first | exact Or.inl rfl | exact Or.inr rfl | (rcases (by omega : (1 : Int32).toInt = 0 ∨ (1 : Int32).toInt = 1) with h8 | h8; exact Or.inl (ti_eq h8); exact Or.inr (ti_eq h8))) ⟨a13, rfl, ⟨FR.up (FR.up (FR.tr (FR.rf) (FR.sub fa11.1 (by first | exact (fun _ h9 => h9) | decide | (intro c9 h9; simp only [List.mem_cons, List.not_mem_nil, or_false] at h9 ⊢; omega) | (intro c9 h9; simp only [List.mem_cons, List.not_mem_nil, or_false] at h9; exact cA_mem (by omega)) | (intro c9 h9; simp only [List.mem_cons, List.not_mem_nil, or_false] at h9; exact cB_mem (by omega)) | exact cA_sub))) (by first | decide | (simp; done) | exact cA_mem (by omega) | exact cB_mem (by omega) | (simp only [List.mem_cons, List.not_mem_nil, or_false]; omega)) ea12) (by first | decide | (simp; done) | exact cA_mem (by omega) | exact cB_mem (by omega) | (simp only [List.mem_cons, List.not_mem_nil, or_false]; omega)) ea13, trivial⟩, ⟨_, rfl, Or.inl ⟨rfl, ⟨by omega, Or.inr (by omega)⟩, (show ¬ (a13 (206 + 8 * i.toInt.toNat) 10).toInt = 0 from by rw [K9 i.toInt.toNat (by omega)]; omega), fun m hm _ => K9 m hm⟩⟩⟩
      · skip
        refine qw_aload rfl rfl ?_
        refine qc_getR (t := some 18) rfl rfl rfl rfl rfl ?_
        refine qw_iload rfl rfl ?_
        refine qc_aald4 (t := some (206 + 8 * i.toInt.toNat)) rfl rfl rfl (fun jr18 => ?_)
        refine qc_getI rfl (sh_sta (by omega)) rfl rfl ?_
        refine qw_if_ne rfl (fun c14 => ?_) (fun c14 => ?_)
        · skip
          refine qw_const rfl ?_
          exact qwp_iret (z := true) rfl (fun _ => by first | exact Or.inl rfl | exact Or.inr rfl | (rcases (by omega : (0 : Int32).toInt = 0 ∨ (0 : Int32).toInt = 1) with h8 | h8; exact Or.inl (ti_eq h8); exact Or.inr (ti_eq h8))) ⟨a, rfl, ⟨FR.rf, trivial⟩, ⟨_, rfl, Or.inr ⟨rfl, fun h => by (obtain ⟨h1, h2⟩ := h; have h2 : j.toInt = 0 ∨ ¬ (a (206 + 8 * i.toInt.toNat) 10).toInt = 0 := h2; omega), KPM.rf⟩⟩⟩
        · skip
          refine qw_iload rfl rfl ?_
          refine qw_if_eq rfl (fun c15 => ?_) (fun c15 => ?_)
          · skip
            refine qw_aload rfl rfl ?_
            refine qc_getR (t := some 18) rfl rfl rfl rfl rfl ?_
            refine qw_iload rfl rfl ?_
            refine qc_aald4 (t := some (206 + 8 * i.toInt.toNat)) rfl rfl rfl (fun jr65 => ?_)
            refine qw_aload rfl rfl ?_
            refine qc_getR (t := some 70) rfl rfl rfl rfl rfl ?_
            refine qw_invV (rest := []) rfl rfl (sh_sta (by omega)) rfl rfl (Nat.le_of_ble_eq_true rfl) rfl (y_X9_takeAll (d := d0) a b v  (206 + 8 * i.toInt.toNat) 70 (by omega) (by omega)) (fun z16 h9 hq17 => ?_)
            obtain ⟨a18, rfl, fa18, rfl⟩ := hq17
            show f_pq _ _ (73, [some (.inr (.inr (some 0))), some (.inl i), some (.inl j)], [], cH a18 b v) _
            refine qw_aload rfl rfl ?_
            refine qc_getR (t := some 18) rfl rfl rfl rfl rfl ?_
            refine qw_iload rfl rfl ?_
            refine qc_aald4 (t := some (206 + 8 * i.toInt.toNat)) rfl rfl rfl (fun jr78 => ?_)
            refine qw_const rfl ?_
            refine qc_putI (z := true) rfl (sh_sta (by omega)) rfl rfl (by first | (intro h9; cases h9; done) | (intro _; first | exact Or.inl rfl | exact Or.inr rfl | assumption | (rcases (by omega : (1 : Int32).toInt = 0 ∨ (1 : Int32).toInt = 1) with h8 | h8; exact Or.inl (ti_eq h8); exact Or.inr (ti_eq h8)))) (fun a19 ea19 => ?_)
            have ua19 : a19 (206 + 8 * i.toInt.toNat) 10 = (1 : Int32) := by rw [ea19, mU_same]
            have wa19 := congrArg Int32.toInt ua19
            refine qw_const rfl ?_
            exact qwp_iret (z := true) rfl (fun _ => by first | exact Or.inl rfl | exact Or.inr rfl | (rcases (by omega : (1 : Int32).toInt = 0 ∨ (1 : Int32).toInt = 1) with h8 | h8; exact Or.inl (ti_eq h8); exact Or.inr (ti_eq h8))) ⟨a19, rfl, ⟨FR.up (FR.tr (FR.rf) (FR.sub fa18.1 (by first | exact (fun _ h9 => h9) | decide | (intro c9 h9; simp only [List.mem_cons, List.not_mem_nil, or_false] at h9 ⊢; omega) | (intro c9 h9; simp only [List.mem_cons, List.not_mem_nil, or_false] at h9; exact cA_mem (by omega)) | (intro c9 h9; simp only [List.mem_cons, List.not_mem_nil, or_false] at h9; exact cB_mem (by omega)) | exact cA_sub))) (by first | decide | (simp; done) | exact cA_mem (by omega) | exact cB_mem (by omega) | (simp only [List.mem_cons, List.not_mem_nil, or_false]; omega)) ea19, trivial⟩, ⟨_, rfl, Or.inl ⟨rfl, ⟨by omega, by omega⟩, (show ¬ (a19 (206 + 8 * i.toInt.toNat) 10).toInt = 0 from by rw [ea19, mU_same]; decide), fun m hm hn => (show a19 (206 + 8 * m) 10 = a (206 + 8 * m) 10 from by rw [ea19, mU_cell (by omega), fa18.1 (206 + 8 * m) (by simp only [List.mem_cons, List.not_mem_nil, or_false, not_or]; omega)])⟩⟩⟩
          · skip
            refine qw_aload rfl rfl ?_
            refine qc_getR (t := some 70) rfl rfl rfl rfl rfl ?_
            refine qw_aload rfl rfl ?_
            refine qc_getR (t := some 18) rfl rfl rfl rfl rfl ?_
            refine qw_iload rfl rfl ?_
            refine qc_aald4 (t := some (206 + 8 * i.toInt.toNat)) rfl rfl rfl (fun jr40 => ?_)
            refine qw_invV (rest := []) rfl rfl rfl rfl rfl (Nat.le_of_ble_eq_true rfl) rfl (y_X9_takeAll (d := d0) a b v  70 (206 + 8 * i.toInt.toNat) (by omega) (by omega)) (fun z20 h9 hq21 => ?_)
            obtain ⟨a22, rfl, fa22, rfl⟩ := hq21
            show f_pq _ _ (44, [some (.inr (.inr (some 0))), some (.inl i), some (.inl j)], [], cH a22 b v) _
            refine qw_aload rfl rfl ?_
            refine qw_const rfl ?_
            refine qc_putI (z := false) rfl rfl rfl rfl (by first | (intro h9; cases h9; done) | (intro _; first | exact Or.inl rfl | exact Or.inr rfl | assumption | (rcases (by omega : (0 : Int32).toInt = 0 ∨ (0 : Int32).toInt = 1) with h8 | h8; exact Or.inl (ti_eq h8); exact Or.inr (ti_eq h8)))) (fun a23 ea23 => ?_)
            have ua23 : a23 0 15 = (0 : Int32) := by rw [ea23, mU_same]
            have wa23 := congrArg Int32.toInt ua23
            refine qw_aload rfl rfl ?_
            refine qc_getR (t := some 14) rfl rfl rfl rfl rfl ?_
            refine qw_const rfl ?_
            refine qc_putI (z := true) rfl rfl rfl rfl (by first | (intro h9; cases h9; done) | (intro _; first | exact Or.inl rfl | exact Or.inr rfl | assumption | (rcases (by omega : (0 : Int32).toInt = 0 ∨ (0 : Int32).toInt = 1) with h8 | h8; exact Or.inl (ti_eq h8); exact Or.inr (ti_eq h8)))) (fun a24 ea24 => ?_)
            have ua24 : a24 14 3 = (0 : Int32) := by rw [ea24, mU_same]
            have wa24 := congrArg Int32.toInt ua24
            have K9 : ∀ m, m < 4 → a24 (206 + 8 * m) 10 = a (206 + 8 * m) 10 := fun m hm => by rw [ea24, mU_cell (by omega), ea23, mU_cell (by omega), fa22.1 (206 + 8 * m) (by simp only [List.mem_cons, List.not_mem_nil, or_false, not_or]; omega)]
            refine qw_goto rfl ?_
            refine qw_const rfl ?_
            exact qwp_iret (z := true) rfl (fun _ => by first | exact Or.inl rfl | exact Or.inr rfl | (rcases (by omega : (1 : Int32).toInt = 0 ∨ (1 : Int32).toInt = 1) with h8 | h8; exact Or.inl (ti_eq h8); exact Or.inr (ti_eq h8))) ⟨a24, rfl, ⟨FR.up (FR.up (FR.tr (FR.rf) (FR.sub fa22.1 (by first | exact (fun _ h9 => h9) | decide | (intro c9 h9; simp only [List.mem_cons, List.not_mem_nil, or_false] at h9 ⊢; omega) | (intro c9 h9; simp only [List.mem_cons, List.not_mem_nil, or_false] at h9; exact cA_mem (by omega)) | (intro c9 h9; simp only [List.mem_cons, List.not_mem_nil, or_false] at h9; exact cB_mem (by omega)) | exact cA_sub))) (by first | decide | (simp; done) | exact cA_mem (by omega) | exact cB_mem (by omega) | (simp only [List.mem_cons, List.not_mem_nil, or_false]; omega)) ea23) (by first | decide | (simp; done) | exact cA_mem (by omega) | exact cB_mem (by omega) | (simp only [List.mem_cons, List.not_mem_nil, or_false]; omega)) ea24, trivial⟩, ⟨_, rfl, Or.inl ⟨rfl, ⟨by omega, Or.inr (by omega)⟩, (show ¬ (a24 (206 + 8 * i.toInt.toNat) 10).toInt = 0 from by rw [K9 i.toInt.toNat (by omega)]; omega), fun m hm _ => K9 m hm⟩⟩⟩
