set_option maxRecDepth 4000 in
theorem y_X9_clear {d : Nat} (a : Nat → Nat → Int32) (b : Nat → Nat → Int64) (v : Nat → Option Nat) (s : Nat) (hS : 70 ≤ s ∧ s < 238 ∧ s % 8 = 6) : f_pc mtC d 91 [.inr (.inr (some s))] (cH a b v) (fun v9 h' => ∃ (a' : Nat → Nat → Int32), h' = cH a' b v ∧ (FR [s, s + 1, s + 2, s + 3] a a' ∧ ((a' s 7).toInt = 0 ∧ (a' s 9).toInt = 0)) ∧ v9 = none) := by
  refine f_pc_of rfl (fun d0 fu hd => ?_)
  show f_pq _ _ (0, [some (.inr (.inr (some s))), none], [], cH a b v) _
  have lm1 : (-1 : Int32).toInt = -1 := rfl
  have l0 : (0 : Int32).toInt = 0 := rfl
  have l1 : (1 : Int32).toInt = 1 := rfl
  have l6 : (6 : Int32).toInt = 6 := rfl
  refine qw_const rfl ?_
  refine qw_istore (lo' := [some (.inr (.inr (some s))), some (.inl 0)]) rfl rfl ?_
  have loop2 : ∀ (fu2 : Nat) (r : Int32) (a2 : Nat → Nat → Int32) ,  FR [s, s + 1, s + 2, s + 3] a a2 →  f_pq (f_code (t_X9_clear (f_ev mtC d0))) fu2 (2, [some (.inr (.inr (some s))), some (.inl r)], [], cH a2 b v) (fun v9 h' => ∃ (a' : Nat → Nat → Int32), h' = cH a' b v ∧ (FR [s, s + 1, s + 2, s + 3] a a' ∧ ((a' s 7).toInt = 0 ∧ (a' s 9).toInt = 0)) ∧ v9 = none) := by
    intro fu2
    induction fu2 with
    | zero => intros; exact pq_0
    | succ fu2 ih2 =>
      intro r a2  hF2 
      refine qw_iload rfl rfl ?_
      refine qw_const rfl ?_
      refine qw_ic_ge rfl (fun c1 => ?_) (fun c1 => ?_)
      · skip
        refine qw_aload rfl rfl ?_
        refine qw_const rfl ?_
        refine qc_putI (z := false) rfl (sh_sta (by omega)) rfl rfl (by first | (intro h9; cases h9; done) | (intro _; first | exact Or.inl rfl | exact Or.inr rfl | assumption | (rcases (by omega : (0 : Int32).toInt = 0 ∨ (0 : Int32).toInt = 1) with h8 | h8; exact Or.inl (ti_eq h8); exact Or.inr (ti_eq h8)))) (fun a2 ea2 => ?_)
        have ua2 : a2 s 7 = (0 : Int32) := by rw [ea2, mU_same]
        have wa2 := congrArg Int32.toInt ua2
        refine qw_aload rfl rfl ?_
        refine qw_const rfl ?_
        refine qc_putI (z := false) rfl (sh_sta (by omega)) rfl rfl (by first | (intro h9; cases h9; done) | (intro _; first | exact Or.inl rfl | exact Or.inr rfl | assumption | (rcases (by omega : ((-1) : Int32).toInt = 0 ∨ ((-1) : Int32).toInt = 1) with h8 | h8; exact Or.inl (ti_eq h8); exact Or.inr (ti_eq h8)))) (fun a3 ea3 => ?_)
        have ua3 : a3 s 8 = ((-1) : Int32) := by rw [ea3, mU_same]
        have wa3 := congrArg Int32.toInt ua3
        refine qw_aload rfl rfl ?_
        refine qw_const rfl ?_
        refine qc_putI (z := false) rfl (sh_sta (by omega)) rfl rfl (by first | (intro h9; cases h9; done) | (intro _; first | exact Or.inl rfl | exact Or.inr rfl | assumption | (rcases (by omega : (0 : Int32).toInt = 0 ∨ (0 : Int32).toInt = 1) with h8 | h8; exact Or.inl (ti_eq h8); exact Or.inr (ti_eq h8)))) (fun a4 ea4 => ?_)
        have ua4 : a4 s 9 = (0 : Int32) := by rw [ea4, mU_same]
        have wa4 := congrArg Int32.toInt ua4
        exact qw_ret rfl ⟨a4, rfl, ⟨FR.up (FR.up (FR.up (hF2) (by first | decide | (simp; done) | exact cA_mem (by omega) | exact cB_mem (by omega) | (simp only [List.mem_cons, List.not_mem_nil, or_false]; omega)) ea2) (by first | decide | (simp; done) | exact cA_mem (by omega) | exact cB_mem (by omega) | (simp only [List.mem_cons, List.not_mem_nil, or_false]; omega)) ea3) (by first | decide | (simp; done) | exact cA_mem (by omega) | exact cB_mem (by omega) | (simp only [List.mem_cons, List.not_mem_nil, or_false]; omega)) ea4, ⟨by rw [ea4, mU_slot (by decide), ea3, mU_slot (by decide), ea2, mU_same]; rfl, by rw [ea4, mU_same]; rfl⟩⟩, rfl⟩
      · skip
        refine qw_aload rfl rfl ?_
        refine qc_getR (t := some (s + 1)) rfl (sh_sta (by omega)) rfl rfl (rC_sta0 (by omega)) ?_
        refine qw_iload rfl rfl ?_
        refine qw_const rfl ?_
        refine qc_iast rfl (sh_sa6 (by omega)) (fun ja5 a5 ea5 => ?_)
        refine qw_aload rfl rfl ?_
        refine qc_getR (t := some (s + 2)) rfl (sh_sta (by omega)) rfl rfl (rC_sta1 (by omega)) ?_
        refine qw_iload rfl rfl ?_
        refine qw_const rfl ?_
        refine qc_iast rfl (sh_sa6 (by omega)) (fun ja6 a6 ea6 => ?_)
        refine qw_aload rfl rfl ?_
        refine qc_getR (t := some (s + 3)) rfl (sh_sta (by omega)) rfl rfl (rC_sta2 (by omega)) ?_
        refine qw_iload rfl rfl ?_
        refine qw_const rfl ?_
        refine qc_iast rfl (sh_sa6 (by omega)) (fun ja7 a7 ea7 => ?_)
        refine qw_iinc (lo' := fun z9 => [some (.inr (.inr (some s))), some (.inl z9)]) rfl rfl (fun _ => rfl) (by omega) (fun x8 tx8 => ?_)
        exact qw_gotoD rfl (ih2 x8 a7 (FR.up (FR.up (FR.up (hF2) (by first | decide | (simp; done) | exact cA_mem (by omega) | exact cB_mem (by omega) | (simp only [List.mem_cons, List.not_mem_nil, or_false]; omega)) ea5) (by first | decide | (simp; done) | exact cA_mem (by omega) | exact cB_mem (by omega) | (simp only [List.mem_cons, List.not_mem_nil, or_false]; omega)) ea6) (by first | decide | (simp; done) | exact cA_mem (by omega) | exact cB_mem (by omega) | (simp only [List.mem_cons, List.not_mem_nil, or_false]; omega)) ea7) )
  exact loop2 _ 0 a (FR.rf) 
set_option maxRecDepth 4000 in
theorem y_X8_empty {d : Nat} (a : Nat → Nat → Int32) (b : Nat → Nat → Int64) (v : Nat → Option Nat)   : f_pc mtC d 82 [.inr (.inr (some 1))] (cH a b v) (fun v9 h' => ∃ (a' : Nat → Nat → Int32), h' = cH a' b v ∧ (FR [1] a a' ∧ ((a' 1 6).toInt = 0)) ∧ v9 = none) := by
  refine f_pc_of rfl (fun d0 fu hd => ?_)
  show f_pq _ _ (0, [some (.inr (.inr (some 1)))], [], cH a b v) _
  have l0 : (0 : Int32).toInt = 0 := rfl
  refine qw_aload rfl rfl ?_
  refine qw_const rfl ?_
  refine qc_putI (z := false) rfl rfl rfl rfl (by first | (intro h9; cases h9; done) | (intro _; first | exact Or.inl rfl | exact Or.inr rfl | assumption | (rcases (by omega : (0 : Int32).toInt = 0 ∨ (0 : Int32).toInt = 1) with h8 | h8; exact Or.inl (ti_eq h8); exact Or.inr (ti_eq h8)))) (fun a1 ea1 => ?_)
  have ua1 : a1 1 6 = (0 : Int32) := by rw [ea1, mU_same]
  have wa1 := congrArg Int32.toInt ua1
  exact qw_ret rfl ⟨a1, rfl, ⟨FR.up (FR.rf) (by first | decide | (simp; done) | exact cA_mem (by omega) | exact cB_mem (by omega) | (simp only [List.mem_cons, List.not_mem_nil, or_false]; omega)) ea1, by rw [ea1, mU_same]; rfl⟩, rfl⟩
set_option maxRecDepth 4000 in
theorem y_X12_beginAnew {d : Nat} (a : Nat → Nat → Int32) (b : Nat → Nat → Int64) (v : Nat → Option Nat)   : f_pc mtC d 100 [.inr (.inr (some 0))] (cH a b v) (fun v9 h' => ∃ (a' : Nat → Nat → Int32), h' = cH a' b v ∧ (FR [0, 12, 14, 70, 71, 72, 73, 206, 214, 222, 230] a a' ∧ ((∀ m, m < 4 → (a' (206 + 8 * m) 10).toInt = 0) ∧ (a' 70 7).toInt = 0 ∧ (a' 70 9).toInt = 0 ∧ (a' 0 13).toInt = 0 ∧ (a' 0 15).toInt = 0)) ∧ v9 = none) := by
  refine f_pc_of rfl (fun d0 fu hd => ?_)
  show f_pq _ _ (0, [some (.inr (.inr (some 0))), none], [], cH a b v) _
  have l0 : (0 : Int32).toInt = 0 := rfl
  have l1 : (1 : Int32).toInt = 1 := rfl
  have l4 : (4 : Int32).toInt = 4 := rfl
  have l6 : (6 : Int32).toInt = 6 := rfl
  have l8 : (8 : Int32).toInt = 8 := rfl
  have l16 : (16 : Int32).toInt = 16 := rfl
  have l31 : (31 : Int32).toInt = 31 := rfl
  have l384 : (384 : Int32).toInt = 384 := rfl
  have l1000 : (1000 : Int32).toInt = 1000 := rfl
  refine qw_aload rfl rfl ?_
  refine qc_getR (t := some 70) rfl rfl rfl rfl rfl ?_
  refine qw_invV (rest := []) rfl rfl rfl rfl rfl (Nat.le_of_ble_eq_true rfl) rfl (y_X9_clear (d := d0) a b v  70 (by omega)) (fun z1 h9 hq2 => ?_)
  obtain ⟨a3, rfl, fa3, rfl⟩ := hq2
  show f_pq _ _ (7, [some (.inr (.inr (some 0))), none], [], cH a3 b v) _
  have E8 := fa3.2
  refine qw_const rfl ?_
  refine qw_istore (lo' := [some (.inr (.inr (some 0))), some (.inl 0)]) rfl rfl ?_
  have loop9 : ∀ (fu9 : Nat) (m : Int32) (a9 : Nat → Nat → Int32) ,  FR [0, 12, 14, 70, 71, 72, 73, 206, 214, 222, 230] a a9 → (0 ≤ m.toInt ∧ m.toInt ≤ 4) → (∀ i, i < m.toInt.toNat → (a9 (206 + 8 * i) 10).toInt = 0) → ((a9 70 7).toInt = 0 ∧ (a9 70 9).toInt = 0) → f_pq (f_code (t_X12_beginAnew (f_ev mtC d0))) fu9 (9, [some (.inr (.inr (some 0))), some (.inl m)], [], cH a9 b v) (fun v9 h' => ∃ (a' : Nat → Nat → Int32), h' = cH a' b v ∧ (FR [0, 12, 14, 70, 71, 72, 73, 206, 214, 222, 230] a a' ∧ ((∀ m, m < 4 → (a' (206 + 8 * m) 10).toInt = 0) ∧ (a' 70 7).toInt = 0 ∧ (a' 70 9).toInt = 0 ∧ (a' 0 13).toInt = 0 ∧ (a' 0 15).toInt = 0)) ∧ v9 = none) := by
    intro fu9
    induction fu9 with
    | zero => intros; exact pq_0
    | succ fu9 ih9 =>
      intro m a9  hF9 hm hM h7
      refine qw_iload rfl rfl ?_
      refine qw_aload rfl rfl ?_
      refine qc_getR (t := some 18) rfl rfl rfl rfl rfl ?_
      refine qc_alen (N := 4) rfl rfl (by decide) ?_
      show f_pq _ _ (15, [some (.inr (.inr (some 0))), some (.inl m)], .inl 4 :: [.inl m], cH a9 b v) _
      refine qw_ic_ge rfl (fun c4 => ?_) (fun c4 => ?_)
      · skip
        refine qw_aload rfl rfl ?_
        refine qw_const rfl ?_
        refine qc_putI (z := false) rfl rfl rfl rfl (by first | (intro h9; cases h9; done) | (intro _; first | exact Or.inl rfl | exact Or.inr rfl | assumption | (rcases (by omega : (0 : Int32).toInt = 0 ∨ (0 : Int32).toInt = 1) with h8 | h8; exact Or.inl (ti_eq h8); exact Or.inr (ti_eq h8)))) (fun a5 ea5 => ?_)
        have ua5 : a5 0 13 = (0 : Int32) := by rw [ea5, mU_same]
        have wa5 := congrArg Int32.toInt ua5
        refine qw_aload rfl rfl ?_
        refine qw_const rfl ?_
        refine qc_putI (z := false) rfl rfl rfl rfl (by first | (intro h9; cases h9; done) | (intro _; first | exact Or.inl rfl | exact Or.inr rfl | assumption | (rcases (by omega : (0 : Int32).toInt = 0 ∨ (0 : Int32).toInt = 1) with h8 | h8; exact Or.inl (ti_eq h8); exact Or.inr (ti_eq h8)))) (fun a6 ea6 => ?_)
        have ua6 : a6 0 15 = (0 : Int32) := by rw [ea6, mU_same]
        have wa6 := congrArg Int32.toInt ua6
        refine qw_aload rfl rfl ?_
        refine qc_getR (t := some 12) rfl rfl rfl rfl rfl ?_
        refine qw_const rfl ?_
        refine qc_putI (z := true) rfl rfl rfl rfl (by first | (intro h9; cases h9; done) | (intro _; first | exact Or.inl rfl | exact Or.inr rfl | assumption | (rcases (by omega : (0 : Int32).toInt = 0 ∨ (0 : Int32).toInt = 1) with h8 | h8; exact Or.inl (ti_eq h8); exact Or.inr (ti_eq h8)))) (fun a7 ea7 => ?_)
        have ua7 : a7 12 3 = (0 : Int32) := by rw [ea7, mU_same]
        have wa7 := congrArg Int32.toInt ua7
        refine qw_aload rfl rfl ?_
        refine qc_getR (t := some 14) rfl rfl rfl rfl rfl ?_
        refine qw_const rfl ?_
        refine qc_putI (z := true) rfl rfl rfl rfl (by first | (intro h9; cases h9; done) | (intro _; first | exact Or.inl rfl | exact Or.inr rfl | assumption | (rcases (by omega : (0 : Int32).toInt = 0 ∨ (0 : Int32).toInt = 1) with h8 | h8; exact Or.inl (ti_eq h8); exact Or.inr (ti_eq h8)))) (fun a8 ea8 => ?_)
        have ua8 : a8 14 3 = (0 : Int32) := by rw [ea8, mU_same]
        have wa8 := congrArg Int32.toInt ua8
        exact qw_ret rfl ⟨a8, rfl, ⟨FR.up (FR.up (FR.up (FR.up (hF9) (by first | decide | (simp; done) | exact cA_mem (by omega) | exact cB_mem (by omega) | (simp only [List.mem_cons, List.not_mem_nil, or_false]; omega)) ea5) (by first | decide | (simp; done) | exact cA_mem (by omega) | exact cB_mem (by omega) | (simp only [List.mem_cons, List.not_mem_nil, or_false]; omega)) ea6) (by first | decide | (simp; done) | exact cA_mem (by omega) | exact cB_mem (by omega) | (simp only [List.mem_cons, List.not_mem_nil, or_false]; omega)) ea7) (by first | decide | (simp; done) | exact cA_mem (by omega) | exact cB_mem (by omega) | (simp only [List.mem_cons, List.not_mem_nil, or_false]; omega)) ea8, ⟨fun m hm => by rw [ea8, mU_cell (by omega), ea7, mU_cell (by omega), ea6, mU_cell (by omega), ea5, mU_cell (by omega)]; exact hM m (by omega), by rw [ea8, mU_cell (by decide), ea7, mU_cell (by decide), ea6, mU_cell (by decide), ea5, mU_cell (by decide)]; exact h7.1, by rw [ea8, mU_cell (by decide), ea7, mU_cell (by decide), ea6, mU_cell (by decide), ea5, mU_cell (by decide)]; exact h7.2, by rw [ea8, mU_cell (by decide), ea7, mU_cell (by decide), ea6, mU_slot (by decide), ea5, mU_same]; rfl, by rw [ea8, mU_cell (by decide), ea7, mU_cell (by decide), ea6, mU_same]; rfl⟩⟩, rfl⟩
      · skip
        refine qw_aload rfl rfl ?_
        refine qc_getR (t := some 18) rfl rfl rfl rfl rfl ?_
        refine qw_iload rfl rfl ?_
        refine qc_aald4 (t := some (206 + 8 * m.toInt.toNat)) rfl rfl rfl (fun jr23 => ?_)
        refine qw_const rfl ?_
        refine qc_putI (z := true) rfl (sh_sta (by omega)) rfl rfl (by first | (intro h9; cases h9; done) | (intro _; first | exact Or.inl rfl | exact Or.inr rfl | assumption | (rcases (by omega : (0 : Int32).toInt = 0 ∨ (0 : Int32).toInt = 1) with h8 | h8; exact Or.inl (ti_eq h8); exact Or.inr (ti_eq h8)))) (fun a9 ea9 => ?_)
        have ua9 : a9 (206 + 8 * m.toInt.toNat) 10 = (0 : Int32) := by rw [ea9, mU_same]
        have wa9 := congrArg Int32.toInt ua9
        refine qw_iinc (lo' := fun z9 => [some (.inr (.inr (some 0))), some (.inl z9)]) rfl rfl (fun _ => rfl) (by omega) (fun x10 tx10 => ?_)
        exact qw_gotoD rfl (ih9 x10 a9 (FR.up (hF9) (by first | decide | (simp; done) | exact cA_mem (by omega) | exact cB_mem (by omega) | (simp only [List.mem_cons, List.not_mem_nil, or_false]; omega)) ea9) (by omega) (fun i hi => by rcases (by omega : i < m.toInt.toNat ∨ i = m.toInt.toNat) with h | h; (rw [ea9, mU_cell (by omega)]; exact hM i h); (rw [h, ea9, mU_same]; rfl)) (by rw [ea9, mU_cell (by omega)]; exact h7))
  exact loop9 _ 0 a3 (FR.tr (FR.rf) (FR.sub fa3.1 (by first | exact (fun _ h9 => h9) | decide | (intro c9 h9; simp only [List.mem_cons, List.not_mem_nil, or_false] at h9 ⊢; omega) | (intro c9 h9; simp only [List.mem_cons, List.not_mem_nil, or_false] at h9; exact cA_mem (by omega)) | (intro c9 h9; simp only [List.mem_cons, List.not_mem_nil, or_false] at h9; exact cB_mem (by omega)) | exact cA_sub))) (by omega) (fun i hi => absurd hi (by omega)) (E8)
def LLD (D : Nat) : List Nat := [D + 2, D + 3, D + 4, D + 5, D + 6, D + 7, D + 8, D + 9, D + 10, D + 11, D + 12, D + 13, D + 14, D + 15, D + 16, D + 17, D + 18, D + 19, D + 20, D + 21, D + 22, D + 23]
set_option maxHeartbeats 2000000 in
set_option maxRecDepth 4000 in
theorem y_X12_land {d : Nat} (a : Nat → Nat → Int32) (b : Nat → Nat → Int64) (v : Nat → Option Nat) (K : Nat) (L : Nat) (D : Nat)  (hd9 : 10 ≤ d) (hR : RC K a) (h0 : v 0 = some L) (h1 : v 1 = some D) (hL : L = 22 ∨ L = 46) (hD : D = 22 ∨ D = 46) (hLD : ¬ L = D) (hf : ∀ j : Nat, (j : Int) < (a 1 6).toInt → 0 ≤ (a 2 j).toInt ∧ (a 2 j).toInt ≤ 127) : f_pc mtC d 99 [.inr (.inr (some 0))] (cH a b v) (fun v9 h' => ∃ (a' : Nat → Nat → Int32) (b' : Nat → Nat → Int64) (v' : Nat → Option Nat), h' = cH a' b' v' ∧ (FR cB a a' ∧ ((∀ i, i ∉ [0, 1, 2, 3, 4] → v' i = v i) ∧ True) ∧ True) ∧ ∃ x : Int32, v9 = some (.inl x) ∧ ((x.toInt = 0 → v' 0 = some D ∧ v' 1 = some L ∧ (∀ m, m < 4 → (a' (206 + 8 * m) 10).toInt = 0) ∧ (a' 70 7).toInt = 0 ∧ (a' 70 9).toInt = 0 ∧ (a' 0 13).toInt = 0 ∧ (a' 0 15).toInt = 0) ∧ (¬ x.toInt = 0 → v' 0 = some L ∧ v' 1 = some D ∧ FR ([1, 3, 4, 6, D] ++ LLD D) a a') ∧ LDF (a 2) (a 1 6).toInt.toNat D x.toInt a' b')) := by
  refine f_pc_of rfl (fun d0 fu hd => ?_)
  show f_pq _ _ (0, [some (.inr (.inr (some 0))), none, none], [], cH a b v) _
  refine qw_aload rfl rfl ?_
  refine qc_getR (t := some 6) rfl rfl rfl rfl rfl ?_
  refine qw_aload rfl rfl ?_
  refine qc_getR (t := some D) rfl rfl rfl rfl h1 ?_
  refine qw_invV (rest := []) rfl rfl rfl rfl rfl (Nat.le_of_ble_eq_true rfl) rfl (y_X6_readLand (d := d0) a b v K (a 2) (a 1 6).toInt.toNat D (by omega) hR hD hf rfl rfl) (fun z1 h9 hq2 => ?_)
  obtain ⟨a3, b4, v5, rfl, fa3, x6, rfl, px6⟩ := hq2
  show f_pq _ _ (11, [some (.inr (.inr (some 0))), none, none], [.inl x6], cH a3 b4 v5) _
  have X9 := px6
  have F9 := fa3.1
  refine qw_istore (lo' := [some (.inr (.inr (some 0))), some (.inl x6), none]) rfl rfl ?_
  refine qw_aload rfl rfl ?_
  refine qc_getR (t := some 1) rfl rfl rfl rfl rfl ?_
  refine qw_invV (rest := []) rfl rfl rfl rfl rfl (Nat.le_of_ble_eq_true rfl) rfl (y_X8_empty (d := d0) a3 b4 v5   ) (fun z7 h9 hq8 => ?_)
  obtain ⟨a9, rfl, fa9, rfl⟩ := hq8
  show f_pq _ _ (19, [some (.inr (.inr (some 0))), some (.inl x6), none], [], cH a9 b4 v5) _
  have X8 : LDF (a 2) (a 1 6).toInt.toNat D x6.toInt a9 b4 := X9.same hD (fun i9 h9 => fa9.1 i9 (by simp only [List.mem_cons, List.not_mem_nil, or_false, not_or]; omega)) (fun _ _ => rfl)
  refine qw_iload rfl rfl ?_
  refine qw_if_ne rfl (fun c10 => ?_) (fun c10 => ?_)
  · skip
    refine qw_aload rfl rfl ?_
    refine qc_getR (t := some D) rfl rfl rfl rfl ((fa3.2.1.1 1 (by decide)).trans h1) ?_
    refine qw_astore (lo' := [some (.inr (.inr (some 0))), some (.inl x6), some (.inr (.inr (some D)))]) rfl rfl ?_
    refine qw_aload rfl rfl ?_
    refine qw_aload rfl rfl ?_
    refine qc_getR (t := some L) rfl rfl rfl rfl ((fa3.2.1.1 0 (by decide)).trans h0) ?_
    refine qc_putR rfl rfl rfl rfl rC_put1 (fun v11 ev11 => ?_)
    refine qw_aload rfl rfl ?_
    refine qw_aload rfl rfl ?_
    refine qc_putR rfl rfl rfl rfl rC_put0 (fun v12 ev12 => ?_)
    refine qw_aload rfl rfl ?_
    refine qw_invV (rest := []) rfl rfl rfl rfl rfl (Nat.le_of_ble_eq_true rfl) rfl (y_X12_beginAnew (d := d0) a9 b4 v12   ) (fun z13 h9 hq14 => ?_)
    obtain ⟨a15, rfl, fa15, rfl⟩ := hq14
    show f_pq _ _ (45, [some (.inr (.inr (some 0))), some (.inl x6), some (.inr (.inr (some D)))], [], cH a15 b4 v12) _
    have B9 := fa15.2
    have X7 : LDF (a 2) (a 1 6).toInt.toNat D x6.toInt a15 b4 := X8.same hD (fun i9 h9 => fa15.1 i9 (by simp only [List.mem_cons, List.not_mem_nil, or_false, not_or]; omega)) (fun _ _ => rfl)
    refine qw_iload rfl rfl ?_
    exact qwp_iret (z := false) rfl (fun h9 => by cases h9) ⟨a15, b4, v12, rfl, ⟨FR.tr (FR.tr (FR.tr (FR.rf) (FR.sub fa3.1 (by first | exact (fun _ h9 => h9) | decide | (intro c9 h9; simp only [List.mem_cons, List.not_mem_nil, or_false] at h9 ⊢; omega) | (intro c9 h9; simp only [List.mem_cons, List.not_mem_nil, or_false] at h9; exact cA_mem (by omega)) | (intro c9 h9; simp only [List.mem_cons, List.not_mem_nil, or_false] at h9; exact cB_mem (by omega)) | exact cA_sub))) (FR.sub fa9.1 (by first | exact (fun _ h9 => h9) | decide | (intro c9 h9; simp only [List.mem_cons, List.not_mem_nil, or_false] at h9 ⊢; omega) | (intro c9 h9; simp only [List.mem_cons, List.not_mem_nil, or_false] at h9; exact cA_mem (by omega)) | (intro c9 h9; simp only [List.mem_cons, List.not_mem_nil, or_false] at h9; exact cB_mem (by omega)) | exact cA_sub))) (FR.sub fa15.1 (by first | exact (fun _ h9 => h9) | decide | (intro c9 h9; simp only [List.mem_cons, List.not_mem_nil, or_false] at h9 ⊢; omega) | (intro c9 h9; simp only [List.mem_cons, List.not_mem_nil, or_false] at h9; exact cA_mem (by omega)) | (intro c9 h9; simp only [List.mem_cons, List.not_mem_nil, or_false] at h9; exact cB_mem (by omega)) | exact cA_sub)), ⟨fun i9 h9 => (show v12 i9 = v11 i9 from by rw [ev12]; exact vU_ne (fun z9 => h9 (by rw [z9]; decide))).trans ((show ∀ i9, i9 ∉ [0, 1, 2, 3, 4] → v11 i9 = v i9 from fun i9 h9 => (show v11 i9 = v5 i9 from by rw [ev11]; exact vU_ne (fun z9 => h9 (by rw [z9]; decide))).trans ((show ∀ i9, i9 ∉ [0, 1, 2, 3, 4] → v5 i9 = v i9 from fun i9 h9 => (fa3.2.1.1 i9 (fun z9 => h9 (by first | exact z9 | (revert z9; simp; done) | (revert z9; simp; omega)))).trans ((show ∀ i9, i9 ∉ [0, 1, 2, 3, 4] → v i9 = v i9 from (fun _ _ => rfl)) i9 h9)) i9 h9)) i9 h9), trivial⟩, trivial⟩, ⟨_, rfl, ⟨fun _ => ⟨(show v12 0 = some D from by rw [ev12]; exact vU_same), ((show v12 1 = v11 1 from by rw [ev12]; exact vU_ne (by decide)).trans (show v11 1 = some L from by rw [ev11]; exact vU_same)), B9⟩, fun h => absurd (by omega) h, X7⟩⟩⟩
  · skip
    refine qw_iload rfl rfl ?_
    exact qwp_iret (z := false) rfl (fun h9 => by cases h9) ⟨a9, b4, v5, rfl, ⟨FR.tr (FR.tr (FR.rf) (FR.sub fa3.1 (by first | exact (fun _ h9 => h9) | decide | (intro c9 h9; simp only [List.mem_cons, List.not_mem_nil, or_false] at h9 ⊢; omega) | (intro c9 h9; simp only [List.mem_cons, List.not_mem_nil, or_false] at h9; exact cA_mem (by omega)) | (intro c9 h9; simp only [List.mem_cons, List.not_mem_nil, or_false] at h9; exact cB_mem (by omega)) | exact cA_sub))) (FR.sub fa9.1 (by first | exact (fun _ h9 => h9) | decide | (intro c9 h9; simp only [List.mem_cons, List.not_mem_nil, or_false] at h9 ⊢; omega) | (intro c9 h9; simp only [List.mem_cons, List.not_mem_nil, or_false] at h9; exact cA_mem (by omega)) | (intro c9 h9; simp only [List.mem_cons, List.not_mem_nil, or_false] at h9; exact cB_mem (by omega)) | exact cA_sub)), ⟨fun i9 h9 => (fa3.2.1.1 i9 (fun z9 => h9 (by first | exact z9 | (revert z9; simp; done) | (revert z9; simp; omega)))).trans ((show ∀ i9, i9 ∉ [0, 1, 2, 3, 4] → v i9 = v i9 from (fun _ _ => rfl)) i9 h9), trivial⟩, trivial⟩, ⟨_, rfl, ⟨fun h => absurd h (by omega), fun _ => ⟨((fa3.2.1.1 0 (by decide)).trans h0), ((fa3.2.1.1 1 (by decide)).trans h1), FR.tr (FR.sub F9 (by intro c9 h9; exact h9)) (FR.sub fa9.1 (by intro c9 h9; rw [List.mem_singleton.mp h9]; exact List.mem_cons_self))⟩, X8⟩⟩⟩
