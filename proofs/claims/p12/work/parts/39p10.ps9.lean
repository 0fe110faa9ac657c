set_option maxRecDepth 4000 in
theorem y_standsAsAlways {d : Nat} (a : Nat → Nat → Int32) (b : Nat → Nat → Int64) (q : Int32) (hq : q.toInt = 110) : f_pc mtM d 15 [.inr (.inr (some 0)), .inl q] (mH a b) (fun v9 h' => ∃ (a' : Nat → Nat → Int32), h' = mH a' b ∧ (FR [6] a a' ∧ (LR (fun _ => 0) a' ∧ (∀ j, j < 110 → a' 6 j = a 6 j))) ∧ v9 = none) := by
  refine f_pc_of rfl (fun d0 fu hd => ?_)
  show f_pq _ _ (0, [some (.inr (.inr (some 0))), some (.inl q), none], [], mH a b) _
  have lm1 : (-1 : Int32).toInt = -1 := rfl
  have l0 : (0 : Int32).toInt = 0 := rfl
  have l1 : (1 : Int32).toInt = 1 := rfl
  have l5 : (5 : Int32).toInt = 5 := rfl
  have l110 : (110 : Int32).toInt = 110 := rfl
  refine qw_const rfl ?_
  refine qw_istore (lo' := [some (.inr (.inr (some 0))), some (.inl q), some (.inl 0)]) rfl rfl ?_
  have loop2 : ∀ (fu2 : Nat) (k : Int32) (a2 : Nat → Nat → Int32) ,  FR [6] a a2 →(0 ≤ k.toInt ∧ k.toInt ≤ 110) → (∀ j, j < k.toInt.toNat → (a2 6 (110 + j)).toInt = 0) → (∀ j, j < 110 → a2 6 j = a 6 j) → f_pq (f_code (t_X13_standsAsAlways (f_ev mtM d0))) fu2 (2, [some (.inr (.inr (some 0))), some (.inl q), some (.inl k)], [], mH a2 b) (fun v9 h' => ∃ (a' : Nat → Nat → Int32), h' = mH a' b ∧ (FR [6] a a' ∧ (LR (fun _ => 0) a' ∧ (∀ j, j < 110 → a' 6 j = a 6 j))) ∧ v9 = none) := by
    intro fu2
    induction fu2 with
    | zero => intros; exact pq_0
    | succ fu2 ih2 =>
      intro k a2  hF2 hk hz hlo
      refine qw_iload rfl rfl ?_
      refine qw_const rfl ?_
      refine qw_ic_ge rfl (fun c1 => ?_) (fun c1 => ?_)
      · skip
        refine qw_aload rfl rfl ?_
        refine qw_getR (v := .inr (.inr (some 6))) rfl rfl rfl rfl rfl ?_
        refine qw_iload rfl rfl ?_
        refine qw_const rfl ?_
        first | refine qw_iadd rfl (by omega) (fun x2 tx2 => ?_) | refine qw_iiU rfl (fun x2 tx2 => ?_)
        refine qw_const rfl ?_
        refine qm_iast rfl rfl (fun ja3 a3 ea3 => ?_)
        refine qw_aload rfl rfl ?_
        refine qw_getR (v := .inr (.inr (some 6))) rfl rfl rfl rfl rfl ?_
        refine qw_iload rfl rfl ?_
        refine qw_const rfl ?_
        first | refine qw_iadd rfl (by omega) (fun x4 tx4 => ?_) | refine qw_iiU rfl (fun x4 tx4 => ?_)
        refine qw_const rfl ?_
        first | refine qw_iadd rfl (by omega) (fun x5 tx5 => ?_) | refine qw_iiU rfl (fun x5 tx5 => ?_)
        refine qw_const rfl ?_
        refine qm_iast rfl rfl (fun ja6 a6 ea6 => ?_)
        exact qw_ret rfl ⟨a6, rfl, ⟨FR.up (FR.up (hF2) (by decide) ea3) (by decide) ea6, ⟨fun j j1 j2 => by rw [ea6, mU_slot (by omega), ea3, mU_slot (by omega)]; exact hz j (by omega), fun j hj => by rw [ea6, mU_slot (by omega), ea3, mU_slot (by omega)]; exact hlo j hj⟩⟩, rfl⟩
      · skip
        refine qw_aload rfl rfl ?_
        refine qw_getR (v := .inr (.inr (some 6))) rfl rfl rfl rfl rfl ?_
        refine qw_iload rfl rfl ?_
        refine qw_iload rfl rfl ?_
        first | refine qw_iadd rfl (by omega) (fun x7 tx7 => ?_) | refine qw_iiU rfl (fun x7 tx7 => ?_)
        refine qw_const rfl ?_
        refine qm_iast rfl rfl (fun ja8 a8 ea8 => ?_)
        refine qw_iinc (lo' := fun z9 => [some (.inr (.inr (some 0))), some (.inl q), some (.inl z9)]) rfl rfl (fun _ => rfl) (by omega) (fun x9 tx9 => ?_)
        exact qw_gotoD rfl (ih2 x9 a8 (FR.up (hF2) (by decide) ea8) (by omega) (fun j hj => by rw [ea8]; by_cases h : j = k.toInt.toNat; (rw [show 110 + j = (x7).toInt.toNat from by omega, mU_same]; rfl); (rw [mU_slot (by omega)]; exact hz j (by omega))) (fun j hj => by rw [ea8, mU_slot (by omega)]; exact hlo j hj))
  exact loop2 _ 0 a (FR.rf) (by omega) (fun j hj => absurd hj (by omega)) (fun _ _ => rfl)
set_option maxRecDepth 4000 in
theorem y_starts {d : Nat} (a : Nat → Nat → Int32) (b : Nat → Nat → Int64) (q : Int32)  : f_pc mtM d 38 [.inr (.inr (some 0)), .inl q] (mH a b) (fun v9 h' => ∃ (a' : Nat → Nat → Int32), h' = mH a' b ∧ (FR [15] a a' ∧ True) ∧ v9 = none) := by
  refine f_pc_of rfl (fun d0 fu hd => ?_)
  show f_pq _ _ (0, [some (.inr (.inr (some 0))), some (.inl q), none], [], mH a b) _
  have lm1 : (-1 : Int32).toInt = -1 := rfl
  have l0 : (0 : Int32).toInt = 0 := rfl
  have l1 : (1 : Int32).toInt = 1 := rfl
  have l6 : (6 : Int32).toInt = 6 := rfl
  have l7 : (7 : Int32).toInt = 7 := rfl
  have l13 : (13 : Int32).toInt = 13 := rfl
  refine qw_aload rfl rfl ?_
  refine qw_getR (v := .inr (.inr (some 15))) rfl rfl rfl rfl rfl ?_
  refine qw_iload rfl rfl ?_
  refine qw_const rfl ?_
  first | refine qw_iadd rfl (by omega) (fun x1 tx1 => ?_) | refine qw_iiU rfl (fun x1 tx1 => ?_)
  refine qw_const rfl ?_
  refine qm_iast rfl rfl (fun ja2 a2 ea2 => ?_)
  refine qw_const rfl ?_
  refine qw_istore (lo' := [some (.inr (.inr (some 0))), some (.inl q), some (.inl 0)]) rfl rfl ?_
  have loop11 : ∀ (fu11 : Nat) (k : Int32) (a11 : Nat → Nat → Int32) ,  FR [15] a a11 →(0 ≤ k.toInt ∧ k.toInt ≤ 6) → f_pq (f_code (t_X13_starts (f_ev mtM d0))) fu11 (11, [some (.inr (.inr (some 0))), some (.inl q), some (.inl k)], [], mH a11 b) (fun v9 h' => ∃ (a' : Nat → Nat → Int32), h' = mH a' b ∧ (FR [15] a a' ∧ True) ∧ v9 = none) := by
    intro fu11
    induction fu11 with
    | zero => intros; exact pq_0
    | succ fu11 ih11 =>
      intro k a11  hF11 hk
      refine qw_iload rfl rfl ?_
      refine qw_const rfl ?_
      refine qw_ic_ge rfl (fun c3 => ?_) (fun c3 => ?_)
      · skip
        exact qw_ret rfl ⟨a11, rfl, ⟨hF11, trivial⟩, rfl⟩
      · skip
        refine qw_aload rfl rfl ?_
        refine qw_getR (v := .inr (.inr (some 15))) rfl rfl rfl rfl rfl ?_
        refine qw_iload rfl rfl ?_
        refine qw_const rfl ?_
        first | refine qw_iadd rfl (by omega) (fun x4 tx4 => ?_) | refine qw_iiU rfl (fun x4 tx4 => ?_)
        refine qw_iload rfl rfl ?_
        first | refine qw_iadd rfl (by omega) (fun x5 tx5 => ?_) | refine qw_iiU rfl (fun x5 tx5 => ?_)
        refine qw_const rfl ?_
        refine qm_iast rfl rfl (fun ja6 a6 ea6 => ?_)
        refine qw_aload rfl rfl ?_
        refine qw_getR (v := .inr (.inr (some 15))) rfl rfl rfl rfl rfl ?_
        refine qw_iload rfl rfl ?_
        refine qw_const rfl ?_
        first | refine qw_iadd rfl (by omega) (fun x7 tx7 => ?_) | refine qw_iiU rfl (fun x7 tx7 => ?_)
        refine qw_iload rfl rfl ?_
        first | refine qw_iadd rfl (by omega) (fun x8 tx8 => ?_) | refine qw_iiU rfl (fun x8 tx8 => ?_)
        refine qw_const rfl ?_
        refine qm_iast rfl rfl (fun ja9 a9 ea9 => ?_)
        refine qw_aload rfl rfl ?_
        refine qw_getR (v := .inr (.inr (some 15))) rfl rfl rfl rfl rfl ?_
        refine qw_iload rfl rfl ?_
        refine qw_const rfl ?_
        first | refine qw_iadd rfl (by omega) (fun x10 tx10 => ?_) | refine qw_iiU rfl (fun x10 tx10 => ?_)
        refine qw_iload rfl rfl ?_
        first | refine qw_iadd rfl (by omega) (fun x11 tx11 => ?_) | refine qw_iiU rfl (fun x11 tx11 => ?_)
        refine qw_const rfl ?_
        refine qm_iast rfl rfl (fun ja12 a12 ea12 => ?_)
        refine qw_iinc (lo' := fun z9 => [some (.inr (.inr (some 0))), some (.inl q), some (.inl z9)]) rfl rfl (fun _ => rfl) (by omega) (fun x13 tx13 => ?_)
        exact qw_gotoD rfl (ih11 x13 a12 (FR.up (FR.up (FR.up (hF11) (by decide) ea6) (by decide) ea9) (by decide) ea12) (by omega))
  exact loop11 _ 0 a2 (FR.up (FR.rf) (by decide) ea2) (by omega)
set_option maxRecDepth 4000 in
theorem y_begins {d : Nat} (a : Nat → Nat → Int32) (b : Nat → Nat → Int64)   : f_pc mtM d 39 [.inr (.inr (some 0))] (mH a b) (fun v9 h' => ∃ (a' : Nat → Nat → Int32), h' = mH a' b ∧ (FR [0, 11, 15, 16] a a' ∧ ((a' 11 0).toInt = 0 ∧ (a' 15 26).toInt = 0 ∧ (∀ m, m < 4 → (a' 16 m).toInt = 0))) ∧ v9 = none) := by
  refine f_pc_of rfl (fun d0 fu hd => ?_)
  show f_pq _ _ (0, [some (.inr (.inr (some 0))), none], [], mH a b) _
  have lm1 : (-1 : Int32).toInt = -1 := rfl
  have l0 : (0 : Int32).toInt = 0 := rfl
  have l1 : (1 : Int32).toInt = 1 := rfl
  have l4 : (4 : Int32).toInt = 4 := rfl
  have l19 : (19 : Int32).toInt = 19 := rfl
  have l26 : (26 : Int32).toInt = 26 := rfl
  refine qw_aload rfl rfl ?_
  refine qw_const rfl ?_
  refine qw_invV (rest := []) rfl rfl rfl rfl rfl (Nat.le_of_ble_eq_true rfl) rfl (y_starts (d := d0) a b  0 ) (fun v1 h9 hq2 => ?_)
  obtain ⟨a3, rfl, fa3, rfl⟩ := hq2
  show f_pq _ _ (5, [some (.inr (.inr (some 0))), none], [], mH a3 b) _
  refine qw_aload rfl rfl ?_
  refine qw_getR (v := .inr (.inr (some 15))) rfl rfl rfl rfl rfl ?_
  refine qw_const rfl ?_
  refine qw_const rfl ?_
  refine qm_iast rfl rfl (fun ja4 a4 ea4 => ?_)
  refine qw_aload rfl rfl ?_
  refine qw_getR (v := .inr (.inr (some 15))) rfl rfl rfl rfl rfl ?_
  refine qw_const rfl ?_
  refine qw_const rfl ?_
  refine qm_iast rfl rfl (fun ja5 a5 ea5 => ?_)
  refine qw_aload rfl rfl ?_
  refine qw_getR (v := .inr (.inr (some 11))) rfl rfl rfl rfl rfl ?_
  refine qw_const rfl ?_
  refine qw_const rfl ?_
  refine qm_iast rfl rfl (fun ja6 a6 ea6 => ?_)
  refine qw_aload rfl rfl ?_
  refine qw_const rfl ?_
  refine qm_putI (z := false) rfl rfl rfl rfl (by first | (intro h9; cases h9; done) | (intro _; first | exact Or.inl rfl | exact Or.inr rfl | assumption)) (fun a7 ea7 => ?_)
  have ua7_23 : a7 0 23 = (0 : Int32) := by rw [ea7, mU_same]
  have wa7_23 := congrArg Int32.toInt ua7_23
  refine qw_const rfl ?_
  refine qw_istore (lo' := [some (.inr (.inr (some 0))), some (.inl 0)]) rfl rfl ?_
  have loop35 : ∀ (fu35 : Nat) (k : Int32) (a35 : Nat → Nat → Int32) ,  FR [0, 11, 15, 16] a a35 →(0 ≤ k.toInt ∧ k.toInt ≤ 4) → ((a35 11 0).toInt = 0 ∧ (a35 15 26).toInt = 0) → (∀ j, j < k.toInt.toNat → (a35 16 j).toInt = 0) → f_pq (f_code (t_X13_begins (f_ev mtM d0))) fu35 (35, [some (.inr (.inr (some 0))), some (.inl k)], [], mH a35 b) (fun v9 h' => ∃ (a' : Nat → Nat → Int32), h' = mH a' b ∧ (FR [0, 11, 15, 16] a a' ∧ ((a' 11 0).toInt = 0 ∧ (a' 15 26).toInt = 0 ∧ (∀ m, m < 4 → (a' 16 m).toInt = 0))) ∧ v9 = none) := by
    intro fu35
    induction fu35 with
    | zero => intros; exact pq_0
    | succ fu35 ih35 =>
      intro k a35  hF35 hk hZ hM
      refine qw_iload rfl rfl ?_
      refine qw_const rfl ?_
      refine qw_ic_ge rfl (fun c8 => ?_) (fun c8 => ?_)
      · skip
        exact qw_ret rfl ⟨a35, rfl, ⟨hF35, ⟨hZ.1, hZ.2, fun m h9 => hM m (by omega)⟩⟩, rfl⟩
      · skip
        refine qw_aload rfl rfl ?_
        refine qw_getR (v := .inr (.inr (some 16))) rfl rfl rfl rfl rfl ?_
        refine qw_iload rfl rfl ?_
        refine qw_const rfl ?_
        refine qm_bast rfl rfl (fun ja9 a9 ea9 => ?_)
        refine qw_iinc (lo' := fun z9 => [some (.inr (.inr (some 0))), some (.inl z9)]) rfl rfl (fun _ => rfl) (by omega) (fun x10 tx10 => ?_)
        exact qw_gotoD rfl (ih35 x10 a9 (FR.up (hF35) (by decide) ea9) (by omega) (by rw [ea9, mU_cell (by decide), mU_cell (by decide)]; exact hZ) (fun j hj => by rw [ea9, mU_get]; split; (first | rfl | decide | omega); (rename_i h5; exact hM j (by omega))))
  exact loop35 _ 0 a7 (FR.up (FR.up (FR.up (FR.up (FR.tr (FR.rf) (FR.sub fa3.1 (by decide))) (by decide) ea4) (by decide) ea5) (by decide) ea6) (by decide) ea7) (by omega) (⟨by rw [ea7, mU_cell (by decide), ea6, show (0 : Int32).toInt.toNat = 0 from rfl, mU_same]; rfl, by rw [ea7, mU_cell (by decide), ea6, mU_cell (by decide), ea5, show (26 : Int32).toInt.toNat = 26 from rfl, mU_same]; rfl⟩) (fun j hj => absurd hj (by omega))
theorem y_cutAll {d K : Nat} (a : Nat → Nat → Int32) (b : Nat → Nat → Int64) (hd : 3 ≤ d) (hR : RM K a) : f_pc mtM d 6 [.inr (.inr (some 0))] (mH a b) (fun v9 h' => ∃ (a' : Nat → Nat → Int32) (b' : Nat → Nat → Int64), h' = mH a' b' ∧ (FR [0, 2, 3] a a' ∧ ((a' 0 7).toInt = 0 ∧ (a' 0 8).toInt = 0 ∧ (a' 0 2).toInt = 0 ∧ (∃ N : Nat, TKM (a 1) (a 0 2).toInt.toNat N a' b') ∧ (∀ j, j ≠ 2 → j ≠ 3 → j ≠ 7 → j ≠ 8 → a' 0 j = a 0 j) ∧ (∀ c, c ≠ 4 → b' c = b c))) ∧ v9 = none) := f_pc.mono ((s_cutAll_1 (K := K) a b hR).tp hd) (fun r9 h9 q => by
  obtain ⟨a9, b9, e9, -, f9, r9⟩ := q
  exact ⟨a9, b9, e9, f9, r9⟩)
set_option maxHeartbeats 4000000 in
set_option maxRecDepth 4000 in
theorem y_land {d : Nat} (a : Nat → Nat → Int32) (b : Nat → Nat → Int64) (K : Nat) (z : Nat) (t : Nat → Int32) (hd9 : 40 ≤ d) (hR : RM K a) (hMW : MW b) (ht : ∀ j, j < z → a 1 j = t j) (hz0 : (a 0 2).toInt.toNat = z) : f_pc mtM d 22 [.inr (.inr (some 0))] (mH a b) (fun v9 h' => ∃ (a' : Nat → Nat → Int32) (b' : Nat → Nat → Int64), h' = mH a' b' ∧ (FR [0, 2, 3, 6, 7, 8, 11, 15, 16] a a' ∧ True) ∧ ∃ x : Int32, v9 = some (.inl x) ∧ (((x.toInt = 0 → (a' 11 0).toInt = 0 ∧ (a' 15 26).toInt = 0 ∧ (∀ m, m < 4 → (a' 16 m).toInt = 0)) ∧ (¬ x.toInt = 0 → (∀ c9, (c9 = 11 ∨ c9 = 15 ∨ c9 = 16) → a' c9 = a c9) ∧ (∀ j, j < 110 → a' 6 j = a 6 j))) ∧ ∃ s : LDS, LD t z ld0 (x.toInt, s) ∧ (x.toInt = 0 → (∀ j, j < 110 → ¬ (j = 5 ∨ j = 6 ∨ (7 ≤ j ∧ j < 91 ∧ (j - 7) % 14 = 13)) → (a' 6 j).toInt = s.2.1 j) ∧ ∀ k : Nat, (k : Int) < s.2.1 0 → b' 9 k = s.2.2.1 k))) := by
  refine f_pc_of rfl (fun d0 fu hd => ?_)
  show f_pq _ _ (0, [some (.inr (.inr (some 0))), none], [], mH a b) _
  have l0 : (0 : Int32).toInt = 0 := rfl
  have l1 : (1 : Int32).toInt = 1 := rfl
  have l6 : (6 : Int32).toInt = 6 := rfl
  have l9 : (9 : Int32).toInt = 9 := rfl
  have l59 : (59 : Int32).toInt = 59 := rfl
  have l110 : (110 : Int32).toInt = 110 := rfl
  have l1100 : (1100 : Int32).toInt = 1100 := rfl
  have z2 : 0 ≤ (a 0 2).toInt ∧ (a 0 2).toInt ≤ 1000 := hR 0 2
  refine qw_aload rfl rfl ?_
  refine qw_const rfl ?_
  refine qm_putI (z := false) rfl rfl rfl rfl (by first | (intro h9; cases h9; done) | (intro _; first | exact Or.inl rfl | exact Or.inr rfl | assumption)) (fun a1 ea1 => ?_)
  have ua1_0 : a1 0 0 = (0 : Int32) := by rw [ea1, mU_same]
  have wa1_0 := congrArg Int32.toInt ua1_0
  refine qw_aload rfl rfl ?_
  refine qw_invV (rest := []) rfl rfl rfl rfl rfl (Nat.le_of_ble_eq_true rfl) rfl (y_cutAll (d := d0) (K := K) a1 b (by omega) (RM.up hR ea1 ⟨ti_lo _, ti_hi _⟩)) (fun v2 h9 hq3 => ?_)
  obtain ⟨a4, b5, rfl, fa4, rfl⟩ := hq3
  show f_pq _ _ (9, [some (.inr (.inr (some 0))), none], [], mH a4 b5) _
  obtain ⟨c7, c8, c2, ⟨N, hN⟩, c0, cb⟩ := fa4.2
  refine qw_aload rfl rfl ?_
  refine qw_const rfl ?_
  refine qm_putI (z := false) rfl rfl rfl rfl (by first | (intro h9; cases h9; done) | (intro _; first | exact Or.inl rfl | exact Or.inr rfl | assumption)) (fun a6 ea6 => ?_)
  have ua6_13 : a6 0 13 = (0 : Int32) := by rw [ea6, mU_same]
  have wa6_13 := congrArg Int32.toInt ua6_13
  refine qw_aload rfl rfl ?_
  refine qw_const rfl ?_
  refine qm_putI (z := false) rfl rfl rfl rfl (by first | (intro h9; cases h9; done) | (intro _; first | exact Or.inl rfl | exact Or.inr rfl | assumption)) (fun a7 ea7 => ?_)
  have ua7_17 : a7 0 17 = (0 : Int32) := by rw [ea7, mU_same]
  have wa7_17 := congrArg Int32.toInt ua7_17
  have loop88 : ∀ (fuJ88 : Nat)  (a88 : Nat → Nat → Int32) (b88 : Nat → Nat → Int64) ,  FR [0, 2, 3, 6, 7, 8, 11, 15, 16] a a88 →((∀ c9, (c9 = 11 ∨ c9 = 15 ∨ c9 = 16) → a88 c9 = a c9) ∧ ∀ j, j < 110 → a88 6 j = a 6 j) → (LDJ t z N a88 b88) → f_pq (f_code (t_X13_land (f_ev mtM d0))) fuJ88 (88, [some (.inr (.inr (some 0))), none], [], mH a88 b88) (fun v9 h' => ∃ (a' : Nat → Nat → Int32) (b' : Nat → Nat → Int64), h' = mH a' b' ∧ (FR [0, 2, 3, 6, 7, 8, 11, 15, 16] a a' ∧ True) ∧ ∃ x : Int32, v9 = some (.inl x) ∧ (((x.toInt = 0 → (a' 11 0).toInt = 0 ∧ (a' 15 26).toInt = 0 ∧ (∀ m, m < 4 → (a' 16 m).toInt = 0)) ∧ (¬ x.toInt = 0 → (∀ c9, (c9 = 11 ∨ c9 = 15 ∨ c9 = 16) → a' c9 = a c9) ∧ (∀ j, j < 110 → a' 6 j = a 6 j))) ∧ ∃ s : LDS, LD t z ld0 (x.toInt, s) ∧ (x.toInt = 0 → (∀ j, j < 110 → ¬ (j = 5 ∨ j = 6 ∨ (7 ≤ j ∧ j < 91 ∧ (j - 7) % 14 = 13)) → (a' 6 j).toInt = s.2.1 j) ∧ ∀ k : Nat, (k : Int) < s.2.1 0 → b' 9 k = s.2.2.1 k))) := by
    intro fuJ88  a88 b88  hF88 h16 hJ
    · skip
      obtain ⟨s, e, h1, h2, h3⟩ := hJ
      have f8 := h1.e8
      refine qw_aload rfl rfl ?_
      refine qw_getI (v := .inl (a88 0 8)) rfl rfl rfl rfl rfl ?_
      refine qw_if_le rfl (fun c8 => ?_) (fun c8 => ?_)
      · skip
        have z9 : e = 0 := by omega
        obtain ⟨D9, F9⟩ := h2 z9
        refine qw_const rfl ?_
        refine qw_istore (lo' := [some (.inr (.inr (some 0))), some (.inl 0)]) rfl rfl ?_
        have loop102 : ∀ (fu102 : Nat) (k : Int32) (a102 : Nat → Nat → Int32) (b102 : Nat → Nat → Int64) ,  FR [0, 2, 3, 6, 7, 8, 11, 15, 16] a a102 →(0 ≤ k.toInt ∧ k.toInt ≤ 110) → (∀ j, j < k.toInt.toNat → a102 6 j = a102 6 (110 + j)) → (∀ k : Nat, (k : Int) < s.2.1 0 → b102 10 k = s.2.2.1 k) → (LR s.2.1 a102) → f_pq (f_code (t_X13_land (f_ev mtM d0))) fu102 (102, [some (.inr (.inr (some 0))), some (.inl k)], [], mH a102 b102) (fun v9 h' => ∃ (a' : Nat → Nat → Int32) (b' : Nat → Nat → Int64), h' = mH a' b' ∧ (FR [0, 2, 3, 6, 7, 8, 11, 15, 16] a a' ∧ True) ∧ ∃ x : Int32, v9 = some (.inl x) ∧ (((x.toInt = 0 → (a' 11 0).toInt = 0 ∧ (a' 15 26).toInt = 0 ∧ (∀ m, m < 4 → (a' 16 m).toInt = 0)) ∧ (¬ x.toInt = 0 → (∀ c9, (c9 = 11 ∨ c9 = 15 ∨ c9 = 16) → a' c9 = a c9) ∧ (∀ j, j < 110 → a' 6 j = a 6 j))) ∧ ∃ s : LDS, LD t z ld0 (x.toInt, s) ∧ (x.toInt = 0 → (∀ j, j < 110 → ¬ (j = 5 ∨ j = 6 ∨ (7 ≤ j ∧ j < 91 ∧ (j - 7) % 14 = 13)) → (a' 6 j).toInt = s.2.1 j) ∧ ∀ k : Nat, (k : Int) < s.2.1 0 → b' 9 k = s.2.2.1 k))) := by
          intro fu102
          induction fu102 with
          | zero => intros; exact pq_0
          | succ fu102 ih102 =>
            intro k a102 b102  hF102 hk hC hN9 hL9
            refine qw_iload rfl rfl ?_
            refine qw_const rfl ?_
            refine qw_ic_ge rfl (fun c9 => ?_) (fun c9 => ?_)
            · skip
              refine qw_const rfl ?_
              refine qw_istore (lo' := [some (.inr (.inr (some 0))), some (.inl 0)]) rfl rfl ?_
              have loop131 : ∀ (fu131 : Nat) (k : Int32) (a131 : Nat → Nat → Int32) (b131 : Nat → Nat → Int64) ,  FR [0, 2, 3, 6, 7, 8, 11, 15, 16] a a131 →(0 ≤ k.toInt ∧ k.toInt ≤ 2200) → (∀ k : Nat, (k : Int) < s.2.1 0 → b131 10 k = s.2.2.1 k) → (∀ j, j < 110 → ¬ (j = 5 ∨ j = 6 ∨ (7 ≤ j ∧ j < 91 ∧ (j - 7) % 14 = 13)) → (a131 6 j).toInt = s.2.1 j) → f_pq (f_code (t_X13_land (f_ev mtM d0))) fu131 (131, [some (.inr (.inr (some 0))), some (.inl k)], [], mH a131 b131) (fun v9 h' => ∃ (a' : Nat → Nat → Int32) (b' : Nat → Nat → Int64), h' = mH a' b' ∧ (FR [0, 2, 3, 6, 7, 8, 11, 15, 16] a a' ∧ True) ∧ ∃ x : Int32, v9 = some (.inl x) ∧ (((x.toInt = 0 → (a' 11 0).toInt = 0 ∧ (a' 15 26).toInt = 0 ∧ (∀ m, m < 4 → (a' 16 m).toInt = 0)) ∧ (¬ x.toInt = 0 → (∀ c9, (c9 = 11 ∨ c9 = 15 ∨ c9 = 16) → a' c9 = a c9) ∧ (∀ j, j < 110 → a' 6 j = a 6 j))) ∧ ∃ s : LDS, LD t z ld0 (x.toInt, s) ∧ (x.toInt = 0 → (∀ j, j < 110 → ¬ (j = 5 ∨ j = 6 ∨ (7 ≤ j ∧ j < 91 ∧ (j - 7) % 14 = 13)) → (a' 6 j).toInt = s.2.1 j) ∧ ∀ k : Nat, (k : Int) < s.2.1 0 → b' 9 k = s.2.2.1 k))) := by
                intro fu131
                induction fu131 with
                | zero => intros; exact pq_0
                | succ fu131 ih131 =>
                  intro k a131 b131  hF131 hk9 hN9 hD
                  refine qw_iload rfl rfl ?_
                  refine qw_aload rfl rfl ?_
                  refine qw_getI (v := .inl (a131 0 13)) rfl rfl rfl rfl rfl ?_
                  refine qw_ic_ge rfl (fun c10 => ?_) (fun c10 => ?_)
                  · skip
                    refine qw_const rfl ?_
                    refine qw_istore (lo' := [some (.inr (.inr (some 0))), some (.inl 0)]) rfl rfl ?_
                    have loop179 : ∀ (fu179 : Nat) (k : Int32) (a179 : Nat → Nat → Int32) (b179 : Nat → Nat → Int64) ,  FR [0, 2, 3, 6, 7, 8, 11, 15, 16] a a179 →(0 ≤ k.toInt ∧ k.toInt ≤ 6) → (∀ j, j < 110 → ¬ (j = 5 ∨ j = 6 ∨ (7 ≤ j ∧ j < 91 ∧ (j - 7) % 14 = 13)) → (a179 6 j).toInt = s.2.1 j) → (∀ k : Nat, (k : Int) < s.2.1 0 → b179 10 k = s.2.2.1 k) → (∀ j, j < k.toInt.toNat → b179 9 j = b179 10 j) → f_pq (f_code (t_X13_land (f_ev mtM d0))) fu179 (179, [some (.inr (.inr (some 0))), some (.inl k)], [], mH a179 b179) (fun v9 h' => ∃ (a' : Nat → Nat → Int32) (b' : Nat → Nat → Int64), h' = mH a' b' ∧ (FR [0, 2, 3, 6, 7, 8, 11, 15, 16] a a' ∧ True) ∧ ∃ x : Int32, v9 = some (.inl x) ∧ (((x.toInt = 0 → (a' 11 0).toInt = 0 ∧ (a' 15 26).toInt = 0 ∧ (∀ m, m < 4 → (a' 16 m).toInt = 0)) ∧ (¬ x.toInt = 0 → (∀ c9, (c9 = 11 ∨ c9 = 15 ∨ c9 = 16) → a' c9 = a c9) ∧ (∀ j, j < 110 → a' 6 j = a 6 j))) ∧ ∃ s : LDS, LD t z ld0 (x.toInt, s) ∧ (x.toInt = 0 → (∀ j, j < 110 → ¬ (j = 5 ∨ j = 6 ∨ (7 ≤ j ∧ j < 91 ∧ (j - 7) % 14 = 13)) → (a' 6 j).toInt = s.2.1 j) ∧ ∀ k : Nat, (k : Int) < s.2.1 0 → b' 9 k = s.2.2.1 k))) := by
                      intro fu179
                      induction fu179 with
                      | zero => intros; exact pq_0
                      | succ fu179 ih179 =>
                        intro k a179 b179  hF179 hk hD2 hN2 hN3
                        refine qw_iload rfl rfl ?_
                        refine qw_const rfl ?_
                        refine qw_ic_ge rfl (fun c11 => ?_) (fun c11 => ?_)
                        · skip
                          refine qw_aload rfl rfl ?_
                          refine qw_invV (rest := []) rfl rfl rfl rfl rfl (Nat.le_of_ble_eq_true rfl) rfl (y_begins (d := d0) a179 b179   ) (fun v12 h9 hq13 => ?_)
                          obtain ⟨a14, rfl, fa14, rfl⟩ := hq13
                          show f_pq _ _ (207, [some (.inr (.inr (some 0))), some (.inl k)], [], mH a14 b179) _
                          refine qw_const rfl ?_
                          exact qwp_iret (z := false) rfl (fun h9 => by cases h9) ⟨a14, b179, rfl, ⟨FR.tr (hF179) (FR.sub fa14.1 (by decide)), trivial⟩, ⟨_, rfl, ⟨⟨fun _ => fa14.2, fun h9 => absurd (show (0 : Int32).toInt = 0 from rfl) h9⟩, s, F9, fun _ => ⟨fun j j1 j2 => by rw [fa14.1 6 (by decide)]; exact hD2 j j1 j2, fun k hk => by rw [hN3 k (by have := D9.2.1; omega)]; exact hN2 k hk⟩⟩⟩⟩
                        · skip
                          refine qw_aload rfl rfl ?_
                          refine qw_getR (v := .inr (.inr (some 9))) rfl rfl rfl rfl rfl ?_
                          refine qw_iload rfl rfl ?_
                          refine qw_aload rfl rfl ?_
                          refine qw_getR (v := .inr (.inr (some 10))) rfl rfl rfl rfl rfl ?_
                          refine qw_iload rfl rfl ?_
                          refine qm_lald rfl rfl (fun jy15 y15 ey15 => ?_)
                          have V8 := ey15
                          refine qm_last rfl rfl (fun jb16 b16 eb16 => ?_)
                          refine qw_iinc (lo' := fun z9 => [some (.inr (.inr (some 0))), some (.inl z9)]) rfl rfl (fun _ => rfl) (by omega) (fun x17 tx17 => ?_)
                          exact qw_gotoD rfl (ih179 x17 a179 b16 (hF179) (by omega) (hD2) (fun j hj => by rw [eb16, mV_cell (by decide)]; exact hN2 j hj) (fun j hj => by rw [eb16, mV_cell (c := 10) (by decide), mV_get]; by_cases h : j = k.toInt.toNat; (rw [if_pos h, V8, h]); (rw [if_neg h]; exact hN3 j (by omega))))
                    exact loop179 _ 0 a131 b131 (hF131) (by omega) (hD) (hN9) (fun j hj => absurd hj (by omega))
                  · skip
                    refine qw_aload rfl rfl ?_
                    refine qw_getR (v := .inr (.inr (some 7))) rfl rfl rfl rfl rfl ?_
                    refine qw_iload rfl rfl ?_
                    refine qw_aload rfl rfl ?_
                    refine qw_getR (v := .inr (.inr (some 7))) rfl rfl rfl rfl rfl ?_
                    refine qw_const rfl ?_
                    refine qw_iload rfl rfl ?_
                    first | refine qw_iadd rfl (by omega) (fun x18 tx18 => ?_) | refine qw_iiU rfl (fun x18 tx18 => ?_)
                    refine qm_iald rfl rfl (fun jx19 x19 ex19 => ?_)
                    refine qm_iast rfl rfl (fun ja20 a20 ea20 => ?_)
                    have ua20_8 : (a20 0 8).toInt = (a131 0 8).toInt := by rw [ea20, mU_cell (by decide)]
                    have ua20_13 : (a20 0 13).toInt = (a131 0 13).toInt := by rw [ea20, mU_cell (by decide)]
                    refine qw_aload rfl rfl ?_
                    refine qw_getR (v := .inr (.inr (some 8))) rfl rfl rfl rfl rfl ?_
                    refine qw_iload rfl rfl ?_
                    refine qw_aload rfl rfl ?_
                    refine qw_getR (v := .inr (.inr (some 8))) rfl rfl rfl rfl rfl ?_
                    refine qw_const rfl ?_
                    refine qw_iload rfl rfl ?_
                    first | refine qw_iadd rfl (by omega) (fun x21 tx21 => ?_) | refine qw_iiU rfl (fun x21 tx21 => ?_)
                    refine qm_iald rfl rfl (fun jx22 x22 ex22 => ?_)
                    refine qm_iast rfl rfl (fun ja23 a23 ea23 => ?_)
                    have ua23_8 : (a23 0 8).toInt = (a20 0 8).toInt := by rw [ea23, mU_cell (by decide)]
                    have ua23_13 : (a23 0 13).toInt = (a20 0 13).toInt := by rw [ea23, mU_cell (by decide)]
                    refine qw_iinc (lo' := fun z9 => [some (.inr (.inr (some 0))), some (.inl z9)]) rfl rfl (fun _ => rfl) (by omega) (fun x24 tx24 => ?_)
                    exact qw_gotoD rfl (ih131 x24 a23 b131 (FR.up (FR.up (hF131) (by decide) ea20) (by decide) ea23) (by omega) (hN9) (fun j j1 j2 => by rw [ea23, mU_cell (by decide), ea20, mU_cell (by decide)]; exact hD j j1 j2))
              exact loop131 _ 0 a102 b102 (hF102) (by omega) (hN9) (fun j j1 j2 => by rw [hC j (by omega)]; exact hL9 j j1 j2)
            · skip
              refine qw_aload rfl rfl ?_
              refine qw_getR (v := .inr (.inr (some 6))) rfl rfl rfl rfl rfl ?_
              refine qw_iload rfl rfl ?_
              refine qw_aload rfl rfl ?_
              refine qw_getR (v := .inr (.inr (some 6))) rfl rfl rfl rfl rfl ?_
              refine qw_const rfl ?_
              refine qw_iload rfl rfl ?_
              first | refine qw_iadd rfl (by omega) (fun x25 tx25 => ?_) | refine qw_iiU rfl (fun x25 tx25 => ?_)
              refine qm_iald rfl rfl (fun jx26 x26 ex26 => ?_)
              have V9 : x26 = a102 6 (110 + k.toInt.toNat) := by rw [ex26]; congr 1; omega
              refine qm_iast rfl rfl (fun ja27 a27 ea27 => ?_)
              have ua27_8 : (a27 0 8).toInt = (a102 0 8).toInt := by rw [ea27, mU_cell (by decide)]
              refine qw_iinc (lo' := fun z9 => [some (.inr (.inr (some 0))), some (.inl z9)]) rfl rfl (fun _ => rfl) (by omega) (fun x28 tx28 => ?_)
              exact qw_gotoD rfl (ih102 x28 a27 b102 (FR.up (hF102) (by decide) ea27) (by omega) (fun j hj => by rw [ea27, mU_slot (k := 110 + j) (by omega)]; by_cases h : j = k.toInt.toNat; (subst h; rw [mU_same, V9]); (rw [mU_slot (by omega)]; exact hC j (by omega))) (hN9) (fun j j1 j2 => by rw [ea27, mU_slot (by omega)]; exact hL9 j j1 j2))
        exact loop102 _ 0 a88 b88 (hF88) (by omega) (fun j hj => absurd hj (by omega)) (D9.2.2.2.1) (D9.1)
      · skip
        obtain ⟨s1, F9⟩ := h3 (by omega)
        refine qw_aload rfl rfl ?_
        refine qw_getI (v := .inl (a88 0 8)) rfl rfl rfl rfl rfl ?_
        exact qwp_iret (z := false) rfl (fun h9 => by cases h9) ⟨a88, b88, rfl, ⟨hF88, trivial⟩, ⟨_, rfl, ⟨⟨fun h9 => absurd h9 (by omega), fun _ => h16⟩, s1, by rw [show (a88 0 8).toInt = e from by omega]; exact F9, fun h => absurd h (by omega)⟩⟩⟩
  refine qw_aload rfl rfl ?_
  refine qw_const rfl ?_
  refine qw_invV (rest := []) rfl rfl rfl rfl rfl (Nat.le_of_ble_eq_true rfl) rfl (y_standsAsAlways (d := d0) a7 b5  110 (by omega)) (fun v29 h9 hq30 => ?_)
  obtain ⟨a31, rfl, fa31, rfl⟩ := hq30
  show f_pq _ _ (25, [some (.inr (.inr (some 0))), none], [], mH a31 b5) _
  have M0 : MS t z N 0 0 a31 b5 := ⟨by have h8 := hN; rw [ea1, mU_cell (by decide), mU_slot (by decide), hz0] at h8; exact (TKM.fr9 h8 (by rw [fa31.1 2 (by decide), ea7, mU_cell (by decide), ea6, mU_cell (by decide)]) (by rw [fa31.1 3 (by decide), ea7, mU_cell (by decide), ea6, mU_cell (by decide)])).cv ht, fun w hw => by rw [cb 5 (by decide)]; exact hMW w hw, by omega, by decide, by rw [fa31.1 0 (by decide), ea7, mU_slot (by decide), ea6, mU_slot (by decide)]; exact c8, fun _ => ⟨by rw [fa31.1 0 (by decide), ea7, mU_slot (by decide), ea6, mU_slot (by decide)]; exact c7, Nat.zero_le _⟩, by rw [fa31.1 0 (by decide), ea7, mU_slot (by decide), ea6, mU_slot (by decide)]; omega⟩
  have loop25 : ∀ (fu25 : Nat)  (a25 : Nat → Nat → Int32) (b25 : Nat → Nat → Int64) ,  FR [0, 2, 3, 6, 7, 8, 11, 15, 16] a a25 →((∀ c9, (c9 = 11 ∨ c9 = 15 ∨ c9 = 16) → a25 c9 = a c9) ∧ ∀ j, j < 110 → a25 6 j = a 6 j) → (LDI t z N a25 b25) → f_pq (f_code (t_X13_land (f_ev mtM d0))) fu25 (25, [some (.inr (.inr (some 0))), none], [], mH a25 b25) (fun v9 h' => ∃ (a' : Nat → Nat → Int32) (b' : Nat → Nat → Int64), h' = mH a' b' ∧ (FR [0, 2, 3, 6, 7, 8, 11, 15, 16] a a' ∧ True) ∧ ∃ x : Int32, v9 = some (.inl x) ∧ (((x.toInt = 0 → (a' 11 0).toInt = 0 ∧ (a' 15 26).toInt = 0 ∧ (∀ m, m < 4 → (a' 16 m).toInt = 0)) ∧ (¬ x.toInt = 0 → (∀ c9, (c9 = 11 ∨ c9 = 15 ∨ c9 = 16) → a' c9 = a c9) ∧ (∀ j, j < 110 → a' 6 j = a 6 j))) ∧ ∃ s : LDS, LD t z ld0 (x.toInt, s) ∧ (x.toInt = 0 → (∀ j, j < 110 → ¬ (j = 5 ∨ j = 6 ∨ (7 ≤ j ∧ j < 91 ∧ (j - 7) % 14 = 13)) → (a' 6 j).toInt = s.2.1 j) ∧ ∀ k : Nat, (k : Int) < s.2.1 0 → b' 9 k = s.2.2.1 k))) := by
    intro fu25
    induction fu25 with
    | zero => intros; exact pq_0
    | succ fu25 ih25 =>
      intro  a25 b25  hF25 h16 hI
      obtain ⟨s, e, h1, h2, h3⟩ := hI
      have f8 := h1.e8
      have f7 := h1.at
      refine qw_aload rfl rfl ?_
      refine qw_getI (v := .inl (a25 0 8)) rfl rfl rfl rfl rfl ?_
      refine qw_if_ne rfl (fun c32 => ?_) (fun c32 => ?_)
      · skip
        have z9 : e = 0 := by omega
        obtain ⟨g0, g6⟩ := h2 z9
        have k1 := h1.tok z9
        have loop79 : ∀  (a79 : Nat → Nat → Int32) (b79 : Nat → Nat → Int64) ,  FR [0, 2, 3, 6, 7, 8, 11, 15, 16] a a79 →((∀ c9, (c9 = 11 ∨ c9 = 15 ∨ c9 = 16) → a79 c9 = a c9) ∧ ∀ j, j < 110 → a79 6 j = a 6 j) → (∃ r : Int × LDS, ¬ lxK t z s.1 = 0 ∧ LNL t z s r ∧ MS t z N r.2.1 r.1 a79 b79 ∧ (r.1 = 0 → LDD r.2 a79 b79)) → f_pq (f_code (t_X13_land (f_ev mtM d0))) (fu25 + 1) (79, [some (.inr (.inr (some 0))), none], [], mH a79 b79) (fun v9 h' => ∃ (a' : Nat → Nat → Int32) (b' : Nat → Nat → Int64), h' = mH a' b' ∧ (FR [0, 2, 3, 6, 7, 8, 11, 15, 16] a a' ∧ True) ∧ ∃ x : Int32, v9 = some (.inl x) ∧ (((x.toInt = 0 → (a' 11 0).toInt = 0 ∧ (a' 15 26).toInt = 0 ∧ (∀ m, m < 4 → (a' 16 m).toInt = 0)) ∧ (¬ x.toInt = 0 → (∀ c9, (c9 = 11 ∨ c9 = 15 ∨ c9 = 16) → a' c9 = a c9) ∧ (∀ j, j < 110 → a' 6 j = a 6 j))) ∧ ∃ s : LDS, LD t z ld0 (x.toInt, s) ∧ (x.toInt = 0 → (∀ j, j < 110 → ¬ (j = 5 ∨ j = 6 ∨ (7 ≤ j ∧ j < 91 ∧ (j - 7) % 14 = 13)) → (a' 6 j).toInt = s.2.1 j) ∧ ∀ k : Nat, (k : Int) < s.2.1 0 → b' 9 k = s.2.2.1 k))) := by
          intro  a79 b79  hF79 h16 hT
          · skip
            obtain ⟨r, kz, hT1, hT2, hT3⟩ := hT
            refine qw_aload rfl rfl ?_
            refine qw_const rfl ?_
            refine qw_invV (rest := []) rfl rfl rfl rfl rfl (Nat.le_of_ble_eq_true rfl) rfl (y_takeSign (d := d0) a79 b79 z N r.2.1 r.1 t 59 (hT2)) (fun v33 h9 hq34 => ?_)
            obtain ⟨a35, rfl, fa35, rfl⟩ := hq34
            show f_pq _ _ (85, [some (.inr (.inr (some 0))), none], [], mH a35 b79) _
            exact qw_gotoD rfl (ih25 a35 b79 (FR.tr (hF79) (FR.sub fa35.1 (by decide))) (⟨fun c9 hc9 => by rw [fa35.1 c9 (by rcases hc9 with rfl | rfl | rfl <;> decide)]; exact h16.1 c9 hc9, fun j hj => by rw [fa35.1 6 (by decide)]; exact h16.2 j hj⟩) (LDI.line kz g6 hT1 hT3 fa35.2.2 (fa35.1 6 (by decide)) (fa35.2.1 17 (by decide) (by decide))))
        refine qw_aload rfl rfl ?_
        refine qw_getR (v := .inr (.inr (some 2))) rfl rfl rfl rfl rfl ?_
        refine qw_aload rfl rfl ?_
        refine qw_getI (v := .inl (a25 0 7)) rfl rfl rfl rfl rfl ?_
        refine qm_iald rfl rfl (fun jx36 x36 ex36 => ?_)
        have e9 := congrArg Int32.toInt ex36
        rw [k1.2.1] at e9
        refine qw_if_eq rfl (fun c37 => ?_) (fun c37 => ?_)
        · skip
          skip
          exact loop88 _ a25 b25 (hF25) (h16) (⟨s, e, h1, fun _ => ⟨g0, g6 (0, s) (LD.end (by omega))⟩, h3⟩)
        · skip
          have kz : ¬ lxK t z s.1 = 0 := by omega
          refine qw_aload rfl rfl ?_
          refine qw_const rfl ?_
          refine qw_invV (rest := []) rfl rfl rfl rfl rfl (Nat.le_of_ble_eq_true rfl) rfl (y_isWord (d := d0) a25 b25 z N s.1 e t 0 0 (⟨by decide, by decide⟩) (h1)) (fun v38 h9 hq39 => ?_)
          obtain ⟨rfl, x40, rfl, px40⟩ := hq39
          show f_pq _ _ (49, [some (.inr (.inr (some 0))), none], [.inl x40], mH a25 b25) _
          have P1 := px40
          refine qw_if_eq rfl (fun c41 => ?_) (fun c41 => ?_)
          · skip
            have N0 : ¬ tkW t z s.1 0 := by rcases P1 with h | h; omega; exact fun J => h.2 ⟨z9, J⟩
            refine qw_aload rfl rfl ?_
            refine qw_const rfl ?_
            refine qw_invV (rest := []) rfl rfl rfl rfl rfl (Nat.le_of_ble_eq_true rfl) rfl (y_isWord (d := d0) a25 b25 z N s.1 e t 9 9 (⟨by decide, by decide⟩) (h1)) (fun v42 h9 hq43 => ?_)
            obtain ⟨rfl, x44, rfl, px44⟩ := hq43
            show f_pq _ _ (65, [some (.inr (.inr (some 0))), none], [.inl x44], mH a25 b25) _
            have P2 := px44
            refine qw_if_eq rfl (fun c45 => ?_) (fun c45 => ?_)
            · skip
              have N9 : ¬ tkW t z s.1 9 := by rcases P2 with h | h; omega; exact fun J => h.2 ⟨z9, J⟩
              refine qw_aload rfl rfl ?_
              refine qw_invV (rest := []) rfl rfl rfl rfl rfl (Nat.le_of_ble_eq_true rfl) rfl (y_readOnce (d := d0) a25 b25 z N s.1 e t s.2.1 s.2.2.1 s.2.2.2  (h1) (z9) (N0) (N9) (g0.1) (g0.2.2.2.2)) (fun v46 h9 hq47 => ?_)
              obtain ⟨a48, rfl, fa48, rfl⟩ := hq47
              show f_pq _ _ (79, [some (.inr (.inr (some 0))), none], [], mH a48 b25) _
              obtain ⟨r, hr1, hr2, hr3⟩ := fa48.2.2.2
              exact loop79 a48 b25 (FR.tr (hF25) (FR.sub fa48.1 (by decide))) (⟨fun c9 hc9 => by rw [fa48.1 c9 (by rcases hc9 with rfl | rfl | rfl <;> decide)]; exact h16.1 c9 hc9, fun j hj => by rw [fa48.2.2.1 j hj]; exact h16.2 j hj⟩) (⟨r, kz, hr1, hr2, fun q => by obtain ⟨q1, q2, q3, q4, q5⟩ := hr3 q; exact ⟨q1, by rw [q4]; exact g0.2.1, by rw [q5]; exact g0.2.2.1, by rw [q4, q2]; exact g0.2.2.2.1, q3⟩⟩)
            · skip
              have W9 : tkW t z s.1 9 := by rcases P2 with h | h; exact h.2.2; omega
              refine qw_aload rfl rfl ?_
              refine qw_invV (rest := []) rfl rfl rfl rfl rfl (Nat.le_of_ble_eq_true rfl) rfl (y_readRange (d := d0) a25 b25 z N s.1 e t s.2.1  (h1) (g0.1) (g0.2.2.1) (z9) (kz)) (fun v49 h9 hq50 => ?_)
              obtain ⟨a51, rfl, fa51, rfl⟩ := hq50
              show f_pq _ _ (72, [some (.inr (.inr (some 0))), none], [], mH a51 b25) _
              have rg4 : rgE t z s.2.1 s.1 = 0 → ¬ s.2.1 1 = 4 := fun q h => by unfold rgE at q; rw [if_pos h] at q; have := flt_pos (t := t) (z := z) (c := s.1) (k := 5) (by decide); omega
              refine qw_goto rfl ?_
              exact loop79 a51 b25 (FR.tr (hF25) (FR.sub fa51.1 (by decide))) (⟨fun c9 hc9 => by rw [fa51.1 c9 (by rcases hc9 with rfl | rfl | rfl <;> decide)]; exact h16.1 c9 hc9, fun j hj => by rw [fa51.2.2.2.2 j hj]; exact h16.2 j hj⟩) (⟨_, kz, ln_g N0 W9, fa51.2.2.1, fun q => ⟨fa51.2.2.2.1 q, by show 0 ≤ rgL t z s.2.1 s.1 0 ∧ rgL t z s.2.1 s.1 0 ≤ 6; rw [rgL_0]; exact g0.2.1, by have h9 := rg4 q; have h8 := g0.2.2.1; show 0 ≤ s.2.1 1 + 1 ∧ s.2.1 1 + 1 ≤ 4; omega, by show ∀ k : Nat, (k : Int) < rgL t z s.2.1 s.1 0 → _; rw [rgL_0]; exact g0.2.2.2.1, by show OB s.2.2.2 _; rw [fa51.2.1 17 (by decide) (by decide)]; exact g0.2.2.2.2⟩⟩)
          · skip
            have W0 : tkW t z s.1 0 := by rcases P1 with h | h; exact h.2.2; omega
            refine qw_aload rfl rfl ?_
            refine qw_invV (rest := []) rfl rfl rfl rfl rfl (Nat.le_of_ble_eq_true rfl) rfl (y_readRiver (d := d0) a25 b25 z N s.1 e t s.2.1 s.2.2.1 s.2.2.2  (h1) (z9) (kz) (g0.1) (g0.2.1) (g0.2.2.2.1)) (fun v52 h9 hq53 => ?_)
            obtain ⟨a54, b55, rfl, fa54, rfl⟩ := hq53
            show f_pq _ _ (56, [some (.inr (.inr (some 0))), none], [], mH a54 b55) _
            have rv6 : rvE t z s.2.2.1 (s.2.1 0).toNat s.1 = 0 → ¬ (s.2.1 0).toNat = 6 := fun q h => by unfold rvE at q; rw [if_pos h] at q; have := flt_pos (t := t) (z := z) (c := s.1) (k := 5) (by decide); omega
            refine qw_goto rfl ?_
            exact loop79 a54 b55 (FR.tr (hF25) (FR.sub fa54.1 (by decide))) (⟨fun c9 hc9 => by rw [fa54.1 c9 (by rcases hc9 with rfl | rfl | rfl <;> decide)]; exact h16.1 c9 hc9, fun j hj => by rw [fa54.2.2.2.2 j hj]; exact h16.2 j hj⟩) (⟨_, kz, ln_r W0, fa54.2.2.1, fun q => ⟨(fa54.2.2.2.1 q).1, by have h9 := rv6 q; have h8 := g0.2.1; show 0 ≤ s.2.1 0 + 1 ∧ s.2.1 0 + 1 ≤ 6; omega, by show 0 ≤ rvL t z s 1 ∧ rvL t z s 1 ≤ 4; rw [rvL_1]; exact g0.2.2.1, (fa54.2.2.2.1 q).2, by show OB s.2.2.2 _; rw [fa54.2.1 17 (by decide) (by decide)]; exact g0.2.2.2.2⟩⟩)
      · skip
        exact loop88 _ a25 b25 (hF25) (h16) (⟨s, e, h1, fun q => absurd q (by omega), h3⟩)
  exact loop25 _ a31 b5 (FR.tr (FR.up (FR.up (FR.tr (FR.up (FR.rf) (by decide) ea1) (FR.sub fa4.1 (by decide))) (by decide) ea6) (by decide) ea7) (FR.sub fa31.1 (by decide))) (⟨fun c9 hc9 => by rw [fa31.1 c9 (by rcases hc9 with rfl | rfl | rfl <;> decide), ea7, mU_cell (by rcases hc9 with rfl | rfl | rfl <;> decide), ea6, mU_cell (by rcases hc9 with rfl | rfl | rfl <;> decide), fa4.1 c9 (by rcases hc9 with rfl | rfl | rfl <;> decide), ea1, mU_cell (by rcases hc9 with rfl | rfl | rfl <;> decide)], fun j hj => by rw [fa31.2.2 j hj, ea7, mU_cell (by decide), ea6, mU_cell (by decide), fa4.1 6 (by decide), ea1, mU_cell (by decide)]⟩) (⟨ld0, 0, M0, fun _ => ⟨⟨fa31.2.1, by decide, by decide, fun k hk => absurd hk (by show ¬ (k : Int) < 0; omega), by show OB (fun _ => false) _; rw [fa31.1 0 (by decide), ea7, mU_same]; exact OB.zero⟩, fun r hr => hr⟩, fun h => absurd rfl h⟩)
