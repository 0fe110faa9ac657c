set_option maxRecDepth 4000 in
theorem y_Jx29ce0_ordinal_8abf5 {d : Nat} (a : Nat → Nat → Int32) (b : Nat → Nat → Int64) (v : Nat → Option Nat) (o : Nat) (ho : 1000 ≤ o ∧ o < 1031) : f_pc mtC d 169 [.inr (.inr (some o))] (cH a b v) (fun v9 h' => h' = cH a b v ∧ ∃ x : Int32, v9 = some (.inl x) ∧ (x.toInt = ((o - 1000 : Nat) : Int))) := by
  refine f_pc_of rfl (fun d0 fu hd => ?_)
  show f_pq _ _ (0, [some (.inr (.inr (some o)))], [], cH a b v) _
  refine qw_aload rfl rfl ?_
  refine qc_sfld rfl (if_pos (by omega)) ?_
  have h9 : (Int32.ofNat (o - 1000)).toInt = ((o - 1000 : Nat) : Int) := Int32.toInt_ofNat_of_lt (by omega)
  exact qwp_iret (z := false) rfl (fun h9 => by cases h9) ⟨rfl, ⟨_, rfl, h9⟩⟩
set_option maxRecDepth 4000 in
theorem y_X6_factStep {d : Nat} (a : Nat → Nat → Int32) (b : Nat → Nat → Int64) (v : Nat → Option Nat) (z : Nat) (N : Nat) (c : Nat) (t : Nat → Int32) (fm : Int)  (hw : f_wdb (v 2) = true) (hS : CSt t z N c a b v) (hD : dow fm a) : f_pc mtC d 76 [.inr (.inr (some 6))] (cH a b v) (fun v9 h' => h' = cH a b v ∧ ∃ x : Int32, v9 = some (.inl x) ∧ ((x.toInt = -13 ∧ ¬ isFa t z fm c) ∨ (¬ x.toInt = -13 ∧ isFa t z fm c))) := by
  refine f_pc_of rfl (fun d0 fu hd => ?_)
  show f_pq _ _ (0, [some (.inr (.inr (some 6)))], [], cH a b v) _
  have lm13 : (-13 : Int32).toInt = -13 := rfl
  have lm4 : (-4 : Int32).toInt = -4 := rfl
  have lm3 : (-3 : Int32).toInt = -3 := rfl
  have lm2 : (-2 : Int32).toInt = -2 := rfl
  have lm1 : (-1 : Int32).toInt = -1 := rfl
  obtain ⟨s0, s1, s2, s3, s4, s5, s6⟩ := hS.pl
  have dw : (fm = 4 ∧ (a 6 7).toInt = 1) ∨ (fm = 2 ∧ (a 6 7).toInt = 0) := hD
  refine qw_aload rfl rfl ?_
  refine qc_getR (t := some 1) rfl rfl rfl rfl rfl ?_
  refine qc_getR (t := v 2) rfl rfl rfl rfl rfl ?_
  refine qc_ifnull rfl (fun c1 => ?_) (fun w2 c1 => ?_)
  · skip
    have f9 : isFa t z fm c ↔ False := ⟨fun h => by have w0 := hS.w0 c1; unfold isFa at h; rcases h with h | h | h; exact w0 27 (by decide) h; exact w0 28 (by decide) h; (rcases h.2 with h | h; exact w0 29 (by decide) h; exact w0 30 (by decide) h), fun h => h.elim⟩
    refine qw_const rfl ?_
    exact qwp_iret (z := false) rfl (fun h9 => by cases h9) ⟨rfl, ⟨_, rfl, by first | exact Or.inl ⟨by rfl, fun h => by have h9 := f9.mp h; omega⟩ | exact Or.inl ⟨by rfl, fun h => (f9.mp h).elim⟩ | exact Or.inr ⟨by decide, f9.mpr (by omega)⟩⟩⟩
  · skip
    have w9 := f_wdb_lt hw w2 c1
    have f9 := isFa_w (fm := fm) (hS.wu c1 (w9.1))
    refine qw_const rfl ?_
    refine qw_aload rfl rfl ?_
    refine qc_getR (t := some 1) rfl rfl rfl rfl rfl ?_
    refine qc_getR (t := v 2) rfl rfl rfl rfl rfl ?_
    rw [c1]
    refine qc_invW (rest := [.inr (.inr (some 1032))]) rfl rfl (pW_some (by omega)) rfl (Nat.le_of_ble_eq_true rfl) rfl (y_Jx29ce0_ordinal_8abf5 (d := d0) a b v  w2 (by omega)) (fun z3 h9 hq4 => ?_)
    obtain ⟨rfl, x5, rfl, px5⟩ := hq4
    show f_pq _ _ (26, [some (.inr (.inr (some 6)))], [.inl x5, .inr (.inr (some 1032))], cH a b v) _
    have o9 := px5
    have s9 := wSw_v x5.toInt.toNat (by omega)
    have t9 := wSw_10 x5.toInt.toNat (by omega)
    refine qc_sel (N := 31) rfl (fun js26 => ?_)
    refine qw_tab rfl (fun c6 => ?_) (fun k9 t9 hk9 c6 => ?_)
    · skip
      have c6d := c6
      simp only [List.length_cons, List.length_nil] at c6d
      refine qw_const rfl ?_
      exact qwp_iret (z := false) rfl (fun h9 => by cases h9) ⟨rfl, ⟨_, rfl, by first | exact Or.inl ⟨by rfl, fun h => by have h9 := f9.mp h; omega⟩ | exact Or.inl ⟨by rfl, fun h => (f9.mp h).elim⟩ | exact Or.inr ⟨by decide, f9.mpr (by omega)⟩⟩⟩
    · skip
      match k9, hk9, c6 with
      | 0, hk9, c6 =>
        cases hk9
        refine qw_const rfl ?_
        exact qwp_iret (z := false) rfl (fun h9 => by cases h9) ⟨rfl, ⟨_, rfl, by first | exact Or.inl ⟨by rfl, fun h => by have h9 := f9.mp h; omega⟩ | exact Or.inl ⟨by rfl, fun h => (f9.mp h).elim⟩ | exact Or.inr ⟨by decide, f9.mpr (by omega)⟩⟩⟩
      | 1, hk9, c6 =>
        cases hk9
        refine qw_const rfl ?_
        exact qwp_iret (z := false) rfl (fun h9 => by cases h9) ⟨rfl, ⟨_, rfl, by first | exact Or.inl ⟨by rfl, fun h => by have h9 := f9.mp h; omega⟩ | exact Or.inl ⟨by rfl, fun h => (f9.mp h).elim⟩ | exact Or.inr ⟨by decide, f9.mpr (by omega)⟩⟩⟩
      | 2, hk9, c6 =>
        cases hk9
        refine qw_aload rfl rfl ?_
        refine qc_getI rfl rfl rfl rfl ?_
        refine qw_if_eq rfl (fun c7 => ?_) (fun c7 => ?_)
        · skip
          refine qw_const rfl ?_
          exact qwp_iret (z := false) rfl (fun h9 => by cases h9) ⟨rfl, ⟨_, rfl, by first | exact Or.inl ⟨by rfl, fun h => by have h9 := f9.mp h; omega⟩ | exact Or.inl ⟨by rfl, fun h => (f9.mp h).elim⟩ | exact Or.inr ⟨by decide, f9.mpr (by omega)⟩⟩⟩
        · skip
          refine qw_const rfl ?_
          refine qw_goto rfl ?_
          exact qwp_iret (z := false) rfl (fun h9 => by cases h9) ⟨rfl, ⟨_, rfl, by first | exact Or.inl ⟨by rfl, fun h => by have h9 := f9.mp h; omega⟩ | exact Or.inl ⟨by rfl, fun h => (f9.mp h).elim⟩ | exact Or.inr ⟨by decide, f9.mpr (by omega)⟩⟩⟩
      | 3, hk9, c6 =>
        cases hk9
        refine qw_aload rfl rfl ?_
        refine qc_getI rfl rfl rfl rfl ?_
        refine qw_if_eq rfl (fun c8 => ?_) (fun c8 => ?_)
        · skip
          refine qw_const rfl ?_
          exact qwp_iret (z := false) rfl (fun h9 => by cases h9) ⟨rfl, ⟨_, rfl, by first | exact Or.inl ⟨by rfl, fun h => by have h9 := f9.mp h; omega⟩ | exact Or.inl ⟨by rfl, fun h => (f9.mp h).elim⟩ | exact Or.inr ⟨by decide, f9.mpr (by omega)⟩⟩⟩
        · skip
          refine qw_const rfl ?_
          refine qw_goto rfl ?_
          exact qwp_iret (z := false) rfl (fun h9 => by cases h9) ⟨rfl, ⟨_, rfl, by first | exact Or.inl ⟨by rfl, fun h => by have h9 := f9.mp h; omega⟩ | exact Or.inl ⟨by rfl, fun h => (f9.mp h).elim⟩ | exact Or.inr ⟨by decide, f9.mpr (by omega)⟩⟩⟩
      | n9 + 4, hk9, c6 => simp at hk9
set_option maxRecDepth 4000 in
theorem y_X2_add {d : Nat} (a : Nat → Nat → Int32) (b : Nat → Nat → Int64) (v : Nat → Option Nat) (F : Nat) (p : Int32) (hF : F = 26 ∨ F = 29 ∨ F = 50 ∨ F = 53) : f_pc mtC d 6 [.inr (.inr (some F)), .inl p] (cH a b v) (fun v9 h' => ∃ (a' : Nat → Nat → Int32), h' = cH a' b v ∧ (FR [F, F + 1] a a' ∧ True) ∧ v9 = none) := by
  refine f_pc_of rfl (fun d0 fu hd => ?_)
  show f_pq _ _ (0, [some (.inr (.inr (some F))), some (.inl p)], [], cH a b v) _
  have l1 : (1 : Int32).toInt = 1 := rfl
  have l4 : (4 : Int32).toInt = 4 := rfl
  have l6 : (6 : Int32).toInt = 6 := rfl
  have l8 : (8 : Int32).toInt = 8 := rfl
  have l16 : (16 : Int32).toInt = 16 := rfl
  have l31 : (31 : Int32).toInt = 31 := rfl
  have l384 : (384 : Int32).toInt = 384 := rfl
  have l1000 : (1000 : Int32).toInt = 1000 := rfl
  refine qw_aload rfl rfl ?_
  refine qc_getI rfl (sh_form (by omega)) rfl rfl ?_
  refine qw_aload rfl rfl ?_
  refine qc_getR (t := some (F + 1)) rfl (sh_form (by omega)) rfl rfl (rC_form0 (by omega)) ?_
  refine qc_alen (N := 1000) rfl (sh_steps (by omega)) (by decide) ?_
  show f_pq _ _ (9, [some (.inr (.inr (some F))), some (.inl p)], .inl 1000 :: [.inl (a F 2)], cH a b v) _
  refine qw_ic_ge rfl (fun c1 => ?_) (fun c1 => ?_)
  · skip
    exact qw_ret rfl ⟨a, rfl, ⟨FR.rf, trivial⟩, rfl⟩
  · skip
    refine qw_aload rfl rfl ?_
    refine qc_getR (t := some (F + 1)) rfl (sh_form (by omega)) rfl rfl (rC_form0 (by omega)) ?_
    refine qw_aload rfl rfl ?_
    refine qc_getI rfl (sh_form (by omega)) rfl rfl ?_
    refine qw_iload rfl rfl ?_
    refine qc_iast rfl (sh_steps (by omega)) (fun ja2 a2 ea2 => ?_)
    have ra2_28 : (a2 F 2).toInt = (a F 2).toInt := by rw [ea2, mU_cell (by omega)]
    refine qw_aload rfl rfl ?_
    refine qw_dup rfl rfl ?_
    refine qc_getI rfl (sh_form (by omega)) rfl rfl ?_
    refine qw_const rfl ?_
    first | refine qw_iadd rfl (by omega) (fun x3 tx3 => ?_) | refine qw_iiU rfl (fun x3 tx3 => ?_)
    refine qc_putI (z := false) rfl (sh_form (by omega)) rfl rfl (by first | (intro h9; cases h9; done) | (intro _; first | exact Or.inl rfl | exact Or.inr rfl | assumption | (rcases (by omega : x3.toInt = 0 ∨ x3.toInt = 1) with h8 | h8; exact Or.inl (ti_eq h8); exact Or.inr (ti_eq h8)))) (fun a4 ea4 => ?_)
    have ua4 : a4 F 2 = x3 := by rw [ea4, mU_same]
    have wa4 := congrArg Int32.toInt ua4
    exact qw_ret rfl ⟨a4, rfl, ⟨FR.up (FR.up (FR.rf) (by first | decide | (simp; done) | exact cA_mem (by omega) | exact cB_mem (by omega)) ea2) (by first | decide | (simp; done) | exact cA_mem (by omega) | exact cB_mem (by omega)) ea4, trivial⟩, rfl⟩
set_option maxRecDepth 4000 in
theorem y_X2_clear {d : Nat} (a : Nat → Nat → Int32) (b : Nat → Nat → Int64) (v : Nat → Option Nat) (F : Nat) (hF : F = 26 ∨ F = 29 ∨ F = 50 ∨ F = 53) : f_pc mtC d 5 [.inr (.inr (some F))] (cH a b v) (fun v9 h' => ∃ (a' : Nat → Nat → Int32), h' = cH a' b v ∧ (FR [F] a a' ∧ True) ∧ v9 = none) := by
  refine f_pc_of rfl (fun d0 fu hd => ?_)
  show f_pq _ _ (0, [some (.inr (.inr (some F)))], [], cH a b v) _
  have l0 : (0 : Int32).toInt = 0 := rfl
  refine qw_aload rfl rfl ?_
  refine qw_const rfl ?_
  refine qc_putI (z := false) rfl (sh_form (by omega)) rfl rfl (by first | (intro h9; cases h9; done) | (intro _; first | exact Or.inl rfl | exact Or.inr rfl | assumption | (rcases (by omega : (0 : Int32).toInt = 0 ∨ (0 : Int32).toInt = 1) with h8 | h8; exact Or.inl (ti_eq h8); exact Or.inr (ti_eq h8)))) (fun a1 ea1 => ?_)
  have ua1 : a1 F 2 = (0 : Int32) := by rw [ea1, mU_same]
  have wa1 := congrArg Int32.toInt ua1
  exact qw_ret rfl ⟨a1, rfl, ⟨FR.up (FR.rf) (by first | decide | (simp; done) | exact cA_mem (by omega) | exact cB_mem (by omega)) ea1, trivial⟩, rfl⟩
set_option maxRecDepth 4000 in
theorem y_X6_isLink {d : Nat} (a : Nat → Nat → Int32) (b : Nat → Nat → Int64) (v : Nat → Option Nat) (z : Nat) (N : Nat) (c : Nat) (t : Nat → Int32)  (hw : f_wdb (v 2) = true) (hS : CSt t z N c a b v) : f_pc mtC d 71 [.inr (.inr (some 6))] (cH a b v) (fun v9 h' => h' = cH a b v ∧ ∃ x : Int32, v9 = some (.inl x) ∧ ((x.toInt = 1 ∧ (tkW t z c 21 ∨ tkW t z c 22)) ∨ (x.toInt = 0 ∧ ¬ (tkW t z c 21 ∨ tkW t z c 22)))) := by
  refine f_pc_of rfl (fun d0 fu hd => ?_)
  show f_pq _ _ (0, [some (.inr (.inr (some 6)))], [], cH a b v) _
  have l0 : (0 : Int32).toInt = 0 := rfl
  have l1 : (1 : Int32).toInt = 1 := rfl
  have k1 := hS.1.wrd (w := 21) (by decide)
  have k2 := hS.1.wrd (w := 22) (by decide)
  refine qw_aload rfl rfl ?_
  refine qc_getR (t := some 1) rfl rfl rfl rfl rfl ?_
  refine qc_getR (t := v 2) rfl rfl rfl rfl rfl ?_
  refine qw_const rfl ?_
  refine qc_aw_eq rfl ⟨hw, rfl⟩ (fun c1 => ?_) (fun c1 => ?_)
  · skip
    refine qw_const rfl ?_
    refine qw_goto rfl ?_
    exact qwp_iret (z := true) rfl (fun _ => by first | exact Or.inl rfl | exact Or.inr rfl | (rcases (by omega : (1 : Int32).toInt = 0 ∨ (1 : Int32).toInt = 1) with h8 | h8; exact Or.inl (ti_eq h8); exact Or.inr (ti_eq h8))) ⟨rfl, ⟨_, rfl, by first | exact Or.inl ⟨rfl, Or.inl (k1.mpr (by assumption))⟩ | exact Or.inl ⟨rfl, Or.inr (k2.mpr (by assumption))⟩ | exact Or.inr ⟨rfl, fun q => q.elim (fun h => absurd (k1.mp h) (by assumption)) (fun h => absurd (k2.mp h) (by assumption))⟩⟩⟩
  · skip
    refine qw_aload rfl rfl ?_
    refine qc_getR (t := some 1) rfl rfl rfl rfl rfl ?_
    refine qc_getR (t := v 2) rfl rfl rfl rfl rfl ?_
    refine qw_const rfl ?_
    refine qc_aw_ne rfl ⟨hw, rfl⟩ (fun c2 => ?_) (fun c2 => ?_)
    · skip
      refine qw_const rfl ?_
      refine qw_goto rfl ?_
      exact qwp_iret (z := true) rfl (fun _ => by first | exact Or.inl rfl | exact Or.inr rfl | (rcases (by omega : (1 : Int32).toInt = 0 ∨ (1 : Int32).toInt = 1) with h8 | h8; exact Or.inl (ti_eq h8); exact Or.inr (ti_eq h8))) ⟨rfl, ⟨_, rfl, by first | exact Or.inl ⟨rfl, Or.inl (k1.mpr (by assumption))⟩ | exact Or.inl ⟨rfl, Or.inr (k2.mpr (by assumption))⟩ | exact Or.inr ⟨rfl, fun q => q.elim (fun h => absurd (k1.mp h) (by assumption)) (fun h => absurd (k2.mp h) (by assumption))⟩⟩⟩
    · skip
      refine qw_const rfl ?_
      exact qwp_iret (z := true) rfl (fun _ => by first | exact Or.inl rfl | exact Or.inr rfl | (rcases (by omega : (0 : Int32).toInt = 0 ∨ (0 : Int32).toInt = 1) with h8 | h8; exact Or.inl (ti_eq h8); exact Or.inr (ti_eq h8))) ⟨rfl, ⟨_, rfl, by first | exact Or.inl ⟨rfl, Or.inl (k1.mpr (by assumption))⟩ | exact Or.inl ⟨rfl, Or.inr (k2.mpr (by assumption))⟩ | exact Or.inr ⟨rfl, fun q => q.elim (fun h => absurd (k1.mp h) (by assumption)) (fun h => absurd (k2.mp h) (by assumption))⟩⟩⟩
set_option maxRecDepth 4000 in
theorem y_X6_expression_s {d : Nat} (a : Nat → Nat → Int32) (b : Nat → Nat → Int64) (v : Nat → Option Nat) (z : Nat) (N : Nat) (c : Nat) (t : Nat → Int32) (fm : Int) (dd : Nat) (F : Nat) (e : Int32) (ih2 : ∀ d0, d = d0 + 1 → CXrow d0 72 2) (hw : f_wdb (v 2) = true) (h4 : v 4 = some F) (hF : F = 26 ∨ F = 29 ∨ F = 50 ∨ F = 53) (he : e.toInt = (dd : Nat)) (hd5 : dd ≤ 5) (hD : dow fm a) (hS : CSt t z N c a b v) : f_pc mtC d 70 [.inr (.inr (some 6)), .inl e] (cH a b v) (fun v9 h' => ∃ (a' : Nat → Nat → Int32) (b' : Nat → Nat → Int64) (v' : Nat → Option Nat), h' = cH a' b' v' ∧ (FR [1, 6, F, F + 1] a a' ∧ ((∀ i, i ∉ [2] → v' i = v i) ∧ f_wdb (v' 2) = true) ∧ ((∀ j, j ≠ 10 → a' 6 j = a 6 j) ∧ BF b b')) ∧ ∃ x : Int32, v9 = some (.inl x) ∧ (∃ r : Int × Nat, EX t z fm 0 dd c r ∧ PSt t z N r.2 r.1 x a' b' v')) := by
  refine f_pc_of rfl (fun d0 fu hd => ?_)
  show f_pq _ _ (0, [some (.inr (.inr (some 6))), some (.inl e), none, none, none], [], cH a b v) _
  have lm7 : (-7 : Int32).toInt = -7 := rfl
  have lm6 : (-6 : Int32).toInt = -6 := rfl
  have l0 : (0 : Int32).toInt = 0 := rfl
  have l1 : (1 : Int32).toInt = 1 := rfl
  have l1000 : (1000 : Int32).toInt = 1000 := rfl
  refine qw_aload rfl rfl ?_
  refine qw_iload rfl rfl ?_
  refine qw_invV (rest := []) rfl rfl rfl rfl rfl (Nat.le_of_ble_eq_true rfl) rfl (ih2 d0 hd a b v z N (c) t fm (dd) F e hw h4 hF (he) (by omega) (hD.same (rfl)) (hS)) (fun z1 h9 hq2 => ?_)
  obtain ⟨a3, b4, v5, rfl, fa3, x6, rfl, px6⟩ := hq2
  show f_pq _ _ (5, [some (.inr (.inr (some 6))), some (.inl e), none, none, none], [.inl x6], cH a3 b4 v5) _
  obtain ⟨r0, g1, g2⟩ := px6
  refine qw_istore (lo' := [some (.inr (.inr (some 6))), some (.inl e), some (.inl x6), none, none]) rfl rfl ?_
  refine qw_const rfl ?_
  refine qw_istore (lo' := [some (.inr (.inr (some 6))), some (.inl e), some (.inl x6), some (.inl 0), none]) rfl rfl ?_
  have loop8 : ∀ (fu8 : Nat) (g : Int32) (k : Int32) (a8 : Nat → Nat → Int32) (b8 : Nat → Nat → Int64) (v8 : Nat → Option Nat) (o4_8 : Option f_V),  FR [1, 6, F, F + 1] a a8 → (∀ i, i ∉ [2] → v8 i = v i) → (0 ≤ k.toInt ∧ k.toInt ≤ 1000) → (f_wdb (v8 2) = true) → ((∀ j, j ≠ 10 → a8 6 j = a 6 j) ∧ BF b b8) → (∃ r : Int × Nat, PSt t z N r.2 r.1 g a8 b8 v8 ∧ k.toInt ≤ r.2 ∧ (r.1 = 0 → ∀ q, EX t z fm 1 dd r.2 q → EX t z fm 0 dd c q) ∧ (¬ r.1 = 0 → EX t z fm 0 dd c r)) → f_pq (f_code (t_X6_expression (f_ev mtC d0))) fu8 (8, [some (.inr (.inr (some 6))), some (.inl e), some (.inl g), some (.inl k), o4_8], [], cH a8 b8 v8) (fun v9 h' => ∃ (a' : Nat → Nat → Int32) (b' : Nat → Nat → Int64) (v' : Nat → Option Nat), h' = cH a' b' v' ∧ (FR [1, 6, F, F + 1] a a' ∧ ((∀ i, i ∉ [2] → v' i = v i) ∧ f_wdb (v' 2) = true) ∧ ((∀ j, j ≠ 10 → a' 6 j = a 6 j) ∧ BF b b')) ∧ ∃ x : Int32, v9 = some (.inl x) ∧ (∃ r : Int × Nat, EX t z fm 0 dd c r ∧ PSt t z N r.2 r.1 x a' b' v')) := by
    intro fu8
    induction fu8 with
    | zero => intros; exact pq_0
    | succ fu8 ih8 =>
      intro g k a8 b8 v8 o4_8 hF8 hG8 hk hw9 hK hW
      obtain ⟨r, h1, h2, h3, h4x⟩ := hW
      refine qw_iload rfl rfl ?_
      refine qw_const rfl ?_
      refine qw_ic_ge rfl (fun c7 => ?_) (fun c7 => ?_)
      · skip
        have E9 : r.1 = 0 → CSt t z N r.2 a8 b8 v8 := fun h0 => by rcases h1 with h | h; exact h.2.2; exact absurd h0 h.2.1
        refine qw_iload rfl rfl ?_
        exact qwp_iret (z := true) rfl (fun _ => h1.bv) ⟨a8, b8, v8, rfl, ⟨hF8, ⟨hG8, hw9⟩, hK⟩, ⟨_, rfl, ⟨r, by by_cases hr : r.1 = 0; exact h3 hr r (EX.r0 (ex_allE (fun J => by first | exact absurd hr Z9 | exact absurd ((E9 hr).end (by omega)) ((fun J => J.elim tkW_k tkW_k) J) | exact P9 J)) hr); exact h4x hr, h1⟩⟩⟩
      · skip
        refine qw_iload rfl rfl ?_
        refine qw_if_eq rfl (fun c8 => ?_) (fun c8 => ?_)
        · skip
          have Z9 : ¬ r.1 = 0 := by rcases h1 with h | h; omega; exact h.2.1
          refine qw_iload rfl rfl ?_
          exact qwp_iret (z := true) rfl (fun _ => h1.bv) ⟨a8, b8, v8, rfl, ⟨hF8, ⟨hG8, hw9⟩, hK⟩, ⟨_, rfl, ⟨r, by by_cases hr : r.1 = 0; exact h3 hr r (EX.r0 (ex_allE (fun J => by first | exact absurd hr Z9 | exact absurd ((E9 hr).end (by omega)) ((fun J => J.elim tkW_k tkW_k) J) | exact P9 J)) hr); exact h4x hr, h1⟩⟩⟩
        · skip
          have A9 : r.1 = 0 ∧ CSt t z N r.2 a8 b8 v8 := by rcases h1 with h | h; exact ⟨h.2.1, h.2.2⟩; omega
          have r9 := A9.2.pl
          refine qw_aload rfl rfl ?_
          refine qw_invV (rest := []) rfl rfl rfl rfl rfl (Nat.le_of_ble_eq_true rfl) rfl (y_X6_isLink (d := d0) a8 b8 v8 z N r.2 t  (hw9) (A9.2)) (fun z9 h9 hq10 => ?_)
          obtain ⟨rfl, x11, rfl, px11⟩ := hq10
          show f_pq _ _ (23, [some (.inr (.inr (some 6))), some (.inl e), some (.inl g), some (.inl k), o4_8], [.inl x11], cH a8 b8 v8) _
          have p9 := px11
          refine qw_if_eq rfl (fun c12 => ?_) (fun c12 => ?_)
          · skip
            have P9 : ¬ (tkW t z r.2 21 ∨ tkW t z r.2 22) := by rcases p9 with h | h; omega; exact h.2
            refine qw_iload rfl rfl ?_
            exact qwp_iret (z := true) rfl (fun _ => h1.bv) ⟨a8, b8, v8, rfl, ⟨hF8, ⟨hG8, hw9⟩, hK⟩, ⟨_, rfl, ⟨r, by by_cases hr : r.1 = 0; exact h3 hr r (EX.r0 (ex_allE (fun J => by first | exact absurd hr Z9 | exact absurd ((E9 hr).end (by omega)) ((fun J => J.elim tkW_k tkW_k) J) | exact P9 J)) hr); exact h4x hr, h1⟩⟩⟩
          · skip
            have J9 : tkW t z r.2 21 ∨ tkW t z r.2 22 := by rcases p9 with h | h; exact h.2; omega
            refine qw_aload rfl rfl ?_
            refine qc_getR (t := some 1) rfl rfl rfl rfl rfl ?_
            refine qc_getR (t := v8 2) rfl rfl rfl rfl rfl ?_
            refine qw_const rfl ?_
            refine qc_aw_ne rfl ⟨hw9, rfl⟩ (fun c13 => ?_) (fun c13 => ?_)
            · skip
              refine qw_const rfl ?_
              refine qw_goto rfl ?_
              refine qw_istore (lo' := [some (.inr (.inr (some 6))), some (.inl e), some (.inl g), some (.inl k), some (.inl (-6))]) rfl rfl ?_
              refine qw_aload rfl rfl ?_
              refine qc_getR (t := some 1) rfl rfl rfl rfl rfl ?_
              refine qw_invV (rest := []) rfl rfl rfl rfl rfl (Nat.le_of_ble_eq_true rfl) rfl (y_X8_advance (d := d0) a8 b8 v8   (by omega) (by omega)) (fun z14 h9 hq15 => ?_)
              obtain ⟨a16, b17, v18, rfl, fa16, rfl⟩ := hq15
              show f_pq _ _ (55, [some (.inr (.inr (some 6))), some (.inl e), some (.inl g), some (.inl k), some (.inl (-6))], [], cH a16 b17 v18) _
              have V9 := fa16
              have C9 := A9.2.next ((fun J => J.elim tkW_k tkW_k) J9) V9.1 V9.2.2 V9.2.1.2.2
              refine qw_aload rfl rfl ?_
              refine qw_iload rfl rfl ?_
              refine qw_invV (rest := []) rfl rfl rfl rfl rfl (Nat.le_of_ble_eq_true rfl) rfl (ih2 d0 hd a16 b17 v18 z N (r.2 + 1) t fm (dd) F e fa16.2.1.2.1 ((fa16.2.1.1 4 (by decide)).trans ((hG8 4 (by decide)).trans h4)) hF (he) (by omega) (hD.same (by rw [V9.1 6 (by decide)]; exact hK.1 7 (by decide))) (C9)) (fun z19 h9 hq20 => ?_)
              obtain ⟨a21, b22, v23, rfl, fa21, x24, rfl, px24⟩ := hq20
              show f_pq _ _ (60, [some (.inr (.inr (some 6))), some (.inl e), some (.inl g), some (.inl k), some (.inl (-6))], [.inl x24], cH a21 b22 v23) _
              obtain ⟨r2, k1, k2⟩ := px24
              have L9 := k1.le
              refine qw_istore (lo' := [some (.inr (.inr (some 6))), some (.inl e), some (.inl x24), some (.inl k), some (.inl (-6))]) rfl rfl ?_
              refine qw_aload rfl rfl ?_
              refine qc_getR (t := some F) rfl rfl rfl rfl ((fa21.2.1.1 4 (by decide)).trans ((fa16.2.1.1 4 (by decide)).trans ((hG8 4 (by decide)).trans h4))) ?_
              refine qw_iload rfl rfl ?_
              refine qw_invV (rest := []) rfl rfl (sh_form (by omega)) rfl rfl (Nat.le_of_ble_eq_true rfl) rfl (y_X2_add (d := d0) a21 b22 v23  F (-6) (by omega)) (fun z25 h9 hq26 => ?_)
              obtain ⟨a27, rfl, fa27, rfl⟩ := hq26
              show f_pq _ _ (70, [some (.inr (.inr (some 6))), some (.inl e), some (.inl x24), some (.inl k), some (.inl (-6))], [], cH a27 b22 v23) _
              refine qw_iinc (lo' := fun z9 => [some (.inr (.inr (some 6))), some (.inl e), some (.inl x24), some (.inl z9), some (.inl (-6))]) rfl rfl (fun _ => rfl) (by omega) (fun x28 tx28 => ?_)
              exact qw_gotoD rfl (ih8 x24 x28 a27 b22 v23 (some (.inl (-6))) (FR.tr (FR.tr (FR.tr (hF8) (FR.sub fa16.1 (by first | exact (fun _ h9 => h9) | decide | (intro c9 h9; simp only [List.mem_cons, List.not_mem_nil, or_false] at h9 ⊢; omega) | (intro c9 h9; simp only [List.mem_cons, List.not_mem_nil, or_false] at h9; exact cA_mem (by omega)) | (intro c9 h9; simp only [List.mem_cons, List.not_mem_nil, or_false] at h9; exact cB_mem (by omega)) | exact cA_sub))) (FR.sub fa21.1 (by first | exact (fun _ h9 => h9) | decide | (intro c9 h9; simp only [List.mem_cons, List.not_mem_nil, or_false] at h9 ⊢; omega) | (intro c9 h9; simp only [List.mem_cons, List.not_mem_nil, or_false] at h9; exact cA_mem (by omega)) | (intro c9 h9; simp only [List.mem_cons, List.not_mem_nil, or_false] at h9; exact cB_mem (by omega)) | exact cA_sub))) (FR.sub fa27.1 (by first | exact (fun _ h9 => h9) | decide | (intro c9 h9; simp only [List.mem_cons, List.not_mem_nil, or_false] at h9 ⊢; omega) | (intro c9 h9; simp only [List.mem_cons, List.not_mem_nil, or_false] at h9; exact cA_mem (by omega)) | (intro c9 h9; simp only [List.mem_cons, List.not_mem_nil, or_false] at h9; exact cB_mem (by omega)) | exact cA_sub))) (fun i9 h9 => (fa21.2.1.1 i9 (fun z9 => h9 (by first | exact z9 | (revert z9; simp; done) | (revert z9; simp; omega)))).trans ((show ∀ i9, i9 ∉ [2] → v18 i9 = v i9 from fun i9 h9 => (fa16.2.1.1 i9 (fun z9 => h9 (by first | exact z9 | (revert z9; simp; done) | (revert z9; simp; omega)))).trans ((show ∀ i9, i9 ∉ [2] → v8 i9 = v i9 from hG8) i9 h9)) i9 h9)) (by omega) (fa21.2.1.2) (⟨fun j hj => by rw [fa27.1 6 (by simp only [List.mem_cons, List.not_mem_nil, or_false, not_or]; omega), fa21.2.2.1 j hj, fa16.1 6 (by decide)]; exact hK.1 j hj, hK.2.tr ((BF.av V9.2.2).tr fa21.2.2.2)⟩) (⟨r2, k2.fr (fa27.1 1 (by simp only [List.mem_cons, List.not_mem_nil, or_false, not_or]; omega)) (fa27.1 3 (by simp only [List.mem_cons, List.not_mem_nil, or_false, not_or]; omega)) (fa27.1 4 (by simp only [List.mem_cons, List.not_mem_nil, or_false, not_or]; omega)) (by rw [fa27.1 6 (by simp only [List.mem_cons, List.not_mem_nil, or_false, not_or]; omega)]), by omega, fun hr q hq => h3 A9.1 q (EX.seq (ex_allT J9) (k1.z0 hr) hq), fun hr => h3 A9.1 r2 (EX.sqx (x := r2.1) (n := r2.2) (ex_allT J9) k1 hr)⟩))
            · skip
              refine qw_const rfl ?_
              refine qw_istore (lo' := [some (.inr (.inr (some 6))), some (.inl e), some (.inl g), some (.inl k), some (.inl (-7))]) rfl rfl ?_
              refine qw_aload rfl rfl ?_
              refine qc_getR (t := some 1) rfl rfl rfl rfl rfl ?_
              refine qw_invV (rest := []) rfl rfl rfl rfl rfl (Nat.le_of_ble_eq_true rfl) rfl (y_X8_advance (d := d0) a8 b8 v8   (by omega) (by omega)) (fun z29 h9 hq30 => ?_)
              obtain ⟨a31, b32, v33, rfl, fa31, rfl⟩ := hq30
              show f_pq _ _ (55, [some (.inr (.inr (some 6))), some (.inl e), some (.inl g), some (.inl k), some (.inl (-7))], [], cH a31 b32 v33) _
              have V9 := fa31
              have C9 := A9.2.next ((fun J => J.elim tkW_k tkW_k) J9) V9.1 V9.2.2 V9.2.1.2.2
              refine qw_aload rfl rfl ?_
              refine qw_iload rfl rfl ?_
              refine qw_invV (rest := []) rfl rfl rfl rfl rfl (Nat.le_of_ble_eq_true rfl) rfl (ih2 d0 hd a31 b32 v33 z N (r.2 + 1) t fm (dd) F e fa31.2.1.2.1 ((fa31.2.1.1 4 (by decide)).trans ((hG8 4 (by decide)).trans h4)) hF (he) (by omega) (hD.same (by rw [V9.1 6 (by decide)]; exact hK.1 7 (by decide))) (C9)) (fun z34 h9 hq35 => ?_)
              obtain ⟨a36, b37, v38, rfl, fa36, x39, rfl, px39⟩ := hq35
              show f_pq _ _ (60, [some (.inr (.inr (some 6))), some (.inl e), some (.inl g), some (.inl k), some (.inl (-7))], [.inl x39], cH a36 b37 v38) _
              obtain ⟨r2, k1, k2⟩ := px39
              have L9 := k1.le
              refine qw_istore (lo' := [some (.inr (.inr (some 6))), some (.inl e), some (.inl x39), some (.inl k), some (.inl (-7))]) rfl rfl ?_
              refine qw_aload rfl rfl ?_
              refine qc_getR (t := some F) rfl rfl rfl rfl ((fa36.2.1.1 4 (by decide)).trans ((fa31.2.1.1 4 (by decide)).trans ((hG8 4 (by decide)).trans h4))) ?_
              refine qw_iload rfl rfl ?_
              refine qw_invV (rest := []) rfl rfl (sh_form (by omega)) rfl rfl (Nat.le_of_ble_eq_true rfl) rfl (y_X2_add (d := d0) a36 b37 v38  F (-7) (by omega)) (fun z40 h9 hq41 => ?_)
              obtain ⟨a42, rfl, fa42, rfl⟩ := hq41
              show f_pq _ _ (70, [some (.inr (.inr (some 6))), some (.inl e), some (.inl x39), some (.inl k), some (.inl (-7))], [], cH a42 b37 v38) _
              refine qw_iinc (lo' := fun z9 => [some (.inr (.inr (some 6))), some (.inl e), some (.inl x39), some (.inl z9), some (.inl (-7))]) rfl rfl (fun _ => rfl) (by omega) (fun x43 tx43 => ?_)
              exact qw_gotoD rfl (ih8 x39 x43 a42 b37 v38 (some (.inl (-7))) (FR.tr (FR.tr (FR.tr (hF8) (FR.sub fa31.1 (by first | exact (fun _ h9 => h9) | decide | (intro c9 h9; simp only [List.mem_cons, List.not_mem_nil, or_false] at h9 ⊢; omega) | (intro c9 h9; simp only [List.mem_cons, List.not_mem_nil, or_false] at h9; exact cA_mem (by omega)) | (intro c9 h9; simp only [List.mem_cons, List.not_mem_nil, or_false] at h9; exact cB_mem (by omega)) | exact cA_sub))) (FR.sub fa36.1 (by first | exact (fun _ h9 => h9) | decide | (intro c9 h9; simp only [List.mem_cons, List.not_mem_nil, or_false] at h9 ⊢; omega) | (intro c9 h9; simp only [List.mem_cons, List.not_mem_nil, or_false] at h9; exact cA_mem (by omega)) | (intro c9 h9; simp only [List.mem_cons, List.not_mem_nil, or_false] at h9; exact cB_mem (by omega)) | exact cA_sub))) (FR.sub fa42.1 (by first | exact (fun _ h9 => h9) | decide | (intro c9 h9; simp only [List.mem_cons, List.not_mem_nil, or_false] at h9 ⊢; omega) | (intro c9 h9; simp only [List.mem_cons, List.not_mem_nil, or_false] at h9; exact cA_mem (by omega)) | (intro c9 h9; simp only [List.mem_cons, List.not_mem_nil, or_false] at h9; exact cB_mem (by omega)) | exact cA_sub))) (fun i9 h9 => (fa36.2.1.1 i9 (fun z9 => h9 (by first | exact z9 | (revert z9; simp; done) | (revert z9; simp; omega)))).trans ((show ∀ i9, i9 ∉ [2] → v33 i9 = v i9 from fun i9 h9 => (fa31.2.1.1 i9 (fun z9 => h9 (by first | exact z9 | (revert z9; simp; done) | (revert z9; simp; omega)))).trans ((show ∀ i9, i9 ∉ [2] → v8 i9 = v i9 from hG8) i9 h9)) i9 h9)) (by omega) (fa36.2.1.2) (⟨fun j hj => by rw [fa42.1 6 (by simp only [List.mem_cons, List.not_mem_nil, or_false, not_or]; omega), fa36.2.2.1 j hj, fa31.1 6 (by decide)]; exact hK.1 j hj, hK.2.tr ((BF.av V9.2.2).tr fa36.2.2.2)⟩) (⟨r2, k2.fr (fa42.1 1 (by simp only [List.mem_cons, List.not_mem_nil, or_false, not_or]; omega)) (fa42.1 3 (by simp only [List.mem_cons, List.not_mem_nil, or_false, not_or]; omega)) (fa42.1 4 (by simp only [List.mem_cons, List.not_mem_nil, or_false, not_or]; omega)) (by rw [fa42.1 6 (by simp only [List.mem_cons, List.not_mem_nil, or_false, not_or]; omega)]), by omega, fun hr q hq => h3 A9.1 q (EX.seq (ex_allT J9) (k1.z0 hr) hq), fun hr => h3 A9.1 r2 (EX.sqx (x := r2.1) (n := r2.2) (ex_allT J9) k1 hr)⟩))
  exact loop8 _ x6 0 a3 b4 v5 none (FR.tr (FR.rf) (FR.sub fa3.1 (by first | exact (fun _ h9 => h9) | decide | (intro c9 h9; simp only [List.mem_cons, List.not_mem_nil, or_false] at h9 ⊢; omega) | (intro c9 h9; simp only [List.mem_cons, List.not_mem_nil, or_false] at h9; exact cA_mem (by omega)) | (intro c9 h9; simp only [List.mem_cons, List.not_mem_nil, or_false] at h9; exact cB_mem (by omega)) | exact cA_sub))) (fun i9 h9 => (fa3.2.1.1 i9 (fun z9 => h9 (by first | exact z9 | (revert z9; simp; done) | (revert z9; simp; omega)))).trans ((show ∀ i9, i9 ∉ [2] → v i9 = v i9 from (fun _ _ => rfl)) i9 h9)) (by omega) (fa3.2.1.2) (fa3.2.2) (⟨r0, g2, by have l9 : (0 : Int32).toInt = 0 := rfl; omega, fun hr q hq => EX.seq ex_all (g1.z0 hr) hq, fun hr => EX.sqx (x := r0.1) (n := r0.2) ex_all g1 hr⟩)
set_option maxRecDepth 4000 in
theorem y_X6_sum_s {d : Nat} (a : Nat → Nat → Int32) (b : Nat → Nat → Int64) (v : Nat → Option Nat) (z : Nat) (N : Nat) (c : Nat) (t : Nat → Int32) (fm : Int) (dd : Nat) (F : Nat) (e : Int32) (ih2 : ∀ d0, d = d0 + 1 → CXrow d0 74 5) (hw : f_wdb (v 2) = true) (h4 : v 4 = some F) (hF : F = 26 ∨ F = 29 ∨ F = 50 ∨ F = 53) (he : e.toInt = (dd : Nat)) (hd5 : dd ≤ 5) (hD : dow fm a) (hS : CSt t z N c a b v) : f_pc mtC d 73 [.inr (.inr (some 6)), .inl e] (cH a b v) (fun v9 h' => ∃ (a' : Nat → Nat → Int32) (b' : Nat → Nat → Int64) (v' : Nat → Option Nat), h' = cH a' b' v' ∧ (FR [1, 6, F, F + 1] a a' ∧ ((∀ i, i ∉ [2] → v' i = v i) ∧ f_wdb (v' 2) = true) ∧ ((∀ j, j ≠ 10 → a' 6 j = a 6 j) ∧ BF b b')) ∧ ∃ x : Int32, v9 = some (.inl x) ∧ (∃ r : Int × Nat, EX t z fm 3 dd c r ∧ PSt t z N r.2 r.1 x a' b' v')) := by
  refine f_pc_of rfl (fun d0 fu hd => ?_)
  show f_pq _ _ (0, [some (.inr (.inr (some 6))), some (.inl e), none, none, none], [], cH a b v) _
  have lm11 : (-11 : Int32).toInt = -11 := rfl
  have lm10 : (-10 : Int32).toInt = -10 := rfl
  have l0 : (0 : Int32).toInt = 0 := rfl
  have l1 : (1 : Int32).toInt = 1 := rfl
  have l43 : (43 : Int32).toInt = 43 := rfl
  have l45 : (45 : Int32).toInt = 45 := rfl
  have l1000 : (1000 : Int32).toInt = 1000 := rfl
  refine qw_aload rfl rfl ?_
  refine qw_iload rfl rfl ?_
  refine qw_invV (rest := []) rfl rfl rfl rfl rfl (Nat.le_of_ble_eq_true rfl) rfl (ih2 d0 hd a b v z N (c) t fm (dd) F e hw h4 hF (he) (by omega) (hD.same (rfl)) (hS)) (fun z1 h9 hq2 => ?_)
  obtain ⟨a3, b4, v5, rfl, fa3, x6, rfl, px6⟩ := hq2
  show f_pq _ _ (5, [some (.inr (.inr (some 6))), some (.inl e), none, none, none], [.inl x6], cH a3 b4 v5) _
  obtain ⟨r0, g1, g2⟩ := px6
  refine qw_istore (lo' := [some (.inr (.inr (some 6))), some (.inl e), some (.inl x6), none, none]) rfl rfl ?_
  refine qw_const rfl ?_
  refine qw_istore (lo' := [some (.inr (.inr (some 6))), some (.inl e), some (.inl x6), some (.inl 0), none]) rfl rfl ?_
  have loop8 : ∀ (fu8 : Nat) (g : Int32) (k : Int32) (a8 : Nat → Nat → Int32) (b8 : Nat → Nat → Int64) (v8 : Nat → Option Nat) (o4_8 : Option f_V),  FR [1, 6, F, F + 1] a a8 → (∀ i, i ∉ [2] → v8 i = v i) → (0 ≤ k.toInt ∧ k.toInt ≤ 1000) → (f_wdb (v8 2) = true) → ((∀ j, j ≠ 10 → a8 6 j = a 6 j) ∧ BF b b8) → (∃ r : Int × Nat, PSt t z N r.2 r.1 g a8 b8 v8 ∧ k.toInt ≤ r.2 ∧ (r.1 = 0 → ∀ q, EX t z fm 4 dd r.2 q → EX t z fm 3 dd c q) ∧ (¬ r.1 = 0 → EX t z fm 3 dd c r)) → f_pq (f_code (t_X6_sum (f_ev mtC d0))) fu8 (8, [some (.inr (.inr (some 6))), some (.inl e), some (.inl g), some (.inl k), o4_8], [], cH a8 b8 v8) (fun v9 h' => ∃ (a' : Nat → Nat → Int32) (b' : Nat → Nat → Int64) (v' : Nat → Option Nat), h' = cH a' b' v' ∧ (FR [1, 6, F, F + 1] a a' ∧ ((∀ i, i ∉ [2] → v' i = v i) ∧ f_wdb (v' 2) = true) ∧ ((∀ j, j ≠ 10 → a' 6 j = a 6 j) ∧ BF b b')) ∧ ∃ x : Int32, v9 = some (.inl x) ∧ (∃ r : Int × Nat, EX t z fm 3 dd c r ∧ PSt t z N r.2 r.1 x a' b' v')) := by
    intro fu8
    induction fu8 with
    | zero => intros; exact pq_0
    | succ fu8 ih8 =>
      intro g k a8 b8 v8 o4_8 hF8 hG8 hk hw9 hK hW
      obtain ⟨r, h1, h2, h3, h4x⟩ := hW
      refine qw_iload rfl rfl ?_
      refine qw_const rfl ?_
      refine qw_ic_ge rfl (fun c7 => ?_) (fun c7 => ?_)
      · skip
        have E9 : r.1 = 0 → CSt t z N r.2 a8 b8 v8 := fun h0 => by rcases h1 with h | h; exact h.2.2; exact absurd h0 h.2.1
        refine qw_iload rfl rfl ?_
        exact qwp_iret (z := true) rfl (fun _ => h1.bv) ⟨a8, b8, v8, rfl, ⟨hF8, ⟨hG8, hw9⟩, hK⟩, ⟨_, rfl, ⟨r, by by_cases hr : r.1 = 0; exact h3 hr r (EX.r0 (ex_sumE (fun J => by first | exact absurd hr Z9 | exact absurd ((E9 hr).end (by omega)) ((fun J => J.elim tkS_k tkS_k) J) | exact P9 J)) hr); exact h4x hr, h1⟩⟩⟩
      · skip
        refine qw_iload rfl rfl ?_
        refine qw_if_eq rfl (fun c8 => ?_) (fun c8 => ?_)
        · skip
          have Z9 : ¬ r.1 = 0 := by rcases h1 with h | h; omega; exact h.2.1
          refine qw_iload rfl rfl ?_
          exact qwp_iret (z := true) rfl (fun _ => h1.bv) ⟨a8, b8, v8, rfl, ⟨hF8, ⟨hG8, hw9⟩, hK⟩, ⟨_, rfl, ⟨r, by by_cases hr : r.1 = 0; exact h3 hr r (EX.r0 (ex_sumE (fun J => by first | exact absurd hr Z9 | exact absurd ((E9 hr).end (by omega)) ((fun J => J.elim tkS_k tkS_k) J) | exact P9 J)) hr); exact h4x hr, h1⟩⟩⟩
        · skip
          have A9 : r.1 = 0 ∧ CSt t z N r.2 a8 b8 v8 := by rcases h1 with h | h; exact ⟨h.2.1, h.2.2⟩; omega
          have r9 := A9.2.pl
          refine qw_aload rfl rfl ?_
          refine qw_const rfl ?_
          refine qw_invV (rest := []) rfl rfl rfl rfl rfl (Nat.le_of_ble_eq_true rfl) rfl (y_X6_isSign (d := d0) a8 b8 v8 z N r.2 t 43 (A9.2)) (fun z9 h9 hq10 => ?_)
          obtain ⟨rfl, x11, rfl, px11⟩ := hq10
          show f_pq _ _ (25, [some (.inr (.inr (some 6))), some (.inl e), some (.inl g), some (.inl k), o4_8], [.inl x11], cH a8 b8 v8) _
          have p9 := px11
          refine qw_if_ne rfl (fun c12 => ?_) (fun c12 => ?_)
          · skip
            refine qw_aload rfl rfl ?_
            refine qw_const rfl ?_
            refine qw_invV (rest := []) rfl rfl rfl rfl rfl (Nat.le_of_ble_eq_true rfl) rfl (y_X6_isSign (d := d0) a8 b8 v8 z N r.2 t 45 (A9.2)) (fun z13 h9 hq14 => ?_)
            obtain ⟨rfl, x15, rfl, px15⟩ := hq14
            show f_pq _ _ (34, [some (.inr (.inr (some 6))), some (.inl e), some (.inl g), some (.inl k), o4_8], [.inl x15], cH a8 b8 v8) _
            have p8 := px15
            refine qw_if_eq rfl (fun c16 => ?_) (fun c16 => ?_)
            · skip
              have P9 : ¬ (tkS t z r.2 43 ∨ tkS t z r.2 45) := fun J => by rcases p9 with h | h; omega; rcases p8 with g | g; omega; exact J.elim h.2 g.2
              refine qw_iload rfl rfl ?_
              exact qwp_iret (z := true) rfl (fun _ => h1.bv) ⟨a8, b8, v8, rfl, ⟨hF8, ⟨hG8, hw9⟩, hK⟩, ⟨_, rfl, ⟨r, by by_cases hr : r.1 = 0; exact h3 hr r (EX.r0 (ex_sumE (fun J => by first | exact absurd hr Z9 | exact absurd ((E9 hr).end (by omega)) ((fun J => J.elim tkS_k tkS_k) J) | exact P9 J)) hr); exact h4x hr, h1⟩⟩⟩
            · skip
              have J9 : tkS t z r.2 43 ∨ tkS t z r.2 45 := by rcases p8 with h | h; exact Or.inr h.2; omega
              refine qw_aload rfl rfl ?_
              refine qw_const rfl ?_
              refine qw_invV (rest := []) rfl rfl rfl rfl rfl (Nat.le_of_ble_eq_true rfl) rfl (y_X6_isSign (d := d0) a8 b8 v8 z N r.2 t 43 (A9.2)) (fun z17 h9 hq18 => ?_)
              obtain ⟨rfl, x19, rfl, px19⟩ := hq18
              show f_pq _ _ (43, [some (.inr (.inr (some 6))), some (.inl e), some (.inl g), some (.inl k), o4_8], [.inl x19], cH a8 b8 v8) _
              refine qw_if_eq rfl (fun c20 => ?_) (fun c20 => ?_)
              · skip
                refine qw_const rfl ?_
                refine qw_istore (lo' := [some (.inr (.inr (some 6))), some (.inl e), some (.inl g), some (.inl k), some (.inl (-11))]) rfl rfl ?_
                refine qw_aload rfl rfl ?_
                refine qc_getR (t := some 1) rfl rfl rfl rfl rfl ?_
                refine qw_invV (rest := []) rfl rfl rfl rfl rfl (Nat.le_of_ble_eq_true rfl) rfl (y_X8_advance (d := d0) a8 b8 v8   (by omega) (by omega)) (fun z21 h9 hq22 => ?_)
                obtain ⟨a23, b24, v25, rfl, fa23, rfl⟩ := hq22
                show f_pq _ _ (62, [some (.inr (.inr (some 6))), some (.inl e), some (.inl g), some (.inl k), some (.inl (-11))], [], cH a23 b24 v25) _
                have V9 := fa23
                have C9 := A9.2.next ((fun J => J.elim tkS_k tkS_k) J9) V9.1 V9.2.2 V9.2.1.2.2
                refine qw_aload rfl rfl ?_
                refine qw_iload rfl rfl ?_
                refine qw_invV (rest := []) rfl rfl rfl rfl rfl (Nat.le_of_ble_eq_true rfl) rfl (ih2 d0 hd a23 b24 v25 z N (r.2 + 1) t fm (dd) F e fa23.2.1.2.1 ((fa23.2.1.1 4 (by decide)).trans ((hG8 4 (by decide)).trans h4)) hF (he) (by omega) (hD.same (by rw [V9.1 6 (by decide)]; exact hK.1 7 (by decide))) (C9)) (fun z26 h9 hq27 => ?_)
                obtain ⟨a28, b29, v30, rfl, fa28, x31, rfl, px31⟩ := hq27
                show f_pq _ _ (67, [some (.inr (.inr (some 6))), some (.inl e), some (.inl g), some (.inl k), some (.inl (-11))], [.inl x31], cH a28 b29 v30) _
                obtain ⟨r2, k1, k2⟩ := px31
                have L9 := k1.le
                refine qw_istore (lo' := [some (.inr (.inr (some 6))), some (.inl e), some (.inl x31), some (.inl k), some (.inl (-11))]) rfl rfl ?_
                refine qw_aload rfl rfl ?_
                refine qc_getR (t := some F) rfl rfl rfl rfl ((fa28.2.1.1 4 (by decide)).trans ((fa23.2.1.1 4 (by decide)).trans ((hG8 4 (by decide)).trans h4))) ?_
                refine qw_iload rfl rfl ?_
                refine qw_invV (rest := []) rfl rfl (sh_form (by omega)) rfl rfl (Nat.le_of_ble_eq_true rfl) rfl (y_X2_add (d := d0) a28 b29 v30  F (-11) (by omega)) (fun z32 h9 hq33 => ?_)
                obtain ⟨a34, rfl, fa34, rfl⟩ := hq33
                show f_pq _ _ (77, [some (.inr (.inr (some 6))), some (.inl e), some (.inl x31), some (.inl k), some (.inl (-11))], [], cH a34 b29 v30) _
                refine qw_iinc (lo' := fun z9 => [some (.inr (.inr (some 6))), some (.inl e), some (.inl x31), some (.inl z9), some (.inl (-11))]) rfl rfl (fun _ => rfl) (by omega) (fun x35 tx35 => ?_)
                exact qw_gotoD rfl (ih8 x31 x35 a34 b29 v30 (some (.inl (-11))) (FR.tr (FR.tr (FR.tr (hF8) (FR.sub fa23.1 (by first | exact (fun _ h9 => h9) | decide | (intro c9 h9; simp only [List.mem_cons, List.not_mem_nil, or_false] at h9 ⊢; omega) | (intro c9 h9; simp only [List.mem_cons, List.not_mem_nil, or_false] at h9; exact cA_mem (by omega)) | (intro c9 h9; simp only [List.mem_cons, List.not_mem_nil, or_false] at h9; exact cB_mem (by omega)) | exact cA_sub))) (FR.sub fa28.1 (by first | exact (fun _ h9 => h9) | decide | (intro c9 h9; simp only [List.mem_cons, List.not_mem_nil, or_false] at h9 ⊢; omega) | (intro c9 h9; simp only [List.mem_cons, List.not_mem_nil, or_false] at h9; exact cA_mem (by omega)) | (intro c9 h9; simp only [List.mem_cons, List.not_mem_nil, or_false] at h9; exact cB_mem (by omega)) | exact cA_sub))) (FR.sub fa34.1 (by first | exact (fun _ h9 => h9) | decide | (intro c9 h9; simp only [List.mem_cons, List.not_mem_nil, or_false] at h9 ⊢; omega) | (intro c9 h9; simp only [List.mem_cons, List.not_mem_nil, or_false] at h9; exact cA_mem (by omega)) | (intro c9 h9; simp only [List.mem_cons, List.not_mem_nil, or_false] at h9; exact cB_mem (by omega)) | exact cA_sub))) (fun i9 h9 => (fa28.2.1.1 i9 (fun z9 => h9 (by first | exact z9 | (revert z9; simp; done) | (revert z9; simp; omega)))).trans ((show ∀ i9, i9 ∉ [2] → v25 i9 = v i9 from fun i9 h9 => (fa23.2.1.1 i9 (fun z9 => h9 (by first | exact z9 | (revert z9; simp; done) | (revert z9; simp; omega)))).trans ((show ∀ i9, i9 ∉ [2] → v8 i9 = v i9 from hG8) i9 h9)) i9 h9)) (by omega) (fa28.2.1.2) (⟨fun j hj => by rw [fa34.1 6 (by simp only [List.mem_cons, List.not_mem_nil, or_false, not_or]; omega), fa28.2.2.1 j hj, fa23.1 6 (by decide)]; exact hK.1 j hj, hK.2.tr ((BF.av V9.2.2).tr fa28.2.2.2)⟩) (⟨r2, k2.fr (fa34.1 1 (by simp only [List.mem_cons, List.not_mem_nil, or_false, not_or]; omega)) (fa34.1 3 (by simp only [List.mem_cons, List.not_mem_nil, or_false, not_or]; omega)) (fa34.1 4 (by simp only [List.mem_cons, List.not_mem_nil, or_false, not_or]; omega)) (by rw [fa34.1 6 (by simp only [List.mem_cons, List.not_mem_nil, or_false, not_or]; omega)]), by omega, fun hr q hq => h3 A9.1 q (EX.seq (ex_sumT J9) (k1.z0 hr) hq), fun hr => h3 A9.1 r2 (EX.sqx (x := r2.1) (n := r2.2) (ex_sumT J9) k1 hr)⟩))
              · skip
                refine qw_const rfl ?_
                refine qw_goto rfl ?_
                refine qw_istore (lo' := [some (.inr (.inr (some 6))), some (.inl e), some (.inl g), some (.inl k), some (.inl (-10))]) rfl rfl ?_
                refine qw_aload rfl rfl ?_
                refine qc_getR (t := some 1) rfl rfl rfl rfl rfl ?_
                refine qw_invV (rest := []) rfl rfl rfl rfl rfl (Nat.le_of_ble_eq_true rfl) rfl (y_X8_advance (d := d0) a8 b8 v8   (by omega) (by omega)) (fun z36 h9 hq37 => ?_)
                obtain ⟨a38, b39, v40, rfl, fa38, rfl⟩ := hq37
                show f_pq _ _ (62, [some (.inr (.inr (some 6))), some (.inl e), some (.inl g), some (.inl k), some (.inl (-10))], [], cH a38 b39 v40) _
                have V9 := fa38
                have C9 := A9.2.next ((fun J => J.elim tkS_k tkS_k) J9) V9.1 V9.2.2 V9.2.1.2.2
                refine qw_aload rfl rfl ?_
                refine qw_iload rfl rfl ?_
                refine qw_invV (rest := []) rfl rfl rfl rfl rfl (Nat.le_of_ble_eq_true rfl) rfl (ih2 d0 hd a38 b39 v40 z N (r.2 + 1) t fm (dd) F e fa38.2.1.2.1 ((fa38.2.1.1 4 (by decide)).trans ((hG8 4 (by decide)).trans h4)) hF (he) (by omega) (hD.same (by rw [V9.1 6 (by decide)]; exact hK.1 7 (by decide))) (C9)) (fun z41 h9 hq42 => ?_)
                obtain ⟨a43, b44, v45, rfl, fa43, x46, rfl, px46⟩ := hq42
                show f_pq _ _ (67, [some (.inr (.inr (some 6))), some (.inl e), some (.inl g), some (.inl k), some (.inl (-10))], [.inl x46], cH a43 b44 v45) _
                obtain ⟨r2, k1, k2⟩ := px46
                have L9 := k1.le
                refine qw_istore (lo' := [some (.inr (.inr (some 6))), some (.inl e), some (.inl x46), some (.inl k), some (.inl (-10))]) rfl rfl ?_
                refine qw_aload rfl rfl ?_
                refine qc_getR (t := some F) rfl rfl rfl rfl ((fa43.2.1.1 4 (by decide)).trans ((fa38.2.1.1 4 (by decide)).trans ((hG8 4 (by decide)).trans h4))) ?_
                refine qw_iload rfl rfl ?_
                refine qw_invV (rest := []) rfl rfl (sh_form (by omega)) rfl rfl (Nat.le_of_ble_eq_true rfl) rfl (y_X2_add (d := d0) a43 b44 v45  F (-10) (by omega)) (fun z47 h9 hq48 => ?_)
                obtain ⟨a49, rfl, fa49, rfl⟩ := hq48
                show f_pq _ _ (77, [some (.inr (.inr (some 6))), some (.inl e), some (.inl x46), some (.inl k), some (.inl (-10))], [], cH a49 b44 v45) _
                refine qw_iinc (lo' := fun z9 => [some (.inr (.inr (some 6))), some (.inl e), some (.inl x46), some (.inl z9), some (.inl (-10))]) rfl rfl (fun _ => rfl) (by omega) (fun x50 tx50 => ?_)
                exact qw_gotoD rfl (ih8 x46 x50 a49 b44 v45 (some (.inl (-10))) (FR.tr (FR.tr (FR.tr (hF8) (FR.sub fa38.1 (by first | exact (fun _ h9 => h9) | decide | (intro c9 h9; simp only [List.mem_cons, List.not_mem_nil, or_false] at h9 ⊢; omega) | (intro c9 h9; simp only [List.mem_cons, List.not_mem_nil, or_false] at h9; exact cA_mem (by omega)) | (intro c9 h9; simp only [List.mem_cons, List.not_mem_nil, or_false] at h9; exact cB_mem (by omega)) | exact cA_sub))) (FR.sub fa43.1 (by first | exact (fun _ h9 => h9) | decide | (intro c9 h9; simp only [List.mem_cons, List.not_mem_nil, or_false] at h9 ⊢; omega) | (intro c9 h9; simp only [List.mem_cons, List.not_mem_nil, or_false] at h9; exact cA_mem (by omega)) | (intro c9 h9; simp only [List.mem_cons, List.not_mem_nil, or_false] at h9; exact cB_mem (by omega)) | exact cA_sub))) (FR.sub fa49.1 (by first | exact (fun _ h9 => h9) | decide | (intro c9 h9; simp only [List.mem_cons, List.not_mem_nil, or_false] at h9 ⊢; omega) | (intro c9 h9; simp only [List.mem_cons, List.not_mem_nil, or_false] at h9; exact cA_mem (by omega)) | (intro c9 h9; simp only [List.mem_cons, List.not_mem_nil, or_false] at h9; exact cB_mem (by omega)) | exact cA_sub))) (fun i9 h9 => (fa43.2.1.1 i9 (fun z9 => h9 (by first | exact z9 | (revert z9; simp; done) | (revert z9; simp; omega)))).trans ((show ∀ i9, i9 ∉ [2] → v40 i9 = v i9 from fun i9 h9 => (fa38.2.1.1 i9 (fun z9 => h9 (by first | exact z9 | (revert z9; simp; done) | (revert z9; simp; omega)))).trans ((show ∀ i9, i9 ∉ [2] → v8 i9 = v i9 from hG8) i9 h9)) i9 h9)) (by omega) (fa43.2.1.2) (⟨fun j hj => by rw [fa49.1 6 (by simp only [List.mem_cons, List.not_mem_nil, or_false, not_or]; omega), fa43.2.2.1 j hj, fa38.1 6 (by decide)]; exact hK.1 j hj, hK.2.tr ((BF.av V9.2.2).tr fa43.2.2.2)⟩) (⟨r2, k2.fr (fa49.1 1 (by simp only [List.mem_cons, List.not_mem_nil, or_false, not_or]; omega)) (fa49.1 3 (by simp only [List.mem_cons, List.not_mem_nil, or_false, not_or]; omega)) (fa49.1 4 (by simp only [List.mem_cons, List.not_mem_nil, or_false, not_or]; omega)) (by rw [fa49.1 6 (by simp only [List.mem_cons, List.not_mem_nil, or_false, not_or]; omega)]), by omega, fun hr q hq => h3 A9.1 q (EX.seq (ex_sumT J9) (k1.z0 hr) hq), fun hr => h3 A9.1 r2 (EX.sqx (x := r2.1) (n := r2.2) (ex_sumT J9) k1 hr)⟩))
          · skip
            have J9 : tkS t z r.2 43 ∨ tkS t z r.2 45 := by rcases p9 with h | h; exact Or.inl h.2; omega
            refine qw_aload rfl rfl ?_
            refine qw_const rfl ?_
            refine qw_invV (rest := []) rfl rfl rfl rfl rfl (Nat.le_of_ble_eq_true rfl) rfl (y_X6_isSign (d := d0) a8 b8 v8 z N r.2 t 43 (A9.2)) (fun z51 h9 hq52 => ?_)
            obtain ⟨rfl, x53, rfl, px53⟩ := hq52
            show f_pq _ _ (43, [some (.inr (.inr (some 6))), some (.inl e), some (.inl g), some (.inl k), o4_8], [.inl x53], cH a8 b8 v8) _
            refine qw_if_eq rfl (fun c54 => ?_) (fun c54 => ?_)
            · skip
              refine qw_const rfl ?_
              refine qw_istore (lo' := [some (.inr (.inr (some 6))), some (.inl e), some (.inl g), some (.inl k), some (.inl (-11))]) rfl rfl ?_
              refine qw_aload rfl rfl ?_
              refine qc_getR (t := some 1) rfl rfl rfl rfl rfl ?_
              refine qw_invV (rest := []) rfl rfl rfl rfl rfl (Nat.le_of_ble_eq_true rfl) rfl (y_X8_advance (d := d0) a8 b8 v8   (by omega) (by omega)) (fun z55 h9 hq56 => ?_)
              obtain ⟨a57, b58, v59, rfl, fa57, rfl⟩ := hq56
              show f_pq _ _ (62, [some (.inr (.inr (some 6))), some (.inl e), some (.inl g), some (.inl k), some (.inl (-11))], [], cH a57 b58 v59) _
              have V9 := fa57
              have C9 := A9.2.next ((fun J => J.elim tkS_k tkS_k) J9) V9.1 V9.2.2 V9.2.1.2.2
              refine qw_aload rfl rfl ?_
              refine qw_iload rfl rfl ?_
              refine qw_invV (rest := []) rfl rfl rfl rfl rfl (Nat.le_of_ble_eq_true rfl) rfl (ih2 d0 hd a57 b58 v59 z N (r.2 + 1) t fm (dd) F e fa57.2.1.2.1 ((fa57.2.1.1 4 (by decide)).trans ((hG8 4 (by decide)).trans h4)) hF (he) (by omega) (hD.same (by rw [V9.1 6 (by decide)]; exact hK.1 7 (by decide))) (C9)) (fun z60 h9 hq61 => ?_)
              obtain ⟨a62, b63, v64, rfl, fa62, x65, rfl, px65⟩ := hq61
              show f_pq _ _ (67, [some (.inr (.inr (some 6))), some (.inl e), some (.inl g), some (.inl k), some (.inl (-11))], [.inl x65], cH a62 b63 v64) _
              obtain ⟨r2, k1, k2⟩ := px65
              have L9 := k1.le
              refine qw_istore (lo' := [some (.inr (.inr (some 6))), some (.inl e), some (.inl x65), some (.inl k), some (.inl (-11))]) rfl rfl ?_
              refine qw_aload rfl rfl ?_
              refine qc_getR (t := some F) rfl rfl rfl rfl ((fa62.2.1.1 4 (by decide)).trans ((fa57.2.1.1 4 (by decide)).trans ((hG8 4 (by decide)).trans h4))) ?_
              refine qw_iload rfl rfl ?_
              refine qw_invV (rest := []) rfl rfl (sh_form (by omega)) rfl rfl (Nat.le_of_ble_eq_true rfl) rfl (y_X2_add (d := d0) a62 b63 v64  F (-11) (by omega)) (fun z66 h9 hq67 => ?_)
              obtain ⟨a68, rfl, fa68, rfl⟩ := hq67
              show f_pq _ _ (77, [some (.inr (.inr (some 6))), some (.inl e), some (.inl x65), some (.inl k), some (.inl (-11))], [], cH a68 b63 v64) _
              refine qw_iinc (lo' := fun z9 => [some (.inr (.inr (some 6))), some (.inl e), some (.inl x65), some (.inl z9), some (.inl (-11))]) rfl rfl (fun _ => rfl) (by omega) (fun x69 tx69 => ?_)
              exact qw_gotoD rfl (ih8 x65 x69 a68 b63 v64 (some (.inl (-11))) (FR.tr (FR.tr (FR.tr (hF8) (FR.sub fa57.1 (by first | exact (fun _ h9 => h9) | decide | (intro c9 h9; simp only [List.mem_cons, List.not_mem_nil, or_false] at h9 ⊢; omega) | (intro c9 h9; simp only [List.mem_cons, List.not_mem_nil, or_false] at h9; exact cA_mem (by omega)) | (intro c9 h9; simp only [List.mem_cons, List.not_mem_nil, or_false] at h9; exact cB_mem (by omega)) | exact cA_sub))) (FR.sub fa62.1 (by first | exact (fun _ h9 => h9) | decide | (intro c9 h9; simp only [List.mem_cons, List.not_mem_nil, or_false] at h9 ⊢; omega) | (intro c9 h9; simp only [List.mem_cons, List.not_mem_nil, or_false] at h9; exact cA_mem (by omega)) | (intro c9 h9; simp only [List.mem_cons, List.not_mem_nil, or_false] at h9; exact cB_mem (by omega)) | exact cA_sub))) (FR.sub fa68.1 (by first | exact (fun _ h9 => h9) | decide | (intro c9 h9; simp only [List.mem_cons, List.not_mem_nil, or_false] at h9 ⊢; omega) | (intro c9 h9; simp only [List.mem_cons, List.not_mem_nil, or_false] at h9; exact cA_mem (by omega)) | (intro c9 h9; simp only [List.mem_cons, List.not_mem_nil, or_false] at h9; exact cB_mem (by omega)) | exact cA_sub))) (fun i9 h9 => (fa62.2.1.1 i9 (fun z9 => h9 (by first | exact z9 | (revert z9; simp; done) | (revert z9; simp; omega)))).trans ((show ∀ i9, i9 ∉ [2] → v59 i9 = v i9 from fun i9 h9 => (fa57.2.1.1 i9 (fun z9 => h9 (by first | exact z9 | (revert z9; simp; done) | (revert z9; simp; omega)))).trans ((show ∀ i9, i9 ∉ [2] → v8 i9 = v i9 from hG8) i9 h9)) i9 h9)) (by omega) (fa62.2.1.2) (⟨fun j hj => by rw [fa68.1 6 (by simp only [List.mem_cons, List.not_mem_nil, or_false, not_or]; omega), fa62.2.2.1 j hj, fa57.1 6 (by decide)]; exact hK.1 j hj, hK.2.tr ((BF.av V9.2.2).tr fa62.2.2.2)⟩) (⟨r2, k2.fr (fa68.1 1 (by simp only [List.mem_cons, List.not_mem_nil, or_false, not_or]; omega)) (fa68.1 3 (by simp only [List.mem_cons, List.not_mem_nil, or_false, not_or]; omega)) (fa68.1 4 (by simp only [List.mem_cons, List.not_mem_nil, or_false, not_or]; omega)) (by rw [fa68.1 6 (by simp only [List.mem_cons, List.not_mem_nil, or_false, not_or]; omega)]), by omega, fun hr q hq => h3 A9.1 q (EX.seq (ex_sumT J9) (k1.z0 hr) hq), fun hr => h3 A9.1 r2 (EX.sqx (x := r2.1) (n := r2.2) (ex_sumT J9) k1 hr)⟩))
            · skip
              refine qw_const rfl ?_
              refine qw_goto rfl ?_
              refine qw_istore (lo' := [some (.inr (.inr (some 6))), some (.inl e), some (.inl g), some (.inl k), some (.inl (-10))]) rfl rfl ?_
              refine qw_aload rfl rfl ?_
              refine qc_getR (t := some 1) rfl rfl rfl rfl rfl ?_
              refine qw_invV (rest := []) rfl rfl rfl rfl rfl (Nat.le_of_ble_eq_true rfl) rfl (y_X8_advance (d := d0) a8 b8 v8   (by omega) (by omega)) (fun z70 h9 hq71 => ?_)
              obtain ⟨a72, b73, v74, rfl, fa72, rfl⟩ := hq71
              show f_pq _ _ (62, [some (.inr (.inr (some 6))), some (.inl e), some (.inl g), some (.inl k), some (.inl (-10))], [], cH a72 b73 v74) _
              have V9 := fa72
              have C9 := A9.2.next ((fun J => J.elim tkS_k tkS_k) J9) V9.1 V9.2.2 V9.2.1.2.2
              refine qw_aload rfl rfl ?_
              refine qw_iload rfl rfl ?_
              refine qw_invV (rest := []) rfl rfl rfl rfl rfl (Nat.le_of_ble_eq_true rfl) rfl (ih2 d0 hd a72 b73 v74 z N (r.2 + 1) t fm (dd) F e fa72.2.1.2.1 ((fa72.2.1.1 4 (by decide)).trans ((hG8 4 (by decide)).trans h4)) hF (he) (by omega) (hD.same (by rw [V9.1 6 (by decide)]; exact hK.1 7 (by decide))) (C9)) (fun z75 h9 hq76 => ?_)
              obtain ⟨a77, b78, v79, rfl, fa77, x80, rfl, px80⟩ := hq76
              show f_pq _ _ (67, [some (.inr (.inr (some 6))), some (.inl e), some (.inl g), some (.inl k), some (.inl (-10))], [.inl x80], cH a77 b78 v79) _
              obtain ⟨r2, k1, k2⟩ := px80
              have L9 := k1.le
              refine qw_istore (lo' := [some (.inr (.inr (some 6))), some (.inl e), some (.inl x80), some (.inl k), some (.inl (-10))]) rfl rfl ?_
              refine qw_aload rfl rfl ?_
              refine qc_getR (t := some F) rfl rfl rfl rfl ((fa77.2.1.1 4 (by decide)).trans ((fa72.2.1.1 4 (by decide)).trans ((hG8 4 (by decide)).trans h4))) ?_
              refine qw_iload rfl rfl ?_
              refine qw_invV (rest := []) rfl rfl (sh_form (by omega)) rfl rfl (Nat.le_of_ble_eq_true rfl) rfl (y_X2_add (d := d0) a77 b78 v79  F (-10) (by omega)) (fun z81 h9 hq82 => ?_)
              obtain ⟨a83, rfl, fa83, rfl⟩ := hq82
              show f_pq _ _ (77, [some (.inr (.inr (some 6))), some (.inl e), some (.inl x80), some (.inl k), some (.inl (-10))], [], cH a83 b78 v79) _
              refine qw_iinc (lo' := fun z9 => [some (.inr (.inr (some 6))), some (.inl e), some (.inl x80), some (.inl z9), some (.inl (-10))]) rfl rfl (fun _ => rfl) (by omega) (fun x84 tx84 => ?_)
              exact qw_gotoD rfl (ih8 x80 x84 a83 b78 v79 (some (.inl (-10))) (FR.tr (FR.tr (FR.tr (hF8) (FR.sub fa72.1 (by first | exact (fun _ h9 => h9) | decide | (intro c9 h9; simp only [List.mem_cons, List.not_mem_nil, or_false] at h9 ⊢; omega) | (intro c9 h9; simp only [List.mem_cons, List.not_mem_nil, or_false] at h9; exact cA_mem (by omega)) | (intro c9 h9; simp only [List.mem_cons, List.not_mem_nil, or_false] at h9; exact cB_mem (by omega)) | exact cA_sub))) (FR.sub fa77.1 (by first | exact (fun _ h9 => h9) | decide | (intro c9 h9; simp only [List.mem_cons, List.not_mem_nil, or_false] at h9 ⊢; omega) | (intro c9 h9; simp only [List.mem_cons, List.not_mem_nil, or_false] at h9; exact cA_mem (by omega)) | (intro c9 h9; simp only [List.mem_cons, List.not_mem_nil, or_false] at h9; exact cB_mem (by omega)) | exact cA_sub))) (FR.sub fa83.1 (by first | exact (fun _ h9 => h9) | decide | (intro c9 h9; simp only [List.mem_cons, List.not_mem_nil, or_false] at h9 ⊢; omega) | (intro c9 h9; simp only [List.mem_cons, List.not_mem_nil, or_false] at h9; exact cA_mem (by omega)) | (intro c9 h9; simp only [List.mem_cons, List.not_mem_nil, or_false] at h9; exact cB_mem (by omega)) | exact cA_sub))) (fun i9 h9 => (fa77.2.1.1 i9 (fun z9 => h9 (by first | exact z9 | (revert z9; simp; done) | (revert z9; simp; omega)))).trans ((show ∀ i9, i9 ∉ [2] → v74 i9 = v i9 from fun i9 h9 => (fa72.2.1.1 i9 (fun z9 => h9 (by first | exact z9 | (revert z9; simp; done) | (revert z9; simp; omega)))).trans ((show ∀ i9, i9 ∉ [2] → v8 i9 = v i9 from hG8) i9 h9)) i9 h9)) (by omega) (fa77.2.1.2) (⟨fun j hj => by rw [fa83.1 6 (by simp only [List.mem_cons, List.not_mem_nil, or_false, not_or]; omega), fa77.2.2.1 j hj, fa72.1 6 (by decide)]; exact hK.1 j hj, hK.2.tr ((BF.av V9.2.2).tr fa77.2.2.2)⟩) (⟨r2, k2.fr (fa83.1 1 (by simp only [List.mem_cons, List.not_mem_nil, or_false, not_or]; omega)) (fa83.1 3 (by simp only [List.mem_cons, List.not_mem_nil, or_false, not_or]; omega)) (fa83.1 4 (by simp only [List.mem_cons, List.not_mem_nil, or_false, not_or]; omega)) (by rw [fa83.1 6 (by simp only [List.mem_cons, List.not_mem_nil, or_false, not_or]; omega)]), by omega, fun hr q hq => h3 A9.1 q (EX.seq (ex_sumT J9) (k1.z0 hr) hq), fun hr => h3 A9.1 r2 (EX.sqx (x := r2.1) (n := r2.2) (ex_sumT J9) k1 hr)⟩))
  exact loop8 _ x6 0 a3 b4 v5 none (FR.tr (FR.rf) (FR.sub fa3.1 (by first | exact (fun _ h9 => h9) | decide | (intro c9 h9; simp only [List.mem_cons, List.not_mem_nil, or_false] at h9 ⊢; omega) | (intro c9 h9; simp only [List.mem_cons, List.not_mem_nil, or_false] at h9; exact cA_mem (by omega)) | (intro c9 h9; simp only [List.mem_cons, List.not_mem_nil, or_false] at h9; exact cB_mem (by omega)) | exact cA_sub))) (fun i9 h9 => (fa3.2.1.1 i9 (fun z9 => h9 (by first | exact z9 | (revert z9; simp; done) | (revert z9; simp; omega)))).trans ((show ∀ i9, i9 ∉ [2] → v i9 = v i9 from (fun _ _ => rfl)) i9 h9)) (by omega) (fa3.2.1.2) (fa3.2.2) (⟨r0, g2, by have l9 : (0 : Int32).toInt = 0 := rfl; omega, fun hr q hq => EX.seq ex_sum (g1.z0 hr) hq, fun hr => EX.sqx (x := r0.1) (n := r0.2) ex_sum g1 hr⟩)
set_option maxRecDepth 4000 in
theorem y_X6_product_s {d : Nat} (a : Nat → Nat → Int32) (b : Nat → Nat → Int64) (v : Nat → Option Nat) (z : Nat) (N : Nat) (c : Nat) (t : Nat → Int32) (fm : Int) (dd : Nat) (F : Nat) (e : Int32) (ih2 : ∀ d0, d = d0 + 1 → CXrow d0 75 7) (hw : f_wdb (v 2) = true) (h4 : v 4 = some F) (hF : F = 26 ∨ F = 29 ∨ F = 50 ∨ F = 53) (he : e.toInt = (dd : Nat)) (hd5 : dd ≤ 5) (hD : dow fm a) (hS : CSt t z N c a b v) : f_pc mtC d 74 [.inr (.inr (some 6)), .inl e] (cH a b v) (fun v9 h' => ∃ (a' : Nat → Nat → Int32) (b' : Nat → Nat → Int64) (v' : Nat → Option Nat), h' = cH a' b' v' ∧ (FR [1, 6, F, F + 1] a a' ∧ ((∀ i, i ∉ [2] → v' i = v i) ∧ f_wdb (v' 2) = true) ∧ ((∀ j, j ≠ 10 → a' 6 j = a 6 j) ∧ BF b b')) ∧ ∃ x : Int32, v9 = some (.inl x) ∧ (∃ r : Int × Nat, EX t z fm 5 dd c r ∧ PSt t z N r.2 r.1 x a' b' v')) := by
  refine f_pc_of rfl (fun d0 fu hd => ?_)
  show f_pq _ _ (0, [some (.inr (.inr (some 6))), some (.inl e), none, none], [], cH a b v) _
  have lm12 : (-12 : Int32).toInt = -12 := rfl
  have l0 : (0 : Int32).toInt = 0 := rfl
  have l1 : (1 : Int32).toInt = 1 := rfl
  have l42 : (42 : Int32).toInt = 42 := rfl
  have l1000 : (1000 : Int32).toInt = 1000 := rfl
  refine qw_aload rfl rfl ?_
  refine qw_iload rfl rfl ?_
  refine qw_invV (rest := []) rfl rfl rfl rfl rfl (Nat.le_of_ble_eq_true rfl) rfl (ih2 d0 hd a b v z N (c) t fm (dd) F e hw h4 hF (he) (by omega) (hD.same (rfl)) (hS)) (fun z1 h9 hq2 => ?_)
  obtain ⟨a3, b4, v5, rfl, fa3, x6, rfl, px6⟩ := hq2
  show f_pq _ _ (5, [some (.inr (.inr (some 6))), some (.inl e), none, none], [.inl x6], cH a3 b4 v5) _
  obtain ⟨r0, g1, g2⟩ := px6
  refine qw_istore (lo' := [some (.inr (.inr (some 6))), some (.inl e), some (.inl x6), none]) rfl rfl ?_
  refine qw_const rfl ?_
  refine qw_istore (lo' := [some (.inr (.inr (some 6))), some (.inl e), some (.inl x6), some (.inl 0)]) rfl rfl ?_
  have loop8 : ∀ (fu8 : Nat) (g : Int32) (k : Int32) (a8 : Nat → Nat → Int32) (b8 : Nat → Nat → Int64) (v8 : Nat → Option Nat) ,  FR [1, 6, F, F + 1] a a8 → (∀ i, i ∉ [2] → v8 i = v i) → (0 ≤ k.toInt ∧ k.toInt ≤ 1000) → (f_wdb (v8 2) = true) → ((∀ j, j ≠ 10 → a8 6 j = a 6 j) ∧ BF b b8) → (∃ r : Int × Nat, PSt t z N r.2 r.1 g a8 b8 v8 ∧ k.toInt ≤ r.2 ∧ (r.1 = 0 → ∀ q, EX t z fm 6 dd r.2 q → EX t z fm 5 dd c q) ∧ (¬ r.1 = 0 → EX t z fm 5 dd c r)) → f_pq (f_code (t_X6_product (f_ev mtC d0))) fu8 (8, [some (.inr (.inr (some 6))), some (.inl e), some (.inl g), some (.inl k)], [], cH a8 b8 v8) (fun v9 h' => ∃ (a' : Nat → Nat → Int32) (b' : Nat → Nat → Int64) (v' : Nat → Option Nat), h' = cH a' b' v' ∧ (FR [1, 6, F, F + 1] a a' ∧ ((∀ i, i ∉ [2] → v' i = v i) ∧ f_wdb (v' 2) = true) ∧ ((∀ j, j ≠ 10 → a' 6 j = a 6 j) ∧ BF b b')) ∧ ∃ x : Int32, v9 = some (.inl x) ∧ (∃ r : Int × Nat, EX t z fm 5 dd c r ∧ PSt t z N r.2 r.1 x a' b' v')) := by
    intro fu8
    induction fu8 with
    | zero => intros; exact pq_0
    | succ fu8 ih8 =>
      intro g k a8 b8 v8  hF8 hG8 hk hw9 hK hW
      obtain ⟨r, h1, h2, h3, h4x⟩ := hW
      refine qw_iload rfl rfl ?_
      refine qw_const rfl ?_
      refine qw_ic_ge rfl (fun c7 => ?_) (fun c7 => ?_)
      · skip
        have E9 : r.1 = 0 → CSt t z N r.2 a8 b8 v8 := fun h0 => by rcases h1 with h | h; exact h.2.2; exact absurd h0 h.2.1
        refine qw_iload rfl rfl ?_
        exact qwp_iret (z := true) rfl (fun _ => h1.bv) ⟨a8, b8, v8, rfl, ⟨hF8, ⟨hG8, hw9⟩, hK⟩, ⟨_, rfl, ⟨r, by by_cases hr : r.1 = 0; exact h3 hr r (EX.r0 (ex_prdE (fun J => by first | exact absurd hr Z9 | exact absurd ((E9 hr).end (by omega)) (tkS_k J) | exact P9 J)) hr); exact h4x hr, h1⟩⟩⟩
      · skip
        refine qw_iload rfl rfl ?_
        refine qw_if_eq rfl (fun c8 => ?_) (fun c8 => ?_)
        · skip
          have Z9 : ¬ r.1 = 0 := by rcases h1 with h | h; omega; exact h.2.1
          refine qw_iload rfl rfl ?_
          exact qwp_iret (z := true) rfl (fun _ => h1.bv) ⟨a8, b8, v8, rfl, ⟨hF8, ⟨hG8, hw9⟩, hK⟩, ⟨_, rfl, ⟨r, by by_cases hr : r.1 = 0; exact h3 hr r (EX.r0 (ex_prdE (fun J => by first | exact absurd hr Z9 | exact absurd ((E9 hr).end (by omega)) (tkS_k J) | exact P9 J)) hr); exact h4x hr, h1⟩⟩⟩
        · skip
          have A9 : r.1 = 0 ∧ CSt t z N r.2 a8 b8 v8 := by rcases h1 with h | h; exact ⟨h.2.1, h.2.2⟩; omega
          have r9 := A9.2.pl
          refine qw_aload rfl rfl ?_
          refine qw_const rfl ?_
          refine qw_invV (rest := []) rfl rfl rfl rfl rfl (Nat.le_of_ble_eq_true rfl) rfl (y_X6_isSign (d := d0) a8 b8 v8 z N r.2 t 42 (A9.2)) (fun z9 h9 hq10 => ?_)
          obtain ⟨rfl, x11, rfl, px11⟩ := hq10
          show f_pq _ _ (25, [some (.inr (.inr (some 6))), some (.inl e), some (.inl g), some (.inl k)], [.inl x11], cH a8 b8 v8) _
          have p9 := px11
          refine qw_if_eq rfl (fun c12 => ?_) (fun c12 => ?_)
          · skip
            have P9 : ¬ tkS t z r.2 42 := by rcases p9 with h | h; omega; exact h.2
            refine qw_iload rfl rfl ?_
            exact qwp_iret (z := true) rfl (fun _ => h1.bv) ⟨a8, b8, v8, rfl, ⟨hF8, ⟨hG8, hw9⟩, hK⟩, ⟨_, rfl, ⟨r, by by_cases hr : r.1 = 0; exact h3 hr r (EX.r0 (ex_prdE (fun J => by first | exact absurd hr Z9 | exact absurd ((E9 hr).end (by omega)) (tkS_k J) | exact P9 J)) hr); exact h4x hr, h1⟩⟩⟩
          · skip
            have J9 : tkS t z r.2 42 := by rcases p9 with h | h; exact h.2; omega
            refine qw_aload rfl rfl ?_
            refine qc_getR (t := some 1) rfl rfl rfl rfl rfl ?_
            refine qw_invV (rest := []) rfl rfl rfl rfl rfl (Nat.le_of_ble_eq_true rfl) rfl (y_X8_advance (d := d0) a8 b8 v8   (by omega) (by omega)) (fun z13 h9 hq14 => ?_)
            obtain ⟨a15, b16, v17, rfl, fa15, rfl⟩ := hq14
            show f_pq _ _ (35, [some (.inr (.inr (some 6))), some (.inl e), some (.inl g), some (.inl k)], [], cH a15 b16 v17) _
            have V9 := fa15
            have C9 := A9.2.next (tkS_k J9) V9.1 V9.2.2 V9.2.1.2.2
            refine qw_aload rfl rfl ?_
            refine qw_iload rfl rfl ?_
            refine qw_invV (rest := []) rfl rfl rfl rfl rfl (Nat.le_of_ble_eq_true rfl) rfl (ih2 d0 hd a15 b16 v17 z N (r.2 + 1) t fm (dd) F e fa15.2.1.2.1 ((fa15.2.1.1 4 (by decide)).trans ((hG8 4 (by decide)).trans h4)) hF (he) (by omega) (hD.same (by rw [V9.1 6 (by decide)]; exact hK.1 7 (by decide))) (C9)) (fun z18 h9 hq19 => ?_)
            obtain ⟨a20, b21, v22, rfl, fa20, x23, rfl, px23⟩ := hq19
            show f_pq _ _ (40, [some (.inr (.inr (some 6))), some (.inl e), some (.inl g), some (.inl k)], [.inl x23], cH a20 b21 v22) _
            obtain ⟨r2, k1, k2⟩ := px23
            have L9 := k1.le
            refine qw_istore (lo' := [some (.inr (.inr (some 6))), some (.inl e), some (.inl x23), some (.inl k)]) rfl rfl ?_
            refine qw_aload rfl rfl ?_
            refine qc_getR (t := some F) rfl rfl rfl rfl ((fa20.2.1.1 4 (by decide)).trans ((fa15.2.1.1 4 (by decide)).trans ((hG8 4 (by decide)).trans h4))) ?_
            refine qw_const rfl ?_
            refine qw_invV (rest := []) rfl rfl (sh_form (by omega)) rfl rfl (Nat.le_of_ble_eq_true rfl) rfl (y_X2_add (d := d0) a20 b21 v22  F (-12) (by omega)) (fun z24 h9 hq25 => ?_)
            obtain ⟨a26, rfl, fa26, rfl⟩ := hq25
            show f_pq _ _ (50, [some (.inr (.inr (some 6))), some (.inl e), some (.inl x23), some (.inl k)], [], cH a26 b21 v22) _
            refine qw_iinc (lo' := fun z9 => [some (.inr (.inr (some 6))), some (.inl e), some (.inl x23), some (.inl z9)]) rfl rfl (fun _ => rfl) (by omega) (fun x27 tx27 => ?_)
            exact qw_gotoD rfl (ih8 x23 x27 a26 b21 v22 (FR.tr (FR.tr (FR.tr (hF8) (FR.sub fa15.1 (by first | exact (fun _ h9 => h9) | decide | (intro c9 h9; simp only [List.mem_cons, List.not_mem_nil, or_false] at h9 ⊢; omega) | (intro c9 h9; simp only [List.mem_cons, List.not_mem_nil, or_false] at h9; exact cA_mem (by omega)) | (intro c9 h9; simp only [List.mem_cons, List.not_mem_nil, or_false] at h9; exact cB_mem (by omega)) | exact cA_sub))) (FR.sub fa20.1 (by first | exact (fun _ h9 => h9) | decide | (intro c9 h9; simp only [List.mem_cons, List.not_mem_nil, or_false] at h9 ⊢; omega) | (intro c9 h9; simp only [List.mem_cons, List.not_mem_nil, or_false] at h9; exact cA_mem (by omega)) | (intro c9 h9; simp only [List.mem_cons, List.not_mem_nil, or_false] at h9; exact cB_mem (by omega)) | exact cA_sub))) (FR.sub fa26.1 (by first | exact (fun _ h9 => h9) | decide | (intro c9 h9; simp only [List.mem_cons, List.not_mem_nil, or_false] at h9 ⊢; omega) | (intro c9 h9; simp only [List.mem_cons, List.not_mem_nil, or_false] at h9; exact cA_mem (by omega)) | (intro c9 h9; simp only [List.mem_cons, List.not_mem_nil, or_false] at h9; exact cB_mem (by omega)) | exact cA_sub))) (fun i9 h9 => (fa20.2.1.1 i9 (fun z9 => h9 (by first | exact z9 | (revert z9; simp; done) | (revert z9; simp; omega)))).trans ((show ∀ i9, i9 ∉ [2] → v17 i9 = v i9 from fun i9 h9 => (fa15.2.1.1 i9 (fun z9 => h9 (by first | exact z9 | (revert z9; simp; done) | (revert z9; simp; omega)))).trans ((show ∀ i9, i9 ∉ [2] → v8 i9 = v i9 from hG8) i9 h9)) i9 h9)) (by omega) (fa20.2.1.2) (⟨fun j hj => by rw [fa26.1 6 (by simp only [List.mem_cons, List.not_mem_nil, or_false, not_or]; omega), fa20.2.2.1 j hj, fa15.1 6 (by decide)]; exact hK.1 j hj, hK.2.tr ((BF.av V9.2.2).tr fa20.2.2.2)⟩) (⟨r2, k2.fr (fa26.1 1 (by simp only [List.mem_cons, List.not_mem_nil, or_false, not_or]; omega)) (fa26.1 3 (by simp only [List.mem_cons, List.not_mem_nil, or_false, not_or]; omega)) (fa26.1 4 (by simp only [List.mem_cons, List.not_mem_nil, or_false, not_or]; omega)) (by rw [fa26.1 6 (by simp only [List.mem_cons, List.not_mem_nil, or_false, not_or]; omega)]), by omega, fun hr q hq => h3 A9.1 q (EX.seq (ex_prdT J9) (k1.z0 hr) hq), fun hr => h3 A9.1 r2 (EX.sqx (x := r2.1) (n := r2.2) (ex_prdT J9) k1 hr)⟩))
  exact loop8 _ x6 0 a3 b4 v5 (FR.tr (FR.rf) (FR.sub fa3.1 (by first | exact (fun _ h9 => h9) | decide | (intro c9 h9; simp only [List.mem_cons, List.not_mem_nil, or_false] at h9 ⊢; omega) | (intro c9 h9; simp only [List.mem_cons, List.not_mem_nil, or_false] at h9; exact cA_mem (by omega)) | (intro c9 h9; simp only [List.mem_cons, List.not_mem_nil, or_false] at h9; exact cB_mem (by omega)) | exact cA_sub))) (fun i9 h9 => (fa3.2.1.1 i9 (fun z9 => h9 (by first | exact z9 | (revert z9; simp; done) | (revert z9; simp; omega)))).trans ((show ∀ i9, i9 ∉ [2] → v i9 = v i9 from (fun _ _ => rfl)) i9 h9)) (by omega) (fa3.2.1.2) (fa3.2.2) (⟨r0, g2, by have l9 : (0 : Int32).toInt = 0 := rfl; omega, fun hr q hq => EX.seq ex_prd (g1.z0 hr) hq, fun hr => EX.sqx (x := r0.1) (n := r0.2) ex_prd g1 hr⟩)
set_option maxRecDepth 4000 in
theorem y_X6_test_s {d : Nat} (a : Nat → Nat → Int32) (b : Nat → Nat → Int64) (v : Nat → Option Nat) (z : Nat) (N : Nat) (c : Nat) (t : Nat → Int32) (fm : Int) (dd : Nat) (F : Nat) (e : Int32) (ih2 : ∀ d0, d = d0 + 1 → CXrow d0 73 3) (hw : f_wdb (v 2) = true) (h4 : v 4 = some F) (hF : F = 26 ∨ F = 29 ∨ F = 50 ∨ F = 53) (he : e.toInt = (dd : Nat)) (hd5 : dd ≤ 5) (hD : dow fm a) (hS : CSt t z N c a b v) : f_pc mtC d 72 [.inr (.inr (some 6)), .inl e] (cH a b v) (fun v9 h' => ∃ (a' : Nat → Nat → Int32) (b' : Nat → Nat → Int64) (v' : Nat → Option Nat), h' = cH a' b' v' ∧ (FR [1, 6, F, F + 1] a a' ∧ ((∀ i, i ∉ [2] → v' i = v i) ∧ f_wdb (v' 2) = true) ∧ ((∀ j, j ≠ 10 → a' 6 j = a 6 j) ∧ BF b b')) ∧ ∃ x : Int32, v9 = some (.inl x) ∧ (∃ r : Int × Nat, EX t z fm 2 dd c r ∧ PSt t z N r.2 r.1 x a' b' v')) := by
  refine f_pc_of rfl (fun d0 fu hd => ?_)
  show f_pq _ _ (0, [some (.inr (.inr (some 6))), some (.inl e), none, none], [], cH a b v) _
  have lm9 : (-9 : Int32).toInt = -9 := rfl
  have lm8 : (-8 : Int32).toInt = -8 := rfl
  have l0 : (0 : Int32).toInt = 0 := rfl
  have l1 : (1 : Int32).toInt = 1 := rfl
  have l60 : (60 : Int32).toInt = 60 := rfl
  have l61 : (61 : Int32).toInt = 61 := rfl
  refine qw_aload rfl rfl ?_
  refine qw_iload rfl rfl ?_
  refine qw_invV (rest := []) rfl rfl rfl rfl rfl (Nat.le_of_ble_eq_true rfl) rfl (ih2 d0 hd a b v z N (c) t fm (dd) F e hw h4 hF (he) (by omega) (hD.same (rfl)) (hS)) (fun z1 h9 hq2 => ?_)
  obtain ⟨a3, b4, v5, rfl, fa3, x6, rfl, px6⟩ := hq2
  show f_pq _ _ (5, [some (.inr (.inr (some 6))), some (.inl e), none, none], [.inl x6], cH a3 b4 v5) _
  obtain ⟨r0, g1, g2⟩ := px6
  refine qw_if_ne rfl (fun c7 => ?_) (fun c7 => ?_)
  · skip
    have Z9 : ¬ r0.1 = 0 := by rcases g2 with h | h; omega; exact h.2.1
    have Z0 : EX t z fm 2 dd c r0 := ex_tstX (x := r0.1) (n := r0.2) g1 Z9
    have g2 : PSt t z N r0.2 r0.1 0 a3 b4 v5 := by rcases g2 with h | h; omega; exact Or.inr ⟨rfl, h.2⟩
    refine qw_const rfl ?_
    exact qwp_iret (z := true) rfl (fun _ => by first | exact Or.inl rfl | exact Or.inr rfl | exact k2.bv) ⟨a3, b4, v5, rfl, ⟨FR.tr (FR.rf) (FR.sub fa3.1 (by first | exact (fun _ h9 => h9) | decide | (intro c9 h9; simp only [List.mem_cons, List.not_mem_nil, or_false] at h9 ⊢; omega) | (intro c9 h9; simp only [List.mem_cons, List.not_mem_nil, or_false] at h9; exact cA_mem (by omega)) | (intro c9 h9; simp only [List.mem_cons, List.not_mem_nil, or_false] at h9; exact cB_mem (by omega)) | exact cA_sub)), ⟨fun i9 h9 => (fa3.2.1.1 i9 (fun z9 => h9 (by first | exact z9 | (revert z9; simp; done) | (revert z9; simp; omega)))).trans ((show ∀ i9, i9 ∉ [2] → v i9 = v i9 from (fun _ _ => rfl)) i9 h9), fa3.2.1.2⟩, fa3.2.2⟩, ⟨_, rfl, ⟨r0, Z0, g2⟩⟩⟩
  · skip
    have A9 : r0.1 = 0 ∧ CSt t z N r0.2 a3 b4 v5 := by rcases g2 with h | h; exact ⟨h.2.1, h.2.2⟩; omega
    have r9 := A9.2.pl
    refine qw_aload rfl rfl ?_
    refine qw_const rfl ?_
    refine qw_invV (rest := []) rfl rfl rfl rfl rfl (Nat.le_of_ble_eq_true rfl) rfl (y_X6_isSign (d := d0) a3 b4 v5 z N r0.2 t 60 (A9.2)) (fun z8 h9 hq9 => ?_)
    obtain ⟨rfl, x10, rfl, px10⟩ := hq9
    show f_pq _ _ (16, [some (.inr (.inr (some 6))), some (.inl e), none, none], [.inl x10], cH a3 b4 v5) _
    have p9 := px10
    refine qw_if_ne rfl (fun c11 => ?_) (fun c11 => ?_)
    · skip
      refine qw_aload rfl rfl ?_
      refine qw_const rfl ?_
      refine qw_invV (rest := []) rfl rfl rfl rfl rfl (Nat.le_of_ble_eq_true rfl) rfl (y_X6_isSign (d := d0) a3 b4 v5 z N r0.2 t 61 (A9.2)) (fun z12 h9 hq13 => ?_)
      obtain ⟨rfl, x14, rfl, px14⟩ := hq13
      show f_pq _ _ (25, [some (.inr (.inr (some 6))), some (.inl e), none, none], [.inl x14], cH a3 b4 v5) _
      have p8 := px14
      refine qw_if_ne rfl (fun c15 => ?_) (fun c15 => ?_)
      · skip
        have P9 : ¬ (tkS t z r0.2 60 ∨ tkS t z r0.2 61) := fun J => by rcases p9 with h | h; omega; rcases p8 with g | g; omega; exact J.elim h.2 g.2
        have Z0 : EX t z fm 2 dd c r0 := EX.r0 (ex_tst1 (g1.z0 A9.1) P9) A9.1
        have g2 : PSt t z N r0.2 r0.1 1 a3 b4 v5 := PSt.ok rfl A9.1 A9.2
        refine qw_const rfl ?_
        exact qwp_iret (z := true) rfl (fun _ => by first | exact Or.inl rfl | exact Or.inr rfl | exact k2.bv) ⟨a3, b4, v5, rfl, ⟨FR.tr (FR.rf) (FR.sub fa3.1 (by first | exact (fun _ h9 => h9) | decide | (intro c9 h9; simp only [List.mem_cons, List.not_mem_nil, or_false] at h9 ⊢; omega) | (intro c9 h9; simp only [List.mem_cons, List.not_mem_nil, or_false] at h9; exact cA_mem (by omega)) | (intro c9 h9; simp only [List.mem_cons, List.not_mem_nil, or_false] at h9; exact cB_mem (by omega)) | exact cA_sub)), ⟨fun i9 h9 => (fa3.2.1.1 i9 (fun z9 => h9 (by first | exact z9 | (revert z9; simp; done) | (revert z9; simp; omega)))).trans ((show ∀ i9, i9 ∉ [2] → v i9 = v i9 from (fun _ _ => rfl)) i9 h9), fa3.2.1.2⟩, fa3.2.2⟩, ⟨_, rfl, ⟨r0, Z0, g2⟩⟩⟩
      · skip
        have J9 : tkS t z r0.2 60 ∨ tkS t z r0.2 61 := by rcases p8 with h | h; exact Or.inr h.2; omega
        refine qw_aload rfl rfl ?_
        refine qw_const rfl ?_
        refine qw_invV (rest := []) rfl rfl rfl rfl rfl (Nat.le_of_ble_eq_true rfl) rfl (y_X6_isSign (d := d0) a3 b4 v5 z N r0.2 t 60 (A9.2)) (fun z16 h9 hq17 => ?_)
        obtain ⟨rfl, x18, rfl, px18⟩ := hq17
        show f_pq _ _ (36, [some (.inr (.inr (some 6))), some (.inl e), none, none], [.inl x18], cH a3 b4 v5) _
        refine qw_if_eq rfl (fun c19 => ?_) (fun c19 => ?_)
        · skip
          refine qw_const rfl ?_
          refine qw_istore (lo' := [some (.inr (.inr (some 6))), some (.inl e), some (.inl (-9)), none]) rfl rfl ?_
          refine qw_aload rfl rfl ?_
          refine qc_getR (t := some 1) rfl rfl rfl rfl rfl ?_
          refine qw_invV (rest := []) rfl rfl rfl rfl rfl (Nat.le_of_ble_eq_true rfl) rfl (y_X8_advance (d := d0) a3 b4 v5   (by omega) (by omega)) (fun z20 h9 hq21 => ?_)
          obtain ⟨a22, b23, v24, rfl, fa22, rfl⟩ := hq21
          show f_pq _ _ (54, [some (.inr (.inr (some 6))), some (.inl e), some (.inl (-9)), none], [], cH a22 b23 v24) _
          have V9 := fa22
          have C9 := A9.2.next (J9.elim tkS_k tkS_k) V9.1 V9.2.2 V9.2.1.2.2
          refine qw_aload rfl rfl ?_
          refine qw_iload rfl rfl ?_
          refine qw_invV (rest := []) rfl rfl rfl rfl rfl (Nat.le_of_ble_eq_true rfl) rfl (ih2 d0 hd a22 b23 v24 z N (r0.2 + 1) t fm (dd) F e fa22.2.1.2.1 ((fa22.2.1.1 4 (by decide)).trans ((fa3.2.1.1 4 (by decide)).trans h4)) hF (he) (by omega) (hD.same (by rw [V9.1 6 (by decide)]; exact fa3.2.2.1 7 (by decide))) (C9)) (fun z25 h9 hq26 => ?_)
          obtain ⟨a27, b28, v29, rfl, fa27, x30, rfl, px30⟩ := hq26
          show f_pq _ _ (59, [some (.inr (.inr (some 6))), some (.inl e), some (.inl (-9)), none], [.inl x30], cH a27 b28 v29) _
          obtain ⟨r2, k1, k2⟩ := px30
          have w7 := fa27.2.1.2
          refine qw_istore (lo' := [some (.inr (.inr (some 6))), some (.inl e), some (.inl (-9)), some (.inl x30)]) rfl rfl ?_
          refine qw_aload rfl rfl ?_
          refine qc_getR (t := some F) rfl rfl rfl rfl ((fa27.2.1.1 4 (by decide)).trans ((fa22.2.1.1 4 (by decide)).trans ((fa3.2.1.1 4 (by decide)).trans h4))) ?_
          refine qw_iload rfl rfl ?_
          refine qw_invV (rest := []) rfl rfl (sh_form (by omega)) rfl rfl (Nat.le_of_ble_eq_true rfl) rfl (y_X2_add (d := d0) a27 b28 v29  F (-9) (by omega)) (fun z31 h9 hq32 => ?_)
          obtain ⟨a33, rfl, fa33, rfl⟩ := hq32
          show f_pq _ _ (68, [some (.inr (.inr (some 6))), some (.inl e), some (.inl (-9)), some (.inl x30)], [], cH a33 b28 v29) _
          refine qw_iload rfl rfl ?_
          exact qwp_iret (z := true) rfl (fun _ => by first | exact Or.inl rfl | exact Or.inr rfl | exact k2.bv) ⟨a33, b28, v29, rfl, ⟨FR.tr (FR.tr (FR.tr (FR.tr (FR.rf) (FR.sub fa3.1 (by first | exact (fun _ h9 => h9) | decide | (intro c9 h9; simp only [List.mem_cons, List.not_mem_nil, or_false] at h9 ⊢; omega) | (intro c9 h9; simp only [List.mem_cons, List.not_mem_nil, or_false] at h9; exact cA_mem (by omega)) | (intro c9 h9; simp only [List.mem_cons, List.not_mem_nil, or_false] at h9; exact cB_mem (by omega)) | exact cA_sub))) (FR.sub fa22.1 (by first | exact (fun _ h9 => h9) | decide | (intro c9 h9; simp only [List.mem_cons, List.not_mem_nil, or_false] at h9 ⊢; omega) | (intro c9 h9; simp only [List.mem_cons, List.not_mem_nil, or_false] at h9; exact cA_mem (by omega)) | (intro c9 h9; simp only [List.mem_cons, List.not_mem_nil, or_false] at h9; exact cB_mem (by omega)) | exact cA_sub))) (FR.sub fa27.1 (by first | exact (fun _ h9 => h9) | decide | (intro c9 h9; simp only [List.mem_cons, List.not_mem_nil, or_false] at h9 ⊢; omega) | (intro c9 h9; simp only [List.mem_cons, List.not_mem_nil, or_false] at h9; exact cA_mem (by omega)) | (intro c9 h9; simp only [List.mem_cons, List.not_mem_nil, or_false] at h9; exact cB_mem (by omega)) | exact cA_sub))) (FR.sub fa33.1 (by first | exact (fun _ h9 => h9) | decide | (intro c9 h9; simp only [List.mem_cons, List.not_mem_nil, or_false] at h9 ⊢; omega) | (intro c9 h9; simp only [List.mem_cons, List.not_mem_nil, or_false] at h9; exact cA_mem (by omega)) | (intro c9 h9; simp only [List.mem_cons, List.not_mem_nil, or_false] at h9; exact cB_mem (by omega)) | exact cA_sub)), ⟨fun i9 h9 => (fa27.2.1.1 i9 (fun z9 => h9 (by first | exact z9 | (revert z9; simp; done) | (revert z9; simp; omega)))).trans ((show ∀ i9, i9 ∉ [2] → v24 i9 = v i9 from fun i9 h9 => (fa22.2.1.1 i9 (fun z9 => h9 (by first | exact z9 | (revert z9; simp; done) | (revert z9; simp; omega)))).trans ((show ∀ i9, i9 ∉ [2] → v5 i9 = v i9 from fun i9 h9 => (fa3.2.1.1 i9 (fun z9 => h9 (by first | exact z9 | (revert z9; simp; done) | (revert z9; simp; omega)))).trans ((show ∀ i9, i9 ∉ [2] → v i9 = v i9 from (fun _ _ => rfl)) i9 h9)) i9 h9)) i9 h9), w7⟩, ⟨fun j hj => by rw [fa33.1 6 (by simp only [List.mem_cons, List.not_mem_nil, or_false, not_or]; omega), fa27.2.2.1 j hj, fa22.1 6 (by decide)]; exact fa3.2.2.1 j hj, fa3.2.2.2.tr ((BF.av V9.2.2).tr fa27.2.2.2)⟩⟩, ⟨_, rfl, ⟨r2, ex_tst2 (g1.z0 A9.1) J9 k1, k2.fr (fa33.1 1 (by simp only [List.mem_cons, List.not_mem_nil, or_false, not_or]; omega)) (fa33.1 3 (by simp only [List.mem_cons, List.not_mem_nil, or_false, not_or]; omega)) (fa33.1 4 (by simp only [List.mem_cons, List.not_mem_nil, or_false, not_or]; omega)) (by rw [fa33.1 6 (by simp only [List.mem_cons, List.not_mem_nil, or_false, not_or]; omega)])⟩⟩⟩
        · skip
          refine qw_const rfl ?_
          refine qw_goto rfl ?_
          refine qw_istore (lo' := [some (.inr (.inr (some 6))), some (.inl e), some (.inl (-8)), none]) rfl rfl ?_
          refine qw_aload rfl rfl ?_
          refine qc_getR (t := some 1) rfl rfl rfl rfl rfl ?_
          refine qw_invV (rest := []) rfl rfl rfl rfl rfl (Nat.le_of_ble_eq_true rfl) rfl (y_X8_advance (d := d0) a3 b4 v5   (by omega) (by omega)) (fun z34 h9 hq35 => ?_)
          obtain ⟨a36, b37, v38, rfl, fa36, rfl⟩ := hq35
          show f_pq _ _ (54, [some (.inr (.inr (some 6))), some (.inl e), some (.inl (-8)), none], [], cH a36 b37 v38) _
          have V9 := fa36
          have C9 := A9.2.next (J9.elim tkS_k tkS_k) V9.1 V9.2.2 V9.2.1.2.2
          refine qw_aload rfl rfl ?_
          refine qw_iload rfl rfl ?_
          refine qw_invV (rest := []) rfl rfl rfl rfl rfl (Nat.le_of_ble_eq_true rfl) rfl (ih2 d0 hd a36 b37 v38 z N (r0.2 + 1) t fm (dd) F e fa36.2.1.2.1 ((fa36.2.1.1 4 (by decide)).trans ((fa3.2.1.1 4 (by decide)).trans h4)) hF (he) (by omega) (hD.same (by rw [V9.1 6 (by decide)]; exact fa3.2.2.1 7 (by decide))) (C9)) (fun z39 h9 hq40 => ?_)
          obtain ⟨a41, b42, v43, rfl, fa41, x44, rfl, px44⟩ := hq40
          show f_pq _ _ (59, [some (.inr (.inr (some 6))), some (.inl e), some (.inl (-8)), none], [.inl x44], cH a41 b42 v43) _
          obtain ⟨r2, k1, k2⟩ := px44
          have w7 := fa41.2.1.2
          refine qw_istore (lo' := [some (.inr (.inr (some 6))), some (.inl e), some (.inl (-8)), some (.inl x44)]) rfl rfl ?_
          refine qw_aload rfl rfl ?_
          refine qc_getR (t := some F) rfl rfl rfl rfl ((fa41.2.1.1 4 (by decide)).trans ((fa36.2.1.1 4 (by decide)).trans ((fa3.2.1.1 4 (by decide)).trans h4))) ?_
          refine qw_iload rfl rfl ?_
          refine qw_invV (rest := []) rfl rfl (sh_form (by omega)) rfl rfl (Nat.le_of_ble_eq_true rfl) rfl (y_X2_add (d := d0) a41 b42 v43  F (-8) (by omega)) (fun z45 h9 hq46 => ?_)
          obtain ⟨a47, rfl, fa47, rfl⟩ := hq46
          show f_pq _ _ (68, [some (.inr (.inr (some 6))), some (.inl e), some (.inl (-8)), some (.inl x44)], [], cH a47 b42 v43) _
          refine qw_iload rfl rfl ?_
          exact qwp_iret (z := true) rfl (fun _ => by first | exact Or.inl rfl | exact Or.inr rfl | exact k2.bv) ⟨a47, b42, v43, rfl, ⟨FR.tr (FR.tr (FR.tr (FR.tr (FR.rf) (FR.sub fa3.1 (by first | exact (fun _ h9 => h9) | decide | (intro c9 h9; simp only [List.mem_cons, List.not_mem_nil, or_false] at h9 ⊢; omega) | (intro c9 h9; simp only [List.mem_cons, List.not_mem_nil, or_false] at h9; exact cA_mem (by omega)) | (intro c9 h9; simp only [List.mem_cons, List.not_mem_nil, or_false] at h9; exact cB_mem (by omega)) | exact cA_sub))) (FR.sub fa36.1 (by first | exact (fun _ h9 => h9) | decide | (intro c9 h9; simp only [List.mem_cons, List.not_mem_nil, or_false] at h9 ⊢; omega) | (intro c9 h9; simp only [List.mem_cons, List.not_mem_nil, or_false] at h9; exact cA_mem (by omega)) | (intro c9 h9; simp only [List.mem_cons, List.not_mem_nil, or_false] at h9; exact cB_mem (by omega)) | exact cA_sub))) (FR.sub fa41.1 (by first | exact (fun _ h9 => h9) | decide | (intro c9 h9; simp only [List.mem_cons, List.not_mem_nil, or_false] at h9 ⊢; omega) | (intro c9 h9; simp only [List.mem_cons, List.not_mem_nil, or_false] at h9; exact cA_mem (by omega)) | (intro c9 h9; simp only [List.mem_cons, List.not_mem_nil, or_false] at h9; exact cB_mem (by omega)) | exact cA_sub))) (FR.sub fa47.1 (by first | exact (fun _ h9 => h9) | decide | (intro c9 h9; simp only [List.mem_cons, List.not_mem_nil, or_false] at h9 ⊢; omega) | (intro c9 h9; simp only [List.mem_cons, List.not_mem_nil, or_false] at h9; exact cA_mem (by omega)) | (intro c9 h9; simp only [List.mem_cons, List.not_mem_nil, or_false] at h9; exact cB_mem (by omega)) | exact cA_sub)), ⟨fun i9 h9 => (fa41.2.1.1 i9 (fun z9 => h9 (by first | exact z9 | (revert z9; simp; done) | (revert z9; simp; omega)))).trans ((show ∀ i9, i9 ∉ [2] → v38 i9 = v i9 from fun i9 h9 => (fa36.2.1.1 i9 (fun z9 => h9 (by first | exact z9 | (revert z9; simp; done) | (revert z9; simp; omega)))).trans ((show ∀ i9, i9 ∉ [2] → v5 i9 = v i9 from fun i9 h9 => (fa3.2.1.1 i9 (fun z9 => h9 (by first | exact z9 | (revert z9; simp; done) | (revert z9; simp; omega)))).trans ((show ∀ i9, i9 ∉ [2] → v i9 = v i9 from (fun _ _ => rfl)) i9 h9)) i9 h9)) i9 h9), w7⟩, ⟨fun j hj => by rw [fa47.1 6 (by simp only [List.mem_cons, List.not_mem_nil, or_false, not_or]; omega), fa41.2.2.1 j hj, fa36.1 6 (by decide)]; exact fa3.2.2.1 j hj, fa3.2.2.2.tr ((BF.av V9.2.2).tr fa41.2.2.2)⟩⟩, ⟨_, rfl, ⟨r2, ex_tst2 (g1.z0 A9.1) J9 k1, k2.fr (fa47.1 1 (by simp only [List.mem_cons, List.not_mem_nil, or_false, not_or]; omega)) (fa47.1 3 (by simp only [List.mem_cons, List.not_mem_nil, or_false, not_or]; omega)) (fa47.1 4 (by simp only [List.mem_cons, List.not_mem_nil, or_false, not_or]; omega)) (by rw [fa47.1 6 (by simp only [List.mem_cons, List.not_mem_nil, or_false, not_or]; omega)])⟩⟩⟩
    · skip
      have J9 : tkS t z r0.2 60 ∨ tkS t z r0.2 61 := by rcases p9 with h | h; exact Or.inl h.2; omega
      refine qw_aload rfl rfl ?_
      refine qw_const rfl ?_
      refine qw_invV (rest := []) rfl rfl rfl rfl rfl (Nat.le_of_ble_eq_true rfl) rfl (y_X6_isSign (d := d0) a3 b4 v5 z N r0.2 t 60 (A9.2)) (fun z48 h9 hq49 => ?_)
      obtain ⟨rfl, x50, rfl, px50⟩ := hq49
      show f_pq _ _ (36, [some (.inr (.inr (some 6))), some (.inl e), none, none], [.inl x50], cH a3 b4 v5) _
      refine qw_if_eq rfl (fun c51 => ?_) (fun c51 => ?_)
      · skip
        refine qw_const rfl ?_
        refine qw_istore (lo' := [some (.inr (.inr (some 6))), some (.inl e), some (.inl (-9)), none]) rfl rfl ?_
        refine qw_aload rfl rfl ?_
        refine qc_getR (t := some 1) rfl rfl rfl rfl rfl ?_
        refine qw_invV (rest := []) rfl rfl rfl rfl rfl (Nat.le_of_ble_eq_true rfl) rfl (y_X8_advance (d := d0) a3 b4 v5   (by omega) (by omega)) (fun z52 h9 hq53 => ?_)
        obtain ⟨a54, b55, v56, rfl, fa54, rfl⟩ := hq53
        show f_pq _ _ (54, [some (.inr (.inr (some 6))), some (.inl e), some (.inl (-9)), none], [], cH a54 b55 v56) _
        have V9 := fa54
        have C9 := A9.2.next (J9.elim tkS_k tkS_k) V9.1 V9.2.2 V9.2.1.2.2
        refine qw_aload rfl rfl ?_
        refine qw_iload rfl rfl ?_
        refine qw_invV (rest := []) rfl rfl rfl rfl rfl (Nat.le_of_ble_eq_true rfl) rfl (ih2 d0 hd a54 b55 v56 z N (r0.2 + 1) t fm (dd) F e fa54.2.1.2.1 ((fa54.2.1.1 4 (by decide)).trans ((fa3.2.1.1 4 (by decide)).trans h4)) hF (he) (by omega) (hD.same (by rw [V9.1 6 (by decide)]; exact fa3.2.2.1 7 (by decide))) (C9)) (fun z57 h9 hq58 => ?_)
        obtain ⟨a59, b60, v61, rfl, fa59, x62, rfl, px62⟩ := hq58
        show f_pq _ _ (59, [some (.inr (.inr (some 6))), some (.inl e), some (.inl (-9)), none], [.inl x62], cH a59 b60 v61) _
        obtain ⟨r2, k1, k2⟩ := px62
        have w7 := fa59.2.1.2
        refine qw_istore (lo' := [some (.inr (.inr (some 6))), some (.inl e), some (.inl (-9)), some (.inl x62)]) rfl rfl ?_
        refine qw_aload rfl rfl ?_
        refine qc_getR (t := some F) rfl rfl rfl rfl ((fa59.2.1.1 4 (by decide)).trans ((fa54.2.1.1 4 (by decide)).trans ((fa3.2.1.1 4 (by decide)).trans h4))) ?_
        refine qw_iload rfl rfl ?_
        refine qw_invV (rest := []) rfl rfl (sh_form (by omega)) rfl rfl (Nat.le_of_ble_eq_true rfl) rfl (y_X2_add (d := d0) a59 b60 v61  F (-9) (by omega)) (fun z63 h9 hq64 => ?_)
        obtain ⟨a65, rfl, fa65, rfl⟩ := hq64
        show f_pq _ _ (68, [some (.inr (.inr (some 6))), some (.inl e), some (.inl (-9)), some (.inl x62)], [], cH a65 b60 v61) _
        refine qw_iload rfl rfl ?_
        exact qwp_iret (z := true) rfl (fun _ => by first | exact Or.inl rfl | exact Or.inr rfl | exact k2.bv) ⟨a65, b60, v61, rfl, ⟨FR.tr (FR.tr (FR.tr (FR.tr (FR.rf) (FR.sub fa3.1 (by first | exact (fun _ h9 => h9) | decide | (intro c9 h9; simp only [List.mem_cons, List.not_mem_nil, or_false] at h9 ⊢; omega) | (intro c9 h9; simp only [List.mem_cons, List.not_mem_nil, or_false] at h9; exact cA_mem (by omega)) | (intro c9 h9; simp only [List.mem_cons, List.not_mem_nil, or_false] at h9; exact cB_mem (by omega)) | exact cA_sub))) (FR.sub fa54.1 (by first | exact (fun _ h9 => h9) | decide | (intro c9 h9; simp only [List.mem_cons, List.not_mem_nil, or_false] at h9 ⊢; omega) | (intro c9 h9; simp only [List.mem_cons, List.not_mem_nil, or_false] at h9; exact cA_mem (by omega)) | (intro c9 h9; simp only [List.mem_cons, List.not_mem_nil, or_false] at h9; exact cB_mem (by omega)) | exact cA_sub))) (FR.sub fa59.1 (by first | exact (fun _ h9 => h9) | decide | (intro c9 h9; simp only [List.mem_cons, List.not_mem_nil, or_false] at h9 ⊢; omega) | (intro c9 h9; simp only [List.mem_cons, List.not_mem_nil, or_false] at h9; exact cA_mem (by omega)) | (intro c9 h9; simp only [List.mem_cons, List.not_mem_nil, or_false] at h9; exact cB_mem (by omega)) | exact cA_sub))) (FR.sub fa65.1 (by first | exact (fun _ h9 => h9) | decide | (intro c9 h9; simp only [List.mem_cons, List.not_mem_nil, or_false] at h9 ⊢; omega) | (intro c9 h9; simp only [List.mem_cons, List.not_mem_nil, or_false] at h9; exact cA_mem (by omega)) | (intro c9 h9; simp only [List.mem_cons, List.not_mem_nil, or_false] at h9; exact cB_mem (by omega)) | exact cA_sub)), ⟨fun i9 h9 => (fa59.2.1.1 i9 (fun z9 => h9 (by first | exact z9 | (revert z9; simp; done) | (revert z9; simp; omega)))).trans ((show ∀ i9, i9 ∉ [2] → v56 i9 = v i9 from fun i9 h9 => (fa54.2.1.1 i9 (fun z9 => h9 (by first | exact z9 | (revert z9; simp; done) | (revert z9; simp; omega)))).trans ((show ∀ i9, i9 ∉ [2] → v5 i9 = v i9 from fun i9 h9 => (fa3.2.1.1 i9 (fun z9 => h9 (by first | exact z9 | (revert z9; simp; done) | (revert z9; simp; omega)))).trans ((show ∀ i9, i9 ∉ [2] → v i9 = v i9 from (fun _ _ => rfl)) i9 h9)) i9 h9)) i9 h9), w7⟩, ⟨fun j hj => by rw [fa65.1 6 (by simp only [List.mem_cons, List.not_mem_nil, or_false, not_or]; omega), fa59.2.2.1 j hj, fa54.1 6 (by decide)]; exact fa3.2.2.1 j hj, fa3.2.2.2.tr ((BF.av V9.2.2).tr fa59.2.2.2)⟩⟩, ⟨_, rfl, ⟨r2, ex_tst2 (g1.z0 A9.1) J9 k1, k2.fr (fa65.1 1 (by simp only [List.mem_cons, List.not_mem_nil, or_false, not_or]; omega)) (fa65.1 3 (by simp only [List.mem_cons, List.not_mem_nil, or_false, not_or]; omega)) (fa65.1 4 (by simp only [List.mem_cons, List.not_mem_nil, or_false, not_or]; omega)) (by rw [fa65.1 6 (by simp only [List.mem_cons, List.not_mem_nil, or_false, not_or]; omega)])⟩⟩⟩
      · skip
        refine qw_const rfl ?_
        refine qw_goto rfl ?_
        refine qw_istore (lo' := [some (.inr (.inr (some 6))), some (.inl e), some (.inl (-8)), none]) rfl rfl ?_
        refine qw_aload rfl rfl ?_
        refine qc_getR (t := some 1) rfl rfl rfl rfl rfl ?_
        refine qw_invV (rest := []) rfl rfl rfl rfl rfl (Nat.le_of_ble_eq_true rfl) rfl (y_X8_advance (d := d0) a3 b4 v5   (by omega) (by omega)) (fun z66 h9 hq67 => ?_)
        obtain ⟨a68, b69, v70, rfl, fa68, rfl⟩ := hq67
        show f_pq _ _ (54, [some (.inr (.inr (some 6))), some (.inl e), some (.inl (-8)), none], [], cH a68 b69 v70) _
        have V9 := fa68
        have C9 := A9.2.next (J9.elim tkS_k tkS_k) V9.1 V9.2.2 V9.2.1.2.2
        refine qw_aload rfl rfl ?_
        refine qw_iload rfl rfl ?_
        refine qw_invV (rest := []) rfl rfl rfl rfl rfl (Nat.le_of_ble_eq_true rfl) rfl (ih2 d0 hd a68 b69 v70 z N (r0.2 + 1) t fm (dd) F e fa68.2.1.2.1 ((fa68.2.1.1 4 (by decide)).trans ((fa3.2.1.1 4 (by decide)).trans h4)) hF (he) (by omega) (hD.same (by rw [V9.1 6 (by decide)]; exact fa3.2.2.1 7 (by decide))) (C9)) (fun z71 h9 hq72 => ?_)
        obtain ⟨a73, b74, v75, rfl, fa73, x76, rfl, px76⟩ := hq72
        show f_pq _ _ (59, [some (.inr (.inr (some 6))), some (.inl e), some (.inl (-8)), none], [.inl x76], cH a73 b74 v75) _
        obtain ⟨r2, k1, k2⟩ := px76
        have w7 := fa73.2.1.2
        refine qw_istore (lo' := [some (.inr (.inr (some 6))), some (.inl e), some (.inl (-8)), some (.inl x76)]) rfl rfl ?_
        refine qw_aload rfl rfl ?_
        refine qc_getR (t := some F) rfl rfl rfl rfl ((fa73.2.1.1 4 (by decide)).trans ((fa68.2.1.1 4 (by decide)).trans ((fa3.2.1.1 4 (by decide)).trans h4))) ?_
        refine qw_iload rfl rfl ?_
        refine qw_invV (rest := []) rfl rfl (sh_form (by omega)) rfl rfl (Nat.le_of_ble_eq_true rfl) rfl (y_X2_add (d := d0) a73 b74 v75  F (-8) (by omega)) (fun z77 h9 hq78 => ?_)
        obtain ⟨a79, rfl, fa79, rfl⟩ := hq78
        show f_pq _ _ (68, [some (.inr (.inr (some 6))), some (.inl e), some (.inl (-8)), some (.inl x76)], [], cH a79 b74 v75) _
        refine qw_iload rfl rfl ?_
        exact qwp_iret (z := true) rfl (fun _ => by first | exact Or.inl rfl | exact Or.inr rfl | exact k2.bv) ⟨a79, b74, v75, rfl, ⟨FR.tr (FR.tr (FR.tr (FR.tr (FR.rf) (FR.sub fa3.1 (by first | exact (fun _ h9 => h9) | decide | (intro c9 h9; simp only [List.mem_cons, List.not_mem_nil, or_false] at h9 ⊢; omega) | (intro c9 h9; simp only [List.mem_cons, List.not_mem_nil, or_false] at h9; exact cA_mem (by omega)) | (intro c9 h9; simp only [List.mem_cons, List.not_mem_nil, or_false] at h9; exact cB_mem (by omega)) | exact cA_sub))) (FR.sub fa68.1 (by first | exact (fun _ h9 => h9) | decide | (intro c9 h9; simp only [List.mem_cons, List.not_mem_nil, or_false] at h9 ⊢; omega) | (intro c9 h9; simp only [List.mem_cons, List.not_mem_nil, or_false] at h9; exact cA_mem (by omega)) | (intro c9 h9; simp only [List.mem_cons, List.not_mem_nil, or_false] at h9; exact cB_mem (by omega)) | exact cA_sub))) (FR.sub fa73.1 (by first | exact (fun _ h9 => h9) | decide | (intro c9 h9; simp only [List.mem_cons, List.not_mem_nil, or_false] at h9 ⊢; omega) | (intro c9 h9; simp only [List.mem_cons, List.not_mem_nil, or_false] at h9; exact cA_mem (by omega)) | (intro c9 h9; simp only [List.mem_cons, List.not_mem_nil, or_false] at h9; exact cB_mem (by omega)) | exact cA_sub))) (FR.sub fa79.1 (by first | exact (fun _ h9 => h9) | decide | (intro c9 h9; simp only [List.mem_cons, List.not_mem_nil, or_false] at h9 ⊢; omega) | (intro c9 h9; simp only [List.mem_cons, List.not_mem_nil, or_false] at h9; exact cA_mem (by omega)) | (intro c9 h9; simp only [List.mem_cons, List.not_mem_nil, or_false] at h9; exact cB_mem (by omega)) | exact cA_sub)), ⟨fun i9 h9 => (fa73.2.1.1 i9 (fun z9 => h9 (by first | exact z9 | (revert z9; simp; done) | (revert z9; simp; omega)))).trans ((show ∀ i9, i9 ∉ [2] → v70 i9 = v i9 from fun i9 h9 => (fa68.2.1.1 i9 (fun z9 => h9 (by first | exact z9 | (revert z9; simp; done) | (revert z9; simp; omega)))).trans ((show ∀ i9, i9 ∉ [2] → v5 i9 = v i9 from fun i9 h9 => (fa3.2.1.1 i9 (fun z9 => h9 (by first | exact z9 | (revert z9; simp; done) | (revert z9; simp; omega)))).trans ((show ∀ i9, i9 ∉ [2] → v i9 = v i9 from (fun _ _ => rfl)) i9 h9)) i9 h9)) i9 h9), w7⟩, ⟨fun j hj => by rw [fa79.1 6 (by simp only [List.mem_cons, List.not_mem_nil, or_false, not_or]; omega), fa73.2.2.1 j hj, fa68.1 6 (by decide)]; exact fa3.2.2.1 j hj, fa3.2.2.2.tr ((BF.av V9.2.2).tr fa73.2.2.2)⟩⟩, ⟨_, rfl, ⟨r2, ex_tst2 (g1.z0 A9.1) J9 k1, k2.fr (fa79.1 1 (by simp only [List.mem_cons, List.not_mem_nil, or_false, not_or]; omega)) (fa79.1 3 (by simp only [List.mem_cons, List.not_mem_nil, or_false, not_or]; omega)) (fa79.1 4 (by simp only [List.mem_cons, List.not_mem_nil, or_false, not_or]; omega)) (by rw [fa79.1 6 (by simp only [List.mem_cons, List.not_mem_nil, or_false, not_or]; omega)])⟩⟩⟩
set_option maxHeartbeats 2000000 in
set_option maxRecDepth 4000 in
theorem y_X6_factor_s {d : Nat} (a : Nat → Nat → Int32) (b : Nat → Nat → Int64) (v : Nat → Option Nat) (z : Nat) (N : Nat) (c : Nat) (t : Nat → Int32) (fm : Int) (dd : Nat) (F : Nat) (e : Int32) (ihA : ∀ d0, d = d0 + 1 → CXrow d0 70 0) (ihP : ∀ d0, d = d0 + 1 → CXrow d0 75 7) (hw : f_wdb (v 2) = true) (h4 : v 4 = some F) (hF : F = 26 ∨ F = 29 ∨ F = 50 ∨ F = 53) (he : e.toInt = (dd : Nat)) (hd5 : dd ≤ 5) (hD : dow fm a) (hS : CSt t z N c a b v) : f_pc mtC d 75 [.inr (.inr (some 6)), .inl e] (cH a b v) (fun v9 h' => ∃ (a' : Nat → Nat → Int32) (b' : Nat → Nat → Int64) (v' : Nat → Option Nat), h' = cH a' b' v' ∧ (FR [1, 6, F, F + 1] a a' ∧ ((∀ i, i ∉ [2] → v' i = v i) ∧ f_wdb (v' 2) = true) ∧ ((∀ j, j ≠ 10 → a' 6 j = a 6 j) ∧ BF b b')) ∧ ∃ x : Int32, v9 = some (.inl x) ∧ (∃ r : Int × Nat, EX t z fm 7 dd c r ∧ PSt t z N r.2 r.1 x a' b' v')) := by
  refine f_pc_of rfl (fun d0 fu hd => ?_)
  show f_pq _ _ (0, [some (.inr (.inr (some 6))), some (.inl e), none, none, none, none, none], [], cH a b v) _
  have lm13 : (-13 : Int32).toInt = -13 := rfl
  have lm5 : (-5 : Int32).toInt = -5 := rfl
  have l0 : (0 : Int32).toInt = 0 := rfl
  have l1 : (1 : Int32).toInt = 1 := rfl
  have l3 : (3 : Int32).toInt = 3 := rfl
  have l5 : (5 : Int32).toInt = 5 := rfl
  have l40 : (40 : Int32).toInt = 40 := rfl
  have l41 : (41 : Int32).toInt = 41 := rfl
  obtain ⟨s0, s1, s2, s3, s4, s5, s6⟩ := hS.pl
  have kw := hS.1.wrd (w := 20) (by decide)
  have loop66 : ∀ (fuJ66 : Nat) (o1 : Int32) (o2 : Int32) (o3 : Int32) (o4 : Int32) ,  (((o1.toInt = 1 ∧ tkS t z c 40) ∨ (o1.toInt = 0 ∧ ¬ tkS t z c 40))) → (((o2.toInt = 1 ∧ tkW t z c 20) ∨ (o2.toInt = 0 ∧ ¬ tkW t z c 20))) → (((o3.toInt = 1 ∧ lxK t z c = 2) ∨ (o3.toInt = 0 ∧ ¬ lxK t z c = 2))) → ((o3.toInt = 0 → (o4.toInt = -13 ∧ ¬ isFa t z fm c) ∨ (¬ o4.toInt = -13 ∧ isFa t z fm c))) → f_pq (f_code (t_X6_factor (f_ev mtC d0))) fuJ66 (66, [some (.inr (.inr (some 6))), some (.inl e), some (.inl o1), some (.inl o2), some (.inl o3), some (.inl o4), none], [], cH a b v) (fun v9 h' => ∃ (a' : Nat → Nat → Int32) (b' : Nat → Nat → Int64) (v' : Nat → Option Nat), h' = cH a' b' v' ∧ (FR [1, 6, F, F + 1] a a' ∧ ((∀ i, i ∉ [2] → v' i = v i) ∧ f_wdb (v' 2) = true) ∧ ((∀ j, j ≠ 10 → a' 6 j = a 6 j) ∧ BF b b')) ∧ ∃ x : Int32, v9 = some (.inl x) ∧ (∃ r : Int × Nat, EX t z fm 7 dd c r ∧ PSt t z N r.2 r.1 x a' b' v')) := by
    intro fuJ66 o1 o2 o3 o4  ho1 ho2 ho3 ho4
    · skip
      refine qw_iload rfl rfl ?_
      refine qw_if_ne rfl (fun c1 => ?_) (fun c1 => ?_)
      · skip
        refine qw_iload rfl rfl ?_
        refine qw_if_ne rfl (fun c2 => ?_) (fun c2 => ?_)
        · skip
          refine qw_iload rfl rfl ?_
          refine qw_if_ne rfl (fun c3 => ?_) (fun c3 => ?_)
          · skip
            refine qw_iload rfl rfl ?_
            refine qw_const rfl ?_
            refine qw_ic_ne rfl (fun c4 => ?_) (fun c4 => ?_)
            · skip
              have hP : isPa t z fm c = false := by cases hx : isPa t z fm c with | true => (exfalso; rcases isPa_f.mp hx with q | q | q | q; (rcases ho3 with h | h; omega; exact h.2 q); (rcases ho4 (by rcases ho3 with h | h <;> omega) with h | h; exact h.2 q; omega); (rcases ho1 with h | h; omega; exact h.2 q); (rcases ho2 with h | h; omega; exact h.2 q)) | false => rfl
              have ZX := ex_p1 (d := dd) hP
              refine qw_aload rfl rfl ?_
              refine qw_const rfl ?_
              refine qw_invV (rest := []) rfl rfl rfl rfl rfl (Nat.le_of_ble_eq_true rfl) rfl (y_X6_fail (d := d0) a b v  1 (by omega) (by omega)) (fun z5 h9 hq6 => ?_)
              obtain ⟨a7, rfl, fa7, x8, rfl, px8⟩ := hq6
              show f_pq _ _ (91, [some (.inr (.inr (some 6))), some (.inl e), some (.inl o1), some (.inl o2), some (.inl o3), some (.inl o4), none], [.inl x8], cH a7 b v) _
              have F8 := fa7.2.2
              have z8 := px8
              have Z9 : ∃ r : Int × Nat, EX t z fm 7 dd c r ∧ PSt t z N r.2 r.1 x8 a7 b v := ⟨(flt t z c 1, c), ZX, Or.inr ⟨z8, by have := flt_pos (t := t) (z := z) (c := c) (k := 1) (by decide); show ¬ flt t z c 1 = 0; omega, by show _ = flt t z c 1; rw [F8]; show _ = (1 : Int) + 16 * (lxP t z c : Int); have l9 : (1 : Int32).toInt = 1 := rfl; omega⟩⟩
              exact qwp_iret (z := true) rfl (fun _ => by first | exact Or.inl rfl | exact Or.inr rfl | exact k2.bv | (obtain ⟨r, y1, y2⟩ := Z9; exact y2.bv)) ⟨a7, b, v, rfl, ⟨FR.tr (FR.rf) (FR.sub fa7.1 (by first | exact (fun _ h9 => h9) | decide | (intro c9 h9; simp only [List.mem_cons, List.not_mem_nil, or_false] at h9 ⊢; omega) | (intro c9 h9; simp only [List.mem_cons, List.not_mem_nil, or_false] at h9; exact cA_mem (by omega)) | (intro c9 h9; simp only [List.mem_cons, List.not_mem_nil, or_false] at h9; exact cB_mem (by omega)) | exact cA_sub)), ⟨(fun _ _ => rfl), hw⟩, ⟨fa7.2.1, BF.rf⟩⟩, ⟨_, rfl, Z9⟩⟩
            · skip
              have hP : isPa t z fm c = true := isPa_f.mpr (Or.inr (Or.inl (by rcases ho4 (by rcases ho3 with h | h <;> omega) with h | h; omega; exact h.2)))
              refine qw_iload rfl rfl ?_
              refine qw_const rfl ?_
              refine qw_ic_lt rfl (fun c9 => ?_) (fun c9 => ?_)
              · skip
                have hPd : isPa t z fm c = true ∧ ¬ dd = 5 := ⟨hP, by omega⟩
                refine qw_aload rfl rfl ?_
                refine qc_getR (t := some 1) rfl rfl rfl rfl rfl ?_
                refine qw_invV (rest := []) rfl rfl rfl rfl rfl (Nat.le_of_ble_eq_true rfl) rfl (y_X8_advance (d := d0) a b v   (by omega) (by omega)) (fun z10 h9 hq11 => ?_)
                obtain ⟨a12, b13, v14, rfl, fa12, rfl⟩ := hq11
                show f_pq _ _ (110, [some (.inr (.inr (some 6))), some (.inl e), some (.inl o1), some (.inl o2), some (.inl o3), some (.inl o4), none], [], cH a12 b13 v14) _
                have V9 := fa12
                have C9 := hS.next (isPa_k hPd.1) V9.1 V9.2.2 V9.2.1.2.2
                refine qw_iload rfl rfl ?_
                refine qw_if_eq rfl (fun c15 => ?_) (fun c15 => ?_)
                · skip
                  have N1 : ¬ tkS t z c 40 := by rcases ho1 with h | h; omega; exact h.2
                  refine qw_iload rfl rfl ?_
                  refine qw_if_eq rfl (fun c16 => ?_) (fun c16 => ?_)
                  · skip
                    have N2 : ¬ tkW t z c 20 := by rcases ho2 with h | h; omega; exact h.2
                    refine qw_aload rfl rfl ?_
                    refine qc_getR (t := some F) rfl rfl rfl rfl ((fa12.2.1.1 4 (by decide)).trans h4) ?_
                    refine qw_iload rfl rfl ?_
                    refine qw_invV (rest := []) rfl rfl (sh_form (by omega)) rfl rfl (Nat.le_of_ble_eq_true rfl) rfl (y_X2_add (d := d0) a12 b13 v14  F o4 (by omega)) (fun z17 h9 hq18 => ?_)
                    obtain ⟨a19, rfl, fa19, rfl⟩ := hq18
                    show f_pq _ _ (173, [some (.inr (.inr (some 6))), some (.inl e), some (.inl o1), some (.inl o2), some (.inl o3), some (.inl o4), none], [], cH a19 b13 v14) _
                    refine qw_const rfl ?_
                    exact qwp_iret (z := true) rfl (fun _ => by first | exact Or.inl rfl | exact Or.inr rfl | exact k2.bv | (obtain ⟨r, y1, y2⟩ := Z9; exact y2.bv)) ⟨a19, b13, v14, rfl, ⟨FR.tr (FR.tr (FR.rf) (FR.sub fa12.1 (by first | exact (fun _ h9 => h9) | decide | (intro c9 h9; simp only [List.mem_cons, List.not_mem_nil, or_false] at h9 ⊢; omega) | (intro c9 h9; simp only [List.mem_cons, List.not_mem_nil, or_false] at h9; exact cA_mem (by omega)) | (intro c9 h9; simp only [List.mem_cons, List.not_mem_nil, or_false] at h9; exact cB_mem (by omega)) | exact cA_sub))) (FR.sub fa19.1 (by first | exact (fun _ h9 => h9) | decide | (intro c9 h9; simp only [List.mem_cons, List.not_mem_nil, or_false] at h9 ⊢; omega) | (intro c9 h9; simp only [List.mem_cons, List.not_mem_nil, or_false] at h9; exact cA_mem (by omega)) | (intro c9 h9; simp only [List.mem_cons, List.not_mem_nil, or_false] at h9; exact cB_mem (by omega)) | exact cA_sub)), ⟨fun i9 h9 => (fa12.2.1.1 i9 (fun z9 => h9 (by first | exact z9 | (revert z9; simp; done) | (revert z9; simp; omega)))).trans ((show ∀ i9, i9 ∉ [2] → v i9 = v i9 from (fun _ _ => rfl)) i9 h9), V9.2.1.2.1⟩, ⟨fun j hj => by rw [fa19.1 6 (by simp only [List.mem_cons, List.not_mem_nil, or_false, not_or]; omega), fa12.1 6 (by decide)], BF.av V9.2.2⟩⟩, ⟨_, rfl, ⟨(0, c + 1), ex_p0 hPd.1 hPd.2 N2 N1, PSt.ok rfl rfl (C9.fr (fa19.1 1 (by simp only [List.mem_cons, List.not_mem_nil, or_false, not_or]; omega)) (fa19.1 3 (by simp only [List.mem_cons, List.not_mem_nil, or_false, not_or]; omega)) (fa19.1 4 (by simp only [List.mem_cons, List.not_mem_nil, or_false, not_or]; omega)) (by rw [fa19.1 6 (by simp only [List.mem_cons, List.not_mem_nil, or_false, not_or]; omega)]))⟩⟩⟩
                  · skip
                    have Q2 : tkW t z c 20 := by rcases ho2 with h | h; exact h.2; omega
                    refine qw_aload rfl rfl ?_
                    refine qw_iload rfl rfl ?_
                    refine qw_const rfl ?_
                    first | refine qw_iadd rfl (by omega) (fun x20 tx20 => ?_) | refine qw_iiU rfl (fun x20 tx20 => ?_)
                    refine qw_invV (rest := []) rfl rfl rfl rfl rfl (Nat.le_of_ble_eq_true rfl) rfl (ihP d0 hd a12 b13 v14 z N (c + 1) t fm (dd + 1) F x20 fa12.2.1.2.1 ((fa12.2.1.1 4 (by decide)).trans h4) hF (by omega) (by omega) (hD.same (by rw [V9.1 6 (by decide)])) (C9)) (fun z21 h9 hq22 => ?_)
                    obtain ⟨a23, b24, v25, rfl, fa23, x26, rfl, px26⟩ := hq22
                    show f_pq _ _ (150, [some (.inr (.inr (some 6))), some (.inl e), some (.inl o1), some (.inl o2), some (.inl o3), some (.inl o4), none], [.inl x26], cH a23 b24 v25) _
                    obtain ⟨r2, k1, k2⟩ := px26
                    have w7 := fa23.2.1.2
                    refine qw_istore (lo' := [some (.inr (.inr (some 6))), some (.inl e), some (.inl o1), some (.inl o2), some (.inl o3), some (.inl o4), some (.inl x26)]) rfl rfl ?_
                    refine qw_aload rfl rfl ?_
                    refine qc_getR (t := some F) rfl rfl rfl rfl ((fa23.2.1.1 4 (by decide)).trans ((fa12.2.1.1 4 (by decide)).trans h4)) ?_
                    refine qw_const rfl ?_
                    refine qw_invV (rest := []) rfl rfl (sh_form (by omega)) rfl rfl (Nat.le_of_ble_eq_true rfl) rfl (y_X2_add (d := d0) a23 b24 v25  F (-5) (by omega)) (fun z27 h9 hq28 => ?_)
                    obtain ⟨a29, rfl, fa29, rfl⟩ := hq28
                    show f_pq _ _ (161, [some (.inr (.inr (some 6))), some (.inl e), some (.inl o1), some (.inl o2), some (.inl o3), some (.inl o4), some (.inl x26)], [], cH a29 b24 v25) _
                    refine qw_iload rfl rfl ?_
                    exact qwp_iret (z := true) rfl (fun _ => by first | exact Or.inl rfl | exact Or.inr rfl | exact k2.bv | (obtain ⟨r, y1, y2⟩ := Z9; exact y2.bv)) ⟨a29, b24, v25, rfl, ⟨FR.tr (FR.tr (FR.tr (FR.rf) (FR.sub fa12.1 (by first | exact (fun _ h9 => h9) | decide | (intro c9 h9; simp only [List.mem_cons, List.not_mem_nil, or_false] at h9 ⊢; omega) | (intro c9 h9; simp only [List.mem_cons, List.not_mem_nil, or_false] at h9; exact cA_mem (by omega)) | (intro c9 h9; simp only [List.mem_cons, List.not_mem_nil, or_false] at h9; exact cB_mem (by omega)) | exact cA_sub))) (FR.sub fa23.1 (by first | exact (fun _ h9 => h9) | decide | (intro c9 h9; simp only [List.mem_cons, List.not_mem_nil, or_false] at h9 ⊢; omega) | (intro c9 h9; simp only [List.mem_cons, List.not_mem_nil, or_false] at h9; exact cA_mem (by omega)) | (intro c9 h9; simp only [List.mem_cons, List.not_mem_nil, or_false] at h9; exact cB_mem (by omega)) | exact cA_sub))) (FR.sub fa29.1 (by first | exact (fun _ h9 => h9) | decide | (intro c9 h9; simp only [List.mem_cons, List.not_mem_nil, or_false] at h9 ⊢; omega) | (intro c9 h9; simp only [List.mem_cons, List.not_mem_nil, or_false] at h9; exact cA_mem (by omega)) | (intro c9 h9; simp only [List.mem_cons, List.not_mem_nil, or_false] at h9; exact cB_mem (by omega)) | exact cA_sub)), ⟨fun i9 h9 => (fa23.2.1.1 i9 (fun z9 => h9 (by first | exact z9 | (revert z9; simp; done) | (revert z9; simp; omega)))).trans ((show ∀ i9, i9 ∉ [2] → v14 i9 = v i9 from fun i9 h9 => (fa12.2.1.1 i9 (fun z9 => h9 (by first | exact z9 | (revert z9; simp; done) | (revert z9; simp; omega)))).trans ((show ∀ i9, i9 ∉ [2] → v i9 = v i9 from (fun _ _ => rfl)) i9 h9)) i9 h9), w7⟩, ⟨fun j hj => by rw [fa29.1 6 (by simp only [List.mem_cons, List.not_mem_nil, or_false, not_or]; omega), fa23.2.2.1 j hj, fa12.1 6 (by decide)], (BF.av V9.2.2).tr fa23.2.2.2⟩⟩, ⟨_, rfl, ⟨r2, ex_pn hPd.1 hPd.2 Q2 k1, k2.fr (fa29.1 1 (by simp only [List.mem_cons, List.not_mem_nil, or_false, not_or]; omega)) (fa29.1 3 (by simp only [List.mem_cons, List.not_mem_nil, or_false, not_or]; omega)) (fa29.1 4 (by simp only [List.mem_cons, List.not_mem_nil, or_false, not_or]; omega)) (by rw [fa29.1 6 (by simp only [List.mem_cons, List.not_mem_nil, or_false, not_or]; omega)])⟩⟩⟩
                · skip
                  have Q1 : tkS t z c 40 := by rcases ho1 with h | h; exact h.2; omega
                  have N2 : ¬ tkW t z c 20 := tkS_nw Q1
                  refine qw_aload rfl rfl ?_
                  refine qw_iload rfl rfl ?_
                  refine qw_const rfl ?_
                  first | refine qw_iadd rfl (by omega) (fun x30 tx30 => ?_) | refine qw_iiU rfl (fun x30 tx30 => ?_)
                  refine qw_invV (rest := []) rfl rfl rfl rfl rfl (Nat.le_of_ble_eq_true rfl) rfl (ihA d0 hd a12 b13 v14 z N (c + 1) t fm (dd + 1) F x30 fa12.2.1.2.1 ((fa12.2.1.1 4 (by decide)).trans h4) hF (by omega) (by omega) (hD.same (by rw [V9.1 6 (by decide)])) (C9)) (fun z31 h9 hq32 => ?_)
                  obtain ⟨a33, b34, v35, rfl, fa33, x36, rfl, px36⟩ := hq32
                  show f_pq _ _ (121, [some (.inr (.inr (some 6))), some (.inl e), some (.inl o1), some (.inl o2), some (.inl o3), some (.inl o4), none], [.inl x36], cH a33 b34 v35) _
                  obtain ⟨r2, k1, k2⟩ := px36
                  have w7 := fa33.2.1.2
                  refine qw_if_eq rfl (fun c37 => ?_) (fun c37 => ?_)
                  · skip
                    have Z8 : ¬ r2.1 = 0 := by rcases k2 with h | h; omega; exact h.2.1
                    have k2 : PSt t z N r2.2 r2.1 0 a33 b34 v35 := by rcases k2 with h | h; omega; exact Or.inr ⟨rfl, h.2⟩
                    refine qw_const rfl ?_
                    exact qwp_iret (z := true) rfl (fun _ => by first | exact Or.inl rfl | exact Or.inr rfl | exact k2.bv | (obtain ⟨r, y1, y2⟩ := Z9; exact y2.bv)) ⟨a33, b34, v35, rfl, ⟨FR.tr (FR.tr (FR.rf) (FR.sub fa12.1 (by first | exact (fun _ h9 => h9) | decide | (intro c9 h9; simp only [List.mem_cons, List.not_mem_nil, or_false] at h9 ⊢; omega) | (intro c9 h9; simp only [List.mem_cons, List.not_mem_nil, or_false] at h9; exact cA_mem (by omega)) | (intro c9 h9; simp only [List.mem_cons, List.not_mem_nil, or_false] at h9; exact cB_mem (by omega)) | exact cA_sub))) (FR.sub fa33.1 (by first | exact (fun _ h9 => h9) | decide | (intro c9 h9; simp only [List.mem_cons, List.not_mem_nil, or_false] at h9 ⊢; omega) | (intro c9 h9; simp only [List.mem_cons, List.not_mem_nil, or_false] at h9; exact cA_mem (by omega)) | (intro c9 h9; simp only [List.mem_cons, List.not_mem_nil, or_false] at h9; exact cB_mem (by omega)) | exact cA_sub)), ⟨fun i9 h9 => (fa33.2.1.1 i9 (fun z9 => h9 (by first | exact z9 | (revert z9; simp; done) | (revert z9; simp; omega)))).trans ((show ∀ i9, i9 ∉ [2] → v14 i9 = v i9 from fun i9 h9 => (fa12.2.1.1 i9 (fun z9 => h9 (by first | exact z9 | (revert z9; simp; done) | (revert z9; simp; omega)))).trans ((show ∀ i9, i9 ∉ [2] → v i9 = v i9 from (fun _ _ => rfl)) i9 h9)) i9 h9), w7⟩, ⟨fun j hj => by rw [fa33.2.2.1 j hj, fa12.1 6 (by decide)], (BF.av V9.2.2).tr fa33.2.2.2⟩⟩, ⟨_, rfl, ⟨r2, ex_pbx hPd.1 hPd.2 N2 Q1 (k1) Z8, k2⟩⟩⟩
                  · skip
                    have Z7 : r2.1 = 0 ∧ CSt t z N r2.2 a33 b34 v35 := by rcases k2 with h | h; exact ⟨h.2.1, h.2.2⟩; omega
                    refine qw_aload rfl rfl ?_
                    refine qw_const rfl ?_
                    refine qw_invV (rest := []) rfl rfl rfl rfl rfl (Nat.le_of_ble_eq_true rfl) rfl (y_X6_passSign (d := d0) a33 b34 v35 z N r2.2 t 41 (fa33.2.1.2) (Z7.2)) (fun z38 h9 hq39 => ?_)
                    obtain ⟨a40, b41, v42, rfl, fa40, x43, rfl, px43⟩ := hq39
                    show f_pq _ _ (130, [some (.inr (.inr (some 6))), some (.inl e), some (.inl o1), some (.inl o2), some (.inl o3), some (.inl o4), none], [.inl x43], cH a40 b41 v42) _
                    have k9 := px43
                    have w7 := fa40.2.1.2
                    refine qw_if_eq rfl (fun c44 => ?_) (fun c44 => ?_)
                    · skip
                      have k9 : PSt t z N (r2.2 + 1) (tkG t z r2.2 41) 0 a40 b41 v42 := by rcases k9 with h | h; omega; exact Or.inr ⟨rfl, h.2⟩
                      refine qw_const rfl ?_
                      exact qwp_iret (z := true) rfl (fun _ => by first | exact Or.inl rfl | exact Or.inr rfl | exact k2.bv | (obtain ⟨r, y1, y2⟩ := Z9; exact y2.bv)) ⟨a40, b41, v42, rfl, ⟨FR.tr (FR.tr (FR.tr (FR.rf) (FR.sub fa12.1 (by first | exact (fun _ h9 => h9) | decide | (intro c9 h9; simp only [List.mem_cons, List.not_mem_nil, or_false] at h9 ⊢; omega) | (intro c9 h9; simp only [List.mem_cons, List.not_mem_nil, or_false] at h9; exact cA_mem (by omega)) | (intro c9 h9; simp only [List.mem_cons, List.not_mem_nil, or_false] at h9; exact cB_mem (by omega)) | exact cA_sub))) (FR.sub fa33.1 (by first | exact (fun _ h9 => h9) | decide | (intro c9 h9; simp only [List.mem_cons, List.not_mem_nil, or_false] at h9 ⊢; omega) | (intro c9 h9; simp only [List.mem_cons, List.not_mem_nil, or_false] at h9; exact cA_mem (by omega)) | (intro c9 h9; simp only [List.mem_cons, List.not_mem_nil, or_false] at h9; exact cB_mem (by omega)) | exact cA_sub))) (FR.sub fa40.1 (by first | exact (fun _ h9 => h9) | decide | (intro c9 h9; simp only [List.mem_cons, List.not_mem_nil, or_false] at h9 ⊢; omega) | (intro c9 h9; simp only [List.mem_cons, List.not_mem_nil, or_false] at h9; exact cA_mem (by omega)) | (intro c9 h9; simp only [List.mem_cons, List.not_mem_nil, or_false] at h9; exact cB_mem (by omega)) | exact cA_sub)), ⟨fun i9 h9 => (fa40.2.1.1 i9 (fun z9 => h9 (by first | exact z9 | (revert z9; simp; done) | (revert z9; simp; omega)))).trans ((show ∀ i9, i9 ∉ [2] → v35 i9 = v i9 from fun i9 h9 => (fa33.2.1.1 i9 (fun z9 => h9 (by first | exact z9 | (revert z9; simp; done) | (revert z9; simp; omega)))).trans ((show ∀ i9, i9 ∉ [2] → v14 i9 = v i9 from fun i9 h9 => (fa12.2.1.1 i9 (fun z9 => h9 (by first | exact z9 | (revert z9; simp; done) | (revert z9; simp; omega)))).trans ((show ∀ i9, i9 ∉ [2] → v i9 = v i9 from (fun _ _ => rfl)) i9 h9)) i9 h9)) i9 h9), w7⟩, ⟨fun j hj => by rw [fa40.2.2.1 j hj, fa33.2.2.1 j hj, fa12.1 6 (by decide)], ((BF.av V9.2.2).tr fa33.2.2.2).tr fa40.2.2.2⟩⟩, ⟨_, rfl, ⟨(tkG t z r2.2 41, r2.2 + 1), ex_pb hPd.1 hPd.2 N2 Q1 (k1.z0 Z7.1), k9⟩⟩⟩
                    · skip
                      have k9 : PSt t z N (r2.2 + 1) (tkG t z r2.2 41) 1 a40 b41 v42 := by rcases k9 with h | h; exact Or.inl ⟨rfl, h.2⟩; omega
                      refine qw_const rfl ?_
                      refine qw_goto rfl ?_
                      exact qwp_iret (z := true) rfl (fun _ => by first | exact Or.inl rfl | exact Or.inr rfl | exact k2.bv | (obtain ⟨r, y1, y2⟩ := Z9; exact y2.bv)) ⟨a40, b41, v42, rfl, ⟨FR.tr (FR.tr (FR.tr (FR.rf) (FR.sub fa12.1 (by first | exact (fun _ h9 => h9) | decide | (intro c9 h9; simp only [List.mem_cons, List.not_mem_nil, or_false] at h9 ⊢; omega) | (intro c9 h9; simp only [List.mem_cons, List.not_mem_nil, or_false] at h9; exact cA_mem (by omega)) | (intro c9 h9; simp only [List.mem_cons, List.not_mem_nil, or_false] at h9; exact cB_mem (by omega)) | exact cA_sub))) (FR.sub fa33.1 (by first | exact (fun _ h9 => h9) | decide | (intro c9 h9; simp only [List.mem_cons, List.not_mem_nil, or_false] at h9 ⊢; omega) | (intro c9 h9; simp only [List.mem_cons, List.not_mem_nil, or_false] at h9; exact cA_mem (by omega)) | (intro c9 h9; simp only [List.mem_cons, List.not_mem_nil, or_false] at h9; exact cB_mem (by omega)) | exact cA_sub))) (FR.sub fa40.1 (by first | exact (fun _ h9 => h9) | decide | (intro c9 h9; simp only [List.mem_cons, List.not_mem_nil, or_false] at h9 ⊢; omega) | (intro c9 h9; simp only [List.mem_cons, List.not_mem_nil, or_false] at h9; exact cA_mem (by omega)) | (intro c9 h9; simp only [List.mem_cons, List.not_mem_nil, or_false] at h9; exact cB_mem (by omega)) | exact cA_sub)), ⟨fun i9 h9 => (fa40.2.1.1 i9 (fun z9 => h9 (by first | exact z9 | (revert z9; simp; done) | (revert z9; simp; omega)))).trans ((show ∀ i9, i9 ∉ [2] → v35 i9 = v i9 from fun i9 h9 => (fa33.2.1.1 i9 (fun z9 => h9 (by first | exact z9 | (revert z9; simp; done) | (revert z9; simp; omega)))).trans ((show ∀ i9, i9 ∉ [2] → v14 i9 = v i9 from fun i9 h9 => (fa12.2.1.1 i9 (fun z9 => h9 (by first | exact z9 | (revert z9; simp; done) | (revert z9; simp; omega)))).trans ((show ∀ i9, i9 ∉ [2] → v i9 = v i9 from (fun _ _ => rfl)) i9 h9)) i9 h9)) i9 h9), w7⟩, ⟨fun j hj => by rw [fa40.2.2.1 j hj, fa33.2.2.1 j hj, fa12.1 6 (by decide)], ((BF.av V9.2.2).tr fa33.2.2.2).tr fa40.2.2.2⟩⟩, ⟨_, rfl, ⟨(tkG t z r2.2 41, r2.2 + 1), ex_pb hPd.1 hPd.2 N2 Q1 (k1.z0 Z7.1), k9⟩⟩⟩
              · skip
                have ZX := ex_p5 (d := dd) hP (by omega)
                refine qw_aload rfl rfl ?_
                refine qw_const rfl ?_
                refine qw_invV (rest := []) rfl rfl rfl rfl rfl (Nat.le_of_ble_eq_true rfl) rfl (y_X6_fail (d := d0) a b v  5 (by omega) (by omega)) (fun z45 h9 hq46 => ?_)
                obtain ⟨a47, rfl, fa47, x48, rfl, px48⟩ := hq46
                show f_pq _ _ (102, [some (.inr (.inr (some 6))), some (.inl e), some (.inl o1), some (.inl o2), some (.inl o3), some (.inl o4), none], [.inl x48], cH a47 b v) _
                have F8 := fa47.2.2
                have z8 := px48
                have Z9 : ∃ r : Int × Nat, EX t z fm 7 dd c r ∧ PSt t z N r.2 r.1 x48 a47 b v := ⟨(flt t z c 5, c), ZX, Or.inr ⟨z8, by have := flt_pos (t := t) (z := z) (c := c) (k := 5) (by decide); show ¬ flt t z c 5 = 0; omega, by show _ = flt t z c 5; rw [F8]; show _ = (5 : Int) + 16 * (lxP t z c : Int); have l9 : (5 : Int32).toInt = 5 := rfl; omega⟩⟩
                exact qwp_iret (z := true) rfl (fun _ => by first | exact Or.inl rfl | exact Or.inr rfl | exact k2.bv | (obtain ⟨r, y1, y2⟩ := Z9; exact y2.bv)) ⟨a47, b, v, rfl, ⟨FR.tr (FR.rf) (FR.sub fa47.1 (by first | exact (fun _ h9 => h9) | decide | (intro c9 h9; simp only [List.mem_cons, List.not_mem_nil, or_false] at h9 ⊢; omega) | (intro c9 h9; simp only [List.mem_cons, List.not_mem_nil, or_false] at h9; exact cA_mem (by omega)) | (intro c9 h9; simp only [List.mem_cons, List.not_mem_nil, or_false] at h9; exact cB_mem (by omega)) | exact cA_sub)), ⟨(fun _ _ => rfl), hw⟩, ⟨fa47.2.1, BF.rf⟩⟩, ⟨_, rfl, Z9⟩⟩
          · skip
            have hP : isPa t z fm c = true := isPa_f.mpr (Or.inl (by rcases ho3 with h | h; exact h.2; omega))
            refine qw_iload rfl rfl ?_
            refine qw_const rfl ?_
            refine qw_ic_lt rfl (fun c49 => ?_) (fun c49 => ?_)
            · skip
              have hPd : isPa t z fm c = true ∧ ¬ dd = 5 := ⟨hP, by omega⟩
              refine qw_aload rfl rfl ?_
              refine qc_getR (t := some 1) rfl rfl rfl rfl rfl ?_
              refine qw_invV (rest := []) rfl rfl rfl rfl rfl (Nat.le_of_ble_eq_true rfl) rfl (y_X8_advance (d := d0) a b v   (by omega) (by omega)) (fun z50 h9 hq51 => ?_)
              obtain ⟨a52, b53, v54, rfl, fa52, rfl⟩ := hq51
              show f_pq _ _ (110, [some (.inr (.inr (some 6))), some (.inl e), some (.inl o1), some (.inl o2), some (.inl o3), some (.inl o4), none], [], cH a52 b53 v54) _
              have V9 := fa52
              have C9 := hS.next (isPa_k hPd.1) V9.1 V9.2.2 V9.2.1.2.2
              refine qw_iload rfl rfl ?_
              refine qw_if_eq rfl (fun c55 => ?_) (fun c55 => ?_)
              · skip
                have N1 : ¬ tkS t z c 40 := by rcases ho1 with h | h; omega; exact h.2
                refine qw_iload rfl rfl ?_
                refine qw_if_eq rfl (fun c56 => ?_) (fun c56 => ?_)
                · skip
                  have N2 : ¬ tkW t z c 20 := by rcases ho2 with h | h; omega; exact h.2
                  refine qw_aload rfl rfl ?_
                  refine qc_getR (t := some F) rfl rfl rfl rfl ((fa52.2.1.1 4 (by decide)).trans h4) ?_
                  refine qw_iload rfl rfl ?_
                  refine qw_invV (rest := []) rfl rfl (sh_form (by omega)) rfl rfl (Nat.le_of_ble_eq_true rfl) rfl (y_X2_add (d := d0) a52 b53 v54  F o4 (by omega)) (fun z57 h9 hq58 => ?_)
                  obtain ⟨a59, rfl, fa59, rfl⟩ := hq58
                  show f_pq _ _ (173, [some (.inr (.inr (some 6))), some (.inl e), some (.inl o1), some (.inl o2), some (.inl o3), some (.inl o4), none], [], cH a59 b53 v54) _
                  refine qw_const rfl ?_
                  exact qwp_iret (z := true) rfl (fun _ => by first | exact Or.inl rfl | exact Or.inr rfl | exact k2.bv | (obtain ⟨r, y1, y2⟩ := Z9; exact y2.bv)) ⟨a59, b53, v54, rfl, ⟨FR.tr (FR.tr (FR.rf) (FR.sub fa52.1 (by first | exact (fun _ h9 => h9) | decide | (intro c9 h9; simp only [List.mem_cons, List.not_mem_nil, or_false] at h9 ⊢; omega) | (intro c9 h9; simp only [List.mem_cons, List.not_mem_nil, or_false] at h9; exact cA_mem (by omega)) | (intro c9 h9; simp only [List.mem_cons, List.not_mem_nil, or_false] at h9; exact cB_mem (by omega)) | exact cA_sub))) (FR.sub fa59.1 (by first | exact (fun _ h9 => h9) | decide | (intro c9 h9; simp only [List.mem_cons, List.not_mem_nil, or_false] at h9 ⊢; omega) | (intro c9 h9; simp only [List.mem_cons, List.not_mem_nil, or_false] at h9; exact cA_mem (by omega)) | (intro c9 h9; simp only [List.mem_cons, List.not_mem_nil, or_false] at h9; exact cB_mem (by omega)) | exact cA_sub)), ⟨fun i9 h9 => (fa52.2.1.1 i9 (fun z9 => h9 (by first | exact z9 | (revert z9; simp; done) | (revert z9; simp; omega)))).trans ((show ∀ i9, i9 ∉ [2] → v i9 = v i9 from (fun _ _ => rfl)) i9 h9), V9.2.1.2.1⟩, ⟨fun j hj => by rw [fa59.1 6 (by simp only [List.mem_cons, List.not_mem_nil, or_false, not_or]; omega), fa52.1 6 (by decide)], BF.av V9.2.2⟩⟩, ⟨_, rfl, ⟨(0, c + 1), ex_p0 hPd.1 hPd.2 N2 N1, PSt.ok rfl rfl (C9.fr (fa59.1 1 (by simp only [List.mem_cons, List.not_mem_nil, or_false, not_or]; omega)) (fa59.1 3 (by simp only [List.mem_cons, List.not_mem_nil, or_false, not_or]; omega)) (fa59.1 4 (by simp only [List.mem_cons, List.not_mem_nil, or_false, not_or]; omega)) (by rw [fa59.1 6 (by simp only [List.mem_cons, List.not_mem_nil, or_false, not_or]; omega)]))⟩⟩⟩
                · skip
                  have Q2 : tkW t z c 20 := by rcases ho2 with h | h; exact h.2; omega
                  refine qw_aload rfl rfl ?_
                  refine qw_iload rfl rfl ?_
                  refine qw_const rfl ?_
                  first | refine qw_iadd rfl (by omega) (fun x60 tx60 => ?_) | refine qw_iiU rfl (fun x60 tx60 => ?_)
                  refine qw_invV (rest := []) rfl rfl rfl rfl rfl (Nat.le_of_ble_eq_true rfl) rfl (ihP d0 hd a52 b53 v54 z N (c + 1) t fm (dd + 1) F x60 fa52.2.1.2.1 ((fa52.2.1.1 4 (by decide)).trans h4) hF (by omega) (by omega) (hD.same (by rw [V9.1 6 (by decide)])) (C9)) (fun z61 h9 hq62 => ?_)
                  obtain ⟨a63, b64, v65, rfl, fa63, x66, rfl, px66⟩ := hq62
                  show f_pq _ _ (150, [some (.inr (.inr (some 6))), some (.inl e), some (.inl o1), some (.inl o2), some (.inl o3), some (.inl o4), none], [.inl x66], cH a63 b64 v65) _
                  obtain ⟨r2, k1, k2⟩ := px66
                  have w7 := fa63.2.1.2
                  refine qw_istore (lo' := [some (.inr (.inr (some 6))), some (.inl e), some (.inl o1), some (.inl o2), some (.inl o3), some (.inl o4), some (.inl x66)]) rfl rfl ?_
                  refine qw_aload rfl rfl ?_
                  refine qc_getR (t := some F) rfl rfl rfl rfl ((fa63.2.1.1 4 (by decide)).trans ((fa52.2.1.1 4 (by decide)).trans h4)) ?_
                  refine qw_const rfl ?_
                  refine qw_invV (rest := []) rfl rfl (sh_form (by omega)) rfl rfl (Nat.le_of_ble_eq_true rfl) rfl (y_X2_add (d := d0) a63 b64 v65  F (-5) (by omega)) (fun z67 h9 hq68 => ?_)
                  obtain ⟨a69, rfl, fa69, rfl⟩ := hq68
                  show f_pq _ _ (161, [some (.inr (.inr (some 6))), some (.inl e), some (.inl o1), some (.inl o2), some (.inl o3), some (.inl o4), some (.inl x66)], [], cH a69 b64 v65) _
                  refine qw_iload rfl rfl ?_
                  exact qwp_iret (z := true) rfl (fun _ => by first | exact Or.inl rfl | exact Or.inr rfl | exact k2.bv | (obtain ⟨r, y1, y2⟩ := Z9; exact y2.bv)) ⟨a69, b64, v65, rfl, ⟨FR.tr (FR.tr (FR.tr (FR.rf) (FR.sub fa52.1 (by first | exact (fun _ h9 => h9) | decide | (intro c9 h9; simp only [List.mem_cons, List.not_mem_nil, or_false] at h9 ⊢; omega) | (intro c9 h9; simp only [List.mem_cons, List.not_mem_nil, or_false] at h9; exact cA_mem (by omega)) | (intro c9 h9; simp only [List.mem_cons, List.not_mem_nil, or_false] at h9; exact cB_mem (by omega)) | exact cA_sub))) (FR.sub fa63.1 (by first | exact (fun _ h9 => h9) | decide | (intro c9 h9; simp only [List.mem_cons, List.not_mem_nil, or_false] at h9 ⊢; omega) | (intro c9 h9; simp only [List.mem_cons, List.not_mem_nil, or_false] at h9; exact cA_mem (by omega)) | (intro c9 h9; simp only [List.mem_cons, List.not_mem_nil, or_false] at h9; exact cB_mem (by omega)) | exact cA_sub))) (FR.sub fa69.1 (by first | exact (fun _ h9 => h9) | decide | (intro c9 h9; simp only [List.mem_cons, List.not_mem_nil, or_false] at h9 ⊢; omega) | (intro c9 h9; simp only [List.mem_cons, List.not_mem_nil, or_false] at h9; exact cA_mem (by omega)) | (intro c9 h9; simp only [List.mem_cons, List.not_mem_nil, or_false] at h9; exact cB_mem (by omega)) | exact cA_sub)), ⟨fun i9 h9 => (fa63.2.1.1 i9 (fun z9 => h9 (by first | exact z9 | (revert z9; simp; done) | (revert z9; simp; omega)))).trans ((show ∀ i9, i9 ∉ [2] → v54 i9 = v i9 from fun i9 h9 => (fa52.2.1.1 i9 (fun z9 => h9 (by first | exact z9 | (revert z9; simp; done) | (revert z9; simp; omega)))).trans ((show ∀ i9, i9 ∉ [2] → v i9 = v i9 from (fun _ _ => rfl)) i9 h9)) i9 h9), w7⟩, ⟨fun j hj => by rw [fa69.1 6 (by simp only [List.mem_cons, List.not_mem_nil, or_false, not_or]; omega), fa63.2.2.1 j hj, fa52.1 6 (by decide)], (BF.av V9.2.2).tr fa63.2.2.2⟩⟩, ⟨_, rfl, ⟨r2, ex_pn hPd.1 hPd.2 Q2 k1, k2.fr (fa69.1 1 (by simp only [List.mem_cons, List.not_mem_nil, or_false, not_or]; omega)) (fa69.1 3 (by simp only [List.mem_cons, List.not_mem_nil, or_false, not_or]; omega)) (fa69.1 4 (by simp only [List.mem_cons, List.not_mem_nil, or_false, not_or]; omega)) (by rw [fa69.1 6 (by simp only [List.mem_cons, List.not_mem_nil, or_false, not_or]; omega)])⟩⟩⟩
              · skip
                have Q1 : tkS t z c 40 := by rcases ho1 with h | h; exact h.2; omega
                have N2 : ¬ tkW t z c 20 := tkS_nw Q1
                refine qw_aload rfl rfl ?_
                refine qw_iload rfl rfl ?_
                refine qw_const rfl ?_
                first | refine qw_iadd rfl (by omega) (fun x70 tx70 => ?_) | refine qw_iiU rfl (fun x70 tx70 => ?_)
                refine qw_invV (rest := []) rfl rfl rfl rfl rfl (Nat.le_of_ble_eq_true rfl) rfl (ihA d0 hd a52 b53 v54 z N (c + 1) t fm (dd + 1) F x70 fa52.2.1.2.1 ((fa52.2.1.1 4 (by decide)).trans h4) hF (by omega) (by omega) (hD.same (by rw [V9.1 6 (by decide)])) (C9)) (fun z71 h9 hq72 => ?_)
                obtain ⟨a73, b74, v75, rfl, fa73, x76, rfl, px76⟩ := hq72
                show f_pq _ _ (121, [some (.inr (.inr (some 6))), some (.inl e), some (.inl o1), some (.inl o2), some (.inl o3), some (.inl o4), none], [.inl x76], cH a73 b74 v75) _
                obtain ⟨r2, k1, k2⟩ := px76
                have w7 := fa73.2.1.2
                refine qw_if_eq rfl (fun c77 => ?_) (fun c77 => ?_)
                · skip
                  have Z8 : ¬ r2.1 = 0 := by rcases k2 with h | h; omega; exact h.2.1
                  have k2 : PSt t z N r2.2 r2.1 0 a73 b74 v75 := by rcases k2 with h | h; omega; exact Or.inr ⟨rfl, h.2⟩
                  refine qw_const rfl ?_
                  exact qwp_iret (z := true) rfl (fun _ => by first | exact Or.inl rfl | exact Or.inr rfl | exact k2.bv | (obtain ⟨r, y1, y2⟩ := Z9; exact y2.bv)) ⟨a73, b74, v75, rfl, ⟨FR.tr (FR.tr (FR.rf) (FR.sub fa52.1 (by first | exact (fun _ h9 => h9) | decide | (intro c9 h9; simp only [List.mem_cons, List.not_mem_nil, or_false] at h9 ⊢; omega) | (intro c9 h9; simp only [List.mem_cons, List.not_mem_nil, or_false] at h9; exact cA_mem (by omega)) | (intro c9 h9; simp only [List.mem_cons, List.not_mem_nil, or_false] at h9; exact cB_mem (by omega)) | exact cA_sub))) (FR.sub fa73.1 (by first | exact (fun _ h9 => h9) | decide | (intro c9 h9; simp only [List.mem_cons, List.not_mem_nil, or_false] at h9 ⊢; omega) | (intro c9 h9; simp only [List.mem_cons, List.not_mem_nil, or_false] at h9; exact cA_mem (by omega)) | (intro c9 h9; simp only [List.mem_cons, List.not_mem_nil, or_false] at h9; exact cB_mem (by omega)) | exact cA_sub)), ⟨fun i9 h9 => (fa73.2.1.1 i9 (fun z9 => h9 (by first | exact z9 | (revert z9; simp; done) | (revert z9; simp; omega)))).trans ((show ∀ i9, i9 ∉ [2] → v54 i9 = v i9 from fun i9 h9 => (fa52.2.1.1 i9 (fun z9 => h9 (by first | exact z9 | (revert z9; simp; done) | (revert z9; simp; omega)))).trans ((show ∀ i9, i9 ∉ [2] → v i9 = v i9 from (fun _ _ => rfl)) i9 h9)) i9 h9), w7⟩, ⟨fun j hj => by rw [fa73.2.2.1 j hj, fa52.1 6 (by decide)], (BF.av V9.2.2).tr fa73.2.2.2⟩⟩, ⟨_, rfl, ⟨r2, ex_pbx hPd.1 hPd.2 N2 Q1 (k1) Z8, k2⟩⟩⟩
                · skip
                  have Z7 : r2.1 = 0 ∧ CSt t z N r2.2 a73 b74 v75 := by rcases k2 with h | h; exact ⟨h.2.1, h.2.2⟩; omega
                  refine qw_aload rfl rfl ?_
                  refine qw_const rfl ?_
                  refine qw_invV (rest := []) rfl rfl rfl rfl rfl (Nat.le_of_ble_eq_true rfl) rfl (y_X6_passSign (d := d0) a73 b74 v75 z N r2.2 t 41 (fa73.2.1.2) (Z7.2)) (fun z78 h9 hq79 => ?_)
                  obtain ⟨a80, b81, v82, rfl, fa80, x83, rfl, px83⟩ := hq79
                  show f_pq _ _ (130, [some (.inr (.inr (some 6))), some (.inl e), some (.inl o1), some (.inl o2), some (.inl o3), some (.inl o4), none], [.inl x83], cH a80 b81 v82) _
                  have k9 := px83
                  have w7 := fa80.2.1.2
                  refine qw_if_eq rfl (fun c84 => ?_) (fun c84 => ?_)
                  · skip
                    have k9 : PSt t z N (r2.2 + 1) (tkG t z r2.2 41) 0 a80 b81 v82 := by rcases k9 with h | h; omega; exact Or.inr ⟨rfl, h.2⟩
                    refine qw_const rfl ?_
                    exact qwp_iret (z := true) rfl (fun _ => by first | exact Or.inl rfl | exact Or.inr rfl | exact k2.bv | (obtain ⟨r, y1, y2⟩ := Z9; exact y2.bv)) ⟨a80, b81, v82, rfl, ⟨FR.tr (FR.tr (FR.tr (FR.rf) (FR.sub fa52.1 (by first | exact (fun _ h9 => h9) | decide | (intro c9 h9; simp only [List.mem_cons, List.not_mem_nil, or_false] at h9 ⊢; omega) | (intro c9 h9; simp only [List.mem_cons, List.not_mem_nil, or_false] at h9; exact cA_mem (by omega)) | (intro c9 h9; simp only [List.mem_cons, List.not_mem_nil, or_false] at h9; exact cB_mem (by omega)) | exact cA_sub))) (FR.sub fa73.1 (by first | exact (fun _ h9 => h9) | decide | (intro c9 h9; simp only [List.mem_cons, List.not_mem_nil, or_false] at h9 ⊢; omega) | (intro c9 h9; simp only [List.mem_cons, List.not_mem_nil, or_false] at h9; exact cA_mem (by omega)) | (intro c9 h9; simp only [List.mem_cons, List.not_mem_nil, or_false] at h9; exact cB_mem (by omega)) | exact cA_sub))) (FR.sub fa80.1 (by first | exact (fun _ h9 => h9) | decide | (intro c9 h9; simp only [List.mem_cons, List.not_mem_nil, or_false] at h9 ⊢; omega) | (intro c9 h9; simp only [List.mem_cons, List.not_mem_nil, or_false] at h9; exact cA_mem (by omega)) | (intro c9 h9; simp only [List.mem_cons, List.not_mem_nil, or_false] at h9; exact cB_mem (by omega)) | exact cA_sub)), ⟨fun i9 h9 => (fa80.2.1.1 i9 (fun z9 => h9 (by first | exact z9 | (revert z9; simp; done) | (revert z9; simp; omega)))).trans ((show ∀ i9, i9 ∉ [2] → v75 i9 = v i9 from fun i9 h9 => (fa73.2.1.1 i9 (fun z9 => h9 (by first | exact z9 | (revert z9; simp; done) | (revert z9; simp; omega)))).trans ((show ∀ i9, i9 ∉ [2] → v54 i9 = v i9 from fun i9 h9 => (fa52.2.1.1 i9 (fun z9 => h9 (by first | exact z9 | (revert z9; simp; done) | (revert z9; simp; omega)))).trans ((show ∀ i9, i9 ∉ [2] → v i9 = v i9 from (fun _ _ => rfl)) i9 h9)) i9 h9)) i9 h9), w7⟩, ⟨fun j hj => by rw [fa80.2.2.1 j hj, fa73.2.2.1 j hj, fa52.1 6 (by decide)], ((BF.av V9.2.2).tr fa73.2.2.2).tr fa80.2.2.2⟩⟩, ⟨_, rfl, ⟨(tkG t z r2.2 41, r2.2 + 1), ex_pb hPd.1 hPd.2 N2 Q1 (k1.z0 Z7.1), k9⟩⟩⟩
                  · skip
                    have k9 : PSt t z N (r2.2 + 1) (tkG t z r2.2 41) 1 a80 b81 v82 := by rcases k9 with h | h; exact Or.inl ⟨rfl, h.2⟩; omega
                    refine qw_const rfl ?_
                    refine qw_goto rfl ?_
                    exact qwp_iret (z := true) rfl (fun _ => by first | exact Or.inl rfl | exact Or.inr rfl | exact k2.bv | (obtain ⟨r, y1, y2⟩ := Z9; exact y2.bv)) ⟨a80, b81, v82, rfl, ⟨FR.tr (FR.tr (FR.tr (FR.rf) (FR.sub fa52.1 (by first | exact (fun _ h9 => h9) | decide | (intro c9 h9; simp only [List.mem_cons, List.not_mem_nil, or_false] at h9 ⊢; omega) | (intro c9 h9; simp only [List.mem_cons, List.not_mem_nil, or_false] at h9; exact cA_mem (by omega)) | (intro c9 h9; simp only [List.mem_cons, List.not_mem_nil, or_false] at h9; exact cB_mem (by omega)) | exact cA_sub))) (FR.sub fa73.1 (by first | exact (fun _ h9 => h9) | decide | (intro c9 h9; simp only [List.mem_cons, List.not_mem_nil, or_false] at h9 ⊢; omega) | (intro c9 h9; simp only [List.mem_cons, List.not_mem_nil, or_false] at h9; exact cA_mem (by omega)) | (intro c9 h9; simp only [List.mem_cons, List.not_mem_nil, or_false] at h9; exact cB_mem (by omega)) | exact cA_sub))) (FR.sub fa80.1 (by first | exact (fun _ h9 => h9) | decide | (intro c9 h9; simp only [List.mem_cons, List.not_mem_nil, or_false] at h9 ⊢; omega) | (intro c9 h9; simp only [List.mem_cons, List.not_mem_nil, or_false] at h9; exact cA_mem (by omega)) | (intro c9 h9; simp only [List.mem_cons, List.not_mem_nil, or_false] at h9; exact cB_mem (by omega)) | exact cA_sub)), ⟨fun i9 h9 => (fa80.2.1.1 i9 (fun z9 => h9 (by first | exact z9 | (revert z9; simp; done) | (revert z9; simp; omega)))).trans ((show ∀ i9, i9 ∉ [2] → v75 i9 = v i9 from fun i9 h9 => (fa73.2.1.1 i9 (fun z9 => h9 (by first | exact z9 | (revert z9; simp; done) | (revert z9; simp; omega)))).trans ((show ∀ i9, i9 ∉ [2] → v54 i9 = v i9 from fun i9 h9 => (fa52.2.1.1 i9 (fun z9 => h9 (by first | exact z9 | (revert z9; simp; done) | (revert z9; simp; omega)))).trans ((show ∀ i9, i9 ∉ [2] → v i9 = v i9 from (fun _ _ => rfl)) i9 h9)) i9 h9)) i9 h9), w7⟩, ⟨fun j hj => by rw [fa80.2.2.1 j hj, fa73.2.2.1 j hj, fa52.1 6 (by decide)], ((BF.av V9.2.2).tr fa73.2.2.2).tr fa80.2.2.2⟩⟩, ⟨_, rfl, ⟨(tkG t z r2.2 41, r2.2 + 1), ex_pb hPd.1 hPd.2 N2 Q1 (k1.z0 Z7.1), k9⟩⟩⟩
            · skip
              have ZX := ex_p5 (d := dd) hP (by omega)
              refine qw_aload rfl rfl ?_
              refine qw_const rfl ?_
              refine qw_invV (rest := []) rfl rfl rfl rfl rfl (Nat.le_of_ble_eq_true rfl) rfl (y_X6_fail (d := d0) a b v  5 (by omega) (by omega)) (fun z85 h9 hq86 => ?_)
              obtain ⟨a87, rfl, fa87, x88, rfl, px88⟩ := hq86
              show f_pq _ _ (102, [some (.inr (.inr (some 6))), some (.inl e), some (.inl o1), some (.inl o2), some (.inl o3), some (.inl o4), none], [.inl x88], cH a87 b v) _
              have F8 := fa87.2.2
              have z8 := px88
              have Z9 : ∃ r : Int × Nat, EX t z fm 7 dd c r ∧ PSt t z N r.2 r.1 x88 a87 b v := ⟨(flt t z c 5, c), ZX, Or.inr ⟨z8, by have := flt_pos (t := t) (z := z) (c := c) (k := 5) (by decide); show ¬ flt t z c 5 = 0; omega, by show _ = flt t z c 5; rw [F8]; show _ = (5 : Int) + 16 * (lxP t z c : Int); have l9 : (5 : Int32).toInt = 5 := rfl; omega⟩⟩
              exact qwp_iret (z := true) rfl (fun _ => by first | exact Or.inl rfl | exact Or.inr rfl | exact k2.bv | (obtain ⟨r, y1, y2⟩ := Z9; exact y2.bv)) ⟨a87, b, v, rfl, ⟨FR.tr (FR.rf) (FR.sub fa87.1 (by first | exact (fun _ h9 => h9) | decide | (intro c9 h9; simp only [List.mem_cons, List.not_mem_nil, or_false] at h9 ⊢; omega) | (intro c9 h9; simp only [List.mem_cons, List.not_mem_nil, or_false] at h9; exact cA_mem (by omega)) | (intro c9 h9; simp only [List.mem_cons, List.not_mem_nil, or_false] at h9; exact cB_mem (by omega)) | exact cA_sub)), ⟨(fun _ _ => rfl), hw⟩, ⟨fa87.2.1, BF.rf⟩⟩, ⟨_, rfl, Z9⟩⟩
        · skip
          have hP : isPa t z fm c = true := isPa_f.mpr (Or.inr (Or.inr (Or.inr (by rcases ho2 with h | h; exact h.2; omega))))
          refine qw_iload rfl rfl ?_
          refine qw_const rfl ?_
          refine qw_ic_lt rfl (fun c89 => ?_) (fun c89 => ?_)
          · skip
            have hPd : isPa t z fm c = true ∧ ¬ dd = 5 := ⟨hP, by omega⟩
            refine qw_aload rfl rfl ?_
            refine qc_getR (t := some 1) rfl rfl rfl rfl rfl ?_
            refine qw_invV (rest := []) rfl rfl rfl rfl rfl (Nat.le_of_ble_eq_true rfl) rfl (y_X8_advance (d := d0) a b v   (by omega) (by omega)) (fun z90 h9 hq91 => ?_)
            obtain ⟨a92, b93, v94, rfl, fa92, rfl⟩ := hq91
            show f_pq _ _ (110, [some (.inr (.inr (some 6))), some (.inl e), some (.inl o1), some (.inl o2), some (.inl o3), some (.inl o4), none], [], cH a92 b93 v94) _
            have V9 := fa92
            have C9 := hS.next (isPa_k hPd.1) V9.1 V9.2.2 V9.2.1.2.2
            refine qw_iload rfl rfl ?_
            refine qw_if_eq rfl (fun c95 => ?_) (fun c95 => ?_)
            · skip
              have N1 : ¬ tkS t z c 40 := by rcases ho1 with h | h; omega; exact h.2
              refine qw_iload rfl rfl ?_
              refine qw_if_eq rfl (fun c96 => ?_) (fun c96 => ?_)
              · skip
                have N2 : ¬ tkW t z c 20 := by rcases ho2 with h | h; omega; exact h.2
                refine qw_aload rfl rfl ?_
                refine qc_getR (t := some F) rfl rfl rfl rfl ((fa92.2.1.1 4 (by decide)).trans h4) ?_
                refine qw_iload rfl rfl ?_
                refine qw_invV (rest := []) rfl rfl (sh_form (by omega)) rfl rfl (Nat.le_of_ble_eq_true rfl) rfl (y_X2_add (d := d0) a92 b93 v94  F o4 (by omega)) (fun z97 h9 hq98 => ?_)
                obtain ⟨a99, rfl, fa99, rfl⟩ := hq98
                show f_pq _ _ (173, [some (.inr (.inr (some 6))), some (.inl e), some (.inl o1), some (.inl o2), some (.inl o3), some (.inl o4), none], [], cH a99 b93 v94) _
                refine qw_const rfl ?_
                exact qwp_iret (z := true) rfl (fun _ => by first | exact Or.inl rfl | exact Or.inr rfl | exact k2.bv | (obtain ⟨r, y1, y2⟩ := Z9; exact y2.bv)) ⟨a99, b93, v94, rfl, ⟨FR.tr (FR.tr (FR.rf) (FR.sub fa92.1 (by first | exact (fun _ h9 => h9) | decide | (intro c9 h9; simp only [List.mem_cons, List.not_mem_nil, or_false] at h9 ⊢; omega) | (intro c9 h9; simp only [List.mem_cons, List.not_mem_nil, or_false] at h9; exact cA_mem (by omega)) | (intro c9 h9; simp only [List.mem_cons, List.not_mem_nil, or_false] at h9; exact cB_mem (by omega)) | exact cA_sub))) (FR.sub fa99.1 (by first | exact (fun _ h9 => h9) | decide | (intro c9 h9; simp only [List.mem_cons, List.not_mem_nil, or_false] at h9 ⊢; omega) | (intro c9 h9; simp only [List.mem_cons, List.not_mem_nil, or_false] at h9; exact cA_mem (by omega)) | (intro c9 h9; simp only [List.mem_cons, List.not_mem_nil, or_false] at h9; exact cB_mem (by omega)) | exact cA_sub)), ⟨fun i9 h9 => (fa92.2.1.1 i9 (fun z9 => h9 (by first | exact z9 | (revert z9; simp; done) | (revert z9; simp; omega)))).trans ((show ∀ i9, i9 ∉ [2] → v i9 = v i9 from (fun _ _ => rfl)) i9 h9), V9.2.1.2.1⟩, ⟨fun j hj => by rw [fa99.1 6 (by simp only [List.mem_cons, List.not_mem_nil, or_false, not_or]; omega), fa92.1 6 (by decide)], BF.av V9.2.2⟩⟩, ⟨_, rfl, ⟨(0, c + 1), ex_p0 hPd.1 hPd.2 N2 N1, PSt.ok rfl rfl (C9.fr (fa99.1 1 (by simp only [List.mem_cons, List.not_mem_nil, or_false, not_or]; omega)) (fa99.1 3 (by simp only [List.mem_cons, List.not_mem_nil, or_false, not_or]; omega)) (fa99.1 4 (by simp only [List.mem_cons, List.not_mem_nil, or_false, not_or]; omega)) (by rw [fa99.1 6 (by simp only [List.mem_cons, List.not_mem_nil, or_false, not_or]; omega)]))⟩⟩⟩
              · skip
                have Q2 : tkW t z c 20 := by rcases ho2 with h | h; exact h.2; omega
                refine qw_aload rfl rfl ?_
                refine qw_iload rfl rfl ?_
                refine qw_const rfl ?_
                first | refine qw_iadd rfl (by omega) (fun x100 tx100 => ?_) | refine qw_iiU rfl (fun x100 tx100 => ?_)
                refine qw_invV (rest := []) rfl rfl rfl rfl rfl (Nat.le_of_ble_eq_true rfl) rfl (ihP d0 hd a92 b93 v94 z N (c + 1) t fm (dd + 1) F x100 fa92.2.1.2.1 ((fa92.2.1.1 4 (by decide)).trans h4) hF (by omega) (by omega) (hD.same (by rw [V9.1 6 (by decide)])) (C9)) (fun z101 h9 hq102 => ?_)
                obtain ⟨a103, b104, v105, rfl, fa103, x106, rfl, px106⟩ := hq102
                show f_pq _ _ (150, [some (.inr (.inr (some 6))), some (.inl e), some (.inl o1), some (.inl o2), some (.inl o3), some (.inl o4), none], [.inl x106], cH a103 b104 v105) _
                obtain ⟨r2, k1, k2⟩ := px106
                have w7 := fa103.2.1.2
                refine qw_istore (lo' := [some (.inr (.inr (some 6))), some (.inl e), some (.inl o1), some (.inl o2), some (.inl o3), some (.inl o4), some (.inl x106)]) rfl rfl ?_
                refine qw_aload rfl rfl ?_
                refine qc_getR (t := some F) rfl rfl rfl rfl ((fa103.2.1.1 4 (by decide)).trans ((fa92.2.1.1 4 (by decide)).trans h4)) ?_
                refine qw_const rfl ?_
                refine qw_invV (rest := []) rfl rfl (sh_form (by omega)) rfl rfl (Nat.le_of_ble_eq_true rfl) rfl (y_X2_add (d := d0) a103 b104 v105  F (-5) (by omega)) (fun z107 h9 hq108 => ?_)
                obtain ⟨a109, rfl, fa109, rfl⟩ := hq108
                show f_pq _ _ (161, [some (.inr (.inr (some 6))), some (.inl e), some (.inl o1), some (.inl o2), some (.inl o3), some (.inl o4), some (.inl x106)], [], cH a109 b104 v105) _
                refine qw_iload rfl rfl ?_
                exact qwp_iret (z := true) rfl (fun _ => by first | exact Or.inl rfl | exact Or.inr rfl | exact k2.bv | (obtain ⟨r, y1, y2⟩ := Z9; exact y2.bv)) ⟨a109, b104, v105, rfl, ⟨FR.tr (FR.tr (FR.tr (FR.rf) (FR.sub fa92.1 (by first | exact (fun _ h9 => h9) | decide | (intro c9 h9; simp only [List.mem_cons, List.not_mem_nil, or_false] at h9 ⊢; omega) | (intro c9 h9; simp only [List.mem_cons, List.not_mem_nil, or_false] at h9; exact cA_mem (by omega)) | (intro c9 h9; simp only [List.mem_cons, List.not_mem_nil, or_false] at h9; exact cB_mem (by omega)) | exact cA_sub))) (FR.sub fa103.1 (by first | exact (fun _ h9 => h9) | decide | (intro c9 h9; simp only [List.mem_cons, List.not_mem_nil, or_false] at h9 ⊢; omega) | (intro c9 h9; simp only [List.mem_cons, List.not_mem_nil, or_false] at h9; exact cA_mem (by omega)) | (intro c9 h9; simp only [List.mem_cons, List.not_mem_nil, or_false] at h9; exact cB_mem (by omega)) | exact cA_sub))) (FR.sub fa109.1 (by first | exact (fun _ h9 => h9) | decide | (intro c9 h9; simp only [List.mem_cons, List.not_mem_nil, or_false] at h9 ⊢; omega) | (intro c9 h9; simp only [List.mem_cons, List.not_mem_nil, or_false] at h9; exact cA_mem (by omega)) | (intro c9 h9; simp only [List.mem_cons, List.not_mem_nil, or_false] at h9; exact cB_mem (by omega)) | exact cA_sub)), ⟨fun i9 h9 => (fa103.2.1.1 i9 (fun z9 => h9 (by first | exact z9 | (revert z9; simp; done) | (revert z9; simp; omega)))).trans ((show ∀ i9, i9 ∉ [2] → v94 i9 = v i9 from fun i9 h9 => (fa92.2.1.1 i9 (fun z9 => h9 (by first | exact z9 | (revert z9; simp; done) | (revert z9; simp; omega)))).trans ((show ∀ i9, i9 ∉ [2] → v i9 = v i9 from (fun _ _ => rfl)) i9 h9)) i9 h9), w7⟩, ⟨fun j hj => by rw [fa109.1 6 (by simp only [List.mem_cons, List.not_mem_nil, or_false, not_or]; omega), fa103.2.2.1 j hj, fa92.1 6 (by decide)], (BF.av V9.2.2).tr fa103.2.2.2⟩⟩, ⟨_, rfl, ⟨r2, ex_pn hPd.1 hPd.2 Q2 k1, k2.fr (fa109.1 1 (by simp only [List.mem_cons, List.not_mem_nil, or_false, not_or]; omega)) (fa109.1 3 (by simp only [List.mem_cons, List.not_mem_nil, or_false, not_or]; omega)) (fa109.1 4 (by simp only [List.mem_cons, List.not_mem_nil, or_false, not_or]; omega)) (by rw [fa109.1 6 (by simp only [List.mem_cons, List.not_mem_nil, or_false, not_or]; omega)])⟩⟩⟩
            · skip
              have Q1 : tkS t z c 40 := by rcases ho1 with h | h; exact h.2; omega
              have N2 : ¬ tkW t z c 20 := tkS_nw Q1
              refine qw_aload rfl rfl ?_
              refine qw_iload rfl rfl ?_
              refine qw_const rfl ?_
              first | refine qw_iadd rfl (by omega) (fun x110 tx110 => ?_) | refine qw_iiU rfl (fun x110 tx110 => ?_)
              refine qw_invV (rest := []) rfl rfl rfl rfl rfl (Nat.le_of_ble_eq_true rfl) rfl (ihA d0 hd a92 b93 v94 z N (c + 1) t fm (dd + 1) F x110 fa92.2.1.2.1 ((fa92.2.1.1 4 (by decide)).trans h4) hF (by omega) (by omega) (hD.same (by rw [V9.1 6 (by decide)])) (C9)) (fun z111 h9 hq112 => ?_)
              obtain ⟨a113, b114, v115, rfl, fa113, x116, rfl, px116⟩ := hq112
              show f_pq _ _ (121, [some (.inr (.inr (some 6))), some (.inl e), some (.inl o1), some (.inl o2), some (.inl o3), some (.inl o4), none], [.inl x116], cH a113 b114 v115) _
              obtain ⟨r2, k1, k2⟩ := px116
              have w7 := fa113.2.1.2
              refine qw_if_eq rfl (fun c117 => ?_) (fun c117 => ?_)
              · skip
                have Z8 : ¬ r2.1 = 0 := by rcases k2 with h | h; omega; exact h.2.1
                have k2 : PSt t z N r2.2 r2.1 0 a113 b114 v115 := by rcases k2 with h | h; omega; exact Or.inr ⟨rfl, h.2⟩
                refine qw_const rfl ?_
                exact qwp_iret (z := true) rfl (fun _ => by first | exact Or.inl rfl | exact Or.inr rfl | exact k2.bv | (obtain ⟨r, y1, y2⟩ := Z9; exact y2.bv)) ⟨a113, b114, v115, rfl, ⟨FR.tr (FR.tr (FR.rf) (FR.sub fa92.1 (by first | exact (fun _ h9 => h9) | decide | (intro c9 h9; simp only [List.mem_cons, List.not_mem_nil, or_false] at h9 ⊢; omega) | (intro c9 h9; simp only [List.mem_cons, List.not_mem_nil, or_false] at h9; exact cA_mem (by omega)) | (intro c9 h9; simp only [List.mem_cons, List.not_mem_nil, or_false] at h9; exact cB_mem (by omega)) | exact cA_sub))) (FR.sub fa113.1 (by first | exact (fun _ h9 => h9) | decide | (intro c9 h9; simp only [List.mem_cons, List.not_mem_nil, or_false] at h9 ⊢; omega) | (intro c9 h9; simp only [List.mem_cons, List.not_mem_nil, or_false] at h9; exact cA_mem (by omega)) | (intro c9 h9; simp only [List.mem_cons, List.not_mem_nil, or_false] at h9; exact cB_mem (by omega)) | exact cA_sub)), ⟨fun i9 h9 => (fa113.2.1.1 i9 (fun z9 => h9 (by first | exact z9 | (revert z9; simp; done) | (revert z9; simp; omega)))).trans ((show ∀ i9, i9 ∉ [2] → v94 i9 = v i9 from fun i9 h9 => (fa92.2.1.1 i9 (fun z9 => h9 (by first | exact z9 | (revert z9; simp; done) | (revert z9; simp; omega)))).trans ((show ∀ i9, i9 ∉ [2] → v i9 = v i9 from (fun _ _ => rfl)) i9 h9)) i9 h9), w7⟩, ⟨fun j hj => by rw [fa113.2.2.1 j hj, fa92.1 6 (by decide)], (BF.av V9.2.2).tr fa113.2.2.2⟩⟩, ⟨_, rfl, ⟨r2, ex_pbx hPd.1 hPd.2 N2 Q1 (k1) Z8, k2⟩⟩⟩
              · skip
                have Z7 : r2.1 = 0 ∧ CSt t z N r2.2 a113 b114 v115 := by rcases k2 with h | h; exact ⟨h.2.1, h.2.2⟩; omega
                refine qw_aload rfl rfl ?_
                refine qw_const rfl ?_
                refine qw_invV (rest := []) rfl rfl rfl rfl rfl (Nat.le_of_ble_eq_true rfl) rfl (y_X6_passSign (d := d0) a113 b114 v115 z N r2.2 t 41 (fa113.2.1.2) (Z7.2)) (fun z118 h9 hq119 => ?_)
                obtain ⟨a120, b121, v122, rfl, fa120, x123, rfl, px123⟩ := hq119
                show f_pq _ _ (130, [some (.inr (.inr (some 6))), some (.inl e), some (.inl o1), some (.inl o2), some (.inl o3), some (.inl o4), none], [.inl x123], cH a120 b121 v122) _
                have k9 := px123
                have w7 := fa120.2.1.2
                refine qw_if_eq rfl (fun c124 => ?_) (fun c124 => ?_)
                · skip
                  have k9 : PSt t z N (r2.2 + 1) (tkG t z r2.2 41) 0 a120 b121 v122 := by rcases k9 with h | h; omega; exact Or.inr ⟨rfl, h.2⟩
                  refine qw_const rfl ?_
                  exact qwp_iret (z := true) rfl (fun _ => by first | exact Or.inl rfl | exact Or.inr rfl | exact k2.bv | (obtain ⟨r, y1, y2⟩ := Z9; exact y2.bv)) ⟨a120, b121, v122, rfl, ⟨FR.tr (FR.tr (FR.tr (FR.rf) (FR.sub fa92.1 (by first | exact (fun _ h9 => h9) | decide | (intro c9 h9; simp only [List.mem_cons, List.not_mem_nil, or_false] at h9 ⊢; omega) | (intro c9 h9; simp only [List.mem_cons, List.not_mem_nil, or_false] at h9; exact cA_mem (by omega)) | (intro c9 h9; simp only [List.mem_cons, List.not_mem_nil, or_false] at h9; exact cB_mem (by omega)) | exact cA_sub))) (FR.sub fa113.1 (by first | exact (fun _ h9 => h9) | decide | (intro c9 h9; simp only [List.mem_cons, List.not_mem_nil, or_false] at h9 ⊢; omega) | (intro c9 h9; simp only [List.mem_cons, List.not_mem_nil, or_false] at h9; exact cA_mem (by omega)) | (intro c9 h9; simp only [List.mem_cons, List.not_mem_nil, or_false] at h9; exact cB_mem (by omega)) | exact cA_sub))) (FR.sub fa120.1 (by first | exact (fun _ h9 => h9) | decide | (intro c9 h9; simp only [List.mem_cons, List.not_mem_nil, or_false] at h9 ⊢; omega) | (intro c9 h9; simp only [List.mem_cons, List.not_mem_nil, or_false] at h9; exact cA_mem (by omega)) | (intro c9 h9; simp only [List.mem_cons, List.not_mem_nil, or_false] at h9; exact cB_mem (by omega)) | exact cA_sub)), ⟨fun i9 h9 => (fa120.2.1.1 i9 (fun z9 => h9 (by first | exact z9 | (revert z9; simp; done) | (revert z9; simp; omega)))).trans ((show ∀ i9, i9 ∉ [2] → v115 i9 = v i9 from fun i9 h9 => (fa113.2.1.1 i9 (fun z9 => h9 (by first | exact z9 | (revert z9; simp; done) | (revert z9; simp; omega)))).trans ((show ∀ i9, i9 ∉ [2] → v94 i9 = v i9 from fun i9 h9 => (fa92.2.1.1 i9 (fun z9 => h9 (by first | exact z9 | (revert z9; simp; done) | (revert z9; simp; omega)))).trans ((show ∀ i9, i9 ∉ [2] → v i9 = v i9 from (fun _ _ => rfl)) i9 h9)) i9 h9)) i9 h9), w7⟩, ⟨fun j hj => by rw [fa120.2.2.1 j hj, fa113.2.2.1 j hj, fa92.1 6 (by decide)], ((BF.av V9.2.2).tr fa113.2.2.2).tr fa120.2.2.2⟩⟩, ⟨_, rfl, ⟨(tkG t z r2.2 41, r2.2 + 1), ex_pb hPd.1 hPd.2 N2 Q1 (k1.z0 Z7.1), k9⟩⟩⟩
                · skip
                  have k9 : PSt t z N (r2.2 + 1) (tkG t z r2.2 41) 1 a120 b121 v122 := by rcases k9 with h | h; exact Or.inl ⟨rfl, h.2⟩; omega
                  refine qw_const rfl ?_
                  refine qw_goto rfl ?_
                  exact qwp_iret (z := true) rfl (fun _ => by first | exact Or.inl rfl | exact Or.inr rfl | exact k2.bv | (obtain ⟨r, y1, y2⟩ := Z9; exact y2.bv)) ⟨a120, b121, v122, rfl, ⟨FR.tr (FR.tr (FR.tr (FR.rf) (FR.sub fa92.1 (by first | exact (fun _ h9 => h9) | decide | (intro c9 h9; simp only [List.mem_cons, List.not_mem_nil, or_false] at h9 ⊢; omega) | (intro c9 h9; simp only [List.mem_cons, List.not_mem_nil, or_false] at h9; exact cA_mem (by omega)) | (intro c9 h9; simp only [List.mem_cons, List.not_mem_nil, or_false] at h9; exact cB_mem (by omega)) | exact cA_sub))) (FR.sub fa113.1 (by first | exact (fun _ h9 => h9) | decide | (intro c9 h9; simp only [List.mem_cons, List.not_mem_nil, or_false] at h9 ⊢; omega) | (intro c9 h9; simp only [List.mem_cons, List.not_mem_nil, or_false] at h9; exact cA_mem (by omega)) | (intro c9 h9; simp only [List.mem_cons, List.not_mem_nil, or_false] at h9; exact cB_mem (by omega)) | exact cA_sub))) (FR.sub fa120.1 (by first | exact (fun _ h9 => h9) | decide | (intro c9 h9; simp only [List.mem_cons, List.not_mem_nil, or_false] at h9 ⊢; omega) | (intro c9 h9; simp only [List.mem_cons, List.not_mem_nil, or_false] at h9; exact cA_mem (by omega)) | (intro c9 h9; simp only [List.mem_cons, List.not_mem_nil, or_false] at h9; exact cB_mem (by omega)) | exact cA_sub)), ⟨fun i9 h9 => (fa120.2.1.1 i9 (fun z9 => h9 (by first | exact z9 | (revert z9; simp; done) | (revert z9; simp; omega)))).trans ((show ∀ i9, i9 ∉ [2] → v115 i9 = v i9 from fun i9 h9 => (fa113.2.1.1 i9 (fun z9 => h9 (by first | exact z9 | (revert z9; simp; done) | (revert z9; simp; omega)))).trans ((show ∀ i9, i9 ∉ [2] → v94 i9 = v i9 from fun i9 h9 => (fa92.2.1.1 i9 (fun z9 => h9 (by first | exact z9 | (revert z9; simp; done) | (revert z9; simp; omega)))).trans ((show ∀ i9, i9 ∉ [2] → v i9 = v i9 from (fun _ _ => rfl)) i9 h9)) i9 h9)) i9 h9), w7⟩, ⟨fun j hj => by rw [fa120.2.2.1 j hj, fa113.2.2.1 j hj, fa92.1 6 (by decide)], ((BF.av V9.2.2).tr fa113.2.2.2).tr fa120.2.2.2⟩⟩, ⟨_, rfl, ⟨(tkG t z r2.2 41, r2.2 + 1), ex_pb hPd.1 hPd.2 N2 Q1 (k1.z0 Z7.1), k9⟩⟩⟩
          · skip
            have ZX := ex_p5 (d := dd) hP (by omega)
            refine qw_aload rfl rfl ?_
            refine qw_const rfl ?_
            refine qw_invV (rest := []) rfl rfl rfl rfl rfl (Nat.le_of_ble_eq_true rfl) rfl (y_X6_fail (d := d0) a b v  5 (by omega) (by omega)) (fun z125 h9 hq126 => ?_)
            obtain ⟨a127, rfl, fa127, x128, rfl, px128⟩ := hq126
            show f_pq _ _ (102, [some (.inr (.inr (some 6))), some (.inl e), some (.inl o1), some (.inl o2), some (.inl o3), some (.inl o4), none], [.inl x128], cH a127 b v) _
            have F8 := fa127.2.2
            have z8 := px128
            have Z9 : ∃ r : Int × Nat, EX t z fm 7 dd c r ∧ PSt t z N r.2 r.1 x128 a127 b v := ⟨(flt t z c 5, c), ZX, Or.inr ⟨z8, by have := flt_pos (t := t) (z := z) (c := c) (k := 5) (by decide); show ¬ flt t z c 5 = 0; omega, by show _ = flt t z c 5; rw [F8]; show _ = (5 : Int) + 16 * (lxP t z c : Int); have l9 : (5 : Int32).toInt = 5 := rfl; omega⟩⟩
            exact qwp_iret (z := true) rfl (fun _ => by first | exact Or.inl rfl | exact Or.inr rfl | exact k2.bv | (obtain ⟨r, y1, y2⟩ := Z9; exact y2.bv)) ⟨a127, b, v, rfl, ⟨FR.tr (FR.rf) (FR.sub fa127.1 (by first | exact (fun _ h9 => h9) | decide | (intro c9 h9; simp only [List.mem_cons, List.not_mem_nil, or_false] at h9 ⊢; omega) | (intro c9 h9; simp only [List.mem_cons, List.not_mem_nil, or_false] at h9; exact cA_mem (by omega)) | (intro c9 h9; simp only [List.mem_cons, List.not_mem_nil, or_false] at h9; exact cB_mem (by omega)) | exact cA_sub)), ⟨(fun _ _ => rfl), hw⟩, ⟨fa127.2.1, BF.rf⟩⟩, ⟨_, rfl, Z9⟩⟩
      · skip
        have hP : isPa t z fm c = true := isPa_f.mpr (Or.inr (Or.inr (Or.inl (by rcases ho1 with h | h; exact h.2; omega))))
        refine qw_iload rfl rfl ?_
        refine qw_const rfl ?_
        refine qw_ic_lt rfl (fun c129 => ?_) (fun c129 => ?_)
        · skip
          have hPd : isPa t z fm c = true ∧ ¬ dd = 5 := ⟨hP, by omega⟩
          refine qw_aload rfl rfl ?_
          refine qc_getR (t := some 1) rfl rfl rfl rfl rfl ?_
          refine qw_invV (rest := []) rfl rfl rfl rfl rfl (Nat.le_of_ble_eq_true rfl) rfl (y_X8_advance (d := d0) a b v   (by omega) (by omega)) (fun z130 h9 hq131 => ?_)
          obtain ⟨a132, b133, v134, rfl, fa132, rfl⟩ := hq131
          show f_pq _ _ (110, [some (.inr (.inr (some 6))), some (.inl e), some (.inl o1), some (.inl o2), some (.inl o3), some (.inl o4), none], [], cH a132 b133 v134) _
          have V9 := fa132
          have C9 := hS.next (isPa_k hPd.1) V9.1 V9.2.2 V9.2.1.2.2
          refine qw_iload rfl rfl ?_
          refine qw_if_eq rfl (fun c135 => ?_) (fun c135 => ?_)
          · skip
            have N1 : ¬ tkS t z c 40 := by rcases ho1 with h | h; omega; exact h.2
            refine qw_iload rfl rfl ?_
            refine qw_if_eq rfl (fun c136 => ?_) (fun c136 => ?_)
            · skip
              have N2 : ¬ tkW t z c 20 := by rcases ho2 with h | h; omega; exact h.2
              refine qw_aload rfl rfl ?_
              refine qc_getR (t := some F) rfl rfl rfl rfl ((fa132.2.1.1 4 (by decide)).trans h4) ?_
              refine qw_iload rfl rfl ?_
              refine qw_invV (rest := []) rfl rfl (sh_form (by omega)) rfl rfl (Nat.le_of_ble_eq_true rfl) rfl (y_X2_add (d := d0) a132 b133 v134  F o4 (by omega)) (fun z137 h9 hq138 => ?_)
              obtain ⟨a139, rfl, fa139, rfl⟩ := hq138
              show f_pq _ _ (173, [some (.inr (.inr (some 6))), some (.inl e), some (.inl o1), some (.inl o2), some (.inl o3), some (.inl o4), none], [], cH a139 b133 v134) _
              refine qw_const rfl ?_
              exact qwp_iret (z := true) rfl (fun _ => by first | exact Or.inl rfl | exact Or.inr rfl | exact k2.bv | (obtain ⟨r, y1, y2⟩ := Z9; exact y2.bv)) ⟨a139, b133, v134, rfl, ⟨FR.tr (FR.tr (FR.rf) (FR.sub fa132.1 (by first | exact (fun _ h9 => h9) | decide | (intro c9 h9; simp only [List.mem_cons, List.not_mem_nil, or_false] at h9 ⊢; omega) | (intro c9 h9; simp only [List.mem_cons, List.not_mem_nil, or_false] at h9; exact cA_mem (by omega)) | (intro c9 h9; simp only [List.mem_cons, List.not_mem_nil, or_false] at h9; exact cB_mem (by omega)) | exact cA_sub))) (FR.sub fa139.1 (by first | exact (fun _ h9 => h9) | decide | (intro c9 h9; simp only [List.mem_cons, List.not_mem_nil, or_false] at h9 ⊢; omega) | (intro c9 h9; simp only [List.mem_cons, List.not_mem_nil, or_false] at h9; exact cA_mem (by omega)) | (intro c9 h9; simp only [List.mem_cons, List.not_mem_nil, or_false] at h9; exact cB_mem (by omega)) | exact cA_sub)), ⟨fun i9 h9 => (fa132.2.1.1 i9 (fun z9 => h9 (by first | exact z9 | (revert z9; simp; done) | (revert z9; simp; omega)))).trans ((show ∀ i9, i9 ∉ [2] → v i9 = v i9 from (fun _ _ => rfl)) i9 h9), V9.2.1.2.1⟩, ⟨fun j hj => by rw [fa139.1 6 (by simp only [List.mem_cons, List.not_mem_nil, or_false, not_or]; omega), fa132.1 6 (by decide)], BF.av V9.2.2⟩⟩, ⟨_, rfl, ⟨(0, c + 1), ex_p0 hPd.1 hPd.2 N2 N1, PSt.ok rfl rfl (C9.fr (fa139.1 1 (by simp only [List.mem_cons, List.not_mem_nil, or_false, not_or]; omega)) (fa139.1 3 (by simp only [List.mem_cons, List.not_mem_nil, or_false, not_or]; omega)) (fa139.1 4 (by simp only [List.mem_cons, List.not_mem_nil, or_false, not_or]; omega)) (by rw [fa139.1 6 (by simp only [List.mem_cons, List.not_mem_nil, or_false, not_or]; omega)]))⟩⟩⟩
            · skip
              have Q2 : tkW t z c 20 := by rcases ho2 with h | h; exact h.2; omega
              refine qw_aload rfl rfl ?_
              refine qw_iload rfl rfl ?_
              refine qw_const rfl ?_
              first | refine qw_iadd rfl (by omega) (fun x140 tx140 => ?_) | refine qw_iiU rfl (fun x140 tx140 => ?_)
              refine qw_invV (rest := []) rfl rfl rfl rfl rfl (Nat.le_of_ble_eq_true rfl) rfl (ihP d0 hd a132 b133 v134 z N (c + 1) t fm (dd + 1) F x140 fa132.2.1.2.1 ((fa132.2.1.1 4 (by decide)).trans h4) hF (by omega) (by omega) (hD.same (by rw [V9.1 6 (by decide)])) (C9)) (fun z141 h9 hq142 => ?_)
              obtain ⟨a143, b144, v145, rfl, fa143, x146, rfl, px146⟩ := hq142
              show f_pq _ _ (150, [some (.inr (.inr (some 6))), some (.inl e), some (.inl o1), some (.inl o2), some (.inl o3), some (.inl o4), none], [.inl x146], cH a143 b144 v145) _
              obtain ⟨r2, k1, k2⟩ := px146
              have w7 := fa143.2.1.2
              refine qw_istore (lo' := [some (.inr (.inr (some 6))), some (.inl e), some (.inl o1), some (.inl o2), some (.inl o3), some (.inl o4), some (.inl x146)]) rfl rfl ?_
              refine qw_aload rfl rfl ?_
              refine qc_getR (t := some F) rfl rfl rfl rfl ((fa143.2.1.1 4 (by decide)).trans ((fa132.2.1.1 4 (by decide)).trans h4)) ?_
              refine qw_const rfl ?_
              refine qw_invV (rest := []) rfl rfl (sh_form (by omega)) rfl rfl (Nat.le_of_ble_eq_true rfl) rfl (y_X2_add (d := d0) a143 b144 v145  F (-5) (by omega)) (fun z147 h9 hq148 => ?_)
              obtain ⟨a149, rfl, fa149, rfl⟩ := hq148
              show f_pq _ _ (161, [some (.inr (.inr (some 6))), some (.inl e), some (.inl o1), some (.inl o2), some (.inl o3), some (.inl o4), some (.inl x146)], [], cH a149 b144 v145) _
              refine qw_iload rfl rfl ?_
              exact qwp_iret (z := true) rfl (fun _ => by first | exact Or.inl rfl | exact Or.inr rfl | exact k2.bv | (obtain ⟨r, y1, y2⟩ := Z9; exact y2.bv)) ⟨a149, b144, v145, rfl, ⟨FR.tr (FR.tr (FR.tr (FR.rf) (FR.sub fa132.1 (by first | exact (fun _ h9 => h9) | decide | (intro c9 h9; simp only [List.mem_cons, List.not_mem_nil, or_false] at h9 ⊢; omega) | (intro c9 h9; simp only [List.mem_cons, List.not_mem_nil, or_false] at h9; exact cA_mem (by omega)) | (intro c9 h9; simp only [List.mem_cons, List.not_mem_nil, or_false] at h9; exact cB_mem (by omega)) | exact cA_sub))) (FR.sub fa143.1 (by first | exact (fun _ h9 => h9) | decide | (intro c9 h9; simp only [List.mem_cons, List.not_mem_nil, or_false] at h9 ⊢; omega) | (intro c9 h9; simp only [List.mem_cons, List.not_mem_nil, or_false] at h9; exact cA_mem (by omega)) | (intro c9 h9; simp only [List.mem_cons, List.not_mem_nil, or_false] at h9; exact cB_mem (by omega)) | exact cA_sub))) (FR.sub fa149.1 (by first | exact (fun _ h9 => h9) | decide | (intro c9 h9; simp only [List.mem_cons, List.not_mem_nil, or_false] at h9 ⊢; omega) | (intro c9 h9; simp only [List.mem_cons, List.not_mem_nil, or_false] at h9; exact cA_mem (by omega)) | (intro c9 h9; simp only [List.mem_cons, List.not_mem_nil, or_false] at h9; exact cB_mem (by omega)) | exact cA_sub)), ⟨fun i9 h9 => (fa143.2.1.1 i9 (fun z9 => h9 (by first | exact z9 | (revert z9; simp; done) | (revert z9; simp; omega)))).trans ((show ∀ i9, i9 ∉ [2] → v134 i9 = v i9 from fun i9 h9 => (fa132.2.1.1 i9 (fun z9 => h9 (by first | exact z9 | (revert z9; simp; done) | (revert z9; simp; omega)))).trans ((show ∀ i9, i9 ∉ [2] → v i9 = v i9 from (fun _ _ => rfl)) i9 h9)) i9 h9), w7⟩, ⟨fun j hj => by rw [fa149.1 6 (by simp only [List.mem_cons, List.not_mem_nil, or_false, not_or]; omega), fa143.2.2.1 j hj, fa132.1 6 (by decide)], (BF.av V9.2.2).tr fa143.2.2.2⟩⟩, ⟨_, rfl, ⟨r2, ex_pn hPd.1 hPd.2 Q2 k1, k2.fr (fa149.1 1 (by simp only [List.mem_cons, List.not_mem_nil, or_false, not_or]; omega)) (fa149.1 3 (by simp only [List.mem_cons, List.not_mem_nil, or_false, not_or]; omega)) (fa149.1 4 (by simp only [List.mem_cons, List.not_mem_nil, or_false, not_or]; omega)) (by rw [fa149.1 6 (by simp only [List.mem_cons, List.not_mem_nil, or_false, not_or]; omega)])⟩⟩⟩
          · skip
            have Q1 : tkS t z c 40 := by rcases ho1 with h | h; exact h.2; omega
            have N2 : ¬ tkW t z c 20 := tkS_nw Q1
            refine qw_aload rfl rfl ?_
            refine qw_iload rfl rfl ?_
            refine qw_const rfl ?_
            first | refine qw_iadd rfl (by omega) (fun x150 tx150 => ?_) | refine qw_iiU rfl (fun x150 tx150 => ?_)
            refine qw_invV (rest := []) rfl rfl rfl rfl rfl (Nat.le_of_ble_eq_true rfl) rfl (ihA d0 hd a132 b133 v134 z N (c + 1) t fm (dd + 1) F x150 fa132.2.1.2.1 ((fa132.2.1.1 4 (by decide)).trans h4) hF (by omega) (by omega) (hD.same (by rw [V9.1 6 (by decide)])) (C9)) (fun z151 h9 hq152 => ?_)
            obtain ⟨a153, b154, v155, rfl, fa153, x156, rfl, px156⟩ := hq152
            show f_pq _ _ (121, [some (.inr (.inr (some 6))), some (.inl e), some (.inl o1), some (.inl o2), some (.inl o3), some (.inl o4), none], [.inl x156], cH a153 b154 v155) _
            obtain ⟨r2, k1, k2⟩ := px156
            have w7 := fa153.2.1.2
            refine qw_if_eq rfl (fun c157 => ?_) (fun c157 => ?_)
            · skip
              have Z8 : ¬ r2.1 = 0 := by rcases k2 with h | h; omega; exact h.2.1
              have k2 : PSt t z N r2.2 r2.1 0 a153 b154 v155 := by rcases k2 with h | h; omega; exact Or.inr ⟨rfl, h.2⟩
              refine qw_const rfl ?_
              exact qwp_iret (z := true) rfl (fun _ => by first | exact Or.inl rfl | exact Or.inr rfl | exact k2.bv | (obtain ⟨r, y1, y2⟩ := Z9; exact y2.bv)) ⟨a153, b154, v155, rfl, ⟨FR.tr (FR.tr (FR.rf) (FR.sub fa132.1 (by first | exact (fun _ h9 => h9) | decide | (intro c9 h9; simp only [List.mem_cons, List.not_mem_nil, or_false] at h9 ⊢; omega) | (intro c9 h9; simp only [List.mem_cons, List.not_mem_nil, or_false] at h9; exact cA_mem (by omega)) | (intro c9 h9; simp only [List.mem_cons, List.not_mem_nil, or_false] at h9; exact cB_mem (by omega)) | exact cA_sub))) (FR.sub fa153.1 (by first | exact (fun _ h9 => h9) | decide | (intro c9 h9; simp only [List.mem_cons, List.not_mem_nil, or_false] at h9 ⊢; omega) | (intro c9 h9; simp only [List.mem_cons, List.not_mem_nil, or_false] at h9; exact cA_mem (by omega)) | (intro c9 h9; simp only [List.mem_cons, List.not_mem_nil, or_false] at h9; exact cB_mem (by omega)) | exact cA_sub)), ⟨fun i9 h9 => (fa153.2.1.1 i9 (fun z9 => h9 (by first | exact z9 | (revert z9; simp; done) | (revert z9; simp; omega)))).trans ((show ∀ i9, i9 ∉ [2] → v134 i9 = v i9 from fun i9 h9 => (fa132.2.1.1 i9 (fun z9 => h9 (by first | exact z9 | (revert z9; simp; done) | (revert z9; simp; omega)))).trans ((show ∀ i9, i9 ∉ [2] → v i9 = v i9 from (fun _ _ => rfl)) i9 h9)) i9 h9), w7⟩, ⟨fun j hj => by rw [fa153.2.2.1 j hj, fa132.1 6 (by decide)], (BF.av V9.2.2).tr fa153.2.2.2⟩⟩, ⟨_, rfl, ⟨r2, ex_pbx hPd.1 hPd.2 N2 Q1 (k1) Z8, k2⟩⟩⟩
            · skip
              have Z7 : r2.1 = 0 ∧ CSt t z N r2.2 a153 b154 v155 := by rcases k2 with h | h; exact ⟨h.2.1, h.2.2⟩; omega
              refine qw_aload rfl rfl ?_
              refine qw_const rfl ?_
              refine qw_invV (rest := []) rfl rfl rfl rfl rfl (Nat.le_of_ble_eq_true rfl) rfl (y_X6_passSign (d := d0) a153 b154 v155 z N r2.2 t 41 (fa153.2.1.2) (Z7.2)) (fun z158 h9 hq159 => ?_)
              obtain ⟨a160, b161, v162, rfl, fa160, x163, rfl, px163⟩ := hq159
              show f_pq _ _ (130, [some (.inr (.inr (some 6))), some (.inl e), some (.inl o1), some (.inl o2), some (.inl o3), some (.inl o4), none], [.inl x163], cH a160 b161 v162) _
              have k9 := px163
              have w7 := fa160.2.1.2
              refine qw_if_eq rfl (fun c164 => ?_) (fun c164 => ?_)
              · skip
                have k9 : PSt t z N (r2.2 + 1) (tkG t z r2.2 41) 0 a160 b161 v162 := by rcases k9 with h | h; omega; exact Or.inr ⟨rfl, h.2⟩
                refine qw_const rfl ?_
                exact qwp_iret (z := true) rfl (fun _ => by first | exact Or.inl rfl | exact Or.inr rfl | exact k2.bv | (obtain ⟨r, y1, y2⟩ := Z9; exact y2.bv)) ⟨a160, b161, v162, rfl, ⟨FR.tr (FR.tr (FR.tr (FR.rf) (FR.sub fa132.1 (by first | exact (fun _ h9 => h9) | decide | (intro c9 h9; simp only [List.mem_cons, List.not_mem_nil, or_false] at h9 ⊢; omega) | (intro c9 h9; simp only [List.mem_cons, List.not_mem_nil, or_false] at h9; exact cA_mem (by omega)) | (intro c9 h9; simp only [List.mem_cons, List.not_mem_nil, or_false] at h9; exact cB_mem (by omega)) | exact cA_sub))) (FR.sub fa153.1 (by first | exact (fun _ h9 => h9) | decide | (intro c9 h9; simp only [List.mem_cons, List.not_mem_nil, or_false] at h9 ⊢; omega) | (intro c9 h9; simp only [List.mem_cons, List.not_mem_nil, or_false] at h9; exact cA_mem (by omega)) | (intro c9 h9; simp only [List.mem_cons, List.not_mem_nil, or_false] at h9; exact cB_mem (by omega)) | exact cA_sub))) (FR.sub fa160.1 (by first | exact (fun _ h9 => h9) | decide | (intro c9 h9; simp only [List.mem_cons, List.not_mem_nil, or_false] at h9 ⊢; omega) | (intro c9 h9; simp only [List.mem_cons, List.not_mem_nil, or_false] at h9; exact cA_mem (by omega)) | (intro c9 h9; simp only [List.mem_cons, List.not_mem_nil, or_false] at h9; exact cB_mem (by omega)) | exact cA_sub)), ⟨fun i9 h9 => (fa160.2.1.1 i9 (fun z9 => h9 (by first | exact z9 | (revert z9; simp; done) | (revert z9; simp; omega)))).trans ((show ∀ i9, i9 ∉ [2] → v155 i9 = v i9 from fun i9 h9 => (fa153.2.1.1 i9 (fun z9 => h9 (by first | exact z9 | (revert z9; simp; done) | (revert z9; simp; omega)))).trans ((show ∀ i9, i9 ∉ [2] → v134 i9 = v i9 from fun i9 h9 => (fa132.2.1.1 i9 (fun z9 => h9 (by first | exact z9 | (revert z9; simp; done) | (revert z9; simp; omega)))).trans ((show ∀ i9, i9 ∉ [2] → v i9 = v i9 from (fun _ _ => rfl)) i9 h9)) i9 h9)) i9 h9), w7⟩, ⟨fun j hj => by rw [fa160.2.2.1 j hj, fa153.2.2.1 j hj, fa132.1 6 (by decide)], ((BF.av V9.2.2).tr fa153.2.2.2).tr fa160.2.2.2⟩⟩, ⟨_, rfl, ⟨(tkG t z r2.2 41, r2.2 + 1), ex_pb hPd.1 hPd.2 N2 Q1 (k1.z0 Z7.1), k9⟩⟩⟩
              · skip
                have k9 : PSt t z N (r2.2 + 1) (tkG t z r2.2 41) 1 a160 b161 v162 := by rcases k9 with h | h; exact Or.inl ⟨rfl, h.2⟩; omega
                refine qw_const rfl ?_
                refine qw_goto rfl ?_
                exact qwp_iret (z := true) rfl (fun _ => by first | exact Or.inl rfl | exact Or.inr rfl | exact k2.bv | (obtain ⟨r, y1, y2⟩ := Z9; exact y2.bv)) ⟨a160, b161, v162, rfl, ⟨FR.tr (FR.tr (FR.tr (FR.rf) (FR.sub fa132.1 (by first | exact (fun _ h9 => h9) | decide | (intro c9 h9; simp only [List.mem_cons, List.not_mem_nil, or_false] at h9 ⊢; omega) | (intro c9 h9; simp only [List.mem_cons, List.not_mem_nil, or_false] at h9; exact cA_mem (by omega)) | (intro c9 h9; simp only [List.mem_cons, List.not_mem_nil, or_false] at h9; exact cB_mem (by omega)) | exact cA_sub))) (FR.sub fa153.1 (by first | exact (fun _ h9 => h9) | decide | (intro c9 h9; simp only [List.mem_cons, List.not_mem_nil, or_false] at h9 ⊢; omega) | (intro c9 h9; simp only [List.mem_cons, List.not_mem_nil, or_false] at h9; exact cA_mem (by omega)) | (intro c9 h9; simp only [List.mem_cons, List.not_mem_nil, or_false] at h9; exact cB_mem (by omega)) | exact cA_sub))) (FR.sub fa160.1 (by first | exact (fun _ h9 => h9) | decide | (intro c9 h9; simp only [List.mem_cons, List.not_mem_nil, or_false] at h9 ⊢; omega) | (intro c9 h9; simp only [List.mem_cons, List.not_mem_nil, or_false] at h9; exact cA_mem (by omega)) | (intro c9 h9; simp only [List.mem_cons, List.not_mem_nil, or_false] at h9; exact cB_mem (by omega)) | exact cA_sub)), ⟨fun i9 h9 => (fa160.2.1.1 i9 (fun z9 => h9 (by first | exact z9 | (revert z9; simp; done) | (revert z9; simp; omega)))).trans ((show ∀ i9, i9 ∉ [2] → v155 i9 = v i9 from fun i9 h9 => (fa153.2.1.1 i9 (fun z9 => h9 (by first | exact z9 | (revert z9; simp; done) | (revert z9; simp; omega)))).trans ((show ∀ i9, i9 ∉ [2] → v134 i9 = v i9 from fun i9 h9 => (fa132.2.1.1 i9 (fun z9 => h9 (by first | exact z9 | (revert z9; simp; done) | (revert z9; simp; omega)))).trans ((show ∀ i9, i9 ∉ [2] → v i9 = v i9 from (fun _ _ => rfl)) i9 h9)) i9 h9)) i9 h9), w7⟩, ⟨fun j hj => by rw [fa160.2.2.1 j hj, fa153.2.2.1 j hj, fa132.1 6 (by decide)], ((BF.av V9.2.2).tr fa153.2.2.2).tr fa160.2.2.2⟩⟩, ⟨_, rfl, ⟨(tkG t z r2.2 41, r2.2 + 1), ex_pb hPd.1 hPd.2 N2 Q1 (k1.z0 Z7.1), k9⟩⟩⟩
        · skip
          have ZX := ex_p5 (d := dd) hP (by omega)
          refine qw_aload rfl rfl ?_
          refine qw_const rfl ?_
          refine qw_invV (rest := []) rfl rfl rfl rfl rfl (Nat.le_of_ble_eq_true rfl) rfl (y_X6_fail (d := d0) a b v  5 (by omega) (by omega)) (fun z165 h9 hq166 => ?_)
          obtain ⟨a167, rfl, fa167, x168, rfl, px168⟩ := hq166
          show f_pq _ _ (102, [some (.inr (.inr (some 6))), some (.inl e), some (.inl o1), some (.inl o2), some (.inl o3), some (.inl o4), none], [.inl x168], cH a167 b v) _
          have F8 := fa167.2.2
          have z8 := px168
          have Z9 : ∃ r : Int × Nat, EX t z fm 7 dd c r ∧ PSt t z N r.2 r.1 x168 a167 b v := ⟨(flt t z c 5, c), ZX, Or.inr ⟨z8, by have := flt_pos (t := t) (z := z) (c := c) (k := 5) (by decide); show ¬ flt t z c 5 = 0; omega, by show _ = flt t z c 5; rw [F8]; show _ = (5 : Int) + 16 * (lxP t z c : Int); have l9 : (5 : Int32).toInt = 5 := rfl; omega⟩⟩
          exact qwp_iret (z := true) rfl (fun _ => by first | exact Or.inl rfl | exact Or.inr rfl | exact k2.bv | (obtain ⟨r, y1, y2⟩ := Z9; exact y2.bv)) ⟨a167, b, v, rfl, ⟨FR.tr (FR.rf) (FR.sub fa167.1 (by first | exact (fun _ h9 => h9) | decide | (intro c9 h9; simp only [List.mem_cons, List.not_mem_nil, or_false] at h9 ⊢; omega) | (intro c9 h9; simp only [List.mem_cons, List.not_mem_nil, or_false] at h9; exact cA_mem (by omega)) | (intro c9 h9; simp only [List.mem_cons, List.not_mem_nil, or_false] at h9; exact cB_mem (by omega)) | exact cA_sub)), ⟨(fun _ _ => rfl), hw⟩, ⟨fa167.2.1, BF.rf⟩⟩, ⟨_, rfl, Z9⟩⟩
  refine qw_aload rfl rfl ?_
  refine qw_const rfl ?_
  refine qw_invV (rest := []) rfl rfl rfl rfl rfl (Nat.le_of_ble_eq_true rfl) rfl (y_X6_isSign (d := d0) a b v z N c t 40 (by omega)) (fun z169 h9 hq170 => ?_)
  obtain ⟨rfl, x171, rfl, px171⟩ := hq170
  show f_pq _ _ (6, [some (.inr (.inr (some 6))), some (.inl e), none, none, none, none, none], [.inl x171], cH a b v) _
  have p6 := px171
  refine qw_istore (lo' := [some (.inr (.inr (some 6))), some (.inl e), some (.inl x171), none, none, none, none]) rfl rfl ?_
  refine qw_aload rfl rfl ?_
  refine qc_getR (t := some 1) rfl rfl rfl rfl rfl ?_
  refine qc_getR (t := v 2) rfl rfl rfl rfl rfl ?_
  refine qw_const rfl ?_
  refine qc_aw_ne rfl ⟨hw, rfl⟩ (fun c172 => ?_) (fun c172 => ?_)
  · skip
    refine qw_const rfl ?_
    refine qw_goto rfl ?_
    refine qw_istore (lo' := [some (.inr (.inr (some 6))), some (.inl e), some (.inl x171), some (.inl 1), none, none, none]) rfl rfl ?_
    refine qw_aload rfl rfl ?_
    refine qc_getR (t := some 1) rfl rfl rfl rfl rfl ?_
    refine qc_getI rfl rfl rfl rfl ?_
    refine qw_const rfl ?_
    refine qw_ic_ne rfl (fun c173 => ?_) (fun c173 => ?_)
    · skip
      refine qw_const rfl ?_
      refine qw_goto rfl ?_
      refine qw_istore (lo' := [some (.inr (.inr (some 6))), some (.inl e), some (.inl x171), some (.inl 1), some (.inl 1), none, none]) rfl rfl ?_
      refine qw_iload rfl rfl ?_
      refine qw_if_eq rfl (fun c174 => ?_) (fun c174 => ?_)
      · exfalso; omega
      · skip
        refine qw_aload rfl rfl ?_
        refine qc_getR (t := some 1) rfl rfl rfl rfl rfl ?_
        refine qc_getL rfl rfl rfl rfl ?_
        refine qw_l2iE rfl (fun x175 tx175 => ?_)
        refine qw_goto rfl ?_
        refine qw_istore (lo' := [some (.inr (.inr (some 6))), some (.inl e), some (.inl x171), some (.inl 1), some (.inl 1), some (.inl x175), none]) rfl rfl ?_
        exact loop66 _ x171 1 1 x175  (by first | exact p6) (by first | exact Or.inl ⟨rfl, kw.mpr (by assumption)⟩ | exact Or.inr ⟨rfl, fun h => absurd (kw.mp h) (by assumption)⟩) (by have e9 := (ckd_k2 (k := lxK t z c)); first | exact Or.inl ⟨rfl, by omega⟩ | exact Or.inr ⟨rfl, by omega⟩) (by first | exact (fun _ => p5) | exact (fun h => absurd h (by decide)))
    · skip
      refine qw_const rfl ?_
      refine qw_istore (lo' := [some (.inr (.inr (some 6))), some (.inl e), some (.inl x171), some (.inl 1), some (.inl 0), none, none]) rfl rfl ?_
      refine qw_iload rfl rfl ?_
      refine qw_if_eq rfl (fun c176 => ?_) (fun c176 => ?_)
      · skip
        refine qw_aload rfl rfl ?_
        refine qw_invV (rest := []) rfl rfl rfl rfl rfl (Nat.le_of_ble_eq_true rfl) rfl (y_X6_factStep (d := d0) a b v z N c t fm  (hw) (by omega) (by omega)) (fun z177 h9 hq178 => ?_)
        obtain ⟨rfl, x179, rfl, px179⟩ := hq178
        show f_pq _ _ (64, [some (.inr (.inr (some 6))), some (.inl e), some (.inl x171), some (.inl 1), some (.inl 0), none, none], [.inl x179], cH a b v) _
        have p5 := px179
        refine qw_istore (lo' := [some (.inr (.inr (some 6))), some (.inl e), some (.inl x171), some (.inl 1), some (.inl 0), some (.inl x179), none]) rfl rfl ?_
        exact loop66 _ x171 1 0 x179  (by first | exact p6) (by first | exact Or.inl ⟨rfl, kw.mpr (by assumption)⟩ | exact Or.inr ⟨rfl, fun h => absurd (kw.mp h) (by assumption)⟩) (by have e9 := (ckd_k2 (k := lxK t z c)); first | exact Or.inl ⟨rfl, by omega⟩ | exact Or.inr ⟨rfl, by omega⟩) (by first | exact (fun _ => p5) | exact (fun h => absurd h (by decide)))
      · exfalso; omega
  · skip
    refine qw_const rfl ?_
    refine qw_istore (lo' := [some (.inr (.inr (some 6))), some (.inl e), some (.inl x171), some (.inl 0), none, none, none]) rfl rfl ?_
    refine qw_aload rfl rfl ?_
    refine qc_getR (t := some 1) rfl rfl rfl rfl rfl ?_
    refine qc_getI rfl rfl rfl rfl ?_
    refine qw_const rfl ?_
    refine qw_ic_ne rfl (fun c180 => ?_) (fun c180 => ?_)
    · skip
      refine qw_const rfl ?_
      refine qw_goto rfl ?_
      refine qw_istore (lo' := [some (.inr (.inr (some 6))), some (.inl e), some (.inl x171), some (.inl 0), some (.inl 1), none, none]) rfl rfl ?_
      refine qw_iload rfl rfl ?_
      refine qw_if_eq rfl (fun c181 => ?_) (fun c181 => ?_)
      · exfalso; omega
      · skip
        refine qw_aload rfl rfl ?_
        refine qc_getR (t := some 1) rfl rfl rfl rfl rfl ?_
        refine qc_getL rfl rfl rfl rfl ?_
        refine qw_l2iE rfl (fun x182 tx182 => ?_)
        refine qw_goto rfl ?_
        refine qw_istore (lo' := [some (.inr (.inr (some 6))), some (.inl e), some (.inl x171), some (.inl 0), some (.inl 1), some (.inl x182), none]) rfl rfl ?_
        exact loop66 _ x171 0 1 x182  (by first | exact p6) (by first | exact Or.inl ⟨rfl, kw.mpr (by assumption)⟩ | exact Or.inr ⟨rfl, fun h => absurd (kw.mp h) (by assumption)⟩) (by have e9 := (ckd_k2 (k := lxK t z c)); first | exact Or.inl ⟨rfl, by omega⟩ | exact Or.inr ⟨rfl, by omega⟩) (by first | exact (fun _ => p5) | exact (fun h => absurd h (by decide)))
    · skip
      refine qw_const rfl ?_
      refine qw_istore (lo' := [some (.inr (.inr (some 6))), some (.inl e), some (.inl x171), some (.inl 0), some (.inl 0), none, none]) rfl rfl ?_
      refine qw_iload rfl rfl ?_
      refine qw_if_eq rfl (fun c183 => ?_) (fun c183 => ?_)
      · skip
        refine qw_aload rfl rfl ?_
        refine qw_invV (rest := []) rfl rfl rfl rfl rfl (Nat.le_of_ble_eq_true rfl) rfl (y_X6_factStep (d := d0) a b v z N c t fm  (hw) (by omega) (by omega)) (fun z184 h9 hq185 => ?_)
        obtain ⟨rfl, x186, rfl, px186⟩ := hq185
        show f_pq _ _ (64, [some (.inr (.inr (some 6))), some (.inl e), some (.inl x171), some (.inl 0), some (.inl 0), none, none], [.inl x186], cH a b v) _
        have p5 := px186
        refine qw_istore (lo' := [some (.inr (.inr (some 6))), some (.inl e), some (.inl x171), some (.inl 0), some (.inl 0), some (.inl x186), none]) rfl rfl ?_
        exact loop66 _ x171 0 0 x186  (by first | exact p6) (by first | exact Or.inl ⟨rfl, kw.mpr (by assumption)⟩ | exact Or.inr ⟨rfl, fun h => absurd (kw.mp h) (by assumption)⟩) (by have e9 := (ckd_k2 (k := lxK t z c)); first | exact Or.inl ⟨rfl, by omega⟩ | exact Or.inr ⟨rfl, by omega⟩) (by first | exact (fun _ => p5) | exact (fun h => absurd h (by decide)))
      · exfalso; omega
theorem y_CX : ∀ d, CXrow d 70 0 ∧ CXrow d 72 2 ∧ CXrow d 73 3 ∧ CXrow d 74 5 ∧ CXrow d 75 7
  | 0 => ⟨CXrow.z, CXrow.z, CXrow.z, CXrow.z, CXrow.z⟩
  | d + 1 => by
    obtain ⟨i0, i2, i3, i5, i7⟩ := y_CX d
    have u : ∀ {m md : Nat}, CXrow d m md → ∀ d0, d + 1 = d0 + 1 → CXrow d0 m md := fun h d0 h0 => by
      have e1 : d = d0 := by omega
      subst e1
      exact h
    exact ⟨fun a b v z N c t fm dd F e hw h4 hF he h5 hD hS => y_X6_expression_s a b v z N c t fm dd F e (u i2) hw h4 hF he h5 hD hS, fun a b v z N c t fm dd F e hw h4 hF he h5 hD hS => y_X6_test_s a b v z N c t fm dd F e (u i3) hw h4 hF he h5 hD hS, fun a b v z N c t fm dd F e hw h4 hF he h5 hD hS => y_X6_sum_s a b v z N c t fm dd F e (u i5) hw h4 hF he h5 hD hS, fun a b v z N c t fm dd F e hw h4 hF he h5 hD hS => y_X6_product_s a b v z N c t fm dd F e (u i7) hw h4 hF he h5 hD hS, fun a b v z N c t fm dd F e hw h4 hF he h5 hD hS => y_X6_factor_s a b v z N c t fm dd F e (u i0) (u i7) hw h4 hF he h5 hD hS⟩
