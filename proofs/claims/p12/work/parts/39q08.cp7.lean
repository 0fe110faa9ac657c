set_option maxRecDepth 4000 in
theorem y_X3_hasRange {d : Nat} (a : Nat → Nat → Int32) (b : Nat → Nat → Int64) (v : Nat → Option Nat) (t : Nat → Int32) (z : Nat) (V : Nat → Int) (M : Nat → Int64) (L : Nat) (p : Int32) (hL : L = 22 ∨ L = 46) (hC : CLN t z L V M a b) : f_pc mtC d 14 [.inr (.inr (some L)), .inl p] (cH a b v) (fun v9 h' => h' = cH a b v ∧ ∃ x : Int32, v9 = some (.inl x) ∧ ((x.toInt = 1 ∧ (rgH V p.toInt (V 1).toNat = true)) ∨ (x.toInt = 0 ∧ ¬ (rgH V p.toInt (V 1).toNat = true)))) := by
  refine f_pc_of rfl (fun d0 fu hd => ?_)
  show f_pq _ _ (0, [some (.inr (.inr (some L))), some (.inl p), none], [], cH a b v) _
  have l0 : (0 : Int32).toInt = 0 := rfl
  have l1 : (1 : Int32).toInt = 1 := rfl
  have v0x := hC.2.1
  refine qw_const rfl ?_
  refine qw_istore (lo' := [some (.inr (.inr (some L))), some (.inl p), some (.inl 0)]) rfl rfl ?_
  have loop2 : ∀ (fu2 : Nat) (i : Int32) ,  (0 ≤ i.toInt ∧ i.toInt ≤ V 1) → (¬ rgH V p.toInt i.toInt.toNat = true) → f_pq (f_code (t_X3_hasRange (f_ev mtC d0))) fu2 (2, [some (.inr (.inr (some L))), some (.inl p), some (.inl i)], [], cH a b v) (fun v9 h' => h' = cH a b v ∧ ∃ x : Int32, v9 = some (.inl x) ∧ ((x.toInt = 1 ∧ (rgH V p.toInt (V 1).toNat = true)) ∨ (x.toInt = 0 ∧ ¬ (rgH V p.toInt (V 1).toNat = true)))) := by
    intro fu2
    induction fu2 with
    | zero => intros; exact pq_0
    | succ fu2 ih2 =>
      intro i  hi hn
      refine qw_iload rfl rfl ?_
      refine qw_aload rfl rfl ?_
      refine qc_getI rfl (sh_land (by omega)) rfl rfl ?_
      refine qw_ic_ge rfl (fun c1 => ?_) (fun c1 => ?_)
      · skip
        refine qw_const rfl ?_
        exact qwp_iret (z := true) rfl (fun _ => by first | exact Or.inl rfl | exact Or.inr rfl | (rcases (by omega : (0 : Int32).toInt = 0 ∨ (0 : Int32).toInt = 1) with h8 | h8; exact Or.inl (ti_eq h8); exact Or.inr (ti_eq h8))) ⟨rfl, ⟨_, rfl, Or.inr ⟨rfl, by rw [show (V 1).toNat = i.toInt.toNat from by omega]; exact hn⟩⟩⟩
      · skip
        refine qw_aload rfl rfl ?_
        refine qc_getR (t := some (L + 2)) rfl (sh_land (by omega)) rfl rfl (rC_land1 (by omega)) ?_
        refine qw_iload rfl rfl ?_
        refine qc_iald rfl (sh_rng (by omega)) (fun jx2 x2 ex2 => ?_)
        have r9 : x2.toInt = V (91 + 2 * i.toInt.toNat) := by rw [ex2]; exact (hC.2.2.2.1 i.toInt.toNat (by omega)).1
        refine qw_iload rfl rfl ?_
        refine qw_ic_ne rfl (fun c3 => ?_) (fun c3 => ?_)
        · skip
          refine qw_const rfl ?_
          exact qwp_iret (z := true) rfl (fun _ => by first | exact Or.inl rfl | exact Or.inr rfl | (rcases (by omega : (1 : Int32).toInt = 0 ∨ (1 : Int32).toInt = 1) with h8 | h8; exact Or.inl (ti_eq h8); exact Or.inr (ti_eq h8))) ⟨rfl, ⟨_, rfl, Or.inl ⟨rfl, rgH_mono (V 1).toNat (n := i.toInt.toNat + 1) (by omega) (rgH_s.mpr (Or.inr (by omega)))⟩⟩⟩
        · skip
          refine qw_iinc (lo' := fun z9 => [some (.inr (.inr (some L))), some (.inl p), some (.inl z9)]) rfl rfl (fun _ => rfl) (by omega) (fun x4 tx4 => ?_)
          exact qw_gotoD rfl (ih2 x4  (by omega) (by rw [show (x4).toInt.toNat = i.toInt.toNat + 1 from by omega]; exact fun q => (rgH_s.mp q).elim hn (fun g => by omega)))
  exact loop2 _ 0  (by omega) (fun q => by cases q)
set_option maxRecDepth 4000 in
theorem y_X6_rangeLine {d : Nat} (a : Nat → Nat → Int32) (b : Nat → Nat → Int64) (v : Nat → Option Nat) (z : Nat) (N : Nat) (c : Nat) (t : Nat → Int32) (L : Nat) (V : Nat → Int) (M : Nat → Int64) (o : Nat → Bool)  (hw : f_wdb (v 2) = true) (h3L : v 3 = some L) (hL : L = 22 ∨ L = 46) (hS : CSt t z N c a b v) (hC : CLN t z L V M a b) (hk0 : ¬ lxK t z c = 0) : f_pc mtC d 65 [.inr (.inr (some 6))] (cH a b v) (fun v9 h' => ∃ (a' : Nat → Nat → Int32) (b' : Nat → Nat → Int64) (v' : Nat → Option Nat), h' = cH a' b' v' ∧ (FR [1, 6, L, L + 2, L + 3] a a' ∧ ((∀ i, i ∉ [2] → v' i = v i) ∧ f_wdb (v' 2) = true) ∧ (∀ j, j ≠ 9 → j ≠ 10 → a' 6 j = a 6 j)) ∧ ∃ x : Int32, v9 = some (.inl x) ∧ (PSt t z N (c + 4) (rgE t z V c) x a' b' v' ∧ (rgE t z V c = 0 → CLN t z L (rgL t z V c) M a' b'))) := by
  refine f_pc_of rfl (fun d0 fu hd => ?_)
  show f_pq _ _ (0, [some (.inr (.inr (some 6))), none], [], cH a b v) _
  have l0 : (0 : Int32).toInt = 0 := rfl
  have l1 : (1 : Int32).toInt = 1 := rfl
  have l3 : (3 : Int32).toInt = 3 := rfl
  have l4 : (4 : Int32).toInt = 4 := rfl
  have l5 : (5 : Int32).toInt = 5 := rfl
  have l99 : (99 : Int32).toInt = 99 := rfl
  obtain ⟨s0, s1, s2, s3, s4, s5, s6⟩ := hS.pl
  have v0x := hC.2.1
  refine qw_aload rfl rfl ?_
  refine qc_getR (t := some L) rfl rfl rfl rfl h3L ?_
  refine qc_getI rfl (sh_land (by omega)) rfl rfl ?_
  refine qw_const rfl ?_
  refine qw_ic_lt rfl (fun c1 => ?_) (fun c1 => ?_)
  · skip
    refine qw_aload rfl rfl ?_
    refine qc_getR (t := some 1) rfl rfl rfl rfl rfl ?_
    refine qw_invV (rest := []) rfl rfl rfl rfl rfl (Nat.le_of_ble_eq_true rfl) rfl (y_X8_advance (d := d0) a b v   (by omega) (by omega)) (fun z2 h9 hq3 => ?_)
    obtain ⟨a4, b5, v6, rfl, fa4, rfl⟩ := hq3
    show f_pq _ _ (24, [some (.inr (.inr (some 6))), none], [], cH a4 b5 v6) _
    have V9 := fa4
    have C1 := hS.next hk0 V9.1 V9.2.2 V9.2.1.2.2
    have RG4 : rgE t z V c = eE (eE (eE (tkN t z (c + 1) 0 99) (if rgH V (nvT t z (c + 1)) (V 1).toNat = true then flt t z (c + 1) 3 else 0)) (xW t z (c + 2) 10)) (tkN t z (c + 3) 1 99) := by unfold rgE; rw [if_neg (by omega), fz4]
    refine qw_aload rfl rfl ?_
    refine qw_const rfl ?_
    refine qw_const rfl ?_
    refine qw_invV (rest := []) rfl rfl rfl rfl rfl (Nat.le_of_ble_eq_true rfl) rfl (y_X6_isNumber (d := d0) a4 b5 v6 z N (c + 1) t 0 99 (C1)) (fun z7 h9 hq8 => ?_)
    obtain ⟨a9, rfl, fa9, x10, rfl, px10⟩ := hq8
    show f_pq _ _ (31, [some (.inr (.inr (some 6))), none], [.inl x10], cH a9 b5 v6) _
    have p9 : Hid (PSt t z N (c + 1) (tkN t z (c + 1) 0 99) x10 a9 b5 v6 ∧ (tkN t z (c + 1) 0 99 = 0 → (a9 6 9).toInt = nvT t z (c + 1))) := px10
    clear px10
    have k7 := fa9.2
    refine qw_if_ne rfl (fun c11 => ?_) (fun c11 => ?_)
    · skip
      have Z8 : ¬ rgE t z V c = 0 ∧ (a9 6 10).toInt = rgE t z V c := by rw [RG4, eE_x (p9.1.not c11).1, eE_x (p9.1.not c11).1, eE_x (p9.1.not c11).1]; exact p9.1.not c11
      refine qw_const rfl ?_
      exact qwp_iret (z := true) rfl (fun _ => by first | exact Or.inl rfl | exact Or.inr rfl | exact Or.inl (Int32.toInt_inj.mp (z8.trans (by rfl)))) ⟨a9, b5, v6, rfl, ⟨FR.tr (FR.tr (FR.rf) (FR.sub fa4.1 (by first | exact (fun _ h9 => h9) | decide | (intro c9 h9; simp only [List.mem_cons, List.not_mem_nil, or_false] at h9 ⊢; omega) | (intro c9 h9; simp only [List.mem_cons, List.not_mem_nil, or_false] at h9; exact cA_mem (by omega)) | (intro c9 h9; simp only [List.mem_cons, List.not_mem_nil, or_false] at h9; exact cB_mem (by omega)) | exact cA_sub))) (FR.sub fa9.1 (by first | exact (fun _ h9 => h9) | decide | (intro c9 h9; simp only [List.mem_cons, List.not_mem_nil, or_false] at h9 ⊢; omega) | (intro c9 h9; simp only [List.mem_cons, List.not_mem_nil, or_false] at h9; exact cA_mem (by omega)) | (intro c9 h9; simp only [List.mem_cons, List.not_mem_nil, or_false] at h9; exact cB_mem (by omega)) | exact cA_sub)), ⟨fun i9 h9 => (fa4.2.1.1 i9 (fun z9 => h9 (by first | exact z9 | (revert z9; simp; done) | (revert z9; simp; omega)))).trans ((show ∀ i9, i9 ∉ [2] → v i9 = v i9 from (fun _ _ => rfl)) i9 h9), V9.2.1.2.1⟩, fun j h8 h9 => by rw [k7 j h8 h9, fa4.1 6 (by decide)]⟩, ⟨_, rfl, ⟨PSt.fl (by first | rfl | exact z8) Z8 rfl, fun h => absurd h Z8.1⟩⟩⟩
    · skip
      have T1 := p9.1.yes c11
      have y9x := p9.2 T1.1
      have K1 := T1.2.pl
      have H1 : CLN t z L V M a9 b5 := hC.same hL (fun i hi => by rw [fa9.1 i (by simp only [List.mem_cons, List.not_mem_nil, or_false, not_or]; omega), V9.1 i (by simp only [List.mem_cons, List.not_mem_nil, or_false, not_or]; omega)]) (fun i hi => BF.av V9.2.2 i hi)
      refine qw_aload rfl rfl ?_
      refine qc_getI rfl rfl rfl rfl ?_
      refine qw_istore (lo' := [some (.inr (.inr (some 6))), some (.inl (a9 6 9))]) rfl rfl ?_
      refine qw_aload rfl rfl ?_
      refine qc_getR (t := some L) rfl rfl rfl rfl ((fa4.2.1.1 3 (by decide)).trans h3L) ?_
      refine qw_iload rfl rfl ?_
      refine qw_invV (rest := []) rfl rfl (sh_land (by omega)) rfl rfl (Nat.le_of_ble_eq_true rfl) rfl (y_X3_hasRange (d := d0) a9 b5 v6 t z V M L (a9 6 9) (hL) (H1)) (fun z12 h9 hq13 => ?_)
      obtain ⟨rfl, x14, rfl, px14⟩ := hq13
      show f_pq _ _ (49, [some (.inr (.inr (some 6))), some (.inl (a9 6 9))], [.inl x14], cH a9 b5 v6) _
      have d9 := px14
      refine qw_if_eq rfl (fun c15 => ?_) (fun c15 => ?_)
      · skip
        have D9 : ¬ rgH V (nvT t z (c + 1)) (V 1).toNat = true := by rcases d9 with h | h; omega; (rw [← y9x]; exact h.2)
        refine qw_aload rfl rfl ?_
        refine qc_getR (t := some 1) rfl rfl rfl rfl rfl ?_
        refine qw_invV (rest := []) rfl rfl rfl rfl rfl (Nat.le_of_ble_eq_true rfl) rfl (y_X8_advance (d := d0) a9 b5 v6   (by omega) (by omega)) (fun z16 h9 hq17 => ?_)
        obtain ⟨a18, b19, v20, rfl, fa18, rfl⟩ := hq17
        show f_pq _ _ (65, [some (.inr (.inr (some 6))), some (.inl (a9 6 9))], [], cH a18 b19 v20) _
        have W9 := fa18
        have C2 := T1.2.next (tkN_k T1.1) W9.1 W9.2.2 W9.2.1.2.2
        have RG5 : rgE t z V c = nb9 t z (c + 2) 10 1 99 := by rw [RG4, eE_0 T1.1, if_neg D9, eE_0 rfl]
        refine qw_aload rfl rfl ?_
        refine qw_const rfl ?_
        refine qw_const rfl ?_
        refine qw_const rfl ?_
        refine qw_invV (rest := []) rfl rfl rfl rfl rfl (Nat.le_of_ble_eq_true rfl) rfl (y_X6_numberBehind (d := d0) a18 b19 v20 z N (c + 2) t 1010 1 99 (fa18.2.1.2.1) (by omega) (C2)) (fun z21 h9 hq22 => ?_)
        obtain ⟨a23, b24, v25, rfl, fa23, x26, rfl, px26⟩ := hq22
        show f_pq _ _ (75, [some (.inr (.inr (some 6))), some (.inl (a9 6 9))], [.inl x26], cH a23 b24 v25) _
        have q9 : Hid (PSt t z N (c + 4) (nb9 t z (c + 2) 10 1 99) x26 a23 b24 v25 ∧ (nb9 t z (c + 2) 10 1 99 = 0 → (a23 6 9).toInt = nvT t z (c + 3))) := px26
        clear px26
        have w8x := fa23.2.1.2
        have k8 := fa23.2.2
        have H2 : CLN t z L V M a23 b24 := H1.same hL (fun i hi => by rw [fa23.1 i (by simp only [List.mem_cons, List.not_mem_nil, or_false, not_or]; omega), W9.1 i (by simp only [List.mem_cons, List.not_mem_nil, or_false, not_or]; omega)]) (fun i hi => (k8.2 i hi).trans (BF.av W9.2.2 i hi))
        refine qw_if_ne rfl (fun c27 => ?_) (fun c27 => ?_)
        · skip
          have Z8 : ¬ rgE t z V c = 0 ∧ (a23 6 10).toInt = rgE t z V c := by rw [RG5]; exact q9.1.not c27
          refine qw_const rfl ?_
          exact qwp_iret (z := true) rfl (fun _ => by first | exact Or.inl rfl | exact Or.inr rfl | exact Or.inl (Int32.toInt_inj.mp (z8.trans (by rfl)))) ⟨a23, b24, v25, rfl, ⟨FR.tr (FR.tr (FR.tr (FR.tr (FR.rf) (FR.sub fa4.1 (by first | exact (fun _ h9 => h9) | decide | (intro c9 h9; simp only [List.mem_cons, List.not_mem_nil, or_false] at h9 ⊢; omega) | (intro c9 h9; simp only [List.mem_cons, List.not_mem_nil, or_false] at h9; exact cA_mem (by omega)) | (intro c9 h9; simp only [List.mem_cons, List.not_mem_nil, or_false] at h9; exact cB_mem (by omega)) | exact cA_sub))) (FR.sub fa9.1 (by first | exact (fun _ h9 => h9) | decide | (intro c9 h9; simp only [List.mem_cons, List.not_mem_nil, or_false] at h9 ⊢; omega) | (intro c9 h9; simp only [List.mem_cons, List.not_mem_nil, or_false] at h9; exact cA_mem (by omega)) | (intro c9 h9; simp only [List.mem_cons, List.not_mem_nil, or_false] at h9; exact cB_mem (by omega)) | exact cA_sub))) (FR.sub fa18.1 (by first | exact (fun _ h9 => h9) | decide | (intro c9 h9; simp only [List.mem_cons, List.not_mem_nil, or_false] at h9 ⊢; omega) | (intro c9 h9; simp only [List.mem_cons, List.not_mem_nil, or_false] at h9; exact cA_mem (by omega)) | (intro c9 h9; simp only [List.mem_cons, List.not_mem_nil, or_false] at h9; exact cB_mem (by omega)) | exact cA_sub))) (FR.sub fa23.1 (by first | exact (fun _ h9 => h9) | decide | (intro c9 h9; simp only [List.mem_cons, List.not_mem_nil, or_false] at h9 ⊢; omega) | (intro c9 h9; simp only [List.mem_cons, List.not_mem_nil, or_false] at h9; exact cA_mem (by omega)) | (intro c9 h9; simp only [List.mem_cons, List.not_mem_nil, or_false] at h9; exact cB_mem (by omega)) | exact cA_sub)), ⟨fun i9 h9 => (fa23.2.1.1 i9 (fun z9 => h9 (by first | exact z9 | (revert z9; simp; done) | (revert z9; simp; omega)))).trans ((show ∀ i9, i9 ∉ [2] → v20 i9 = v i9 from fun i9 h9 => (fa18.2.1.1 i9 (fun z9 => h9 (by first | exact z9 | (revert z9; simp; done) | (revert z9; simp; omega)))).trans ((show ∀ i9, i9 ∉ [2] → v6 i9 = v i9 from fun i9 h9 => (fa4.2.1.1 i9 (fun z9 => h9 (by first | exact z9 | (revert z9; simp; done) | (revert z9; simp; omega)))).trans ((show ∀ i9, i9 ∉ [2] → v i9 = v i9 from (fun _ _ => rfl)) i9 h9)) i9 h9)) i9 h9), w8x⟩, fun j h8 h9 => by rw [k8.1 j h8 h9, fa18.1 6 (by decide), k7 j h8 h9, fa4.1 6 (by decide)]⟩, ⟨_, rfl, ⟨PSt.fl (by first | rfl | exact z8) Z8 rfl, fun h => absurd h Z8.1⟩⟩⟩
        · skip
          have T2 := q9.1.yes c27
          have n8x := H2.2.1
          refine qw_aload rfl rfl ?_
          refine qc_getR (t := some L) rfl rfl rfl rfl ((fa23.2.1.1 3 (by decide)).trans ((fa18.2.1.1 3 (by decide)).trans ((fa4.2.1.1 3 (by decide)).trans h3L))) ?_
          refine qc_getR (t := some (L + 2)) rfl (sh_land (by omega)) rfl rfl (rC_land1 (by omega)) ?_
          refine qw_aload rfl rfl ?_
          refine qc_getR (t := some L) rfl rfl rfl rfl ((fa23.2.1.1 3 (by decide)).trans ((fa18.2.1.1 3 (by decide)).trans ((fa4.2.1.1 3 (by decide)).trans h3L))) ?_
          refine qc_getI rfl (sh_land (by omega)) rfl rfl ?_
          refine qw_iload rfl rfl ?_
          refine qc_iast rfl (sh_rng (by omega)) (fun ja28 a28 ea28 => ?_)
          have ra28_94 : (a28 L 8).toInt = (a23 L 8).toInt := by rw [ea28, mU_cell (by omega)]
          have C3 := T2.2.fr (a' := a28) (by rw [ea28, mU_cell (by omega)]) (by rw [ea28, mU_cell (by omega)]) (by rw [ea28, mU_cell (by omega)]) (by rw [ea28, mU_cell (by omega)])
          have m1x : (a28 L 8).toInt = V 1 := by rw [ea28, mU_cell (by omega)]; exact n8x.1
          have m2x : a28 6 9 = a23 6 9 := by rw [ea28, mU_cell (by omega)]
          have e1x := ea28
          refine qw_aload rfl rfl ?_
          refine qc_getR (t := some L) rfl rfl rfl rfl ((fa23.2.1.1 3 (by decide)).trans ((fa18.2.1.1 3 (by decide)).trans ((fa4.2.1.1 3 (by decide)).trans h3L))) ?_
          refine qc_getR (t := some (L + 3)) rfl (sh_land (by omega)) rfl rfl (rC_land2 (by omega)) ?_
          refine qw_aload rfl rfl ?_
          refine qc_getR (t := some L) rfl rfl rfl rfl ((fa23.2.1.1 3 (by decide)).trans ((fa18.2.1.1 3 (by decide)).trans ((fa4.2.1.1 3 (by decide)).trans h3L))) ?_
          refine qc_getI rfl (sh_land (by omega)) rfl rfl ?_
          refine qw_aload rfl rfl ?_
          refine qc_getI rfl rfl rfl rfl ?_
          refine qc_iast rfl (sh_rng (by omega)) (fun ja29 a29 ea29 => ?_)
          have ra29_108 : (a29 6 9).toInt = (a28 6 9).toInt := by rw [ea29, mU_cell (by omega)]
          have ra29_109 : (a29 L 8).toInt = (a28 L 8).toInt := by rw [ea29, mU_cell (by omega)]
          have C4 := C3.fr (a' := a29) (by rw [ea29, mU_cell (by omega)]) (by rw [ea29, mU_cell (by omega)]) (by rw [ea29, mU_cell (by omega)]) (by rw [ea29, mU_cell (by omega)])
          have m3x : (a29 L 8).toInt = V 1 := by rw [ea29, mU_cell (by omega)]; exact m1x
          have e2x := ea29
          refine qw_aload rfl rfl ?_
          refine qc_getR (t := some L) rfl rfl rfl rfl ((fa23.2.1.1 3 (by decide)).trans ((fa18.2.1.1 3 (by decide)).trans ((fa4.2.1.1 3 (by decide)).trans h3L))) ?_
          refine qw_dup rfl rfl ?_
          refine qc_getI rfl (sh_land (by omega)) rfl rfl ?_
          refine qw_const rfl ?_
          first | refine qw_iadd rfl (by omega) (fun x30 tx30 => ?_) | refine qw_iiU rfl (fun x30 tx30 => ?_)
          refine qc_putI (z := false) rfl (sh_land (by omega)) rfl rfl (by first | (intro h9; cases h9; done) | (intro _; first | exact Or.inl rfl | exact Or.inr rfl | assumption | (rcases (by omega : x30.toInt = 0 ∨ x30.toInt = 1) with h8 | h8; exact Or.inl (ti_eq h8); exact Or.inr (ti_eq h8)))) (fun a31 ea31 => ?_)
          have ua31 : a31 L 8 = x30 := by rw [ea31, mU_same]
          have wa31 := congrArg Int32.toInt ua31
          have ra31_122 : (a31 6 9).toInt = (a29 6 9).toInt := by rw [ea31, mU_cell (by omega)]
          have C5 := C4.fr (a' := a31) (by rw [ea31, mU_cell (by omega)]) (by rw [ea31, mU_cell (by omega)]) (by rw [ea31, mU_cell (by omega)]) (by rw [ea31, mU_cell (by omega)])
          refine qw_const rfl ?_
          exact qwp_iret (z := true) rfl (fun _ => by first | exact Or.inl rfl | exact Or.inr rfl | exact Or.inl (Int32.toInt_inj.mp (z8.trans (by rfl)))) ⟨a31, b24, v25, rfl, ⟨FR.up (FR.up (FR.up (FR.tr (FR.tr (FR.tr (FR.tr (FR.rf) (FR.sub fa4.1 (by first | exact (fun _ h9 => h9) | decide | (intro c9 h9; simp only [List.mem_cons, List.not_mem_nil, or_false] at h9 ⊢; omega) | (intro c9 h9; simp only [List.mem_cons, List.not_mem_nil, or_false] at h9; exact cA_mem (by omega)) | (intro c9 h9; simp only [List.mem_cons, List.not_mem_nil, or_false] at h9; exact cB_mem (by omega)) | exact cA_sub))) (FR.sub fa9.1 (by first | exact (fun _ h9 => h9) | decide | (intro c9 h9; simp only [List.mem_cons, List.not_mem_nil, or_false] at h9 ⊢; omega) | (intro c9 h9; simp only [List.mem_cons, List.not_mem_nil, or_false] at h9; exact cA_mem (by omega)) | (intro c9 h9; simp only [List.mem_cons, List.not_mem_nil, or_false] at h9; exact cB_mem (by omega)) | exact cA_sub))) (FR.sub fa18.1 (by first | exact (fun _ h9 => h9) | decide | (intro c9 h9; simp only [List.mem_cons, List.not_mem_nil, or_false] at h9 ⊢; omega) | (intro c9 h9; simp only [List.mem_cons, List.not_mem_nil, or_false] at h9; exact cA_mem (by omega)) | (intro c9 h9; simp only [List.mem_cons, List.not_mem_nil, or_false] at h9; exact cB_mem (by omega)) | exact cA_sub))) (FR.sub fa23.1 (by first | exact (fun _ h9 => h9) | decide | (intro c9 h9; simp only [List.mem_cons, List.not_mem_nil, or_false] at h9 ⊢; omega) | (intro c9 h9; simp only [List.mem_cons, List.not_mem_nil, or_false] at h9; exact cA_mem (by omega)) | (intro c9 h9; simp only [List.mem_cons, List.not_mem_nil, or_false] at h9; exact cB_mem (by omega)) | exact cA_sub))) (by first | decide | (simp; done) | exact cA_mem (by omega) | exact cB_mem (by omega)) ea28) (by first | decide | (simp; done) | exact cA_mem (by omega) | exact cB_mem (by omega)) ea29) (by first | decide | (simp; done) | exact cA_mem (by omega) | exact cB_mem (by omega)) ea31, ⟨fun i9 h9 => (fa23.2.1.1 i9 (fun z9 => h9 (by first | exact z9 | (revert z9; simp; done) | (revert z9; simp; omega)))).trans ((show ∀ i9, i9 ∉ [2] → v20 i9 = v i9 from fun i9 h9 => (fa18.2.1.1 i9 (fun z9 => h9 (by first | exact z9 | (revert z9; simp; done) | (revert z9; simp; omega)))).trans ((show ∀ i9, i9 ∉ [2] → v6 i9 = v i9 from fun i9 h9 => (fa4.2.1.1 i9 (fun z9 => h9 (by first | exact z9 | (revert z9; simp; done) | (revert z9; simp; omega)))).trans ((show ∀ i9, i9 ∉ [2] → v i9 = v i9 from (fun _ _ => rfl)) i9 h9)) i9 h9)) i9 h9), w8x⟩, fun j h8 h9 => by rw [ea31, mU_cell (by omega), ea29, mU_cell (by omega), ea28, mU_cell (by omega), k8.1 j h8 h9, fa18.1 6 (by decide), k7 j h8 h9, fa4.1 6 (by decide)]⟩, ⟨_, rfl, ⟨PSt.ok rfl (by rw [RG5]; exact T2.1) C5, fun _ => H2.range hL (by omega) e1x e2x ea31 (by omega) (by omega) y9x (by rw [m2x]; exact q9.2 T2.1) (by omega)⟩⟩⟩
      · skip
        have D9 : rgH V (nvT t z (c + 1)) (V 1).toNat = true := by rcases d9 with h | h; (rw [← y9x]; exact h.2); omega
        refine qw_aload rfl rfl ?_
        refine qw_const rfl ?_
        refine qw_invV (rest := []) rfl rfl rfl rfl rfl (Nat.le_of_ble_eq_true rfl) rfl (y_X6_fail (d := d0) a9 b5 v6  3 (by omega) (by omega)) (fun z32 h9 hq33 => ?_)
        obtain ⟨a34, rfl, fa34, x35, rfl, px35⟩ := hq33
        show f_pq _ _ (57, [some (.inr (.inr (some 6))), some (.inl (a9 6 9))], [.inl x35], cH a34 b5 v6) _
        have F8 := fa34.2
        have z8 := px35
        have DX : rgE t z V c = flt t z (c + 1) 3 := by rw [RG4, eE_0 T1.1, if_pos D9, eE_x (flt_p (by decide)), eE_x (flt_p (by decide))]
        have Z8 : ¬ rgE t z V c = 0 ∧ (a34 6 10).toInt = rgE t z V c := by rw [DX]; exact ⟨flt_p (by decide), by rw [F8.2]; show _ = (3 : Int) + 16 * (lxP t z (c + 1) : Int); have l9 : (3 : Int32).toInt = 3 := rfl; omega⟩
        exact qwp_iret (z := true) rfl (fun _ => by first | exact Or.inl rfl | exact Or.inr rfl | exact Or.inl (Int32.toInt_inj.mp (z8.trans (by rfl)))) ⟨a34, b5, v6, rfl, ⟨FR.tr (FR.tr (FR.tr (FR.rf) (FR.sub fa4.1 (by first | exact (fun _ h9 => h9) | decide | (intro c9 h9; simp only [List.mem_cons, List.not_mem_nil, or_false] at h9 ⊢; omega) | (intro c9 h9; simp only [List.mem_cons, List.not_mem_nil, or_false] at h9; exact cA_mem (by omega)) | (intro c9 h9; simp only [List.mem_cons, List.not_mem_nil, or_false] at h9; exact cB_mem (by omega)) | exact cA_sub))) (FR.sub fa9.1 (by first | exact (fun _ h9 => h9) | decide | (intro c9 h9; simp only [List.mem_cons, List.not_mem_nil, or_false] at h9 ⊢; omega) | (intro c9 h9; simp only [List.mem_cons, List.not_mem_nil, or_false] at h9; exact cA_mem (by omega)) | (intro c9 h9; simp only [List.mem_cons, List.not_mem_nil, or_false] at h9; exact cB_mem (by omega)) | exact cA_sub))) (FR.sub fa34.1 (by first | exact (fun _ h9 => h9) | decide | (intro c9 h9; simp only [List.mem_cons, List.not_mem_nil, or_false] at h9 ⊢; omega) | (intro c9 h9; simp only [List.mem_cons, List.not_mem_nil, or_false] at h9; exact cA_mem (by omega)) | (intro c9 h9; simp only [List.mem_cons, List.not_mem_nil, or_false] at h9; exact cB_mem (by omega)) | exact cA_sub)), ⟨fun i9 h9 => (fa4.2.1.1 i9 (fun z9 => h9 (by first | exact z9 | (revert z9; simp; done) | (revert z9; simp; omega)))).trans ((show ∀ i9, i9 ∉ [2] → v i9 = v i9 from (fun _ _ => rfl)) i9 h9), V9.2.1.2.1⟩, fun j h8 h9 => by rw [F8.1 j h9, k7 j h8 h9, fa4.1 6 (by decide)]⟩, ⟨_, rfl, ⟨PSt.fl (by first | rfl | exact z8) Z8 rfl, fun h => absurd h Z8.1⟩⟩⟩
  · skip
    refine qw_aload rfl rfl ?_
    refine qw_const rfl ?_
    refine qw_invV (rest := []) rfl rfl rfl rfl rfl (Nat.le_of_ble_eq_true rfl) rfl (y_X6_fail (d := d0) a b v  5 (by omega) (by omega)) (fun z36 h9 hq37 => ?_)
    obtain ⟨a38, rfl, fa38, x39, rfl, px39⟩ := hq37
    show f_pq _ _ (16, [some (.inr (.inr (some 6))), none], [.inl x39], cH a38 b v) _
    have F8 := fa38.2
    have z8 := px39
    have DX : rgE t z V c = flt t z c 5 := if_pos (by omega)
    have Z8 : ¬ rgE t z V c = 0 ∧ (a38 6 10).toInt = rgE t z V c := by rw [DX]; exact ⟨flt_p (by decide), by rw [F8.2]; show _ = (5 : Int) + 16 * (lxP t z (c) : Int); have l9 : (5 : Int32).toInt = 5 := rfl; omega⟩
    exact qwp_iret (z := true) rfl (fun _ => by first | exact Or.inl rfl | exact Or.inr rfl | exact Or.inl (Int32.toInt_inj.mp (z8.trans (by rfl)))) ⟨a38, b, v, rfl, ⟨FR.tr (FR.rf) (FR.sub fa38.1 (by first | exact (fun _ h9 => h9) | decide | (intro c9 h9; simp only [List.mem_cons, List.not_mem_nil, or_false] at h9 ⊢; omega) | (intro c9 h9; simp only [List.mem_cons, List.not_mem_nil, or_false] at h9; exact cA_mem (by omega)) | (intro c9 h9; simp only [List.mem_cons, List.not_mem_nil, or_false] at h9; exact cB_mem (by omega)) | exact cA_sub)), ⟨(fun _ _ => rfl), hw⟩, fun j h8 h9 => by rw [F8.1 j h9]⟩, ⟨_, rfl, ⟨PSt.fl (by first | rfl | exact z8) Z8 rfl, fun h => absurd h Z8.1⟩⟩⟩
