set_option maxRecDepth 4000 in
theorem y_X12_isRiver {d : Nat} (a : Nat → Nat → Int32) (b : Nat → Nat → Int64) (v : Nat → Option Nat) (L : Nat) (V : Nat → Int) (i : Int32) (h0 : v 0 = some L) (hL : L = 22 ∨ L = 46) (hC : CLI L V a) : f_pc mtC d 103 [.inr (.inr (some 0)), .inl i] (cH a b v) (fun v9 h' => h' = cH a b v ∧ ∃ x : Int32, v9 = some (.inl x) ∧ ((x.toInt = 1 ∧ (0 ≤ i.toInt ∧ i.toInt < V 0)) ∨ (x.toInt = 0 ∧ ¬ (0 ≤ i.toInt ∧ i.toInt < V 0)))) := by
  refine f_pc_of rfl (fun d0 fu hd => ?_)
  show f_pq _ _ (0, [some (.inr (.inr (some 0))), some (.inl i)], [], cH a b v) _
  have l0 : (0 : Int32).toInt = 0 := rfl
  have l1 : (1 : Int32).toInt = 1 := rfl
  have r0 := hC.1
  refine qw_iload rfl rfl ?_
  refine qw_if_lt rfl (fun c1 => ?_) (fun c1 => ?_)
  · skip
    refine qw_const rfl ?_
    exact qwp_iret (z := true) rfl (fun _ => by first | exact Or.inl rfl | exact Or.inr rfl | (rcases (by omega : (0 : Int32).toInt = 0 ∨ (0 : Int32).toInt = 1) with h8 | h8; exact Or.inl (ti_eq h8); exact Or.inr (ti_eq h8))) ⟨rfl, ⟨_, rfl, by omega⟩⟩
  · skip
    refine qw_iload rfl rfl ?_
    refine qw_aload rfl rfl ?_
    refine qc_getR (t := some L) rfl rfl rfl rfl h0 ?_
    refine qc_getI rfl (sh_land (by omega)) rfl rfl ?_
    refine qw_ic_ge rfl (fun c2 => ?_) (fun c2 => ?_)
    · skip
      refine qw_const rfl ?_
      exact qwp_iret (z := true) rfl (fun _ => by first | exact Or.inl rfl | exact Or.inr rfl | (rcases (by omega : (0 : Int32).toInt = 0 ∨ (0 : Int32).toInt = 1) with h8 | h8; exact Or.inl (ti_eq h8); exact Or.inr (ti_eq h8))) ⟨rfl, ⟨_, rfl, by omega⟩⟩
    · skip
      refine qw_const rfl ?_
      refine qw_goto rfl ?_
      exact qwp_iret (z := true) rfl (fun _ => by first | exact Or.inl rfl | exact Or.inr rfl | (rcases (by omega : (1 : Int32).toInt = 0 ∨ (1 : Int32).toInt = 1) with h8 | h8; exact Or.inl (ti_eq h8); exact Or.inr (ti_eq h8))) ⟨rfl, ⟨_, rfl, by omega⟩⟩
set_option maxRecDepth 4000 in
theorem y_X12_areTwo {d : Nat} (a : Nat → Nat → Int32) (b : Nat → Nat → Int64) (v : Nat → Option Nat) (L : Nat) (V : Nat → Int) (i : Int32) (j : Int32) (h0 : v 0 = some L) (hL : L = 22 ∨ L = 46) (hC : CLI L V a) : f_pc mtC d 105 [.inr (.inr (some 0)), .inl i, .inl j] (cH a b v) (fun v9 h' => h' = cH a b v ∧ ∃ x : Int32, v9 = some (.inl x) ∧ ((x.toInt = 1 ∧ ((0 ≤ i.toInt ∧ i.toInt < V 0) ∧ (0 ≤ j.toInt ∧ j.toInt < V 0) ∧ ¬ i.toInt = j.toInt)) ∨ (x.toInt = 0 ∧ ¬ ((0 ≤ i.toInt ∧ i.toInt < V 0) ∧ (0 ≤ j.toInt ∧ j.toInt < V 0) ∧ ¬ i.toInt = j.toInt)))) := by
  refine f_pc_of rfl (fun d0 fu hd => ?_)
  show f_pq _ _ (0, [some (.inr (.inr (some 0))), some (.inl i), some (.inl j)], [], cH a b v) _
  have l0 : (0 : Int32).toInt = 0 := rfl
  have l1 : (1 : Int32).toInt = 1 := rfl
  refine qw_aload rfl rfl ?_
  refine qw_iload rfl rfl ?_
  refine qw_invV (rest := []) rfl rfl rfl rfl rfl (Nat.le_of_ble_eq_true rfl) rfl (y_X12_isRiver (d := d0) a b v L V i (h0) (by omega) (by omega)) (fun z1 h9 hq2 => ?_)
  obtain ⟨rfl, x3, rfl, px3⟩ := hq2
  show f_pq _ _ (5, [some (.inr (.inr (some 0))), some (.inl i), some (.inl j)], [.inl x3], cH a b v) _
  refine qw_if_eq rfl (fun c4 => ?_) (fun c4 => ?_)
  · skip
    refine qw_const rfl ?_
    exact qwp_iret (z := true) rfl (fun _ => by first | exact Or.inl rfl | exact Or.inr rfl | (rcases (by omega : (0 : Int32).toInt = 0 ∨ (0 : Int32).toInt = 1) with h8 | h8; exact Or.inl (ti_eq h8); exact Or.inr (ti_eq h8))) ⟨rfl, ⟨_, rfl, by omega⟩⟩
  · skip
    refine qw_aload rfl rfl ?_
    refine qw_iload rfl rfl ?_
    refine qw_invV (rest := []) rfl rfl rfl rfl rfl (Nat.le_of_ble_eq_true rfl) rfl (y_X12_isRiver (d := d0) a b v L V j (h0) (by omega) (by omega)) (fun z5 h9 hq6 => ?_)
    obtain ⟨rfl, x7, rfl, px7⟩ := hq6
    show f_pq _ _ (13, [some (.inr (.inr (some 0))), some (.inl i), some (.inl j)], [.inl x7], cH a b v) _
    refine qw_if_eq rfl (fun c8 => ?_) (fun c8 => ?_)
    · skip
      refine qw_const rfl ?_
      exact qwp_iret (z := true) rfl (fun _ => by first | exact Or.inl rfl | exact Or.inr rfl | (rcases (by omega : (0 : Int32).toInt = 0 ∨ (0 : Int32).toInt = 1) with h8 | h8; exact Or.inl (ti_eq h8); exact Or.inr (ti_eq h8))) ⟨rfl, ⟨_, rfl, by omega⟩⟩
    · skip
      refine qw_iload rfl rfl ?_
      refine qw_iload rfl rfl ?_
      refine qw_ic_eq rfl (fun c9 => ?_) (fun c9 => ?_)
      · skip
        refine qw_const rfl ?_
        exact qwp_iret (z := true) rfl (fun _ => by first | exact Or.inl rfl | exact Or.inr rfl | (rcases (by omega : (0 : Int32).toInt = 0 ∨ (0 : Int32).toInt = 1) with h8 | h8; exact Or.inl (ti_eq h8); exact Or.inr (ti_eq h8))) ⟨rfl, ⟨_, rfl, by omega⟩⟩
      · skip
        refine qw_const rfl ?_
        refine qw_goto rfl ?_
        exact qwp_iret (z := true) rfl (fun _ => by first | exact Or.inl rfl | exact Or.inr rfl | (rcases (by omega : (1 : Int32).toInt = 0 ∨ (1 : Int32).toInt = 1) with h8 | h8; exact Or.inl (ti_eq h8); exact Or.inr (ti_eq h8))) ⟨rfl, ⟨_, rfl, by omega⟩⟩
set_option maxRecDepth 4000 in
theorem y_X3_thickness {d : Nat} (a : Nat → Nat → Int32) (b : Nat → Nat → Int64) (v : Nat → Option Nat) (V : Nat → Int) (L : Nat) (i : Int32) (j : Int32) (hL : L = 22 ∨ L = 46) (hC : CLI L V a) (hG : GV V) (hi : (0 ≤ i.toInt ∧ i.toInt < V 0)) (hj : (0 ≤ j.toInt ∧ j.toInt < V 0)) : f_pc mtC d 22 [.inr (.inr (some L)), .inl i, .inl j] (cH a b v) (fun v9 h' => h' = cH a b v ∧ ∃ x : Int32, v9 = some (.inl x) ∧ (x.toInt = thk V (V (7 + 14 * i.toInt.toNat + 3)) (V (7 + 14 * j.toInt.toNat + 3)) (V 1).toNat ∧ 0 ≤ x.toInt ∧ x.toInt ≤ 396)) := by
  refine f_pc_of rfl (fun d0 fu hd => ?_)
  show f_pq _ _ (0, [some (.inr (.inr (some L))), some (.inl i), some (.inl j), none, none, none, none], [], cH a b v) _
  have l0 : (0 : Int32).toInt = 0 := rfl
  have l1 : (1 : Int32).toInt = 1 := rfl
  have r0 := hC.1
  have r1 := hC.2.1
  have g0 := hG.1
  have g1 := hG.2.1
  have pi : (a (L + 1 + 11 + 2 * i.toInt.toNat) 6).toInt = V (7 + 14 * i.toInt.toNat + 3) := (hC.2.2.2.2 i.toInt.toNat (by omega)).2.2.2.1
  have bi : 0 ≤ V (7 + 14 * i.toInt.toNat + 3) ∧ V (7 + 14 * i.toInt.toNat + 3) ≤ 99 := (hG.2.2.2.2.2.1 i.toInt.toNat (by omega)).2.2.2.1
  have pj : (a (L + 1 + 11 + 2 * j.toInt.toNat) 6).toInt = V (7 + 14 * j.toInt.toNat + 3) := (hC.2.2.2.2 j.toInt.toNat (by omega)).2.2.2.1
  have bj : 0 ≤ V (7 + 14 * j.toInt.toNat + 3) ∧ V (7 + 14 * j.toInt.toNat + 3) ≤ 99 := (hG.2.2.2.2.2.1 j.toInt.toNat (by omega)).2.2.2.1
  refine qw_aload rfl rfl ?_
  refine qc_getR (t := some (L + 1)) rfl (sh_land (by omega)) rfl rfl (rC_land0 (by omega)) ?_
  refine qw_iload rfl rfl ?_
  refine qc_aald5 (t := some ((L + 1) + 11 + 2 * i.toInt.toNat)) rfl (sh_row (by omega)) (rC_row (by omega)) (fun jr5 => ?_)
  refine qc_getI rfl (sh_riv (by omega)) rfl rfl ?_
  refine qw_aload rfl rfl ?_
  refine qc_getR (t := some (L + 1)) rfl (sh_land (by omega)) rfl rfl (rC_land0 (by omega)) ?_
  refine qw_iload rfl rfl ?_
  refine qc_aald5 (t := some ((L + 1) + 11 + 2 * j.toInt.toNat)) rfl (sh_row (by omega)) (rC_row (by omega)) (fun jr14 => ?_)
  refine qc_getI rfl (sh_riv (by omega)) rfl rfl ?_
  refine qc_mmin rfl (Nat.le_of_ble_eq_true rfl) (fun x1 tx1 => ?_)
  refine qw_istore (lo' := [some (.inr (.inr (some L))), some (.inl i), some (.inl j), some (.inl x1), none, none, none]) rfl rfl ?_
  refine qw_aload rfl rfl ?_
  refine qc_getR (t := some (L + 1)) rfl (sh_land (by omega)) rfl rfl (rC_land0 (by omega)) ?_
  refine qw_iload rfl rfl ?_
  refine qc_aald5 (t := some ((L + 1) + 11 + 2 * i.toInt.toNat)) rfl (sh_row (by omega)) (rC_row (by omega)) (fun jr27 => ?_)
  refine qc_getI rfl (sh_riv (by omega)) rfl rfl ?_
  refine qw_aload rfl rfl ?_
  refine qc_getR (t := some (L + 1)) rfl (sh_land (by omega)) rfl rfl (rC_land0 (by omega)) ?_
  refine qw_iload rfl rfl ?_
  refine qc_aald5 (t := some ((L + 1) + 11 + 2 * j.toInt.toNat)) rfl (sh_row (by omega)) (rC_row (by omega)) (fun jr36 => ?_)
  refine qc_getI rfl (sh_riv (by omega)) rfl rfl ?_
  refine qc_mmax rfl (Nat.le_of_ble_eq_true rfl) (fun x2 tx2 => ?_)
  refine qw_istore (lo' := [some (.inr (.inr (some L))), some (.inl i), some (.inl j), some (.inl x1), some (.inl x2), none, none]) rfl rfl ?_
  refine qw_const rfl ?_
  refine qw_istore (lo' := [some (.inr (.inr (some L))), some (.inl i), some (.inl j), some (.inl x1), some (.inl x2), some (.inl 0), none]) rfl rfl ?_
  refine qw_const rfl ?_
  refine qw_istore (lo' := [some (.inr (.inr (some L))), some (.inl i), some (.inl j), some (.inl x1), some (.inl x2), some (.inl 0), some (.inl 0)]) rfl rfl ?_
  have loop51 : ∀ (fu51 : Nat) (th : Int32) (k : Int32) ,  (0 ≤ k.toInt ∧ k.toInt ≤ V 1) → (0 ≤ th.toInt ∧ th.toInt ≤ 99 * k.toInt) → (th.toInt = thk V (V (7 + 14 * i.toInt.toNat + 3)) (V (7 + 14 * j.toInt.toNat + 3)) k.toInt.toNat) → f_pq (f_code (t_X3_thickness (f_ev mtC d0))) fu51 (51, [some (.inr (.inr (some L))), some (.inl i), some (.inl j), some (.inl x1), some (.inl x2), some (.inl th), some (.inl k)], [], cH a b v) (fun v9 h' => h' = cH a b v ∧ ∃ x : Int32, v9 = some (.inl x) ∧ (x.toInt = thk V (V (7 + 14 * i.toInt.toNat + 3)) (V (7 + 14 * j.toInt.toNat + 3)) (V 1).toNat ∧ 0 ≤ x.toInt ∧ x.toInt ≤ 396)) := by
    intro fu51
    induction fu51 with
    | zero => intros; exact pq_0
    | succ fu51 ih51 =>
      intro th k  hk hb hT
      refine qw_iload rfl rfl ?_
      refine qw_aload rfl rfl ?_
      refine qc_getI rfl (sh_land (by omega)) rfl rfl ?_
      refine qw_ic_ge rfl (fun c3 => ?_) (fun c3 => ?_)
      · skip
        refine qw_iload rfl rfl ?_
        exact qwp_iret (z := false) rfl (fun h9 => by cases h9) ⟨rfl, ⟨_, rfl, ⟨by rw [show (V 1).toNat = k.toInt.toNat from by omega]; exact hT, by omega, by omega⟩⟩⟩
      · skip
        refine qw_aload rfl rfl ?_
        refine qc_getR (t := some (L + 2)) rfl (sh_land (by omega)) rfl rfl (rC_land1 (by omega)) ?_
        refine qw_iload rfl rfl ?_
        refine qc_iald rfl (sh_rng (by omega)) (fun jx4 x4 ex4 => ?_)
        have ra1 : x4.toInt = V (91 + 2 * k.toInt.toNat) := by rw [ex4]; exact (hC.2.2.2.1 k.toInt.toNat (by omega)).1
        refine qw_iload rfl rfl ?_
        refine qw_ic_le rfl (fun c5 => ?_) (fun c5 => ?_)
        · skip
          refine qw_iinc (lo' := fun z9 => [some (.inr (.inr (some L))), some (.inl i), some (.inl j), some (.inl x1), some (.inl x2), some (.inl th), some (.inl z9)]) rfl rfl (fun _ => rfl) (by omega) (fun x6 tx6 => ?_)
          exact qw_gotoD rfl (ih51 th x6  (by omega) (by omega) (by rw [show (x6).toInt.toNat = k.toInt.toNat + 1 from by omega]; first | (rw [thk_y (by omega)]; omega) | (rw [thk_n (by omega)]; omega)))
        · skip
          refine qw_aload rfl rfl ?_
          refine qc_getR (t := some (L + 2)) rfl (sh_land (by omega)) rfl rfl (rC_land1 (by omega)) ?_
          refine qw_iload rfl rfl ?_
          refine qc_iald rfl (sh_rng (by omega)) (fun jx7 x7 ex7 => ?_)
          have ra2 : x7.toInt = V (91 + 2 * k.toInt.toNat) := by rw [ex7]; exact (hC.2.2.2.1 k.toInt.toNat (by omega)).1
          refine qw_iload rfl rfl ?_
          refine qw_ic_ge rfl (fun c8 => ?_) (fun c8 => ?_)
          · skip
            refine qw_iinc (lo' := fun z9 => [some (.inr (.inr (some L))), some (.inl i), some (.inl j), some (.inl x1), some (.inl x2), some (.inl th), some (.inl z9)]) rfl rfl (fun _ => rfl) (by omega) (fun x9 tx9 => ?_)
            exact qw_gotoD rfl (ih51 th x9  (by omega) (by omega) (by rw [show (x9).toInt.toNat = k.toInt.toNat + 1 from by omega]; first | (rw [thk_y (by omega)]; omega) | (rw [thk_n (by omega)]; omega)))
          · skip
            refine qw_iload rfl rfl ?_
            refine qw_aload rfl rfl ?_
            refine qc_getR (t := some (L + 3)) rfl (sh_land (by omega)) rfl rfl (rC_land2 (by omega)) ?_
            refine qw_iload rfl rfl ?_
            refine qc_iald rfl (sh_rng (by omega)) (fun jx10 x10 ex10 => ?_)
            have rt : x10.toInt = V (92 + 2 * k.toInt.toNat) := by rw [ex10]; exact (hC.2.2.2.1 k.toInt.toNat (by omega)).2
            have bt := (hG.2.2.2.2.2.2 k.toInt.toNat (by omega)).2
            first | refine qw_iadd rfl (by omega) (fun x11 tx11 => ?_) | refine qw_iiU rfl (fun x11 tx11 => ?_)
            refine qw_istore (lo' := [some (.inr (.inr (some L))), some (.inl i), some (.inl j), some (.inl x1), some (.inl x2), some (.inl x11), some (.inl k)]) rfl rfl ?_
            refine qw_iinc (lo' := fun z9 => [some (.inr (.inr (some L))), some (.inl i), some (.inl j), some (.inl x1), some (.inl x2), some (.inl x11), some (.inl z9)]) rfl rfl (fun _ => rfl) (by omega) (fun x12 tx12 => ?_)
            exact qw_gotoD rfl (ih51 x11 x12  (by omega) (by omega) (by rw [show (x12).toInt.toNat = k.toInt.toNat + 1 from by omega]; first | (rw [thk_y (by omega)]; omega) | (rw [thk_n (by omega)]; omega)))
  exact loop51 _ 0 0  (by omega) (by omega) (rfl)
set_option maxRecDepth 4000 in
theorem y_X3_digging {d : Nat} (a : Nat → Nat → Int32) (b : Nat → Nat → Int64) (v : Nat → Option Nat) (V : Nat → Int) (L : Nat) (i : Int32) (j : Int32) (hL : L = 22 ∨ L = 46) (hC : CLI L V a) (hG : GV V) (hi : (0 ≤ i.toInt ∧ i.toInt < V 0)) (hj : (0 ≤ j.toInt ∧ j.toInt < V 0)) : f_pc mtC d 23 [.inr (.inr (some L)), .inl i, .inl j] (cH a b v) (fun v9 h' => h' = cH a b v ∧ ∃ x : Int32, v9 = some (.inl x) ∧ (x.toInt = dgV V i.toInt.toNat j.toInt.toNat)) := by
  refine f_pc_of rfl (fun d0 fu hd => ?_)
  show f_pq _ _ (0, [some (.inr (.inr (some L))), some (.inl i), some (.inl j)], [], cH a b v) _
  have r0 := hC.1
  have r1 := hC.2.1
  have g0 := hG.1
  have g1 := hG.2.1
  have pi : (a (L + 1 + 11 + 2 * i.toInt.toNat) 6).toInt = V (7 + 14 * i.toInt.toNat + 3) := (hC.2.2.2.2 i.toInt.toNat (by omega)).2.2.2.1
  have bi : 0 ≤ V (7 + 14 * i.toInt.toNat + 3) ∧ V (7 + 14 * i.toInt.toNat + 3) ≤ 99 := (hG.2.2.2.2.2.1 i.toInt.toNat (by omega)).2.2.2.1
  have pj : (a (L + 1 + 11 + 2 * j.toInt.toNat) 6).toInt = V (7 + 14 * j.toInt.toNat + 3) := (hC.2.2.2.2 j.toInt.toNat (by omega)).2.2.2.1
  have bj : 0 ≤ V (7 + 14 * j.toInt.toNat + 3) ∧ V (7 + 14 * j.toInt.toNat + 3) ≤ 99 := (hG.2.2.2.2.2.1 j.toInt.toNat (by omega)).2.2.2.1
  refine qw_aload rfl rfl ?_
  refine qc_getR (t := some (L + 1)) rfl (sh_land (by omega)) rfl rfl (rC_land0 (by omega)) ?_
  refine qw_iload rfl rfl ?_
  refine qc_aald5 (t := some ((L + 1) + 11 + 2 * i.toInt.toNat)) rfl (sh_row (by omega)) (rC_row (by omega)) (fun jr5 => ?_)
  refine qc_getI rfl (sh_riv (by omega)) rfl rfl ?_
  refine qw_aload rfl rfl ?_
  refine qc_getR (t := some (L + 1)) rfl (sh_land (by omega)) rfl rfl (rC_land0 (by omega)) ?_
  refine qw_iload rfl rfl ?_
  refine qc_aald5 (t := some ((L + 1) + 11 + 2 * j.toInt.toNat)) rfl (sh_row (by omega)) (rC_row (by omega)) (fun jr14 => ?_)
  refine qc_getI rfl (sh_riv (by omega)) rfl rfl ?_
  first | refine qw_isub rfl (by omega) (fun x1 tx1 => ?_) | refine qw_iiU rfl (fun x1 tx1 => ?_)
  refine qc_mabsE rfl (Nat.le_of_ble_eq_true rfl) (fun x2 tx2 => ?_)
  have n9 := abs_ti tx2 (by omega)
  refine qw_aload rfl rfl ?_
  refine qw_iload rfl rfl ?_
  refine qw_iload rfl rfl ?_
  refine qw_invV (rest := [.inl x2]) rfl rfl (sh_land (by omega)) rfl rfl (Nat.le_of_ble_eq_true rfl) rfl (y_X3_thickness (d := d0) a b v V L i j (by omega) (by omega) (by omega) (by omega) (by omega)) (fun z3 h9 hq4 => ?_)
  obtain ⟨rfl, x5, rfl, px5⟩ := hq4
  show f_pq _ _ (28, [some (.inr (.inr (some L))), some (.inl i), some (.inl j)], [.inl x5, .inl x2], cH a b v) _
  first | refine qw_iadd rfl (by omega) (fun x6 tx6 => ?_) | refine qw_iiU rfl (fun x6 tx6 => ?_)
  exact qwp_iret (z := false) rfl (fun h9 => by cases h9) ⟨rfl, ⟨_, rfl, by unfold dgV plc; split <;> omega⟩⟩
set_option maxRecDepth 4000 in
theorem y_X12_dig {d : Nat} (a : Nat → Nat → Int32) (b : Nat → Nat → Int64) (v : Nat → Option Nat) (L : Nat) (V : Nat → Int) (i : Int32) (j : Int32) (h0 : v 0 = some L) (hL : L = 22 ∨ L = 46) (hC : CLI L V a) (hG : GV V) : f_pc mtC d 115 [.inr (.inr (some 0)), .inl i, .inl j] (cH a b v) (fun v9 h' => h' = cH a b v ∧ ∃ x : Int32, v9 = some (.inl x) ∧ (DIGR V i j x)) := by
  refine f_pc_of rfl (fun d0 fu hd => ?_)
  show f_pq _ _ (0, [some (.inr (.inr (some 0))), some (.inl i), some (.inl j)], [], cH a b v) _
  have lm1 : (-1 : Int32).toInt = -1 := rfl
  refine qw_aload rfl rfl ?_
  refine qw_iload rfl rfl ?_
  refine qw_iload rfl rfl ?_
  refine qw_invV (rest := []) rfl rfl rfl rfl rfl (Nat.le_of_ble_eq_true rfl) rfl (y_X12_areTwo (d := d0) a b v L V i j (h0) (by omega) (hC)) (fun z1 h9 hq2 => ?_)
  obtain ⟨rfl, x3, rfl, px3⟩ := hq2
  show f_pq _ _ (6, [some (.inr (.inr (some 0))), some (.inl i), some (.inl j)], [.inl x3], cH a b v) _
  have q9 := px3
  refine qw_if_eq rfl (fun c4 => ?_) (fun c4 => ?_)
  · skip
    have N9 : ¬ ((0 ≤ i.toInt ∧ i.toInt < V 0) ∧ (0 ≤ j.toInt ∧ j.toInt < V 0) ∧ ¬ i.toInt = j.toInt) := by rcases q9 with h | h; omega; exact h.2
    refine qw_const rfl ?_
    exact qwp_iret (z := false) rfl (fun h9 => by cases h9) ⟨rfl, ⟨_, rfl, Or.inr ⟨N9, rfl⟩⟩⟩
  · skip
    have T9 : (0 ≤ i.toInt ∧ i.toInt < V 0) ∧ (0 ≤ j.toInt ∧ j.toInt < V 0) ∧ ¬ i.toInt = j.toInt := by rcases q9 with h | h; exact h.2; omega
    refine qw_aload rfl rfl ?_
    refine qc_getR (t := some L) rfl rfl rfl rfl h0 ?_
    refine qw_iload rfl rfl ?_
    refine qw_iload rfl rfl ?_
    refine qw_invV (rest := []) rfl rfl (sh_land (by omega)) rfl rfl (Nat.le_of_ble_eq_true rfl) rfl (y_X3_digging (d := d0) a b v V L i j (hL) (hC) (hG) (T9.1) (T9.2.1)) (fun z5 h9 hq6 => ?_)
    obtain ⟨rfl, x7, rfl, px7⟩ := hq6
    show f_pq _ _ (18, [some (.inr (.inr (some 0))), some (.inl i), some (.inl j)], [.inl x7], cH a b v) _
    have D9 := px7
    refine qw_goto rfl ?_
    exact qwp_iret (z := false) rfl (fun h9 => by cases h9) ⟨rfl, ⟨_, rfl, Or.inl ⟨T9, D9⟩⟩⟩
set_option maxRecDepth 4000 in
theorem y_X12_near {d : Nat} (a : Nat → Nat → Int32) (b : Nat → Nat → Int64) (v : Nat → Option Nat) (L : Nat) (V : Nat → Int) (i : Int32) (j : Int32) (h0 : v 0 = some L) (hL : L = 22 ∨ L = 46) (hC : CLI L V a) (hG : GV V) : f_pc mtC d 114 [.inr (.inr (some 0)), .inl i, .inl j] (cH a b v) (fun v9 h' => h' = cH a b v ∧ ∃ x : Int32, v9 = some (.inl x) ∧ ((((0 ≤ i.toInt ∧ i.toInt < V 0) ∧ (0 ≤ j.toInt ∧ j.toInt < V 0)) ∧ KSR V i.toInt j.toInt x.toInt) ∨ (¬ ((0 ≤ i.toInt ∧ i.toInt < V 0) ∧ (0 ≤ j.toInt ∧ j.toInt < V 0)) ∧ x.toInt = -1))) := by
  refine f_pc_of rfl (fun d0 fu hd => ?_)
  show f_pq _ _ (0, [some (.inr (.inr (some 0))), some (.inl i), some (.inl j)], [], cH a b v) _
  have lm1 : (-1 : Int32).toInt = -1 := rfl
  refine qw_aload rfl rfl ?_
  refine qw_iload rfl rfl ?_
  refine qw_invV (rest := []) rfl rfl rfl rfl rfl (Nat.le_of_ble_eq_true rfl) rfl (y_X12_isRiver (d := d0) a b v L V i (h0) (by omega) (hC)) (fun z1 h9 hq2 => ?_)
  obtain ⟨rfl, x3, rfl, px3⟩ := hq2
  show f_pq _ _ (5, [some (.inr (.inr (some 0))), some (.inl i), some (.inl j)], [.inl x3], cH a b v) _
  have q9 := px3
  refine qw_if_eq rfl (fun c4 => ?_) (fun c4 => ?_)
  · skip
    refine qw_const rfl ?_
    exact qwp_iret (z := false) rfl (fun h9 => by cases h9) ⟨rfl, ⟨_, rfl, Or.inr ⟨by omega, rfl⟩⟩⟩
  · skip
    refine qw_aload rfl rfl ?_
    refine qw_iload rfl rfl ?_
    refine qw_invV (rest := []) rfl rfl rfl rfl rfl (Nat.le_of_ble_eq_true rfl) rfl (y_X12_isRiver (d := d0) a b v L V j (h0) (by omega) (hC)) (fun z5 h9 hq6 => ?_)
    obtain ⟨rfl, x7, rfl, px7⟩ := hq6
    show f_pq _ _ (13, [some (.inr (.inr (some 0))), some (.inl i), some (.inl j)], [.inl x7], cH a b v) _
    have q8 := px7
    refine qw_if_eq rfl (fun c8 => ?_) (fun c8 => ?_)
    · skip
      refine qw_const rfl ?_
      exact qwp_iret (z := false) rfl (fun h9 => by cases h9) ⟨rfl, ⟨_, rfl, Or.inr ⟨by omega, rfl⟩⟩⟩
    · skip
      refine qw_aload rfl rfl ?_
      refine qc_getR (t := some L) rfl rfl rfl rfl h0 ?_
      refine qw_iload rfl rfl ?_
      refine qw_iload rfl rfl ?_
      refine qw_invV (rest := []) rfl rfl (sh_land (by omega)) rfl rfl (Nat.le_of_ble_eq_true rfl) rfl (y_X3_kinSteps_1 (d := d0) a b v V L i j (hL) (hC) (hG) (by omega) (by omega)) (fun z9 h9 hq10 => ?_)
      obtain ⟨rfl, x11, rfl, px11⟩ := hq10
      show f_pq _ _ (25, [some (.inr (.inr (some 0))), some (.inl i), some (.inl j)], [.inl x11], cH a b v) _
      have D9 := px11
      refine qw_goto rfl ?_
      exact qwp_iret (z := false) rfl (fun h9 => by cases h9) ⟨rfl, ⟨_, rfl, Or.inl ⟨by omega, D9⟩⟩⟩
