set_option maxRecDepth 4000 in
theorem y_standsAsAlways_0 {d : Nat} (a : Nat → Nat → Int32) (b : Nat → Nat → Int64) (q : Int32) (hq : q.toInt = 0) : f_pc mtM d 15 [.inr (.inr (some 0)), .inl q] (mH a b) (fun v9 h' => ∃ (a' : Nat → Nat → Int32), h' = mH a' b ∧ (FR [6] a a' ∧ LRL (fun _ => 0) a') ∧ v9 = none) := by
  refine f_pc_of rfl (fun d0 fu hd => ?_)
  show f_pq _ _ (0, [some (.inr (.inr (some 0))), some (.inl q), none], [], mH a b) _
  have lm1 : (-1 : Int32).toInt = -1 := rfl
  have l0 : (0 : Int32).toInt = 0 := rfl
  have l1 : (1 : Int32).toInt = 1 := rfl
  have l5 : (5 : Int32).toInt = 5 := rfl
  have l110 : (110 : Int32).toInt = 110 := rfl
  refine qw_const rfl ?_
  refine qw_istore (lo' := [some (.inr (.inr (some 0))), some (.inl q), some (.inl 0)]) rfl rfl ?_
  have loop2 : ∀ (fu2 : Nat) (k : Int32) (a2 : Nat → Nat → Int32) ,  FR [6] a a2 →(0 ≤ k.toInt ∧ k.toInt ≤ 110) → (∀ j, j < k.toInt.toNat → (a2 6 j).toInt = 0) → f_pq (f_code (t_X13_standsAsAlways (f_ev mtM d0))) fu2 (2, [some (.inr (.inr (some 0))), some (.inl q), some (.inl k)], [], mH a2 b) (fun v9 h' => ∃ (a' : Nat → Nat → Int32), h' = mH a' b ∧ (FR [6] a a' ∧ LRL (fun _ => 0) a') ∧ v9 = none) := by
    intro fu2
    induction fu2 with
    | zero => intros; exact pq_0
    | succ fu2 ih2 =>
      intro k a2  hF2 hk hz
      refine qw_iload rfl rfl ?_
      refine qw_const rfl ?_
      refine qw_ic_ge rfl (fun c1 => ?_) (fun c1 => ?_)
      · skip
        refine qw_aload rfl rfl ?_
        refine qw_getR (v := .inr (.inr (some 6))) rfl rfl rfl rfl rfl ?_
        refine qw_iload rfl rfl ?_
        refine qw_const rfl ?_
        first | refine qw_iadd rfl (by omega) (fun x2 tx2 => ?_) | refine qw_iiU rfl (fun x2 tx2 => ?_)
        refine qw_const rfl ?_
        refine qm_iast rfl rfl (fun ja3 a3 ea3 => ?_)
        refine qw_aload rfl rfl ?_
        refine qw_getR (v := .inr (.inr (some 6))) rfl rfl rfl rfl rfl ?_
        refine qw_iload rfl rfl ?_
        refine qw_const rfl ?_
        first | refine qw_iadd rfl (by omega) (fun x4 tx4 => ?_) | refine qw_iiU rfl (fun x4 tx4 => ?_)
        refine qw_const rfl ?_
        first | refine qw_iadd rfl (by omega) (fun x5 tx5 => ?_) | refine qw_iiU rfl (fun x5 tx5 => ?_)
        refine qw_const rfl ?_
        refine qm_iast rfl rfl (fun ja6 a6 ea6 => ?_)
        exact qw_ret rfl ⟨a6, rfl, ⟨FR.up (FR.up (hF2) (by decide) ea3) (by decide) ea6, fun j j1 j2 => by rw [ea6, mU_slot (by omega), ea3, mU_slot (by omega)]; exact hz j (by omega)⟩, rfl⟩
      · skip
        refine qw_aload rfl rfl ?_
        refine qw_getR (v := .inr (.inr (some 6))) rfl rfl rfl rfl rfl ?_
        refine qw_iload rfl rfl ?_
        refine qw_iload rfl rfl ?_
        first | refine qw_iadd rfl (by omega) (fun x7 tx7 => ?_) | refine qw_iiU rfl (fun x7 tx7 => ?_)
        refine qw_const rfl ?_
        refine qm_iast rfl rfl (fun ja8 a8 ea8 => ?_)
        refine qw_iinc (lo' := fun z9 => [some (.inr (.inr (some 0))), some (.inl q), some (.inl z9)]) rfl rfl (fun _ => rfl) (by omega) (fun x9 tx9 => ?_)
        exact qw_gotoD rfl (ih2 x9 a8 (FR.up (hF2) (by decide) ea8) (by omega) (fun j hj => by rw [ea8]; by_cases h : j = k.toInt.toNat; (rw [show j = (x7).toInt.toNat from by omega, mU_same]; rfl); (rw [mU_slot (by omega)]; exact hz j (by omega))))
  exact loop2 _ 0 a (FR.rf) (by omega) (fun j hj => absurd hj (by omega))
set_option maxRecDepth 4000 in
theorem y_rivers {d : Nat} (a : Nat → Nat → Int32) (b : Nat → Nat → Int64) (V : Nat → Int) (hV : LRL V a) : f_pc mtM d 41 [.inr (.inr (some 0))] (mH a b) (fun v9 h' => h' = mH a b ∧ ∃ x : Int32, v9 = some (.inl x) ∧ (x.toInt = V 0)) := by
  refine f_pc_of rfl (fun d0 fu hd => ?_)
  show f_pq _ _ (0, [some (.inr (.inr (some 0)))], [], mH a b) _
  have l0 : (0 : Int32).toInt = 0 := rfl
  refine qw_aload rfl rfl ?_
  refine qw_getR (v := .inr (.inr (some 6))) rfl rfl rfl rfl rfl ?_
  refine qw_const rfl ?_
  refine qm_iald rfl rfl (fun jx1 x1 ex1 => ?_)
  have r9 : x1.toInt = V 0 := by rw [ex1]; exact hV 0 (by decide) (by omega)
  exact qwp_iret (z := false) rfl (fun h9 => by cases h9) ⟨rfl, ⟨_, rfl, by omega⟩⟩
set_option maxRecDepth 4000 in
theorem y_isRiver {d : Nat} (a : Nat → Nat → Int32) (b : Nat → Nat → Int64) (V : Nat → Int)(i : Int32) (hV : LRL V a) : f_pc mtM d 42 [.inr (.inr (some 0)), .inl i] (mH a b) (fun v9 h' => h' = mH a b ∧ ∃ x : Int32, v9 = some (.inl x) ∧ ((x.toInt = 1 ∧ (0 ≤ i.toInt ∧ i.toInt < V 0)) ∨ (x.toInt = 0 ∧ ¬ (0 ≤ i.toInt ∧ i.toInt < V 0)))) := by
  refine f_pc_of rfl (fun d0 fu hd => ?_)
  show f_pq _ _ (0, [some (.inr (.inr (some 0))), some (.inl i)], [], mH a b) _
  have l0 : (0 : Int32).toInt = 0 := rfl
  have l1 : (1 : Int32).toInt = 1 := rfl
  refine qw_iload rfl rfl ?_
  refine qw_if_lt rfl (fun c1 => ?_) (fun c1 => ?_)
  · skip
    refine qw_const rfl ?_
    exact qwp_iret (z := true) rfl (fun _ => by first | exact Or.inl rfl | exact Or.inr rfl | (rcases (by omega : (0 : Int32).toInt = 0 ∨ (0 : Int32).toInt = 1) with h8 | h8; exact Or.inl (ti_eq h8); exact Or.inr (ti_eq h8))) ⟨rfl, ⟨_, rfl, by omega⟩⟩
  · skip
    refine qw_iload rfl rfl ?_
    refine qw_aload rfl rfl ?_
    refine qw_invV (rest := [.inl i]) rfl rfl rfl rfl rfl (Nat.le_of_ble_eq_true rfl) rfl (y_rivers (d := d0) a b V  (by omega)) (fun v2 h9 hq3 => ?_)
    obtain ⟨rfl, x4, rfl, px4⟩ := hq3
    show f_pq _ _ (9, [some (.inr (.inr (some 0))), some (.inl i)], [.inl x4, .inl i], mH a b) _
    refine qw_ic_ge rfl (fun c5 => ?_) (fun c5 => ?_)
    · skip
      refine qw_const rfl ?_
      exact qwp_iret (z := true) rfl (fun _ => by first | exact Or.inl rfl | exact Or.inr rfl | (rcases (by omega : (0 : Int32).toInt = 0 ∨ (0 : Int32).toInt = 1) with h8 | h8; exact Or.inl (ti_eq h8); exact Or.inr (ti_eq h8))) ⟨rfl, ⟨_, rfl, by omega⟩⟩
    · skip
      refine qw_const rfl ?_
      refine qw_goto rfl ?_
      exact qwp_iret (z := true) rfl (fun _ => by first | exact Or.inl rfl | exact Or.inr rfl | (rcases (by omega : (1 : Int32).toInt = 0 ∨ (1 : Int32).toInt = 1) with h8 | h8; exact Or.inl (ti_eq h8); exact Or.inr (ti_eq h8))) ⟨rfl, ⟨_, rfl, by omega⟩⟩
set_option maxRecDepth 4000 in
theorem y_riverOf {d : Nat} (a : Nat → Nat → Int32) (b : Nat → Nat → Int64) (V : Nat → Int)(r : Int32) (w : Int32) (hV : LRL V a) (hr : 0 ≤ r.toInt ∧ r.toInt ≤ 5) (hw : 0 ≤ w.toInt ∧ w.toInt ≤ 12) : f_pc mtM d 43 [.inr (.inr (some 0)), .inl r, .inl w] (mH a b) (fun v9 h' => h' = mH a b ∧ ∃ x : Int32, v9 = some (.inl x) ∧ (x.toInt = V (7 + 14 * r.toInt.toNat + w.toInt.toNat))) := by
  refine f_pc_of rfl (fun d0 fu hd => ?_)
  show f_pq _ _ (0, [some (.inr (.inr (some 0))), some (.inl r), some (.inl w)], [], mH a b) _
  have l7 : (7 : Int32).toInt = 7 := rfl
  have l14 : (14 : Int32).toInt = 14 := rfl
  refine qw_aload rfl rfl ?_
  refine qw_getR (v := .inr (.inr (some 6))) rfl rfl rfl rfl rfl ?_
  refine qw_const rfl ?_
  refine qw_const rfl ?_
  refine qw_iload rfl rfl ?_
  first | refine qw_imul rfl (c := 14) rfl (by omega) (fun x1 tx1 => ?_) | refine qw_iiU rfl (fun x1 tx1 => ?_)
  first | refine qw_iadd rfl (by omega) (fun x2 tx2 => ?_) | refine qw_iiU rfl (fun x2 tx2 => ?_)
  refine qw_iload rfl rfl ?_
  first | refine qw_iadd rfl (by omega) (fun x3 tx3 => ?_) | refine qw_iiU rfl (fun x3 tx3 => ?_)
  refine qm_iald rfl rfl (fun jx4 x4 ex4 => ?_)
  have r9 : x4.toInt = V (7 + 14 * r.toInt.toNat + w.toInt.toNat) := by rw [ex4, show (x3).toInt.toNat = 7 + 14 * r.toInt.toNat + w.toInt.toNat from by omega]; exact hV _ (by omega) (by omega)
  exact qwp_iret (z := false) rfl (fun h9 => by cases h9) ⟨rfl, ⟨_, rfl, by omega⟩⟩
set_option maxHeartbeats 1000000 in
set_option maxRecDepth 4000 in
theorem y_between {d : Nat} (a : Nat → Nat → Int32) (b : Nat → Nat → Int64) (V : Nat → Int)(i : Int32) (j : Int32) (hV : LRL V a) (hG : GV V) (hi : (0 ≤ i.toInt ∧ i.toInt < V 0)) (hj : (0 ≤ j.toInt ∧ j.toInt < V 0)) : f_pc mtM d 64 [.inr (.inr (some 0)), .inl i, .inl j] (mH a b) (fun v9 h' => h' = mH a b ∧ ∃ x : Int32, v9 = some (.inl x) ∧ (x.toInt = thk V (V (7 + 14 * i.toInt.toNat + 3)) (V (7 + 14 * j.toInt.toNat + 3)) (V 1).toNat ∧ 0 ≤ x.toInt ∧ x.toInt ≤ 396)) := by
  refine f_pc_of rfl (fun d0 fu hd => ?_)
  show f_pq _ _ (0, [some (.inr (.inr (some 0))), some (.inl i), some (.inl j), none, none, none, none, none, none], [], mH a b) _
  have l0 : (0 : Int32).toInt = 0 := rfl
  have l1 : (1 : Int32).toInt = 1 := rfl
  have l2 : (2 : Int32).toInt = 2 := rfl
  have l3 : (3 : Int32).toInt = 3 := rfl
  have l91 : (91 : Int32).toInt = 91 := rfl
  have g0 := hG.1
  have g1 := hG.2.1
  have v0 := hV 0 (by decide) (by omega)
  have v1 := hV 1 (by decide) (by omega)
  have bi : 0 ≤ V (7 + 14 * i.toInt.toNat + 3) ∧ V (7 + 14 * i.toInt.toNat + 3) ≤ 99 := (hG.2.2.2.2.2.1 i.toInt.toNat (by omega)).2.2.2.1
  have bj : 0 ≤ V (7 + 14 * j.toInt.toNat + 3) ∧ V (7 + 14 * j.toInt.toNat + 3) ≤ 99 := (hG.2.2.2.2.2.1 j.toInt.toNat (by omega)).2.2.2.1
  refine qw_aload rfl rfl ?_
  refine qw_iload rfl rfl ?_
  refine qw_const rfl ?_
  refine qw_invV (rest := []) rfl rfl rfl rfl rfl (Nat.le_of_ble_eq_true rfl) rfl (y_riverOf (d := d0) a b V i 3 (by omega) (by omega) (by omega)) (fun v1 h9 hq2 => ?_)
  obtain ⟨rfl, x3, rfl, px3⟩ := hq2
  show f_pq _ _ (6, [some (.inr (.inr (some 0))), some (.inl i), some (.inl j), none, none, none, none, none, none], [.inl x3], mH a b) _
  have pi : x3.toInt = V (7 + 14 * i.toInt.toNat + 3) := by have h9 := px3; exact h9
  refine qw_istore (lo' := [some (.inr (.inr (some 0))), some (.inl i), some (.inl j), some (.inl x3), none, none, none, none, none]) rfl rfl ?_
  refine qw_aload rfl rfl ?_
  refine qw_iload rfl rfl ?_
  refine qw_const rfl ?_
  refine qw_invV (rest := []) rfl rfl rfl rfl rfl (Nat.le_of_ble_eq_true rfl) rfl (y_riverOf (d := d0) a b V j 3 (by omega) (by omega) (by omega)) (fun v4 h9 hq5 => ?_)
  obtain ⟨rfl, x6, rfl, px6⟩ := hq5
  show f_pq _ _ (13, [some (.inr (.inr (some 0))), some (.inl i), some (.inl j), some (.inl x3), none, none, none, none, none], [.inl x6], mH a b) _
  have pj : x6.toInt = V (7 + 14 * j.toInt.toNat + 3) := by have h9 := px6; exact h9
  refine qw_istore (lo' := [some (.inr (.inr (some 0))), some (.inl i), some (.inl j), some (.inl x3), some (.inl x6), none, none, none, none]) rfl rfl ?_
  refine qw_const rfl ?_
  refine qw_istore (lo' := [some (.inr (.inr (some 0))), some (.inl i), some (.inl j), some (.inl x3), some (.inl x6), some (.inl 0), none, none, none]) rfl rfl ?_
  refine qw_const rfl ?_
  refine qw_istore (lo' := [some (.inr (.inr (some 0))), some (.inl i), some (.inl j), some (.inl x3), some (.inl x6), some (.inl 0), some (.inl 0), none, none]) rfl rfl ?_
  have loop21 : ∀ (fu21 : Nat) (p0 : Int32) (q0 : Int32) (th : Int32) (k : Int32) (o7_21 : Option f_V) (o8_21 : Option f_V), (p0.toInt = V (7 + 14 * i.toInt.toNat + 3)) → (q0.toInt = V (7 + 14 * j.toInt.toNat + 3)) → (0 ≤ k.toInt ∧ k.toInt ≤ V 1) → (0 ≤ th.toInt ∧ th.toInt ≤ 99 * k.toInt) → (th.toInt = thk V (V (7 + 14 * i.toInt.toNat + 3)) (V (7 + 14 * j.toInt.toNat + 3)) k.toInt.toNat) → f_pq (f_code (t_X13_between (f_ev mtM d0))) fu21 (21, [some (.inr (.inr (some 0))), some (.inl i), some (.inl j), some (.inl p0), some (.inl q0), some (.inl th), some (.inl k), o7_21, o8_21], [], mH a b) (fun v9 h' => h' = mH a b ∧ ∃ x : Int32, v9 = some (.inl x) ∧ (x.toInt = thk V (V (7 + 14 * i.toInt.toNat + 3)) (V (7 + 14 * j.toInt.toNat + 3)) (V 1).toNat ∧ 0 ≤ x.toInt ∧ x.toInt ≤ 396)) := by
    intro fu21
    induction fu21 with
    | zero => intros; exact pq_0
    | succ fu21 ih21 =>
      intro p0 q0 th k o7_21 o8_21 hp hq hk hb hT
      refine qw_iload rfl rfl ?_
      refine qw_aload rfl rfl ?_
      refine qw_getR (v := .inr (.inr (some 6))) rfl rfl rfl rfl rfl ?_
      refine qw_const rfl ?_
      refine qm_iald rfl rfl (fun jx7 x7 ex7 => ?_)
      have r8 : x7.toInt = V 1 := by rw [ex7]; exact v1
      refine qw_ic_ge rfl (fun c8 => ?_) (fun c8 => ?_)
      · skip
        refine qw_iload rfl rfl ?_
        exact qwp_iret (z := false) rfl (fun h9 => by cases h9) ⟨rfl, ⟨_, rfl, ⟨by rw [show (V 1).toNat = k.toInt.toNat from by omega]; exact hT, by omega, by omega⟩⟩⟩
      · skip
        refine qw_aload rfl rfl ?_
        refine qw_getR (v := .inr (.inr (some 6))) rfl rfl rfl rfl rfl ?_
        refine qw_const rfl ?_
        refine qw_const rfl ?_
        refine qw_iload rfl rfl ?_
        first | refine qw_imul rfl (c := 2) rfl (by omega) (fun x9 tx9 => ?_) | refine qw_iiU rfl (fun x9 tx9 => ?_)
        first | refine qw_iadd rfl (by omega) (fun x10 tx10 => ?_) | refine qw_iiU rfl (fun x10 tx10 => ?_)
        refine qm_iald rfl rfl (fun jx11 x11 ex11 => ?_)
        have ra : x11.toInt = V (91 + 2 * k.toInt.toNat) := by rw [ex11, show (x10).toInt.toNat = 91 + 2 * k.toInt.toNat from by omega]; exact hV _ (by omega) (by omega)
        refine qw_istore (lo' := [some (.inr (.inr (some 0))), some (.inl i), some (.inl j), some (.inl p0), some (.inl q0), some (.inl th), some (.inl k), some (.inl x11), o8_21]) rfl rfl ?_
        refine qw_iload rfl rfl ?_
        refine qw_iload rfl rfl ?_
        refine qw_ic_ge rfl (fun c12 => ?_) (fun c12 => ?_)
        · skip
          refine qw_iload rfl rfl ?_
          refine qw_iload rfl rfl ?_
          refine qw_ic_ge rfl (fun c13 => ?_) (fun c13 => ?_)
          · skip
            refine qw_const rfl ?_
            refine qw_istore (lo' := [some (.inr (.inr (some 0))), some (.inl i), some (.inl j), some (.inl p0), some (.inl q0), some (.inl th), some (.inl k), some (.inl x11), some (.inl 0)]) rfl rfl ?_
            refine qw_iload rfl rfl ?_
            refine qw_iload rfl rfl ?_
            refine qw_if_eq rfl (fun c14 => ?_) (fun c14 => ?_)
            · skip
              refine qw_const rfl ?_
              first | refine qw_iadd rfl (by omega) (fun x15 tx15 => ?_) | refine qw_iiU rfl (fun x15 tx15 => ?_)
              refine qw_istore (lo' := [some (.inr (.inr (some 0))), some (.inl i), some (.inl j), some (.inl p0), some (.inl q0), some (.inl x15), some (.inl k), some (.inl x11), some (.inl 0)]) rfl rfl ?_
              refine qw_iinc (lo' := fun z9 => [some (.inr (.inr (some 0))), some (.inl i), some (.inl j), some (.inl p0), some (.inl q0), some (.inl x15), some (.inl z9), some (.inl x11), some (.inl 0)]) rfl rfl (fun _ => rfl) (by omega) (fun x16 tx16 => ?_)
              exact qw_gotoD rfl (ih21 p0 q0 x15 x16 (some (.inl x11)) (some (.inl 0))  (hp) (hq) (by omega) (by omega) (by rw [show (x16).toInt.toNat = k.toInt.toNat + 1 from by omega]; first | (rw [thk_y (by omega)]; omega) | (rw [thk_n (by omega)]; omega)))
            · skip
              refine qw_aload rfl rfl ?_
              refine qw_getR (v := .inr (.inr (some 6))) rfl rfl rfl rfl rfl ?_
              refine qw_const rfl ?_
              refine qw_const rfl ?_
              refine qw_iload rfl rfl ?_
              first | refine qw_imul rfl (c := 2) rfl (by omega) (fun x17 tx17 => ?_) | refine qw_iiU rfl (fun x17 tx17 => ?_)
              first | refine qw_iadd rfl (by omega) (fun x18 tx18 => ?_) | refine qw_iiU rfl (fun x18 tx18 => ?_)
              refine qw_const rfl ?_
              first | refine qw_iadd rfl (by omega) (fun x19 tx19 => ?_) | refine qw_iiU rfl (fun x19 tx19 => ?_)
              refine qm_iald rfl rfl (fun jx20 x20 ex20 => ?_)
              have rt : x20.toInt = V (92 + 2 * k.toInt.toNat) := by rw [ex20, show (x19).toInt.toNat = 92 + 2 * k.toInt.toNat from by omega]; exact hV _ (by omega) (by omega)
              have bt := (hG.2.2.2.2.2.2 k.toInt.toNat (by omega)).2
              refine qw_goto rfl ?_
              first | refine qw_iadd rfl (by omega) (fun x21 tx21 => ?_) | refine qw_iiU rfl (fun x21 tx21 => ?_)
              refine qw_istore (lo' := [some (.inr (.inr (some 0))), some (.inl i), some (.inl j), some (.inl p0), some (.inl q0), some (.inl x21), some (.inl k), some (.inl x11), some (.inl 0)]) rfl rfl ?_
              refine qw_iinc (lo' := fun z9 => [some (.inr (.inr (some 0))), some (.inl i), some (.inl j), some (.inl p0), some (.inl q0), some (.inl x21), some (.inl z9), some (.inl x11), some (.inl 0)]) rfl rfl (fun _ => rfl) (by omega) (fun x22 tx22 => ?_)
              exact qw_gotoD rfl (ih21 p0 q0 x21 x22 (some (.inl x11)) (some (.inl 0))  (hp) (hq) (by omega) (by omega) (by rw [show (x22).toInt.toNat = k.toInt.toNat + 1 from by omega]; first | (rw [thk_y (by omega)]; omega) | (rw [thk_n (by omega)]; omega)))
          · skip
            refine qw_iload rfl rfl ?_
            refine qw_iload rfl rfl ?_
            refine qw_ic_ge rfl (fun c23 => ?_) (fun c23 => ?_)
            · skip
              refine qw_const rfl ?_
              refine qw_istore (lo' := [some (.inr (.inr (some 0))), some (.inl i), some (.inl j), some (.inl p0), some (.inl q0), some (.inl th), some (.inl k), some (.inl x11), some (.inl 0)]) rfl rfl ?_
              refine qw_iload rfl rfl ?_
              refine qw_iload rfl rfl ?_
              refine qw_if_eq rfl (fun c24 => ?_) (fun c24 => ?_)
              · skip
                refine qw_const rfl ?_
                first | refine qw_iadd rfl (by omega) (fun x25 tx25 => ?_) | refine qw_iiU rfl (fun x25 tx25 => ?_)
                refine qw_istore (lo' := [some (.inr (.inr (some 0))), some (.inl i), some (.inl j), some (.inl p0), some (.inl q0), some (.inl x25), some (.inl k), some (.inl x11), some (.inl 0)]) rfl rfl ?_
                refine qw_iinc (lo' := fun z9 => [some (.inr (.inr (some 0))), some (.inl i), some (.inl j), some (.inl p0), some (.inl q0), some (.inl x25), some (.inl z9), some (.inl x11), some (.inl 0)]) rfl rfl (fun _ => rfl) (by omega) (fun x26 tx26 => ?_)
                exact qw_gotoD rfl (ih21 p0 q0 x25 x26 (some (.inl x11)) (some (.inl 0))  (hp) (hq) (by omega) (by omega) (by rw [show (x26).toInt.toNat = k.toInt.toNat + 1 from by omega]; first | (rw [thk_y (by omega)]; omega) | (rw [thk_n (by omega)]; omega)))
              · skip
                refine qw_aload rfl rfl ?_
                refine qw_getR (v := .inr (.inr (some 6))) rfl rfl rfl rfl rfl ?_
                refine qw_const rfl ?_
                refine qw_const rfl ?_
                refine qw_iload rfl rfl ?_
                first | refine qw_imul rfl (c := 2) rfl (by omega) (fun x27 tx27 => ?_) | refine qw_iiU rfl (fun x27 tx27 => ?_)
                first | refine qw_iadd rfl (by omega) (fun x28 tx28 => ?_) | refine qw_iiU rfl (fun x28 tx28 => ?_)
                refine qw_const rfl ?_
                first | refine qw_iadd rfl (by omega) (fun x29 tx29 => ?_) | refine qw_iiU rfl (fun x29 tx29 => ?_)
                refine qm_iald rfl rfl (fun jx30 x30 ex30 => ?_)
                have rt : x30.toInt = V (92 + 2 * k.toInt.toNat) := by rw [ex30, show (x29).toInt.toNat = 92 + 2 * k.toInt.toNat from by omega]; exact hV _ (by omega) (by omega)
                have bt := (hG.2.2.2.2.2.2 k.toInt.toNat (by omega)).2
                refine qw_goto rfl ?_
                first | refine qw_iadd rfl (by omega) (fun x31 tx31 => ?_) | refine qw_iiU rfl (fun x31 tx31 => ?_)
                refine qw_istore (lo' := [some (.inr (.inr (some 0))), some (.inl i), some (.inl j), some (.inl p0), some (.inl q0), some (.inl x31), some (.inl k), some (.inl x11), some (.inl 0)]) rfl rfl ?_
                refine qw_iinc (lo' := fun z9 => [some (.inr (.inr (some 0))), some (.inl i), some (.inl j), some (.inl p0), some (.inl q0), some (.inl x31), some (.inl z9), some (.inl x11), some (.inl 0)]) rfl rfl (fun _ => rfl) (by omega) (fun x32 tx32 => ?_)
                exact qw_gotoD rfl (ih21 p0 q0 x31 x32 (some (.inl x11)) (some (.inl 0))  (hp) (hq) (by omega) (by omega) (by rw [show (x32).toInt.toNat = k.toInt.toNat + 1 from by omega]; first | (rw [thk_y (by omega)]; omega) | (rw [thk_n (by omega)]; omega)))
            · skip
              refine qw_const rfl ?_
              refine qw_goto rfl ?_
              refine qw_istore (lo' := [some (.inr (.inr (some 0))), some (.inl i), some (.inl j), some (.inl p0), some (.inl q0), some (.inl th), some (.inl k), some (.inl x11), some (.inl 1)]) rfl rfl ?_
              refine qw_iload rfl rfl ?_
              refine qw_iload rfl rfl ?_
              refine qw_if_eq rfl (fun c33 => ?_) (fun c33 => ?_)
              · skip
                refine qw_const rfl ?_
                first | refine qw_iadd rfl (by omega) (fun x34 tx34 => ?_) | refine qw_iiU rfl (fun x34 tx34 => ?_)
                refine qw_istore (lo' := [some (.inr (.inr (some 0))), some (.inl i), some (.inl j), some (.inl p0), some (.inl q0), some (.inl x34), some (.inl k), some (.inl x11), some (.inl 1)]) rfl rfl ?_
                refine qw_iinc (lo' := fun z9 => [some (.inr (.inr (some 0))), some (.inl i), some (.inl j), some (.inl p0), some (.inl q0), some (.inl x34), some (.inl z9), some (.inl x11), some (.inl 1)]) rfl rfl (fun _ => rfl) (by omega) (fun x35 tx35 => ?_)
                exact qw_gotoD rfl (ih21 p0 q0 x34 x35 (some (.inl x11)) (some (.inl 1))  (hp) (hq) (by omega) (by omega) (by rw [show (x35).toInt.toNat = k.toInt.toNat + 1 from by omega]; first | (rw [thk_y (by omega)]; omega) | (rw [thk_n (by omega)]; omega)))
              · skip
                refine qw_aload rfl rfl ?_
                refine qw_getR (v := .inr (.inr (some 6))) rfl rfl rfl rfl rfl ?_
                refine qw_const rfl ?_
                refine qw_const rfl ?_
                refine qw_iload rfl rfl ?_
                first | refine qw_imul rfl (c := 2) rfl (by omega) (fun x36 tx36 => ?_) | refine qw_iiU rfl (fun x36 tx36 => ?_)
                first | refine qw_iadd rfl (by omega) (fun x37 tx37 => ?_) | refine qw_iiU rfl (fun x37 tx37 => ?_)
                refine qw_const rfl ?_
                first | refine qw_iadd rfl (by omega) (fun x38 tx38 => ?_) | refine qw_iiU rfl (fun x38 tx38 => ?_)
                refine qm_iald rfl rfl (fun jx39 x39 ex39 => ?_)
                have rt : x39.toInt = V (92 + 2 * k.toInt.toNat) := by rw [ex39, show (x38).toInt.toNat = 92 + 2 * k.toInt.toNat from by omega]; exact hV _ (by omega) (by omega)
                have bt := (hG.2.2.2.2.2.2 k.toInt.toNat (by omega)).2
                refine qw_goto rfl ?_
                first | refine qw_iadd rfl (by omega) (fun x40 tx40 => ?_) | refine qw_iiU rfl (fun x40 tx40 => ?_)
                refine qw_istore (lo' := [some (.inr (.inr (some 0))), some (.inl i), some (.inl j), some (.inl p0), some (.inl q0), some (.inl x40), some (.inl k), some (.inl x11), some (.inl 1)]) rfl rfl ?_
                refine qw_iinc (lo' := fun z9 => [some (.inr (.inr (some 0))), some (.inl i), some (.inl j), some (.inl p0), some (.inl q0), some (.inl x40), some (.inl z9), some (.inl x11), some (.inl 1)]) rfl rfl (fun _ => rfl) (by omega) (fun x41 tx41 => ?_)
                exact qw_gotoD rfl (ih21 p0 q0 x40 x41 (some (.inl x11)) (some (.inl 1))  (hp) (hq) (by omega) (by omega) (by rw [show (x41).toInt.toNat = k.toInt.toNat + 1 from by omega]; first | (rw [thk_y (by omega)]; omega) | (rw [thk_n (by omega)]; omega)))
        · skip
          refine qw_iload rfl rfl ?_
          refine qw_iload rfl rfl ?_
          refine qw_ic_lt rfl (fun c42 => ?_) (fun c42 => ?_)
          · skip
            refine qw_const rfl ?_
            refine qw_goto rfl ?_
            refine qw_istore (lo' := [some (.inr (.inr (some 0))), some (.inl i), some (.inl j), some (.inl p0), some (.inl q0), some (.inl th), some (.inl k), some (.inl x11), some (.inl 1)]) rfl rfl ?_
            refine qw_iload rfl rfl ?_
            refine qw_iload rfl rfl ?_
            refine qw_if_eq rfl (fun c43 => ?_) (fun c43 => ?_)
            · skip
              refine qw_const rfl ?_
              first | refine qw_iadd rfl (by omega) (fun x44 tx44 => ?_) | refine qw_iiU rfl (fun x44 tx44 => ?_)
              refine qw_istore (lo' := [some (.inr (.inr (some 0))), some (.inl i), some (.inl j), some (.inl p0), some (.inl q0), some (.inl x44), some (.inl k), some (.inl x11), some (.inl 1)]) rfl rfl ?_
              refine qw_iinc (lo' := fun z9 => [some (.inr (.inr (some 0))), some (.inl i), some (.inl j), some (.inl p0), some (.inl q0), some (.inl x44), some (.inl z9), some (.inl x11), some (.inl 1)]) rfl rfl (fun _ => rfl) (by omega) (fun x45 tx45 => ?_)
              exact qw_gotoD rfl (ih21 p0 q0 x44 x45 (some (.inl x11)) (some (.inl 1))  (hp) (hq) (by omega) (by omega) (by rw [show (x45).toInt.toNat = k.toInt.toNat + 1 from by omega]; first | (rw [thk_y (by omega)]; omega) | (rw [thk_n (by omega)]; omega)))
            · skip
              refine qw_aload rfl rfl ?_
              refine qw_getR (v := .inr (.inr (some 6))) rfl rfl rfl rfl rfl ?_
              refine qw_const rfl ?_
              refine qw_const rfl ?_
              refine qw_iload rfl rfl ?_
              first | refine qw_imul rfl (c := 2) rfl (by omega) (fun x46 tx46 => ?_) | refine qw_iiU rfl (fun x46 tx46 => ?_)
              first | refine qw_iadd rfl (by omega) (fun x47 tx47 => ?_) | refine qw_iiU rfl (fun x47 tx47 => ?_)
              refine qw_const rfl ?_
              first | refine qw_iadd rfl (by omega) (fun x48 tx48 => ?_) | refine qw_iiU rfl (fun x48 tx48 => ?_)
              refine qm_iald rfl rfl (fun jx49 x49 ex49 => ?_)
              have rt : x49.toInt = V (92 + 2 * k.toInt.toNat) := by rw [ex49, show (x48).toInt.toNat = 92 + 2 * k.toInt.toNat from by omega]; exact hV _ (by omega) (by omega)
              have bt := (hG.2.2.2.2.2.2 k.toInt.toNat (by omega)).2
              refine qw_goto rfl ?_
              first | refine qw_iadd rfl (by omega) (fun x50 tx50 => ?_) | refine qw_iiU rfl (fun x50 tx50 => ?_)
              refine qw_istore (lo' := [some (.inr (.inr (some 0))), some (.inl i), some (.inl j), some (.inl p0), some (.inl q0), some (.inl x50), some (.inl k), some (.inl x11), some (.inl 1)]) rfl rfl ?_
              refine qw_iinc (lo' := fun z9 => [some (.inr (.inr (some 0))), some (.inl i), some (.inl j), some (.inl p0), some (.inl q0), some (.inl x50), some (.inl z9), some (.inl x11), some (.inl 1)]) rfl rfl (fun _ => rfl) (by omega) (fun x51 tx51 => ?_)
              exact qw_gotoD rfl (ih21 p0 q0 x50 x51 (some (.inl x11)) (some (.inl 1))  (hp) (hq) (by omega) (by omega) (by rw [show (x51).toInt.toNat = k.toInt.toNat + 1 from by omega]; first | (rw [thk_y (by omega)]; omega) | (rw [thk_n (by omega)]; omega)))
          · skip
            refine qw_iload rfl rfl ?_
            refine qw_iload rfl rfl ?_
            refine qw_ic_ge rfl (fun c52 => ?_) (fun c52 => ?_)
            · skip
              refine qw_const rfl ?_
              refine qw_istore (lo' := [some (.inr (.inr (some 0))), some (.inl i), some (.inl j), some (.inl p0), some (.inl q0), some (.inl th), some (.inl k), some (.inl x11), some (.inl 0)]) rfl rfl ?_
              refine qw_iload rfl rfl ?_
              refine qw_iload rfl rfl ?_
              refine qw_if_eq rfl (fun c53 => ?_) (fun c53 => ?_)
              · skip
                refine qw_const rfl ?_
                first | refine qw_iadd rfl (by omega) (fun x54 tx54 => ?_) | refine qw_iiU rfl (fun x54 tx54 => ?_)
                refine qw_istore (lo' := [some (.inr (.inr (some 0))), some (.inl i), some (.inl j), some (.inl p0), some (.inl q0), some (.inl x54), some (.inl k), some (.inl x11), some (.inl 0)]) rfl rfl ?_
                refine qw_iinc (lo' := fun z9 => [some (.inr (.inr (some 0))), some (.inl i), some (.inl j), some (.inl p0), some (.inl q0), some (.inl x54), some (.inl z9), some (.inl x11), some (.inl 0)]) rfl rfl (fun _ => rfl) (by omega) (fun x55 tx55 => ?_)
                exact qw_gotoD rfl (ih21 p0 q0 x54 x55 (some (.inl x11)) (some (.inl 0))  (hp) (hq) (by omega) (by omega) (by rw [show (x55).toInt.toNat = k.toInt.toNat + 1 from by omega]; first | (rw [thk_y (by omega)]; omega) | (rw [thk_n (by omega)]; omega)))
              · skip
                refine qw_aload rfl rfl ?_
                refine qw_getR (v := .inr (.inr (some 6))) rfl rfl rfl rfl rfl ?_
                refine qw_const rfl ?_
                refine qw_const rfl ?_
                refine qw_iload rfl rfl ?_
                first | refine qw_imul rfl (c := 2) rfl (by omega) (fun x56 tx56 => ?_) | refine qw_iiU rfl (fun x56 tx56 => ?_)
                first | refine qw_iadd rfl (by omega) (fun x57 tx57 => ?_) | refine qw_iiU rfl (fun x57 tx57 => ?_)
                refine qw_const rfl ?_
                first | refine qw_iadd rfl (by omega) (fun x58 tx58 => ?_) | refine qw_iiU rfl (fun x58 tx58 => ?_)
                refine qm_iald rfl rfl (fun jx59 x59 ex59 => ?_)
                have rt : x59.toInt = V (92 + 2 * k.toInt.toNat) := by rw [ex59, show (x58).toInt.toNat = 92 + 2 * k.toInt.toNat from by omega]; exact hV _ (by omega) (by omega)
                have bt := (hG.2.2.2.2.2.2 k.toInt.toNat (by omega)).2
                refine qw_goto rfl ?_
                first | refine qw_iadd rfl (by omega) (fun x60 tx60 => ?_) | refine qw_iiU rfl (fun x60 tx60 => ?_)
                refine qw_istore (lo' := [some (.inr (.inr (some 0))), some (.inl i), some (.inl j), some (.inl p0), some (.inl q0), some (.inl x60), some (.inl k), some (.inl x11), some (.inl 0)]) rfl rfl ?_
                refine qw_iinc (lo' := fun z9 => [some (.inr (.inr (some 0))), some (.inl i), some (.inl j), some (.inl p0), some (.inl q0), some (.inl x60), some (.inl z9), some (.inl x11), some (.inl 0)]) rfl rfl (fun _ => rfl) (by omega) (fun x61 tx61 => ?_)
                exact qw_gotoD rfl (ih21 p0 q0 x60 x61 (some (.inl x11)) (some (.inl 0))  (hp) (hq) (by omega) (by omega) (by rw [show (x61).toInt.toNat = k.toInt.toNat + 1 from by omega]; first | (rw [thk_y (by omega)]; omega) | (rw [thk_n (by omega)]; omega)))
            · skip
              refine qw_iload rfl rfl ?_
              refine qw_iload rfl rfl ?_
              refine qw_ic_ge rfl (fun c62 => ?_) (fun c62 => ?_)
              · skip
                refine qw_const rfl ?_
                refine qw_istore (lo' := [some (.inr (.inr (some 0))), some (.inl i), some (.inl j), some (.inl p0), some (.inl q0), some (.inl th), some (.inl k), some (.inl x11), some (.inl 0)]) rfl rfl ?_
                refine qw_iload rfl rfl ?_
                refine qw_iload rfl rfl ?_
                refine qw_if_eq rfl (fun c63 => ?_) (fun c63 => ?_)
                · skip
                  refine qw_const rfl ?_
                  first | refine qw_iadd rfl (by omega) (fun x64 tx64 => ?_) | refine qw_iiU rfl (fun x64 tx64 => ?_)
                  refine qw_istore (lo' := [some (.inr (.inr (some 0))), some (.inl i), some (.inl j), some (.inl p0), some (.inl q0), some (.inl x64), some (.inl k), some (.inl x11), some (.inl 0)]) rfl rfl ?_
                  refine qw_iinc (lo' := fun z9 => [some (.inr (.inr (some 0))), some (.inl i), some (.inl j), some (.inl p0), some (.inl q0), some (.inl x64), some (.inl z9), some (.inl x11), some (.inl 0)]) rfl rfl (fun _ => rfl) (by omega) (fun x65 tx65 => ?_)
                  exact qw_gotoD rfl (ih21 p0 q0 x64 x65 (some (.inl x11)) (some (.inl 0))  (hp) (hq) (by omega) (by omega) (by rw [show (x65).toInt.toNat = k.toInt.toNat + 1 from by omega]; first | (rw [thk_y (by omega)]; omega) | (rw [thk_n (by omega)]; omega)))
                · skip
                  refine qw_aload rfl rfl ?_
                  refine qw_getR (v := .inr (.inr (some 6))) rfl rfl rfl rfl rfl ?_
                  refine qw_const rfl ?_
                  refine qw_const rfl ?_
                  refine qw_iload rfl rfl ?_
                  first | refine qw_imul rfl (c := 2) rfl (by omega) (fun x66 tx66 => ?_) | refine qw_iiU rfl (fun x66 tx66 => ?_)
                  first | refine qw_iadd rfl (by omega) (fun x67 tx67 => ?_) | refine qw_iiU rfl (fun x67 tx67 => ?_)
                  refine qw_const rfl ?_
                  first | refine qw_iadd rfl (by omega) (fun x68 tx68 => ?_) | refine qw_iiU rfl (fun x68 tx68 => ?_)
                  refine qm_iald rfl rfl (fun jx69 x69 ex69 => ?_)
                  have rt : x69.toInt = V (92 + 2 * k.toInt.toNat) := by rw [ex69, show (x68).toInt.toNat = 92 + 2 * k.toInt.toNat from by omega]; exact hV _ (by omega) (by omega)
                  have bt := (hG.2.2.2.2.2.2 k.toInt.toNat (by omega)).2
                  refine qw_goto rfl ?_
                  first | refine qw_iadd rfl (by omega) (fun x70 tx70 => ?_) | refine qw_iiU rfl (fun x70 tx70 => ?_)
                  refine qw_istore (lo' := [some (.inr (.inr (some 0))), some (.inl i), some (.inl j), some (.inl p0), some (.inl q0), some (.inl x70), some (.inl k), some (.inl x11), some (.inl 0)]) rfl rfl ?_
                  refine qw_iinc (lo' := fun z9 => [some (.inr (.inr (some 0))), some (.inl i), some (.inl j), some (.inl p0), some (.inl q0), some (.inl x70), some (.inl z9), some (.inl x11), some (.inl 0)]) rfl rfl (fun _ => rfl) (by omega) (fun x71 tx71 => ?_)
                  exact qw_gotoD rfl (ih21 p0 q0 x70 x71 (some (.inl x11)) (some (.inl 0))  (hp) (hq) (by omega) (by omega) (by rw [show (x71).toInt.toNat = k.toInt.toNat + 1 from by omega]; first | (rw [thk_y (by omega)]; omega) | (rw [thk_n (by omega)]; omega)))
              · skip
                refine qw_const rfl ?_
                refine qw_goto rfl ?_
                refine qw_istore (lo' := [some (.inr (.inr (some 0))), some (.inl i), some (.inl j), some (.inl p0), some (.inl q0), some (.inl th), some (.inl k), some (.inl x11), some (.inl 1)]) rfl rfl ?_
                refine qw_iload rfl rfl ?_
                refine qw_iload rfl rfl ?_
                refine qw_if_eq rfl (fun c72 => ?_) (fun c72 => ?_)
                · skip
                  refine qw_const rfl ?_
                  first | refine qw_iadd rfl (by omega) (fun x73 tx73 => ?_) | refine qw_iiU rfl (fun x73 tx73 => ?_)
                  refine qw_istore (lo' := [some (.inr (.inr (some 0))), some (.inl i), some (.inl j), some (.inl p0), some (.inl q0), some (.inl x73), some (.inl k), some (.inl x11), some (.inl 1)]) rfl rfl ?_
                  refine qw_iinc (lo' := fun z9 => [some (.inr (.inr (some 0))), some (.inl i), some (.inl j), some (.inl p0), some (.inl q0), some (.inl x73), some (.inl z9), some (.inl x11), some (.inl 1)]) rfl rfl (fun _ => rfl) (by omega) (fun x74 tx74 => ?_)
                  exact qw_gotoD rfl (ih21 p0 q0 x73 x74 (some (.inl x11)) (some (.inl 1))  (hp) (hq) (by omega) (by omega) (by rw [show (x74).toInt.toNat = k.toInt.toNat + 1 from by omega]; first | (rw [thk_y (by omega)]; omega) | (rw [thk_n (by omega)]; omega)))
                · skip
                  refine qw_aload rfl rfl ?_
                  refine qw_getR (v := .inr (.inr (some 6))) rfl rfl rfl rfl rfl ?_
                  refine qw_const rfl ?_
                  refine qw_const rfl ?_
                  refine qw_iload rfl rfl ?_
                  first | refine qw_imul rfl (c := 2) rfl (by omega) (fun x75 tx75 => ?_) | refine qw_iiU rfl (fun x75 tx75 => ?_)
                  first | refine qw_iadd rfl (by omega) (fun x76 tx76 => ?_) | refine qw_iiU rfl (fun x76 tx76 => ?_)
                  refine qw_const rfl ?_
                  first | refine qw_iadd rfl (by omega) (fun x77 tx77 => ?_) | refine qw_iiU rfl (fun x77 tx77 => ?_)
                  refine qm_iald rfl rfl (fun jx78 x78 ex78 => ?_)
                  have rt : x78.toInt = V (92 + 2 * k.toInt.toNat) := by rw [ex78, show (x77).toInt.toNat = 92 + 2 * k.toInt.toNat from by omega]; exact hV _ (by omega) (by omega)
                  have bt := (hG.2.2.2.2.2.2 k.toInt.toNat (by omega)).2
                  refine qw_goto rfl ?_
                  first | refine qw_iadd rfl (by omega) (fun x79 tx79 => ?_) | refine qw_iiU rfl (fun x79 tx79 => ?_)
                  refine qw_istore (lo' := [some (.inr (.inr (some 0))), some (.inl i), some (.inl j), some (.inl p0), some (.inl q0), some (.inl x79), some (.inl k), some (.inl x11), some (.inl 1)]) rfl rfl ?_
                  refine qw_iinc (lo' := fun z9 => [some (.inr (.inr (some 0))), some (.inl i), some (.inl j), some (.inl p0), some (.inl q0), some (.inl x79), some (.inl z9), some (.inl x11), some (.inl 1)]) rfl rfl (fun _ => rfl) (by omega) (fun x80 tx80 => ?_)
                  exact qw_gotoD rfl (ih21 p0 q0 x79 x80 (some (.inl x11)) (some (.inl 1))  (hp) (hq) (by omega) (by omega) (by rw [show (x80).toInt.toNat = k.toInt.toNat + 1 from by omega]; first | (rw [thk_y (by omega)]; omega) | (rw [thk_n (by omega)]; omega)))
  exact loop21 _ x3 x6 0 0 none none  (pi) (pj) (by omega) (by omega) (rfl)
set_option maxRecDepth 4000 in
theorem y_digOf {d : Nat} (a : Nat → Nat → Int32) (b : Nat → Nat → Int64) (V : Nat → Int)(i : Int32) (j : Int32) (hV : LRL V a) (hG : GV V) (hi : (0 ≤ i.toInt ∧ i.toInt < V 0)) (hj : (0 ≤ j.toInt ∧ j.toInt < V 0)) : f_pc mtM d 65 [.inr (.inr (some 0)), .inl i, .inl j] (mH a b) (fun v9 h' => h' = mH a b ∧ ∃ x : Int32, v9 = some (.inl x) ∧ (x.toInt = dgV V i.toInt.toNat j.toInt.toNat)) := by
  refine f_pc_of rfl (fun d0 fu hd => ?_)
  show f_pq _ _ (0, [some (.inr (.inr (some 0))), some (.inl i), some (.inl j), none], [], mH a b) _
  have l3 : (3 : Int32).toInt = 3 := rfl
  have g0 := hG.1
  have g1 := hG.2.1
  have v0 := hV 0 (by decide) (by omega)
  have v1 := hV 1 (by decide) (by omega)
  have bi : 0 ≤ V (7 + 14 * i.toInt.toNat + 3) ∧ V (7 + 14 * i.toInt.toNat + 3) ≤ 99 := (hG.2.2.2.2.2.1 i.toInt.toNat (by omega)).2.2.2.1
  have bj : 0 ≤ V (7 + 14 * j.toInt.toNat + 3) ∧ V (7 + 14 * j.toInt.toNat + 3) ≤ 99 := (hG.2.2.2.2.2.1 j.toInt.toNat (by omega)).2.2.2.1
  refine qw_aload rfl rfl ?_
  refine qw_iload rfl rfl ?_
  refine qw_const rfl ?_
  refine qw_invV (rest := []) rfl rfl rfl rfl rfl (Nat.le_of_ble_eq_true rfl) rfl (y_riverOf (d := d0) a b V i 3 (by omega) (by omega) (by omega)) (fun v1 h9 hq2 => ?_)
  obtain ⟨rfl, x3, rfl, px3⟩ := hq2
  show f_pq _ _ (6, [some (.inr (.inr (some 0))), some (.inl i), some (.inl j), none], [.inl x3], mH a b) _
  have pi : x3.toInt = V (7 + 14 * i.toInt.toNat + 3) := by have h9 := px3; exact h9
  refine qw_aload rfl rfl ?_
  refine qw_iload rfl rfl ?_
  refine qw_const rfl ?_
  refine qw_invV (rest := [.inl x3]) rfl rfl rfl rfl rfl (Nat.le_of_ble_eq_true rfl) rfl (y_riverOf (d := d0) a b V j 3 (by omega) (by omega) (by omega)) (fun v4 h9 hq5 => ?_)
  obtain ⟨rfl, x6, rfl, px6⟩ := hq5
  show f_pq _ _ (12, [some (.inr (.inr (some 0))), some (.inl i), some (.inl j), none], [.inl x6, .inl x3], mH a b) _
  have pj : x6.toInt = V (7 + 14 * j.toInt.toNat + 3) := by have h9 := px6; exact h9
  first | refine qw_isub rfl (by omega) (fun x7 tx7 => ?_) | refine qw_iiU rfl (fun x7 tx7 => ?_)
  refine qw_istore (lo' := [some (.inr (.inr (some 0))), some (.inl i), some (.inl j), some (.inl x7)]) rfl rfl ?_
  refine qw_iload rfl rfl ?_
  refine qw_if_ge rfl (fun c8 => ?_) (fun c8 => ?_)
  · skip
    refine qw_iload rfl rfl ?_
    refine qw_aload rfl rfl ?_
    refine qw_iload rfl rfl ?_
    refine qw_iload rfl rfl ?_
    refine qw_invV (rest := [.inl x7]) rfl rfl rfl rfl rfl (Nat.le_of_ble_eq_true rfl) rfl (y_between (d := d0) a b V i j (by omega) (by omega) (by omega) (by omega)) (fun v9 h9 hq10 => ?_)
    obtain ⟨rfl, x11, rfl, px11⟩ := hq10
    show f_pq _ _ (30, [some (.inr (.inr (some 0))), some (.inl i), some (.inl j), some (.inl x7)], [.inl x11, .inl x7], mH a b) _
    first | refine qw_iadd rfl (by omega) (fun x12 tx12 => ?_) | refine qw_iiU rfl (fun x12 tx12 => ?_)
    exact qwp_iret (z := false) rfl (fun h9 => by cases h9) ⟨rfl, ⟨_, rfl, by unfold dgV plc; split <;> omega⟩⟩
  · skip
    refine qw_iload rfl rfl ?_
    refine qw_i1U rfl (fun x13 tx13 => ?_)
    have n9 := neg_ti tx13 (by omega)
    refine qw_goto rfl ?_
    refine qw_aload rfl rfl ?_
    refine qw_iload rfl rfl ?_
    refine qw_iload rfl rfl ?_
    refine qw_invV (rest := [.inl x13]) rfl rfl rfl rfl rfl (Nat.le_of_ble_eq_true rfl) rfl (y_between (d := d0) a b V i j (by omega) (by omega) (by omega) (by omega)) (fun v14 h9 hq15 => ?_)
    obtain ⟨rfl, x16, rfl, px16⟩ := hq15
    show f_pq _ _ (30, [some (.inr (.inr (some 0))), some (.inl i), some (.inl j), some (.inl x7)], [.inl x16, .inl x13], mH a b) _
    first | refine qw_iadd rfl (by omega) (fun x17 tx17 => ?_) | refine qw_iiU rfl (fun x17 tx17 => ?_)
    exact qwp_iret (z := false) rfl (fun h9 => by cases h9) ⟨rfl, ⟨_, rfl, by unfold dgV plc; split <;> omega⟩⟩
set_option maxRecDepth 4000 in
theorem y_dig {d : Nat} (a : Nat → Nat → Int32) (b : Nat → Nat → Int64) (V : Nat → Int)(i : Int32) (j : Int32) (hV : LRL V a) (hG : GV V) : f_pc mtM d 66 [.inr (.inr (some 0)), .inl i, .inl j] (mH a b) (fun v9 h' => ∃ (a' : Nat → Nat → Int32), h' = mH a' b ∧ (FR [0] a a' ∧ True) ∧ ∃ x : Int32, v9 = some (.inl x) ∧ (DIGR V i j x)) := by
  refine f_pc_of rfl (fun d0 fu hd => ?_)
  show f_pq _ _ (0, [some (.inr (.inr (some 0))), some (.inl i), some (.inl j)], [], mH a b) _
  have lm1 : (-1 : Int32).toInt = -1 := rfl
  have l0 : (0 : Int32).toInt = 0 := rfl
  refine qw_aload rfl rfl ?_
  refine qw_const rfl ?_
  refine qm_putI (z := false) rfl rfl rfl rfl (by first | (intro h9; cases h9; done) | (intro _; first | exact Or.inl rfl | exact Or.inr rfl | assumption)) (fun a1 ea1 => ?_)
  have ua1_0 : a1 0 0 = (0 : Int32) := by rw [ea1, mU_same]
  have wa1_0 := congrArg Int32.toInt ua1_0
  have hV1 := hV.same (a' := a1) (fun _ _ => by rw [ea1, mU_cell (by decide)])
  refine qw_aload rfl rfl ?_
  refine qw_iload rfl rfl ?_
  refine qw_invV (rest := []) rfl rfl rfl rfl rfl (Nat.le_of_ble_eq_true rfl) rfl (y_isRiver (d := d0) a1 b V i (hV1)) (fun v2 h9 hq3 => ?_)
  obtain ⟨rfl, x4, rfl, px4⟩ := hq3
  show f_pq _ _ (10, [some (.inr (.inr (some 0))), some (.inl i), some (.inl j)], [.inl x4], mH a1 b) _
  refine qw_if_eq rfl (fun c5 => ?_) (fun c5 => ?_)
  · skip
    refine qw_const rfl ?_
    exact qwp_iret (z := false) rfl (fun h9 => by cases h9) ⟨a1, rfl, ⟨FR.up (FR.rf) (by decide) ea1, trivial⟩, ⟨_, rfl, Or.inr ⟨by omega, rfl⟩⟩⟩
  · skip
    refine qw_aload rfl rfl ?_
    refine qw_iload rfl rfl ?_
    refine qw_invV (rest := []) rfl rfl rfl rfl rfl (Nat.le_of_ble_eq_true rfl) rfl (y_isRiver (d := d0) a1 b V j (hV1)) (fun v6 h9 hq7 => ?_)
    obtain ⟨rfl, x8, rfl, px8⟩ := hq7
    show f_pq _ _ (18, [some (.inr (.inr (some 0))), some (.inl i), some (.inl j)], [.inl x8], mH a1 b) _
    refine qw_if_eq rfl (fun c9 => ?_) (fun c9 => ?_)
    · skip
      refine qw_const rfl ?_
      exact qwp_iret (z := false) rfl (fun h9 => by cases h9) ⟨a1, rfl, ⟨FR.up (FR.rf) (by decide) ea1, trivial⟩, ⟨_, rfl, Or.inr ⟨by omega, rfl⟩⟩⟩
    · skip
      refine qw_iload rfl rfl ?_
      refine qw_iload rfl rfl ?_
      refine qw_ic_eq rfl (fun c10 => ?_) (fun c10 => ?_)
      · skip
        refine qw_const rfl ?_
        exact qwp_iret (z := false) rfl (fun h9 => by cases h9) ⟨a1, rfl, ⟨FR.up (FR.rf) (by decide) ea1, trivial⟩, ⟨_, rfl, Or.inr ⟨by omega, rfl⟩⟩⟩
      · skip
        refine qw_aload rfl rfl ?_
        refine qw_iload rfl rfl ?_
        refine qw_iload rfl rfl ?_
        refine qw_invV (rest := []) rfl rfl rfl rfl rfl (Nat.le_of_ble_eq_true rfl) rfl (y_digOf (d := d0) a1 b V i j (hV1) (hG) (by omega) (by omega)) (fun v11 h9 hq12 => ?_)
        obtain ⟨rfl, x13, rfl, px13⟩ := hq12
        show f_pq _ _ (32, [some (.inr (.inr (some 0))), some (.inl i), some (.inl j)], [.inl x13], mH a1 b) _
        have D9 := px13
        refine qw_goto rfl ?_
        exact qwp_iret (z := false) rfl (fun h9 => by cases h9) ⟨a1, rfl, ⟨FR.up (FR.rf) (by decide) ea1, trivial⟩, ⟨_, rfl, Or.inl ⟨by omega, D9⟩⟩⟩
set_option maxHeartbeats 4000000 in
set_option maxRecDepth 4000 in
theorem y_nearOf {d : Nat} (a : Nat → Nat → Int32) (b : Nat → Nat → Int64) (V : Nat → Int)(i : Int32) (j : Int32) (hV : LRL V a) (hG : GV V) (hi : (0 ≤ i.toInt ∧ i.toInt < V 0)) (hj : (0 ≤ j.toInt ∧ j.toInt < V 0)) : f_pc mtM d 62 [.inr (.inr (some 0)), .inl i, .inl j] (mH a b) (fun v9 h' => ∃ (a' : Nat → Nat → Int32), h' = mH a' b ∧ (FR [17] a a' ∧ True) ∧ ∃ x : Int32, v9 = some (.inl x) ∧ (x.toInt = FW V 6 (6 * i.toInt.toNat + j.toInt.toNat))) := by
  refine f_pc_of rfl (fun d0 fu hd => ?_)
  show f_pq _ _ (0, [some (.inr (.inr (some 0))), some (.inl i), some (.inl j), none, none, none, none], [], mH a b) _
  have l0 : (0 : Int32).toInt = 0 := rfl
  have l1 : (1 : Int32).toInt = 1 := rfl
  have l6 : (6 : Int32).toInt = 6 := rfl
  have l12 : (12 : Int32).toInt = 12 := rfl
  have l36 : (36 : Int32).toInt = 36 := rfl
  have l99 : (99 : Int32).toInt = 99 := rfl
  have g0 := hG.1
  have g1 := hG.2.1
  have v0 := hV 0 (by decide) (by omega)
  have v1 := hV 1 (by decide) (by omega)
  refine qw_const rfl ?_
  refine qw_istore (lo' := [some (.inr (.inr (some 0))), some (.inl i), some (.inl j), some (.inl 0), none, none, none]) rfl rfl ?_
  have loop2 : ∀ (fu2 : Nat) (k : Int32) (a2 : Nat → Nat → Int32) (o4_2 : Option f_V) (o5_2 : Option f_V) (o6_2 : Option f_V),  FR [17] a a2 →(0 ≤ k.toInt ∧ k.toInt ≤ 36) → (a2 6 = a 6) → (∀ q, q < k.toInt.toNat → (a2 17 q).toInt = FW V 0 q) → f_pq (f_code (t_X13_nearOf (f_ev mtM d0))) fu2 (2, [some (.inr (.inr (some 0))), some (.inl i), some (.inl j), some (.inl k), o4_2, o5_2, o6_2], [], mH a2 b) (fun v9 h' => ∃ (a' : Nat → Nat → Int32), h' = mH a' b ∧ (FR [17] a a' ∧ True) ∧ ∃ x : Int32, v9 = some (.inl x) ∧ (x.toInt = FW V 6 (6 * i.toInt.toNat + j.toInt.toNat))) := by
    intro fu2
    induction fu2 with
    | zero => intros; exact pq_0
    | succ fu2 ih2 =>
      intro k a2 o4_2 o5_2 o6_2 hF2 hk hA hF
      have hV2 := hV.same (a' := a2) (fun _ _ => by rw [hA])
      refine qw_iload rfl rfl ?_
      refine qw_const rfl ?_
      refine qw_ic_ge rfl (fun c1 => ?_) (fun c1 => ?_)
      · skip
        refine qw_const rfl ?_
        refine qw_istore (lo' := [some (.inr (.inr (some 0))), some (.inl i), some (.inl j), some (.inl 0), o4_2, o5_2, o6_2]) rfl rfl ?_
        have loop107 : ∀ (fu107 : Nat) (k : Int32) (a107 : Nat → Nat → Int32) (o4_107 : Option f_V) (o5_107 : Option f_V),  FR [17] a a107 →(0 ≤ k.toInt ∧ k.toInt ≤ 6) → (∀ q, q < 36 → (a107 17 q).toInt = FW V k.toInt.toNat q) → f_pq (f_code (t_X13_nearOf (f_ev mtM d0))) fu107 (107, [some (.inr (.inr (some 0))), some (.inl i), some (.inl j), some (.inl k), o4_107, o5_107, o6_2], [], mH a107 b) (fun v9 h' => ∃ (a' : Nat → Nat → Int32), h' = mH a' b ∧ (FR [17] a a' ∧ True) ∧ ∃ x : Int32, v9 = some (.inl x) ∧ (x.toInt = FW V 6 (6 * i.toInt.toNat + j.toInt.toNat))) := by
          intro fu107
          induction fu107 with
          | zero => intros; exact pq_0
          | succ fu107 ih107 =>
            intro k a107 o4_107 o5_107 hF107 hk hF
            refine qw_iload rfl rfl ?_
            refine qw_const rfl ?_
            refine qw_ic_ge rfl (fun c2 => ?_) (fun c2 => ?_)
            · skip
              refine qw_aload rfl rfl ?_
              refine qw_getR (v := .inr (.inr (some 17))) rfl rfl rfl rfl rfl ?_
              refine qw_const rfl ?_
              refine qw_iload rfl rfl ?_
              first | refine qw_imul rfl (c := 6) rfl (by omega) (fun x3 tx3 => ?_) | refine qw_iiU rfl (fun x3 tx3 => ?_)
              refine qw_iload rfl rfl ?_
              first | refine qw_iadd rfl (by omega) (fun x4 tx4 => ?_) | refine qw_iiU rfl (fun x4 tx4 => ?_)
              refine qm_iald rfl rfl (fun jx5 x5 ex5 => ?_)
              have y5 : x5.toInt = FW V 6 (6 * i.toInt.toNat + j.toInt.toNat) := by rw [ex5, show (x4).toInt.toNat = 6 * i.toInt.toNat + j.toInt.toNat from by omega, hF _ (by omega), show k.toInt.toNat = 6 from by omega]
              exact qwp_iret (z := false) rfl (fun h9 => by cases h9) ⟨a107, rfl, ⟨hF107, trivial⟩, ⟨_, rfl, by omega⟩⟩
            · skip
              refine qw_const rfl ?_
              refine qw_istore (lo' := [some (.inr (.inr (some 0))), some (.inl i), some (.inl j), some (.inl k), some (.inl 0), o5_107, o6_2]) rfl rfl ?_
              have loop116 : ∀ (fu116 : Nat) , fu116 ≤ (fu107 + 1) → ∀ (m : Int32) (a116 : Nat → Nat → Int32) (o5_116 : Option f_V),  FR [17] a a116 →(0 ≤ m.toInt ∧ m.toInt ≤ 36) → (∀ q, q < m.toInt.toNat → (a116 17 q).toInt = FW V (k.toInt.toNat + 1) q) → (∀ q, m.toInt.toNat ≤ q → q < 36 → (a116 17 q).toInt = FW V k.toInt.toNat q) → f_pq (f_code (t_X13_nearOf (f_ev mtM d0))) fu116 (116, [some (.inr (.inr (some 0))), some (.inl i), some (.inl j), some (.inl k), some (.inl m), o5_116, o6_2], [], mH a116 b) (fun v9 h' => ∃ (a' : Nat → Nat → Int32), h' = mH a' b ∧ (FR [17] a a' ∧ True) ∧ ∃ x : Int32, v9 = some (.inl x) ∧ (x.toInt = FW V 6 (6 * i.toInt.toNat + j.toInt.toNat))) := by
                intro fu116
                induction fu116 with
                | zero => intros; exact pq_0
                | succ fu116 ih116 =>
                  intro hle116
                  intro m a116 o5_116 hF116 hm hF1 hF2
                  refine qw_iload rfl rfl ?_
                  refine qw_const rfl ?_
                  refine qw_ic_ge rfl (fun c6 => ?_) (fun c6 => ?_)
                  · skip
                    refine qw_iinc (lo' := fun z9 => [some (.inr (.inr (some 0))), some (.inl i), some (.inl j), some (.inl z9), some (.inl m), o5_116, o6_2]) rfl rfl (fun _ => rfl) (by omega) (fun x7 tx7 => ?_)
                    exact qw_gotoD rfl (pq_le (by omega) (ih107 x7 a116 (some (.inl m)) o5_116 (hF116) (by omega) (by rw [show (x7).toInt.toNat = k.toInt.toNat + 1 from by omega]; exact fun q hq => hF1 q (by omega))))
                  · skip
                    refine qw_aload rfl rfl ?_
                    refine qw_getR (v := .inr (.inr (some 17))) rfl rfl rfl rfl rfl ?_
                    refine qw_iload rfl rfl ?_
                    refine qw_const rfl ?_
                    refine qw_idiv (c := 6) rfl rfl (by decide) (by omega) (fun x8 tx8 => ?_)
                    refine qw_const rfl ?_
                    first | refine qw_imulR rfl (c := 6) rfl (by omega) (fun x9 tx9 => ?_) | refine qw_iiU rfl (fun x9 tx9 => ?_)
                    refine qw_iload rfl rfl ?_
                    first | refine qw_iadd rfl (by omega) (fun x10 tx10 => ?_) | refine qw_iiU rfl (fun x10 tx10 => ?_)
                    refine qm_iald rfl rfl (fun jx11 x11 ex11 => ?_)
                    have y1 : x11.toInt = FW V k.toInt.toNat (m.toInt.toNat / 6 * 6 + k.toInt.toNat) := by rw [ex11, show (x10).toInt.toNat = m.toInt.toNat / 6 * 6 + k.toInt.toNat from by omega]; rcases (by omega : m.toInt.toNat / 6 * 6 + k.toInt.toNat < m.toInt.toNat ∨ m.toInt.toNat ≤ m.toInt.toNat / 6 * 6 + k.toInt.toNat) with h | h; (rw [hF1 _ h, FW_col (by omega)]); exact hF2 _ h (by omega)
                    have z1 := FW_r (V := V) k.toInt.toNat (m.toInt.toNat / 6 * 6 + k.toInt.toNat)
                    refine qw_aload rfl rfl ?_
                    refine qw_getR (v := .inr (.inr (some 17))) rfl rfl rfl rfl rfl ?_
                    refine qw_const rfl ?_
                    refine qw_iload rfl rfl ?_
                    first | refine qw_imul rfl (c := 6) rfl (by omega) (fun x12 tx12 => ?_) | refine qw_iiU rfl (fun x12 tx12 => ?_)
                    refine qw_iload rfl rfl ?_
                    refine qw_const rfl ?_
                    refine qw_irem (c := 6) rfl rfl (by decide) (by omega) (fun x13 tx13 => ?_)
                    first | refine qw_iadd rfl (by omega) (fun x14 tx14 => ?_) | refine qw_iiU rfl (fun x14 tx14 => ?_)
                    refine qm_iald rfl rfl (fun jx15 x15 ex15 => ?_)
                    have y2 : x15.toInt = FW V k.toInt.toNat (6 * k.toInt.toNat + m.toInt.toNat % 6) := by rw [ex15, show (x14).toInt.toNat = 6 * k.toInt.toNat + m.toInt.toNat % 6 from by omega]; rcases (by omega : 6 * k.toInt.toNat + m.toInt.toNat % 6 < m.toInt.toNat ∨ m.toInt.toNat ≤ 6 * k.toInt.toNat + m.toInt.toNat % 6) with h | h; (rw [hF1 _ h, FW_row (by omega) (by omega)]); exact hF2 _ h (by omega)
                    have z2 := FW_r (V := V) k.toInt.toNat (6 * k.toInt.toNat + m.toInt.toNat % 6)
                    first | refine qw_iadd rfl (by omega) (fun x16 tx16 => ?_) | refine qw_iiU rfl (fun x16 tx16 => ?_)
                    refine qw_istore (lo' := [some (.inr (.inr (some 0))), some (.inl i), some (.inl j), some (.inl k), some (.inl m), some (.inl x16), o6_2]) rfl rfl ?_
                    refine qw_aload rfl rfl ?_
                    refine qw_getR (v := .inr (.inr (some 17))) rfl rfl rfl rfl rfl ?_
                    refine qw_iload rfl rfl ?_
                    refine qw_iload rfl rfl ?_
                    refine qw_aload rfl rfl ?_
                    refine qw_getR (v := .inr (.inr (some 17))) rfl rfl rfl rfl rfl ?_
                    refine qw_iload rfl rfl ?_
                    refine qm_iald rfl rfl (fun jx17 x17 ex17 => ?_)
                    have y3 : x17.toInt = FW V k.toInt.toNat m.toInt.toNat := by rw [ex17]; exact hF2 _ (Nat.le_refl _) (by omega)
                    refine qw_ic_ge rfl (fun c18 => ?_) (fun c18 => ?_)
                    · skip
                      refine qw_aload rfl rfl ?_
                      refine qw_getR (v := .inr (.inr (some 17))) rfl rfl rfl rfl rfl ?_
                      refine qw_iload rfl rfl ?_
                      refine qm_iald rfl rfl (fun jx19 x19 ex19 => ?_)
                      have y4 : x19.toInt = FW V k.toInt.toNat m.toInt.toNat := by rw [ex19]; exact hF2 _ (Nat.le_refl _) (by omega)
                      refine qm_iast rfl rfl (fun ja20 a20 ea20 => ?_)
                      refine qw_iinc (lo' := fun z9 => [some (.inr (.inr (some 0))), some (.inl i), some (.inl j), some (.inl k), some (.inl z9), some (.inl x16), o6_2]) rfl rfl (fun _ => rfl) (by omega) (fun x21 tx21 => ?_)
                      exact qw_gotoD rfl (ih116 (by omega) x21 a20 (some (.inl x16)) (FR.up (hF116) (by decide) ea20) (by omega) (fun q hq => by rw [ea20, mU_get]; by_cases h : q = m.toInt.toNat; (rw [if_pos ⟨rfl, h⟩, h, FW_s]; first | (rw [if_pos (by omega)]; omega) | (rw [if_neg (by omega)]; omega)); (rw [if_neg (by omega)]; exact hF1 q (by omega))) (fun q h1 hq => by rw [ea20, mU_slot (by omega)]; exact hF2 q (by omega) hq))
                    · skip
                      refine qw_iload rfl rfl ?_
                      refine qw_goto rfl ?_
                      refine qm_iast rfl rfl (fun ja22 a22 ea22 => ?_)
                      refine qw_iinc (lo' := fun z9 => [some (.inr (.inr (some 0))), some (.inl i), some (.inl j), some (.inl k), some (.inl z9), some (.inl x16), o6_2]) rfl rfl (fun _ => rfl) (by omega) (fun x23 tx23 => ?_)
                      exact qw_gotoD rfl (ih116 (by omega) x23 a22 (some (.inl x16)) (FR.up (hF116) (by decide) ea22) (by omega) (fun q hq => by rw [ea22, mU_get]; by_cases h : q = m.toInt.toNat; (rw [if_pos ⟨rfl, h⟩, h, FW_s]; first | (rw [if_pos (by omega)]; omega) | (rw [if_neg (by omega)]; omega)); (rw [if_neg (by omega)]; exact hF1 q (by omega))) (fun q h1 hq => by rw [ea22, mU_slot (by omega)]; exact hF2 q (by omega) hq))
              exact loop116 _ (Nat.le_refl _) 0 a107 o5_107 (hF107) (by omega) (fun q hq => absurd hq (by omega)) (fun q _ hq => hF q hq)
        exact loop107 _ 0 a2 o4_2 o5_2 (hF2) (by omega) (fun q hq => hF q (by omega))
      · skip
        refine qw_iload rfl rfl ?_
        refine qw_const rfl ?_
        refine qw_idiv (c := 6) rfl rfl (by decide) (by omega) (fun x24 tx24 => ?_)
        refine qw_istore (lo' := [some (.inr (.inr (some 0))), some (.inl i), some (.inl j), some (.inl k), some (.inl x24), o5_2, o6_2]) rfl rfl ?_
        refine qw_iload rfl rfl ?_
        refine qw_const rfl ?_
        refine qw_irem (c := 6) rfl rfl (by decide) (by omega) (fun x25 tx25 => ?_)
        refine qw_istore (lo' := [some (.inr (.inr (some 0))), some (.inl i), some (.inl j), some (.inl k), some (.inl x24), some (.inl x25), o6_2]) rfl rfl ?_
        refine qw_iload rfl rfl ?_
        refine qw_aload rfl rfl ?_
        refine qw_invV (rest := [.inl x24]) rfl rfl rfl rfl rfl (Nat.le_of_ble_eq_true rfl) rfl (y_rivers (d := d0) a2 b V  (hV2)) (fun v26 h9 hq27 => ?_)
        obtain ⟨rfl, x28, rfl, px28⟩ := hq27
        show f_pq _ _ (26, [some (.inr (.inr (some 0))), some (.inl i), some (.inl j), some (.inl k), some (.inl x24), some (.inl x25), o6_2], [.inl x28, .inl x24], mH a2 b) _
        refine qw_ic_ge rfl (fun c29 => ?_) (fun c29 => ?_)
        · skip
          refine qw_const rfl ?_
          refine qw_istore (lo' := [some (.inr (.inr (some 0))), some (.inl i), some (.inl j), some (.inl k), some (.inl x24), some (.inl x25), some (.inl 0)]) rfl rfl ?_
          refine qw_aload rfl rfl ?_
          refine qw_getR (v := .inr (.inr (some 17))) rfl rfl rfl rfl rfl ?_
          refine qw_iload rfl rfl ?_
          refine qw_iload rfl rfl ?_
          refine qw_iload rfl rfl ?_
          refine qw_ic_ne rfl (fun c30 => ?_) (fun c30 => ?_)
          · skip
            refine qw_const rfl ?_
            refine qw_goto rfl ?_
            refine qm_iast rfl rfl (fun ja31 a31 ea31 => ?_)
            refine qw_iinc (lo' := fun z9 => [some (.inr (.inr (some 0))), some (.inl i), some (.inl j), some (.inl z9), some (.inl x24), some (.inl x25), some (.inl 0)]) rfl rfl (fun _ => rfl) (by omega) (fun x32 tx32 => ?_)
            exact qw_gotoD rfl (ih2 x32 a31 (some (.inl x24)) (some (.inl x25)) (some (.inl 0)) (FR.up (hF2) (by decide) ea31) (by omega) (by rw [ea31, mU_cell (by decide)]; exact hA) (fun q hq => by rw [ea31, mU_get]; by_cases h : q = k.toInt.toNat; (rw [if_pos ⟨rfl, h⟩, h]; show _ = adjV V (k.toInt.toNat / 6) (k.toInt.toNat % 6); unfold adjV; first | (rw [if_pos (by omega)]; omega) | (rw [if_neg (by omega), if_pos (by omega)]; omega) | (rw [if_neg (by omega), if_neg (by omega)]; omega)); (rw [if_neg (by omega)]; exact hF q (by omega))))
          · skip
            refine qw_iload rfl rfl ?_
            refine qw_if_eq rfl (fun c33 => ?_) (fun c33 => ?_)
            · skip
              refine qw_const rfl ?_
              refine qm_iast rfl rfl (fun ja34 a34 ea34 => ?_)
              refine qw_iinc (lo' := fun z9 => [some (.inr (.inr (some 0))), some (.inl i), some (.inl j), some (.inl z9), some (.inl x24), some (.inl x25), some (.inl 0)]) rfl rfl (fun _ => rfl) (by omega) (fun x35 tx35 => ?_)
              exact qw_gotoD rfl (ih2 x35 a34 (some (.inl x24)) (some (.inl x25)) (some (.inl 0)) (FR.up (hF2) (by decide) ea34) (by omega) (by rw [ea34, mU_cell (by decide)]; exact hA) (fun q hq => by rw [ea34, mU_get]; by_cases h : q = k.toInt.toNat; (rw [if_pos ⟨rfl, h⟩, h]; show _ = adjV V (k.toInt.toNat / 6) (k.toInt.toNat % 6); unfold adjV; first | (rw [if_pos (by omega)]; omega) | (rw [if_neg (by omega), if_pos (by omega)]; omega) | (rw [if_neg (by omega), if_neg (by omega)]; omega)); (rw [if_neg (by omega)]; exact hF q (by omega))))
            · skip
              refine qw_const rfl ?_
              refine qw_goto rfl ?_
              refine qm_iast rfl rfl (fun ja36 a36 ea36 => ?_)
              refine qw_iinc (lo' := fun z9 => [some (.inr (.inr (some 0))), some (.inl i), some (.inl j), some (.inl z9), some (.inl x24), some (.inl x25), some (.inl 0)]) rfl rfl (fun _ => rfl) (by omega) (fun x37 tx37 => ?_)
              exact qw_gotoD rfl (ih2 x37 a36 (some (.inl x24)) (some (.inl x25)) (some (.inl 0)) (FR.up (hF2) (by decide) ea36) (by omega) (by rw [ea36, mU_cell (by decide)]; exact hA) (fun q hq => by rw [ea36, mU_get]; by_cases h : q = k.toInt.toNat; (rw [if_pos ⟨rfl, h⟩, h]; show _ = adjV V (k.toInt.toNat / 6) (k.toInt.toNat % 6); unfold adjV; first | (rw [if_pos (by omega)]; omega) | (rw [if_neg (by omega), if_pos (by omega)]; omega) | (rw [if_neg (by omega), if_neg (by omega)]; omega)); (rw [if_neg (by omega)]; exact hF q (by omega))))
        · skip
          refine qw_iload rfl rfl ?_
          refine qw_aload rfl rfl ?_
          refine qw_invV (rest := [.inl x25]) rfl rfl rfl rfl rfl (Nat.le_of_ble_eq_true rfl) rfl (y_rivers (d := d0) a2 b V  (hV2)) (fun v38 h9 hq39 => ?_)
          obtain ⟨rfl, x40, rfl, px40⟩ := hq39
          show f_pq _ _ (35, [some (.inr (.inr (some 0))), some (.inl i), some (.inl j), some (.inl k), some (.inl x24), some (.inl x25), o6_2], [.inl x40, .inl x25], mH a2 b) _
          refine qw_ic_ge rfl (fun c41 => ?_) (fun c41 => ?_)
          · skip
            refine qw_const rfl ?_
            refine qw_istore (lo' := [some (.inr (.inr (some 0))), some (.inl i), some (.inl j), some (.inl k), some (.inl x24), some (.inl x25), some (.inl 0)]) rfl rfl ?_
            refine qw_aload rfl rfl ?_
            refine qw_getR (v := .inr (.inr (some 17))) rfl rfl rfl rfl rfl ?_
            refine qw_iload rfl rfl ?_
            refine qw_iload rfl rfl ?_
            refine qw_iload rfl rfl ?_
            refine qw_ic_ne rfl (fun c42 => ?_) (fun c42 => ?_)
            · skip
              refine qw_const rfl ?_
              refine qw_goto rfl ?_
              refine qm_iast rfl rfl (fun ja43 a43 ea43 => ?_)
              refine qw_iinc (lo' := fun z9 => [some (.inr (.inr (some 0))), some (.inl i), some (.inl j), some (.inl z9), some (.inl x24), some (.inl x25), some (.inl 0)]) rfl rfl (fun _ => rfl) (by omega) (fun x44 tx44 => ?_)
              exact qw_gotoD rfl (ih2 x44 a43 (some (.inl x24)) (some (.inl x25)) (some (.inl 0)) (FR.up (hF2) (by decide) ea43) (by omega) (by rw [ea43, mU_cell (by decide)]; exact hA) (fun q hq => by rw [ea43, mU_get]; by_cases h : q = k.toInt.toNat; (rw [if_pos ⟨rfl, h⟩, h]; show _ = adjV V (k.toInt.toNat / 6) (k.toInt.toNat % 6); unfold adjV; first | (rw [if_pos (by omega)]; omega) | (rw [if_neg (by omega), if_pos (by omega)]; omega) | (rw [if_neg (by omega), if_neg (by omega)]; omega)); (rw [if_neg (by omega)]; exact hF q (by omega))))
            · skip
              refine qw_iload rfl rfl ?_
              refine qw_if_eq rfl (fun c45 => ?_) (fun c45 => ?_)
              · skip
                refine qw_const rfl ?_
                refine qm_iast rfl rfl (fun ja46 a46 ea46 => ?_)
                refine qw_iinc (lo' := fun z9 => [some (.inr (.inr (some 0))), some (.inl i), some (.inl j), some (.inl z9), some (.inl x24), some (.inl x25), some (.inl 0)]) rfl rfl (fun _ => rfl) (by omega) (fun x47 tx47 => ?_)
                exact qw_gotoD rfl (ih2 x47 a46 (some (.inl x24)) (some (.inl x25)) (some (.inl 0)) (FR.up (hF2) (by decide) ea46) (by omega) (by rw [ea46, mU_cell (by decide)]; exact hA) (fun q hq => by rw [ea46, mU_get]; by_cases h : q = k.toInt.toNat; (rw [if_pos ⟨rfl, h⟩, h]; show _ = adjV V (k.toInt.toNat / 6) (k.toInt.toNat % 6); unfold adjV; first | (rw [if_pos (by omega)]; omega) | (rw [if_neg (by omega), if_pos (by omega)]; omega) | (rw [if_neg (by omega), if_neg (by omega)]; omega)); (rw [if_neg (by omega)]; exact hF q (by omega))))
              · skip
                refine qw_const rfl ?_
                refine qw_goto rfl ?_
                refine qm_iast rfl rfl (fun ja48 a48 ea48 => ?_)
                refine qw_iinc (lo' := fun z9 => [some (.inr (.inr (some 0))), some (.inl i), some (.inl j), some (.inl z9), some (.inl x24), some (.inl x25), some (.inl 0)]) rfl rfl (fun _ => rfl) (by omega) (fun x49 tx49 => ?_)
                exact qw_gotoD rfl (ih2 x49 a48 (some (.inl x24)) (some (.inl x25)) (some (.inl 0)) (FR.up (hF2) (by decide) ea48) (by omega) (by rw [ea48, mU_cell (by decide)]; exact hA) (fun q hq => by rw [ea48, mU_get]; by_cases h : q = k.toInt.toNat; (rw [if_pos ⟨rfl, h⟩, h]; show _ = adjV V (k.toInt.toNat / 6) (k.toInt.toNat % 6); unfold adjV; first | (rw [if_pos (by omega)]; omega) | (rw [if_neg (by omega), if_pos (by omega)]; omega) | (rw [if_neg (by omega), if_neg (by omega)]; omega)); (rw [if_neg (by omega)]; exact hF q (by omega))))
          · skip
            refine qw_aload rfl rfl ?_
            refine qw_iload rfl rfl ?_
            refine qw_const rfl ?_
            refine qw_invV (rest := []) rfl rfl rfl rfl rfl (Nat.le_of_ble_eq_true rfl) rfl (y_riverOf (d := d0) a2 b V x24 12 (hV2) (by omega) (by omega)) (fun v50 h9 hq51 => ?_)
            obtain ⟨rfl, x52, rfl, px52⟩ := hq51
            show f_pq _ _ (46, [some (.inr (.inr (some 0))), some (.inl i), some (.inl j), some (.inl k), some (.inl x24), some (.inl x25), o6_2], [.inl x52], mH a2 b) _
            have r43 : x52.toInt = V (7 + 14 * (k.toInt.toNat / 6) + 12) := by have h9 := px52; rw [show x24.toInt.toNat = k.toInt.toNat / 6 from by omega] at h9; exact h9
            refine qw_iload rfl rfl ?_
            refine qw_ic_eq rfl (fun c53 => ?_) (fun c53 => ?_)
            · skip
              refine qw_const rfl ?_
              refine qw_goto rfl ?_
              refine qw_istore (lo' := [some (.inr (.inr (some 0))), some (.inl i), some (.inl j), some (.inl k), some (.inl x24), some (.inl x25), some (.inl 1)]) rfl rfl ?_
              refine qw_aload rfl rfl ?_
              refine qw_getR (v := .inr (.inr (some 17))) rfl rfl rfl rfl rfl ?_
              refine qw_iload rfl rfl ?_
              refine qw_iload rfl rfl ?_
              refine qw_iload rfl rfl ?_
              refine qw_ic_ne rfl (fun c54 => ?_) (fun c54 => ?_)
              · skip
                refine qw_const rfl ?_
                refine qw_goto rfl ?_
                refine qm_iast rfl rfl (fun ja55 a55 ea55 => ?_)
                refine qw_iinc (lo' := fun z9 => [some (.inr (.inr (some 0))), some (.inl i), some (.inl j), some (.inl z9), some (.inl x24), some (.inl x25), some (.inl 1)]) rfl rfl (fun _ => rfl) (by omega) (fun x56 tx56 => ?_)
                exact qw_gotoD rfl (ih2 x56 a55 (some (.inl x24)) (some (.inl x25)) (some (.inl 1)) (FR.up (hF2) (by decide) ea55) (by omega) (by rw [ea55, mU_cell (by decide)]; exact hA) (fun q hq => by rw [ea55, mU_get]; by_cases h : q = k.toInt.toNat; (rw [if_pos ⟨rfl, h⟩, h]; show _ = adjV V (k.toInt.toNat / 6) (k.toInt.toNat % 6); unfold adjV; first | (rw [if_pos (by omega)]; omega) | (rw [if_neg (by omega), if_pos (by omega)]; omega) | (rw [if_neg (by omega), if_neg (by omega)]; omega)); (rw [if_neg (by omega)]; exact hF q (by omega))))
              · skip
                refine qw_iload rfl rfl ?_
                refine qw_if_eq rfl (fun c57 => ?_) (fun c57 => ?_)
                · skip
                  refine qw_const rfl ?_
                  refine qm_iast rfl rfl (fun ja58 a58 ea58 => ?_)
                  refine qw_iinc (lo' := fun z9 => [some (.inr (.inr (some 0))), some (.inl i), some (.inl j), some (.inl z9), some (.inl x24), some (.inl x25), some (.inl 1)]) rfl rfl (fun _ => rfl) (by omega) (fun x59 tx59 => ?_)
                  exact qw_gotoD rfl (ih2 x59 a58 (some (.inl x24)) (some (.inl x25)) (some (.inl 1)) (FR.up (hF2) (by decide) ea58) (by omega) (by rw [ea58, mU_cell (by decide)]; exact hA) (fun q hq => by rw [ea58, mU_get]; by_cases h : q = k.toInt.toNat; (rw [if_pos ⟨rfl, h⟩, h]; show _ = adjV V (k.toInt.toNat / 6) (k.toInt.toNat % 6); unfold adjV; first | (rw [if_pos (by omega)]; omega) | (rw [if_neg (by omega), if_pos (by omega)]; omega) | (rw [if_neg (by omega), if_neg (by omega)]; omega)); (rw [if_neg (by omega)]; exact hF q (by omega))))
                · skip
                  refine qw_const rfl ?_
                  refine qw_goto rfl ?_
                  refine qm_iast rfl rfl (fun ja60 a60 ea60 => ?_)
                  refine qw_iinc (lo' := fun z9 => [some (.inr (.inr (some 0))), some (.inl i), some (.inl j), some (.inl z9), some (.inl x24), some (.inl x25), some (.inl 1)]) rfl rfl (fun _ => rfl) (by omega) (fun x61 tx61 => ?_)
                  exact qw_gotoD rfl (ih2 x61 a60 (some (.inl x24)) (some (.inl x25)) (some (.inl 1)) (FR.up (hF2) (by decide) ea60) (by omega) (by rw [ea60, mU_cell (by decide)]; exact hA) (fun q hq => by rw [ea60, mU_get]; by_cases h : q = k.toInt.toNat; (rw [if_pos ⟨rfl, h⟩, h]; show _ = adjV V (k.toInt.toNat / 6) (k.toInt.toNat % 6); unfold adjV; first | (rw [if_pos (by omega)]; omega) | (rw [if_neg (by omega), if_pos (by omega)]; omega) | (rw [if_neg (by omega), if_neg (by omega)]; omega)); (rw [if_neg (by omega)]; exact hF q (by omega))))
            · skip
              refine qw_aload rfl rfl ?_
              refine qw_iload rfl rfl ?_
              refine qw_const rfl ?_
              refine qw_invV (rest := []) rfl rfl rfl rfl rfl (Nat.le_of_ble_eq_true rfl) rfl (y_riverOf (d := d0) a2 b V x25 12 (hV2) (by omega) (by omega)) (fun v62 h9 hq63 => ?_)
              obtain ⟨rfl, x64, rfl, px64⟩ := hq63
              show f_pq _ _ (59, [some (.inr (.inr (some 0))), some (.inl i), some (.inl j), some (.inl k), some (.inl x24), some (.inl x25), o6_2], [.inl x64], mH a2 b) _
              have r56 : x64.toInt = V (7 + 14 * (k.toInt.toNat % 6) + 12) := by have h9 := px64; rw [show x25.toInt.toNat = k.toInt.toNat % 6 from by omega] at h9; exact h9
              refine qw_iload rfl rfl ?_
              refine qw_ic_ne rfl (fun c65 => ?_) (fun c65 => ?_)
              · skip
                refine qw_const rfl ?_
                refine qw_goto rfl ?_
                refine qw_istore (lo' := [some (.inr (.inr (some 0))), some (.inl i), some (.inl j), some (.inl k), some (.inl x24), some (.inl x25), some (.inl 1)]) rfl rfl ?_
                refine qw_aload rfl rfl ?_
                refine qw_getR (v := .inr (.inr (some 17))) rfl rfl rfl rfl rfl ?_
                refine qw_iload rfl rfl ?_
                refine qw_iload rfl rfl ?_
                refine qw_iload rfl rfl ?_
                refine qw_ic_ne rfl (fun c66 => ?_) (fun c66 => ?_)
                · skip
                  refine qw_const rfl ?_
                  refine qw_goto rfl ?_
                  refine qm_iast rfl rfl (fun ja67 a67 ea67 => ?_)
                  refine qw_iinc (lo' := fun z9 => [some (.inr (.inr (some 0))), some (.inl i), some (.inl j), some (.inl z9), some (.inl x24), some (.inl x25), some (.inl 1)]) rfl rfl (fun _ => rfl) (by omega) (fun x68 tx68 => ?_)
                  exact qw_gotoD rfl (ih2 x68 a67 (some (.inl x24)) (some (.inl x25)) (some (.inl 1)) (FR.up (hF2) (by decide) ea67) (by omega) (by rw [ea67, mU_cell (by decide)]; exact hA) (fun q hq => by rw [ea67, mU_get]; by_cases h : q = k.toInt.toNat; (rw [if_pos ⟨rfl, h⟩, h]; show _ = adjV V (k.toInt.toNat / 6) (k.toInt.toNat % 6); unfold adjV; first | (rw [if_pos (by omega)]; omega) | (rw [if_neg (by omega), if_pos (by omega)]; omega) | (rw [if_neg (by omega), if_neg (by omega)]; omega)); (rw [if_neg (by omega)]; exact hF q (by omega))))
                · skip
                  refine qw_iload rfl rfl ?_
                  refine qw_if_eq rfl (fun c69 => ?_) (fun c69 => ?_)
                  · skip
                    refine qw_const rfl ?_
                    refine qm_iast rfl rfl (fun ja70 a70 ea70 => ?_)
                    refine qw_iinc (lo' := fun z9 => [some (.inr (.inr (some 0))), some (.inl i), some (.inl j), some (.inl z9), some (.inl x24), some (.inl x25), some (.inl 1)]) rfl rfl (fun _ => rfl) (by omega) (fun x71 tx71 => ?_)
                    exact qw_gotoD rfl (ih2 x71 a70 (some (.inl x24)) (some (.inl x25)) (some (.inl 1)) (FR.up (hF2) (by decide) ea70) (by omega) (by rw [ea70, mU_cell (by decide)]; exact hA) (fun q hq => by rw [ea70, mU_get]; by_cases h : q = k.toInt.toNat; (rw [if_pos ⟨rfl, h⟩, h]; show _ = adjV V (k.toInt.toNat / 6) (k.toInt.toNat % 6); unfold adjV; first | (rw [if_pos (by omega)]; omega) | (rw [if_neg (by omega), if_pos (by omega)]; omega) | (rw [if_neg (by omega), if_neg (by omega)]; omega)); (rw [if_neg (by omega)]; exact hF q (by omega))))
                  · skip
                    refine qw_const rfl ?_
                    refine qw_goto rfl ?_
                    refine qm_iast rfl rfl (fun ja72 a72 ea72 => ?_)
                    refine qw_iinc (lo' := fun z9 => [some (.inr (.inr (some 0))), some (.inl i), some (.inl j), some (.inl z9), some (.inl x24), some (.inl x25), some (.inl 1)]) rfl rfl (fun _ => rfl) (by omega) (fun x73 tx73 => ?_)
                    exact qw_gotoD rfl (ih2 x73 a72 (some (.inl x24)) (some (.inl x25)) (some (.inl 1)) (FR.up (hF2) (by decide) ea72) (by omega) (by rw [ea72, mU_cell (by decide)]; exact hA) (fun q hq => by rw [ea72, mU_get]; by_cases h : q = k.toInt.toNat; (rw [if_pos ⟨rfl, h⟩, h]; show _ = adjV V (k.toInt.toNat / 6) (k.toInt.toNat % 6); unfold adjV; first | (rw [if_pos (by omega)]; omega) | (rw [if_neg (by omega), if_pos (by omega)]; omega) | (rw [if_neg (by omega), if_neg (by omega)]; omega)); (rw [if_neg (by omega)]; exact hF q (by omega))))
              · skip
                refine qw_const rfl ?_
                refine qw_istore (lo' := [some (.inr (.inr (some 0))), some (.inl i), some (.inl j), some (.inl k), some (.inl x24), some (.inl x25), some (.inl 0)]) rfl rfl ?_
                refine qw_aload rfl rfl ?_
                refine qw_getR (v := .inr (.inr (some 17))) rfl rfl rfl rfl rfl ?_
                refine qw_iload rfl rfl ?_
                refine qw_iload rfl rfl ?_
                refine qw_iload rfl rfl ?_
                refine qw_ic_ne rfl (fun c74 => ?_) (fun c74 => ?_)
                · skip
                  refine qw_const rfl ?_
                  refine qw_goto rfl ?_
                  refine qm_iast rfl rfl (fun ja75 a75 ea75 => ?_)
                  refine qw_iinc (lo' := fun z9 => [some (.inr (.inr (some 0))), some (.inl i), some (.inl j), some (.inl z9), some (.inl x24), some (.inl x25), some (.inl 0)]) rfl rfl (fun _ => rfl) (by omega) (fun x76 tx76 => ?_)
                  exact qw_gotoD rfl (ih2 x76 a75 (some (.inl x24)) (some (.inl x25)) (some (.inl 0)) (FR.up (hF2) (by decide) ea75) (by omega) (by rw [ea75, mU_cell (by decide)]; exact hA) (fun q hq => by rw [ea75, mU_get]; by_cases h : q = k.toInt.toNat; (rw [if_pos ⟨rfl, h⟩, h]; show _ = adjV V (k.toInt.toNat / 6) (k.toInt.toNat % 6); unfold adjV; first | (rw [if_pos (by omega)]; omega) | (rw [if_neg (by omega), if_pos (by omega)]; omega) | (rw [if_neg (by omega), if_neg (by omega)]; omega)); (rw [if_neg (by omega)]; exact hF q (by omega))))
                · skip
                  refine qw_iload rfl rfl ?_
                  refine qw_if_eq rfl (fun c77 => ?_) (fun c77 => ?_)
                  · skip
                    refine qw_const rfl ?_
                    refine qm_iast rfl rfl (fun ja78 a78 ea78 => ?_)
                    refine qw_iinc (lo' := fun z9 => [some (.inr (.inr (some 0))), some (.inl i), some (.inl j), some (.inl z9), some (.inl x24), some (.inl x25), some (.inl 0)]) rfl rfl (fun _ => rfl) (by omega) (fun x79 tx79 => ?_)
                    exact qw_gotoD rfl (ih2 x79 a78 (some (.inl x24)) (some (.inl x25)) (some (.inl 0)) (FR.up (hF2) (by decide) ea78) (by omega) (by rw [ea78, mU_cell (by decide)]; exact hA) (fun q hq => by rw [ea78, mU_get]; by_cases h : q = k.toInt.toNat; (rw [if_pos ⟨rfl, h⟩, h]; show _ = adjV V (k.toInt.toNat / 6) (k.toInt.toNat % 6); unfold adjV; first | (rw [if_pos (by omega)]; omega) | (rw [if_neg (by omega), if_pos (by omega)]; omega) | (rw [if_neg (by omega), if_neg (by omega)]; omega)); (rw [if_neg (by omega)]; exact hF q (by omega))))
                  · skip
                    refine qw_const rfl ?_
                    refine qw_goto rfl ?_
                    refine qm_iast rfl rfl (fun ja80 a80 ea80 => ?_)
                    refine qw_iinc (lo' := fun z9 => [some (.inr (.inr (some 0))), some (.inl i), some (.inl j), some (.inl z9), some (.inl x24), some (.inl x25), some (.inl 0)]) rfl rfl (fun _ => rfl) (by omega) (fun x81 tx81 => ?_)
                    exact qw_gotoD rfl (ih2 x81 a80 (some (.inl x24)) (some (.inl x25)) (some (.inl 0)) (FR.up (hF2) (by decide) ea80) (by omega) (by rw [ea80, mU_cell (by decide)]; exact hA) (fun q hq => by rw [ea80, mU_get]; by_cases h : q = k.toInt.toNat; (rw [if_pos ⟨rfl, h⟩, h]; show _ = adjV V (k.toInt.toNat / 6) (k.toInt.toNat % 6); unfold adjV; first | (rw [if_pos (by omega)]; omega) | (rw [if_neg (by omega), if_pos (by omega)]; omega) | (rw [if_neg (by omega), if_neg (by omega)]; omega)); (rw [if_neg (by omega)]; exact hF q (by omega))))
  exact loop2 _ 0 a none none none (FR.rf) (by omega) (rfl) (fun q hq => absurd hq (by omega))
set_option maxRecDepth 4000 in
theorem y_near {d : Nat} (a : Nat → Nat → Int32) (b : Nat → Nat → Int64) (V : Nat → Int)(i : Int32) (j : Int32) (hV : LRL V a) (hG : GV V) : f_pc mtM d 63 [.inr (.inr (some 0)), .inl i, .inl j] (mH a b) (fun v9 h' => ∃ (a' : Nat → Nat → Int32), h' = mH a' b ∧ (FR [0, 17] a a' ∧ True) ∧ ∃ x : Int32, v9 = some (.inl x) ∧ (NEARR V i j x)) := by
  refine f_pc_of rfl (fun d0 fu hd => ?_)
  show f_pq _ _ (0, [some (.inr (.inr (some 0))), some (.inl i), some (.inl j)], [], mH a b) _
  have lm1 : (-1 : Int32).toInt = -1 := rfl
  have l0 : (0 : Int32).toInt = 0 := rfl
  refine qw_aload rfl rfl ?_
  refine qw_const rfl ?_
  refine qm_putI (z := false) rfl rfl rfl rfl (by first | (intro h9; cases h9; done) | (intro _; first | exact Or.inl rfl | exact Or.inr rfl | assumption)) (fun a1 ea1 => ?_)
  have ua1_0 : a1 0 0 = (0 : Int32) := by rw [ea1, mU_same]
  have wa1_0 := congrArg Int32.toInt ua1_0
  have hV1 := hV.same (a' := a1) (fun _ _ => by rw [ea1, mU_cell (by decide)])
  refine qw_aload rfl rfl ?_
  refine qw_iload rfl rfl ?_
  refine qw_invV (rest := []) rfl rfl rfl rfl rfl (Nat.le_of_ble_eq_true rfl) rfl (y_isRiver (d := d0) a1 b V i (hV1)) (fun v2 h9 hq3 => ?_)
  obtain ⟨rfl, x4, rfl, px4⟩ := hq3
  show f_pq _ _ (10, [some (.inr (.inr (some 0))), some (.inl i), some (.inl j)], [.inl x4], mH a1 b) _
  refine qw_if_eq rfl (fun c5 => ?_) (fun c5 => ?_)
  · skip
    refine qw_const rfl ?_
    exact qwp_iret (z := false) rfl (fun h9 => by cases h9) ⟨a1, rfl, ⟨FR.up (FR.rf) (by decide) ea1, trivial⟩, ⟨_, rfl, Or.inr ⟨by omega, rfl⟩⟩⟩
  · skip
    refine qw_aload rfl rfl ?_
    refine qw_iload rfl rfl ?_
    refine qw_invV (rest := []) rfl rfl rfl rfl rfl (Nat.le_of_ble_eq_true rfl) rfl (y_isRiver (d := d0) a1 b V j (hV1)) (fun v6 h9 hq7 => ?_)
    obtain ⟨rfl, x8, rfl, px8⟩ := hq7
    show f_pq _ _ (18, [some (.inr (.inr (some 0))), some (.inl i), some (.inl j)], [.inl x8], mH a1 b) _
    refine qw_if_eq rfl (fun c9 => ?_) (fun c9 => ?_)
    · skip
      refine qw_const rfl ?_
      exact qwp_iret (z := false) rfl (fun h9 => by cases h9) ⟨a1, rfl, ⟨FR.up (FR.rf) (by decide) ea1, trivial⟩, ⟨_, rfl, Or.inr ⟨by omega, rfl⟩⟩⟩
    · skip
      refine qw_aload rfl rfl ?_
      refine qw_iload rfl rfl ?_
      refine qw_iload rfl rfl ?_
      refine qw_invV (rest := []) rfl rfl rfl rfl rfl (Nat.le_of_ble_eq_true rfl) rfl (y_nearOf (d := d0) a1 b V i j (hV1) (hG) (by omega) (by omega)) (fun v10 h9 hq11 => ?_)
      obtain ⟨a12, rfl, fa12, x13, rfl, px13⟩ := hq11
      show f_pq _ _ (27, [some (.inr (.inr (some 0))), some (.inl i), some (.inl j)], [.inl x13], mH a12 b) _
      have D9 := px13
      refine qw_goto rfl ?_
      exact qwp_iret (z := false) rfl (fun h9 => by cases h9) ⟨a12, rfl, ⟨FR.tr (FR.up (FR.rf) (by decide) ea1) (FR.sub fa12.1 (by decide)), trivial⟩, ⟨_, rfl, Or.inl ⟨by omega, D9⟩⟩⟩
