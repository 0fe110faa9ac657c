set_option maxRecDepth 4000 in
theorem y_kindOf {d : Nat} (a : Nat → Nat → Int32) (b : Nat → Nat → Int64) (V : Nat → Int)(r : Int32) (hV : LRL V a) (hr : 0 ≤ r.toInt ∧ r.toInt ≤ 5) : f_pc mtM d 44 [.inr (.inr (some 0)), .inl r] (mH a b) (fun v9 h' => h' = mH a b ∧ ∃ x : Int32, v9 = some (.inl x) ∧ (x.toInt = V (7 + 14 * r.toInt.toNat + 0))) := by
  refine f_pc_of rfl (fun d0 fu hd => ?_)
  show f_pq _ _ (0, [some (.inr (.inr (some 0))), some (.inl r)], [], mH a b) _
  have l0 : (0 : Int32).toInt = 0 := rfl
  refine qw_aload rfl rfl ?_
  refine qw_iload rfl rfl ?_
  refine qw_const rfl ?_
  refine qw_invV (rest := []) rfl rfl rfl rfl rfl (Nat.le_of_ble_eq_true rfl) rfl (y_riverOf (d := d0) a b V r 0 (by omega) (by omega) (by omega)) (fun v1 h9 hq2 => ?_)
  obtain ⟨rfl, x3, rfl, px3⟩ := hq2
  show f_pq _ _ (6, [some (.inr (.inr (some 0))), some (.inl r)], [.inl x3], mH a b) _
  have p9 : x3.toInt = V (7 + 14 * r.toInt.toNat + 0) := by have h9 := px3; exact h9
  exact qwp_iret (z := false) rfl (fun h9 => by cases h9) ⟨rfl, ⟨_, rfl, p9⟩⟩
set_option maxRecDepth 4000 in
theorem y_springOf {d : Nat} (a : Nat → Nat → Int32) (b : Nat → Nat → Int64) (V : Nat → Int)(r : Int32) (hV : LRL V a) (hr : 0 ≤ r.toInt ∧ r.toInt ≤ 5) : f_pc mtM d 45 [.inr (.inr (some 0)), .inl r] (mH a b) (fun v9 h' => h' = mH a b ∧ ∃ x : Int32, v9 = some (.inl x) ∧ (x.toInt = V (7 + 14 * r.toInt.toNat + 1))) := by
  refine f_pc_of rfl (fun d0 fu hd => ?_)
  show f_pq _ _ (0, [some (.inr (.inr (some 0))), some (.inl r)], [], mH a b) _
  have l1 : (1 : Int32).toInt = 1 := rfl
  refine qw_aload rfl rfl ?_
  refine qw_iload rfl rfl ?_
  refine qw_const rfl ?_
  refine qw_invV (rest := []) rfl rfl rfl rfl rfl (Nat.le_of_ble_eq_true rfl) rfl (y_riverOf (d := d0) a b V r 1 (by omega) (by omega) (by omega)) (fun v1 h9 hq2 => ?_)
  obtain ⟨rfl, x3, rfl, px3⟩ := hq2
  show f_pq _ _ (6, [some (.inr (.inr (some 0))), some (.inl r)], [.inl x3], mH a b) _
  have p9 : x3.toInt = V (7 + 14 * r.toInt.toNat + 1) := by have h9 := px3; exact h9
  exact qwp_iret (z := false) rfl (fun h9 => by cases h9) ⟨rfl, ⟨_, rfl, p9⟩⟩
set_option maxRecDepth 4000 in
theorem y_mouthOf {d : Nat} (a : Nat → Nat → Int32) (b : Nat → Nat → Int64) (V : Nat → Int)(r : Int32) (hV : LRL V a) (hr : 0 ≤ r.toInt ∧ r.toInt ≤ 5) : f_pc mtM d 46 [.inr (.inr (some 0)), .inl r] (mH a b) (fun v9 h' => h' = mH a b ∧ ∃ x : Int32, v9 = some (.inl x) ∧ (x.toInt = V (7 + 14 * r.toInt.toNat + 2))) := by
  refine f_pc_of rfl (fun d0 fu hd => ?_)
  show f_pq _ _ (0, [some (.inr (.inr (some 0))), some (.inl r)], [], mH a b) _
  have l2 : (2 : Int32).toInt = 2 := rfl
  refine qw_aload rfl rfl ?_
  refine qw_iload rfl rfl ?_
  refine qw_const rfl ?_
  refine qw_invV (rest := []) rfl rfl rfl rfl rfl (Nat.le_of_ble_eq_true rfl) rfl (y_riverOf (d := d0) a b V r 2 (by omega) (by omega) (by omega)) (fun v1 h9 hq2 => ?_)
  obtain ⟨rfl, x3, rfl, px3⟩ := hq2
  show f_pq _ _ (6, [some (.inr (.inr (some 0))), some (.inl r)], [.inl x3], mH a b) _
  have p9 : x3.toInt = V (7 + 14 * r.toInt.toNat + 2) := by have h9 := px3; exact h9
  exact qwp_iret (z := false) rfl (fun h9 => by cases h9) ⟨rfl, ⟨_, rfl, p9⟩⟩
set_option maxRecDepth 4000 in
theorem y_husbandOf {d : Nat} (a : Nat → Nat → Int32) (b : Nat → Nat → Int64) (Q : Nat) (hu : Nat → Int)(q : Int32) (r : Int32) (hq : q.toInt = (Q : Int)) (hQ : Q ≤ 1260) (hH : HUS Q hu a) (hr : 0 ≤ r.toInt ∧ r.toInt < 6) : f_pc mtM d 47 [.inr (.inr (some 0)), .inl q, .inl r] (mH a b) (fun v9 h' => h' = mH a b ∧ ∃ x : Int32, v9 = some (.inl x) ∧ (x.toInt = hu r.toInt.toNat)) := by
  refine f_pc_of rfl (fun d0 fu hd => ?_)
  show f_pq _ _ (0, [some (.inr (.inr (some 0))), some (.inl q), some (.inl r)], [], mH a b) _
  have l1 : (1 : Int32).toInt = 1 := rfl
  refine qw_aload rfl rfl ?_
  refine qw_getR (v := .inr (.inr (some 15))) rfl rfl rfl rfl rfl ?_
  refine qw_iload rfl rfl ?_
  refine qw_const rfl ?_
  first | refine qw_iadd rfl (by omega) (fun x1 tx1 => ?_) | refine qw_iiU rfl (fun x1 tx1 => ?_)
  refine qw_iload rfl rfl ?_
  first | refine qw_iadd rfl (by omega) (fun x2 tx2 => ?_) | refine qw_iiU rfl (fun x2 tx2 => ?_)
  refine qm_iald rfl rfl (fun jx3 x3 ex3 => ?_)
  have p9 : x3.toInt = hu r.toInt.toNat := by rw [ex3, show (x2).toInt.toNat = Q + 1 + r.toInt.toNat from by omega]; exact hH _ (by omega)
  exact qwp_iret (z := false) rfl (fun h9 => by cases h9) ⟨rfl, ⟨_, rfl, p9⟩⟩
set_option maxRecDepth 4000 in
theorem y_wivesOf {d : Nat} (a : Nat → Nat → Int32) (b : Nat → Nat → Int64) (V : Nat → Int) (Q : Nat) (hu : Nat → Int)(q : Int32) (h : Int32) (hq : q.toInt = (Q : Int)) (hQ : Q ≤ 1260) (hH : HUS Q hu a) (hV : LRL V a) (hG : GV V) : f_pc mtM d 49 [.inr (.inr (some 0)), .inl q, .inl h] (mH a b) (fun v9 h' => h' = mH a b ∧ ∃ x : Int32, v9 = some (.inl x) ∧ (x = nI (fb (fun m => decide (hu m = h.toInt)) (V 0).toNat))) := by
  refine f_pc_of rfl (fun d0 fu hd => ?_)
  show f_pq _ _ (0, [some (.inr (.inr (some 0))), some (.inl q), some (.inl h), none, none], [], mH a b) _
  have l0 : (0 : Int32).toInt = 0 := rfl
  have l1 : (1 : Int32).toInt = 1 := rfl
  have g0 := hG.1
  refine qw_const rfl ?_
  refine qw_istore (lo' := [some (.inr (.inr (some 0))), some (.inl q), some (.inl h), some (.inl 0), none]) rfl rfl ?_
  refine qw_const rfl ?_
  refine qw_istore (lo' := [some (.inr (.inr (some 0))), some (.inl q), some (.inl h), some (.inl 0), some (.inl 0)]) rfl rfl ?_
  have loop5 : ∀ (fu5 : Nat) (s : Int32) (w : Int32) , (0 ≤ w.toInt ∧ w.toInt ≤ V 0) → (s = nI (fb (fun m => decide (hu m = h.toInt)) w.toInt.toNat)) → f_pq (f_code (t_X13_wivesOf (f_ev mtM d0))) fu5 (5, [some (.inr (.inr (some 0))), some (.inl q), some (.inl h), some (.inl s), some (.inl w)], [], mH a b) (fun v9 h' => h' = mH a b ∧ ∃ x : Int32, v9 = some (.inl x) ∧ (x = nI (fb (fun m => decide (hu m = h.toInt)) (V 0).toNat))) := by
    intro fu5
    induction fu5 with
    | zero => intros; exact pq_0
    | succ fu5 ih5 =>
      intro s w  hw hs
      refine qw_iload rfl rfl ?_
      refine qw_aload rfl rfl ?_
      refine qw_invV (rest := [.inl w]) rfl rfl rfl rfl rfl (Nat.le_of_ble_eq_true rfl) rfl (y_rivers (d := d0) a b V  (by omega)) (fun v1 h9 hq2 => ?_)
      obtain ⟨rfl, x3, rfl, px3⟩ := hq2
      show f_pq _ _ (11, [some (.inr (.inr (some 0))), some (.inl q), some (.inl h), some (.inl s), some (.inl w)], [.inl x3, .inl w], mH a b) _
      refine qw_ic_ge rfl (fun c4 => ?_) (fun c4 => ?_)
      · skip
        refine qw_iload rfl rfl ?_
        exact qwp_iret (z := false) rfl (fun h9 => by cases h9) ⟨rfl, ⟨_, rfl, by rw [show (V 0).toNat = w.toInt.toNat from by omega]; exact hs⟩⟩
      · skip
        refine qw_iload rfl rfl ?_
        refine qw_aload rfl rfl ?_
        refine qw_iload rfl rfl ?_
        refine qw_iload rfl rfl ?_
        refine qw_invV (rest := [.inl s]) rfl rfl rfl rfl rfl (Nat.le_of_ble_eq_true rfl) rfl (y_husbandOf (d := d0) a b Q hu q w (by omega) (by omega) (by omega) (by omega)) (fun v5 h9 hq6 => ?_)
        obtain ⟨rfl, x7, rfl, px7⟩ := hq6
        show f_pq _ _ (22, [some (.inr (.inr (some 0))), some (.inl q), some (.inl h), some (.inl s), some (.inl w)], [.inl x7, .inl s], mH a b) _
        refine qw_iload rfl rfl ?_
        refine qw_ic_ne rfl (fun c8 => ?_) (fun c8 => ?_)
        · skip
          skip
          refine qw_const rfl ?_
          refine qw_iload rfl rfl ?_
          refine qw_iiE rfl (fun x9 tx9 => ?_)
          have t29 := tx9
          refine qw_goto rfl ?_
          refine qw_iiE rfl (fun x10 tx10 => ?_)
          have t34 := tx10
          refine qw_istore (lo' := [some (.inr (.inr (some 0))), some (.inl q), some (.inl h), some (.inl x10), some (.inl w)]) rfl rfl ?_
          refine qw_iinc (lo' := fun z9 => [some (.inr (.inr (some 0))), some (.inl q), some (.inl h), some (.inl x10), some (.inl z9)]) rfl rfl (fun _ => rfl) (by omega) (fun x11 tx11 => ?_)
          exact qw_gotoD rfl (ih5 x10 x11  (by omega) (SB.y hs (by omega) (decide_eq_true (by omega)) (by omega) t29 t34 (by omega)))
        · skip
          skip
          refine qw_const rfl ?_
          refine qw_iiE rfl (fun x12 tx12 => ?_)
          have t34 := tx12
          refine qw_istore (lo' := [some (.inr (.inr (some 0))), some (.inl q), some (.inl h), some (.inl x12), some (.inl w)]) rfl rfl ?_
          refine qw_iinc (lo' := fun z9 => [some (.inr (.inr (some 0))), some (.inl q), some (.inl h), some (.inl x12), some (.inl z9)]) rfl rfl (fun _ => rfl) (by omega) (fun x13 tx13 => ?_)
          exact qw_gotoD rfl (ih5 x12 x13  (by omega) (SB.n hs (fun h9 => absurd (of_decide_eq_true h9) (by omega)) t34 (by omega)))
  exact loop5 _ 0 0  (by omega) (rfl)
set_option maxHeartbeats 4000000 in
set_option maxRecDepth 4000 in
theorem y_mayWed {d : Nat} (a : Nat → Nat → Int32) (b : Nat → Nat → Int64) (V : Nat → Int) (Q : Nat) (hu : Nat → Int)(q : Int32) (w : Int32) (h : Int32) (hq : q.toInt = (Q : Int)) (hQ : Q ≤ 1260) (hH : HUS Q hu a) (hu9 : ∀ r : Nat, -1 ≤ hu r ∧ hu r < V 0) (hV : LRL V a) (hG : GV V) (hw : 0 ≤ w.toInt ∧ w.toInt < V 0) (hh : 0 ≤ h.toInt ∧ h.toInt < V 0) : f_pc mtM d 67 [.inr (.inr (some 0)), .inl q, .inl w, .inl h] (mH a b) (fun v9 h' => ∃ (a' : Nat → Nat → Int32), h' = mH a' b ∧ (FR [17] a a' ∧ True) ∧ ∃ x : Int32, v9 = some (.inl x) ∧ ((x.toInt = 1 ∧ mayP V hu w.toInt.toNat h.toInt.toNat) ∨ (x.toInt = 0 ∧ ¬ mayP V hu w.toInt.toNat h.toInt.toNat))) := by
  refine f_pc_of rfl (fun d0 fu hd => ?_)
  show f_pq _ _ (0, [some (.inr (.inr (some 0))), some (.inl q), some (.inl w), some (.inl h), none, none], [], mH a b) _
  have l0 : (0 : Int32).toInt = 0 := rfl
  have l1 : (1 : Int32).toInt = 1 := rfl
  have l2 : (2 : Int32).toInt = 2 := rfl
  have l3 : (3 : Int32).toInt = 3 := rfl
  have g0 := hG.1
  have g1 := hG.2.1
  have v0 := hV 0 (by decide) (by omega)
  have v1 := hV 1 (by decide) (by omega)
  have loop80 : ∀ (fuJ80 : Nat) (mm : Int32) (a80 : Nat → Nat → Int32) ,  FR [17] a a80 →((mm.toInt = 1 ∧ (fitP V w.toInt.toNat h.toInt.toNat ∧ hu w.toInt.toNat < 0)) ∨ (mm.toInt = 0 ∧ ¬ (fitP V w.toInt.toNat h.toInt.toNat ∧ hu w.toInt.toNat < 0))) → f_pq (f_code (t_X13_mayWed (f_ev mtM d0))) fuJ80 (80, [some (.inr (.inr (some 0))), some (.inl q), some (.inl w), some (.inl h), some (.inl mm), none], [], mH a80 b) (fun v9 h' => ∃ (a' : Nat → Nat → Int32), h' = mH a' b ∧ (FR [17] a a' ∧ True) ∧ ∃ x : Int32, v9 = some (.inl x) ∧ ((x.toInt = 1 ∧ mayP V hu w.toInt.toNat h.toInt.toNat) ∨ (x.toInt = 0 ∧ ¬ mayP V hu w.toInt.toNat h.toInt.toNat))) := by
    intro fuJ80 mm a80  hF80 hM
    · skip
      have hV8 := hV.same (a' := a80) (fun _ _ => by rw [hF80 6 (by decide)])
      have hH8 := hH.same (a' := a80) (fun _ _ => by rw [hF80 15 (by decide)])
      refine qw_iload rfl rfl ?_
      refine qw_istore (lo' := [some (.inr (.inr (some 0))), some (.inl q), some (.inl w), some (.inl h), some (.inl mm), some (.inl h)]) rfl rfl ?_
      have loop83 : ∀ (fu83 : Nat) (m : Int32) (o : Int32) , (-1 ≤ o.toInt ∧ o.toInt < V 0) → (MJ (fitP V w.toInt.toNat h.toInt.toNat ∧ hu w.toInt.toNat < 0) hu h.toInt.toNat w.toInt.toNat m.toInt o.toInt) → f_pq (f_code (t_X13_mayWed (f_ev mtM d0))) fu83 (83, [some (.inr (.inr (some 0))), some (.inl q), some (.inl w), some (.inl h), some (.inl m), some (.inl o)], [], mH a80 b) (fun v9 h' => ∃ (a' : Nat → Nat → Int32), h' = mH a' b ∧ (FR [17] a a' ∧ True) ∧ ∃ x : Int32, v9 = some (.inl x) ∧ ((x.toInt = 1 ∧ mayP V hu w.toInt.toNat h.toInt.toNat) ∨ (x.toInt = 0 ∧ ¬ mayP V hu w.toInt.toNat h.toInt.toNat))) := by
        intro fu83
        induction fu83 with
        | zero => intros; exact pq_0
        | succ fu83 ih83 =>
          intro m o  ho hJ
          refine qw_iload rfl rfl ?_
          refine qw_if_lt rfl (fun c1 => ?_) (fun c1 => ?_)
          · skip
            have FIN := MJ.fin hJ (by omega)
            refine qw_iload rfl rfl ?_
            refine qw_if_eq rfl (fun c2 => ?_) (fun c2 => ?_)
            · skip
              skip
              refine qw_const rfl ?_
              exact qwp_iret (z := true) rfl (fun _ => by first | exact Or.inl rfl | exact Or.inr rfl | (rcases (by omega : (0 : Int32).toInt = 0 ∨ (0 : Int32).toInt = 1) with h8 | h8; exact Or.inl (ti_eq h8); exact Or.inr (ti_eq h8))) ⟨a80, rfl, ⟨hF80, trivial⟩, ⟨_, rfl, Or.inr ⟨rfl, fun g => by rcases FIN with q9 | q9; omega; exact q9.2 ⟨g.1, g.2.1⟩⟩⟩⟩
            · skip
              refine qw_aload rfl rfl ?_
              refine qw_iload rfl rfl ?_
              refine qw_invV (rest := []) rfl rfl rfl rfl rfl (Nat.le_of_ble_eq_true rfl) rfl (y_kindOf (d := d0) a80 b V h (hV8) (by omega)) (fun v3 h9 hq4 => ?_)
              obtain ⟨rfl, x5, rfl, px5⟩ := hq4
              show f_pq _ _ (128, [some (.inr (.inr (some 0))), some (.inl q), some (.inl w), some (.inl h), some (.inl m), some (.inl o)], [.inl x5], mH a80 b) _
              refine qw_const rfl ?_
              refine qw_ic_ne rfl (fun c6 => ?_) (fun c6 => ?_)
              · skip
                refine qw_aload rfl rfl ?_
                refine qw_iload rfl rfl ?_
                refine qw_iload rfl rfl ?_
                refine qw_invV (rest := []) rfl rfl rfl rfl rfl (Nat.le_of_ble_eq_true rfl) rfl (y_wivesOf (d := d0) a80 b V Q hu q h (by omega) (by omega) (hH8) (hV8) (by omega)) (fun v7 h9 hq8 => ?_)
                obtain ⟨rfl, x9, rfl, px9⟩ := hq8
                show f_pq _ _ (138, [some (.inr (.inr (some 0))), some (.inl q), some (.inl w), some (.inl h), some (.inl m), some (.inl o)], [.inl x9], mH a80 b) _
                have p135 := SB.zero px9 (by omega)
                refine qw_if_ne rfl (fun c10 => ?_) (fun c10 => ?_)
                · skip
                  skip
                  have KW9 : ∀ r : Nat, (r : Int) < V 0 → ¬ hu r = ((h.toInt.toNat : Nat) : Int) := fun r hr h9 => p135.mp c10 r (by omega) (decide_eq_true (by omega))
                  refine qw_const rfl ?_
                  refine qw_goto rfl ?_
                  exact qwp_iret (z := true) rfl (fun _ => by first | exact Or.inl rfl | exact Or.inr rfl | (rcases (by omega : (1 : Int32).toInt = 0 ∨ (1 : Int32).toInt = 1) with h8 | h8; exact Or.inl (ti_eq h8); exact Or.inr (ti_eq h8))) ⟨a80, rfl, ⟨hF80, trivial⟩, ⟨_, rfl, Or.inl ⟨rfl, may_y FIN (by omega) (Or.inr KW9)⟩⟩⟩
                · skip
                  skip
                  have KN9 : ¬ (∀ r : Nat, (r : Int) < V 0 → ¬ hu r = ((h.toInt.toNat : Nat) : Int)) := fun h9 => c10 (p135.mpr (fun r hr h8 => h9 r (by omega) (by have h7 := of_decide_eq_true h8; omega)))
                  refine qw_const rfl ?_
                  exact qwp_iret (z := true) rfl (fun _ => by first | exact Or.inl rfl | exact Or.inr rfl | (rcases (by omega : (0 : Int32).toInt = 0 ∨ (0 : Int32).toInt = 1) with h8 | h8; exact Or.inl (ti_eq h8); exact Or.inr (ti_eq h8))) ⟨a80, rfl, ⟨hF80, trivial⟩, ⟨_, rfl, Or.inr ⟨rfl, fun g => by rcases g.2.2 with q9 | q9; omega; exact KN9 q9⟩⟩⟩
              · skip
                skip
                refine qw_const rfl ?_
                refine qw_goto rfl ?_
                exact qwp_iret (z := true) rfl (fun _ => by first | exact Or.inl rfl | exact Or.inr rfl | (rcases (by omega : (1 : Int32).toInt = 0 ∨ (1 : Int32).toInt = 1) with h8 | h8; exact Or.inl (ti_eq h8); exact Or.inr (ti_eq h8))) ⟨a80, rfl, ⟨hF80, trivial⟩, ⟨_, rfl, Or.inl ⟨rfl, may_y FIN (by omega) (Or.inl (by omega))⟩⟩⟩
          · skip
            refine qw_iload rfl rfl ?_
            refine qw_if_eq rfl (fun c11 => ?_) (fun c11 => ?_)
            · skip
              have FIN := MJ.fin hJ (by omega)
              refine qw_iload rfl rfl ?_
              refine qw_if_eq rfl (fun c12 => ?_) (fun c12 => ?_)
              · skip
                skip
                refine qw_const rfl ?_
                exact qwp_iret (z := true) rfl (fun _ => by first | exact Or.inl rfl | exact Or.inr rfl | (rcases (by omega : (0 : Int32).toInt = 0 ∨ (0 : Int32).toInt = 1) with h8 | h8; exact Or.inl (ti_eq h8); exact Or.inr (ti_eq h8))) ⟨a80, rfl, ⟨hF80, trivial⟩, ⟨_, rfl, Or.inr ⟨rfl, fun g => by rcases FIN with q9 | q9; omega; exact q9.2 ⟨g.1, g.2.1⟩⟩⟩⟩
              · skip
                refine qw_aload rfl rfl ?_
                refine qw_iload rfl rfl ?_
                refine qw_invV (rest := []) rfl rfl rfl rfl rfl (Nat.le_of_ble_eq_true rfl) rfl (y_kindOf (d := d0) a80 b V h (hV8) (by omega)) (fun v13 h9 hq14 => ?_)
                obtain ⟨rfl, x15, rfl, px15⟩ := hq14
                show f_pq _ _ (128, [some (.inr (.inr (some 0))), some (.inl q), some (.inl w), some (.inl h), some (.inl m), some (.inl o)], [.inl x15], mH a80 b) _
                refine qw_const rfl ?_
                refine qw_ic_ne rfl (fun c16 => ?_) (fun c16 => ?_)
                · skip
                  refine qw_aload rfl rfl ?_
                  refine qw_iload rfl rfl ?_
                  refine qw_iload rfl rfl ?_
                  refine qw_invV (rest := []) rfl rfl rfl rfl rfl (Nat.le_of_ble_eq_true rfl) rfl (y_wivesOf (d := d0) a80 b V Q hu q h (by omega) (by omega) (hH8) (hV8) (by omega)) (fun v17 h9 hq18 => ?_)
                  obtain ⟨rfl, x19, rfl, px19⟩ := hq18
                  show f_pq _ _ (138, [some (.inr (.inr (some 0))), some (.inl q), some (.inl w), some (.inl h), some (.inl m), some (.inl o)], [.inl x19], mH a80 b) _
                  have p135 := SB.zero px19 (by omega)
                  refine qw_if_ne rfl (fun c20 => ?_) (fun c20 => ?_)
                  · skip
                    skip
                    have KW9 : ∀ r : Nat, (r : Int) < V 0 → ¬ hu r = ((h.toInt.toNat : Nat) : Int) := fun r hr h9 => p135.mp c20 r (by omega) (decide_eq_true (by omega))
                    refine qw_const rfl ?_
                    refine qw_goto rfl ?_
                    exact qwp_iret (z := true) rfl (fun _ => by first | exact Or.inl rfl | exact Or.inr rfl | (rcases (by omega : (1 : Int32).toInt = 0 ∨ (1 : Int32).toInt = 1) with h8 | h8; exact Or.inl (ti_eq h8); exact Or.inr (ti_eq h8))) ⟨a80, rfl, ⟨hF80, trivial⟩, ⟨_, rfl, Or.inl ⟨rfl, may_y FIN (by omega) (Or.inr KW9)⟩⟩⟩
                  · skip
                    skip
                    have KN9 : ¬ (∀ r : Nat, (r : Int) < V 0 → ¬ hu r = ((h.toInt.toNat : Nat) : Int)) := fun h9 => c20 (p135.mpr (fun r hr h8 => h9 r (by omega) (by have h7 := of_decide_eq_true h8; omega)))
                    refine qw_const rfl ?_
                    exact qwp_iret (z := true) rfl (fun _ => by first | exact Or.inl rfl | exact Or.inr rfl | (rcases (by omega : (0 : Int32).toInt = 0 ∨ (0 : Int32).toInt = 1) with h8 | h8; exact Or.inl (ti_eq h8); exact Or.inr (ti_eq h8))) ⟨a80, rfl, ⟨hF80, trivial⟩, ⟨_, rfl, Or.inr ⟨rfl, fun g => by rcases g.2.2 with q9 | q9; omega; exact KN9 q9⟩⟩⟩
                · skip
                  skip
                  refine qw_const rfl ?_
                  refine qw_goto rfl ?_
                  exact qwp_iret (z := true) rfl (fun _ => by first | exact Or.inl rfl | exact Or.inr rfl | (rcases (by omega : (1 : Int32).toInt = 0 ∨ (1 : Int32).toInt = 1) with h8 | h8; exact Or.inl (ti_eq h8); exact Or.inr (ti_eq h8))) ⟨a80, rfl, ⟨hF80, trivial⟩, ⟨_, rfl, Or.inl ⟨rfl, may_y FIN (by omega) (Or.inl (by omega))⟩⟩⟩
            · skip
              refine qw_iload rfl rfl ?_
              refine qw_iload rfl rfl ?_
              refine qw_ic_eq rfl (fun c21 => ?_) (fun c21 => ?_)
              · skip
                have MS9 : (o.toInt = ((w.toInt.toNat : Nat) : Int) ∧ (0 : Int32).toInt = 0) ∨ (¬ o.toInt = ((w.toInt.toNat : Nat) : Int) ∧ (0 : Int32).toInt = 1) := Or.inl ⟨by omega, rfl⟩
                refine qw_const rfl ?_
                refine qw_istore (lo' := [some (.inr (.inr (some 0))), some (.inl q), some (.inl w), some (.inl h), some (.inl 0), some (.inl o)]) rfl rfl ?_
                refine qw_aload rfl rfl ?_
                refine qw_iload rfl rfl ?_
                refine qw_iload rfl rfl ?_
                refine qw_invV (rest := []) rfl rfl rfl rfl rfl (Nat.le_of_ble_eq_true rfl) rfl (y_husbandOf (d := d0) a80 b Q hu q o (by omega) (by omega) (hH8) (by omega)) (fun v22 h9 hq23 => ?_)
                obtain ⟨rfl, x24, rfl, px24⟩ := hq23
                show f_pq _ _ (113, [some (.inr (.inr (some 0))), some (.inl q), some (.inl w), some (.inl h), some (.inl 0), some (.inl o)], [.inl x24], mH a80 b) _
                have p110 := px24
                have b110 := hu9 o.toInt.toNat
                refine qw_istore (lo' := [some (.inr (.inr (some 0))), some (.inl q), some (.inl w), some (.inl h), some (.inl 0), some (.inl x24)]) rfl rfl ?_
                exact qw_gotoD rfl (ih83 0 x24  (by omega) (hJ.step (by omega) (by omega) p110 MS9))
              · skip
                have MS9 : (o.toInt = ((w.toInt.toNat : Nat) : Int) ∧ (1 : Int32).toInt = 0) ∨ (¬ o.toInt = ((w.toInt.toNat : Nat) : Int) ∧ (1 : Int32).toInt = 1) := Or.inr ⟨by omega, rfl⟩
                refine qw_const rfl ?_
                refine qw_goto rfl ?_
                refine qw_istore (lo' := [some (.inr (.inr (some 0))), some (.inl q), some (.inl w), some (.inl h), some (.inl 1), some (.inl o)]) rfl rfl ?_
                refine qw_aload rfl rfl ?_
                refine qw_iload rfl rfl ?_
                refine qw_iload rfl rfl ?_
                refine qw_invV (rest := []) rfl rfl rfl rfl rfl (Nat.le_of_ble_eq_true rfl) rfl (y_husbandOf (d := d0) a80 b Q hu q o (by omega) (by omega) (hH8) (by omega)) (fun v25 h9 hq26 => ?_)
                obtain ⟨rfl, x27, rfl, px27⟩ := hq26
                show f_pq _ _ (113, [some (.inr (.inr (some 0))), some (.inl q), some (.inl w), some (.inl h), some (.inl 1), some (.inl o)], [.inl x27], mH a80 b) _
                have p110 := px27
                have b110 := hu9 o.toInt.toNat
                refine qw_istore (lo' := [some (.inr (.inr (some 0))), some (.inl q), some (.inl w), some (.inl h), some (.inl 1), some (.inl x27)]) rfl rfl ?_
                exact qw_gotoD rfl (ih83 1 x27  (by omega) (hJ.step (by omega) (by omega) p110 MS9))
      exact loop83 _ mm h  (by omega) (MJ.at0 hM (by omega))
  refine qw_iload rfl rfl ?_
  refine qw_iload rfl rfl ?_
  refine qw_ic_eq rfl (fun c28 => ?_) (fun c28 => ?_)
  · skip
    refine qw_const rfl ?_
    refine qw_istore (lo' := [some (.inr (.inr (some 0))), some (.inl q), some (.inl w), some (.inl h), some (.inl 0), none]) rfl rfl ?_
    exact loop80 _ 0 a (FR.rf) (by unfold fitP; first | exact Or.inl ⟨rfl, by omega⟩ | exact Or.inr ⟨rfl, by omega⟩)
  · skip
    refine qw_aload rfl rfl ?_
    refine qw_iload rfl rfl ?_
    refine qw_invV (rest := []) rfl rfl rfl rfl rfl (Nat.le_of_ble_eq_true rfl) rfl (y_kindOf (d := d0) a b V w (by omega) (by omega)) (fun v29 h9 hq30 => ?_)
    obtain ⟨rfl, x31, rfl, px31⟩ := hq30
    show f_pq _ _ (10, [some (.inr (.inr (some 0))), some (.inl q), some (.inl w), some (.inl h), none, none], [.inl x31], mH a b) _
    refine qw_const rfl ?_
    refine qw_ic_eq rfl (fun c32 => ?_) (fun c32 => ?_)
    · skip
      refine qw_const rfl ?_
      refine qw_istore (lo' := [some (.inr (.inr (some 0))), some (.inl q), some (.inl w), some (.inl h), some (.inl 0), none]) rfl rfl ?_
      exact loop80 _ 0 a (FR.rf) (by unfold fitP; first | exact Or.inl ⟨rfl, by omega⟩ | exact Or.inr ⟨rfl, by omega⟩)
    · skip
      refine qw_aload rfl rfl ?_
      refine qw_iload rfl rfl ?_
      refine qw_invV (rest := []) rfl rfl rfl rfl rfl (Nat.le_of_ble_eq_true rfl) rfl (y_kindOf (d := d0) a b V h (by omega) (by omega)) (fun v33 h9 hq34 => ?_)
      obtain ⟨rfl, x35, rfl, px35⟩ := hq34
      show f_pq _ _ (19, [some (.inr (.inr (some 0))), some (.inl q), some (.inl w), some (.inl h), none, none], [.inl x35], mH a b) _
      refine qw_const rfl ?_
      refine qw_ic_eq rfl (fun c36 => ?_) (fun c36 => ?_)
      · skip
        refine qw_const rfl ?_
        refine qw_istore (lo' := [some (.inr (.inr (some 0))), some (.inl q), some (.inl w), some (.inl h), some (.inl 0), none]) rfl rfl ?_
        exact loop80 _ 0 a (FR.rf) (by unfold fitP; first | exact Or.inl ⟨rfl, by omega⟩ | exact Or.inr ⟨rfl, by omega⟩)
      · skip
        refine qw_aload rfl rfl ?_
        refine qw_iload rfl rfl ?_
        refine qw_iload rfl rfl ?_
        refine qw_invV (rest := []) rfl rfl rfl rfl rfl (Nat.le_of_ble_eq_true rfl) rfl (y_husbandOf (d := d0) a b Q hu q w (by omega) (by omega) (by omega) (by omega)) (fun v37 h9 hq38 => ?_)
        obtain ⟨rfl, x39, rfl, px39⟩ := hq38
        show f_pq _ _ (29, [some (.inr (.inr (some 0))), some (.inl q), some (.inl w), some (.inl h), none, none], [.inl x39], mH a b) _
        refine qw_if_ge rfl (fun c40 => ?_) (fun c40 => ?_)
        · skip
          refine qw_const rfl ?_
          refine qw_istore (lo' := [some (.inr (.inr (some 0))), some (.inl q), some (.inl w), some (.inl h), some (.inl 0), none]) rfl rfl ?_
          exact loop80 _ 0 a (FR.rf) (by unfold fitP; first | exact Or.inl ⟨rfl, by omega⟩ | exact Or.inr ⟨rfl, by omega⟩)
        · skip
          refine qw_aload rfl rfl ?_
          refine qw_iload rfl rfl ?_
          refine qw_invV (rest := []) rfl rfl rfl rfl rfl (Nat.le_of_ble_eq_true rfl) rfl (y_mouthOf (d := d0) a b V w (by omega) (by omega)) (fun v41 h9 hq42 => ?_)
          obtain ⟨rfl, x43, rfl, px43⟩ := hq42
          show f_pq _ _ (37, [some (.inr (.inr (some 0))), some (.inl q), some (.inl w), some (.inl h), none, none], [.inl x43], mH a b) _
          refine qw_aload rfl rfl ?_
          refine qw_iload rfl rfl ?_
          refine qw_invV (rest := [.inl x43]) rfl rfl rfl rfl rfl (Nat.le_of_ble_eq_true rfl) rfl (y_mouthOf (d := d0) a b V h (by omega) (by omega)) (fun v44 h9 hq45 => ?_)
          obtain ⟨rfl, x46, rfl, px46⟩ := hq45
          show f_pq _ _ (42, [some (.inr (.inr (some 0))), some (.inl q), some (.inl w), some (.inl h), none, none], [.inl x46, .inl x43], mH a b) _
          refine qw_ic_lt rfl (fun c47 => ?_) (fun c47 => ?_)
          · skip
            refine qw_const rfl ?_
            refine qw_istore (lo' := [some (.inr (.inr (some 0))), some (.inl q), some (.inl w), some (.inl h), some (.inl 0), none]) rfl rfl ?_
            exact loop80 _ 0 a (FR.rf) (by unfold fitP; first | exact Or.inl ⟨rfl, by omega⟩ | exact Or.inr ⟨rfl, by omega⟩)
          · skip
            refine qw_aload rfl rfl ?_
            refine qw_iload rfl rfl ?_
            refine qw_invV (rest := []) rfl rfl rfl rfl rfl (Nat.le_of_ble_eq_true rfl) rfl (y_springOf (d := d0) a b V h (by omega) (by omega)) (fun v48 h9 hq49 => ?_)
            obtain ⟨rfl, x50, rfl, px50⟩ := hq49
            show f_pq _ _ (50, [some (.inr (.inr (some 0))), some (.inl q), some (.inl w), some (.inl h), none, none], [.inl x50], mH a b) _
            refine qw_aload rfl rfl ?_
            refine qw_iload rfl rfl ?_
            refine qw_invV (rest := [.inl x50]) rfl rfl rfl rfl rfl (Nat.le_of_ble_eq_true rfl) rfl (y_mouthOf (d := d0) a b V w (by omega) (by omega)) (fun v51 h9 hq52 => ?_)
            obtain ⟨rfl, x53, rfl, px53⟩ := hq52
            show f_pq _ _ (55, [some (.inr (.inr (some 0))), some (.inl q), some (.inl w), some (.inl h), none, none], [.inl x53, .inl x50], mH a b) _
            refine qw_ic_le rfl (fun c54 => ?_) (fun c54 => ?_)
            · skip
              refine qw_const rfl ?_
              refine qw_istore (lo' := [some (.inr (.inr (some 0))), some (.inl q), some (.inl w), some (.inl h), some (.inl 0), none]) rfl rfl ?_
              exact loop80 _ 0 a (FR.rf) (by unfold fitP; first | exact Or.inl ⟨rfl, by omega⟩ | exact Or.inr ⟨rfl, by omega⟩)
            · skip
              refine qw_aload rfl rfl ?_
              refine qw_iload rfl rfl ?_
              refine qw_iload rfl rfl ?_
              refine qw_invV (rest := []) rfl rfl rfl rfl rfl (Nat.le_of_ble_eq_true rfl) rfl (y_nearOf (d := d0) a b V w h (by omega) (by omega) (by omega) (by omega)) (fun v55 h9 hq56 => ?_)
              obtain ⟨a57, rfl, fa57, x58, rfl, px58⟩ := hq56
              show f_pq _ _ (64, [some (.inr (.inr (some 0))), some (.inl q), some (.inl w), some (.inl h), none, none], [.inl x58], mH a57 b) _
              refine qw_aload rfl rfl ?_
              refine qw_getR (v := .inr (.inr (some 6))) rfl rfl rfl rfl rfl ?_
              refine qw_const rfl ?_
              refine qm_iald rfl rfl (fun jx59 x59 ex59 => ?_)
              have y69 : x59.toInt = V 2 := by rw [ex59, fa57.1 6 (by decide)]; exact hV 2 (by decide) (by omega)
              refine qw_ic_le rfl (fun c60 => ?_) (fun c60 => ?_)
              · skip
                refine qw_const rfl ?_
                refine qw_istore (lo' := [some (.inr (.inr (some 0))), some (.inl q), some (.inl w), some (.inl h), some (.inl 0), none]) rfl rfl ?_
                exact loop80 _ 0 a57 (FR.tr (FR.rf) (FR.sub fa57.1 (by decide))) (by unfold fitP; first | exact Or.inl ⟨rfl, by omega⟩ | exact Or.inr ⟨rfl, by omega⟩)
              · skip
                refine qw_const rfl ?_
                refine qw_goto rfl ?_
                refine qw_istore (lo' := [some (.inr (.inr (some 0))), some (.inl q), some (.inl w), some (.inl h), some (.inl 1), none]) rfl rfl ?_
                exact loop80 _ 1 a57 (FR.tr (FR.rf) (FR.sub fa57.1 (by decide))) (by unfold fitP; first | exact Or.inl ⟨rfl, by omega⟩ | exact Or.inr ⟨rfl, by omega⟩)
set_option maxHeartbeats 1000000 in
set_option maxRecDepth 4000 in
theorem y_mayOf {d : Nat} (a : Nat → Nat → Int32) (b : Nat → Nat → Int64) (V : Nat → Int) (Q : Nat) (hu : Nat → Int)(q : Int32) (w : Int32) (hq : q.toInt = (Q : Int)) (hQ : Q ≤ 1260) (hH : HUS Q hu a) (hu9 : ∀ r : Nat, -1 ≤ hu r ∧ hu r < V 0) (hV : LRL V a) (hG : GV V) (hw : 0 ≤ w.toInt ∧ w.toInt < V 0) : f_pc mtM d 68 [.inr (.inr (some 0)), .inl q, .inl w] (mH a b) (fun v9 h' => ∃ (a' : Nat → Nat → Int32), h' = mH a' b ∧ (FR [17] a a' ∧ True) ∧ ∃ x : Int32, v9 = some (.inl x) ∧ (x = nI (fb (MB V hu w.toInt.toNat) (V 0).toNat))) := by
  refine f_pc_of rfl (fun d0 fu hd => ?_)
  show f_pq _ _ (0, [some (.inr (.inr (some 0))), some (.inl q), some (.inl w), none, none], [], mH a b) _
  have l0 : (0 : Int32).toInt = 0 := rfl
  have l1 : (1 : Int32).toInt = 1 := rfl
  have g0 := hG.1
  refine qw_const rfl ?_
  refine qw_istore (lo' := [some (.inr (.inr (some 0))), some (.inl q), some (.inl w), some (.inl 0), none]) rfl rfl ?_
  refine qw_const rfl ?_
  refine qw_istore (lo' := [some (.inr (.inr (some 0))), some (.inl q), some (.inl w), some (.inl 0), some (.inl 0)]) rfl rfl ?_
  have loop5 : ∀ (fu5 : Nat) (s : Int32) (h : Int32) (a5 : Nat → Nat → Int32) ,  FR [17] a a5 →(0 ≤ h.toInt ∧ h.toInt ≤ V 0) → (s = nI (fb (MB V hu w.toInt.toNat) h.toInt.toNat)) → f_pq (f_code (t_X13_mayOf (f_ev mtM d0))) fu5 (5, [some (.inr (.inr (some 0))), some (.inl q), some (.inl w), some (.inl s), some (.inl h)], [], mH a5 b) (fun v9 h' => ∃ (a' : Nat → Nat → Int32), h' = mH a' b ∧ (FR [17] a a' ∧ True) ∧ ∃ x : Int32, v9 = some (.inl x) ∧ (x = nI (fb (MB V hu w.toInt.toNat) (V 0).toNat))) := by
    intro fu5
    induction fu5 with
    | zero => intros; exact pq_0
    | succ fu5 ih5 =>
      intro s h a5  hF5 hh hs
      have hV5 := hV.same (a' := a5) (fun _ _ => by rw [hF5 6 (by decide)])
      have hH5 := hH.same (a' := a5) (fun _ _ => by rw [hF5 15 (by decide)])
      refine qw_iload rfl rfl ?_
      refine qw_aload rfl rfl ?_
      refine qw_invV (rest := [.inl h]) rfl rfl rfl rfl rfl (Nat.le_of_ble_eq_true rfl) rfl (y_rivers (d := d0) a5 b V  (hV5)) (fun v1 h9 hq2 => ?_)
      obtain ⟨rfl, x3, rfl, px3⟩ := hq2
      show f_pq _ _ (11, [some (.inr (.inr (some 0))), some (.inl q), some (.inl w), some (.inl s), some (.inl h)], [.inl x3, .inl h], mH a5 b) _
      refine qw_ic_ge rfl (fun c4 => ?_) (fun c4 => ?_)
      · skip
        refine qw_iload rfl rfl ?_
        exact qwp_iret (z := false) rfl (fun h9 => by cases h9) ⟨a5, rfl, ⟨hF5, trivial⟩, ⟨_, rfl, by rw [show (V 0).toNat = h.toInt.toNat from by omega]; exact hs⟩⟩
      · skip
        refine qw_iload rfl rfl ?_
        refine qw_aload rfl rfl ?_
        refine qw_iload rfl rfl ?_
        refine qw_iload rfl rfl ?_
        refine qw_iload rfl rfl ?_
        refine qw_invV (rest := [.inl s]) rfl rfl rfl rfl rfl (Nat.le_of_ble_eq_true rfl) rfl (y_mayWed (d := d0) a5 b V Q hu q w h (by omega) (by omega) (hH5) (hu9) (hV5) (by omega) (by omega) (by omega)) (fun v5 h9 hq6 => ?_)
        obtain ⟨a7, rfl, fa7, x8, rfl, px8⟩ := hq6
        show f_pq _ _ (23, [some (.inr (.inr (some 0))), some (.inl q), some (.inl w), some (.inl s), some (.inl h)], [.inl x8, .inl s], mH a7 b) _
        have p20 := px8
        refine qw_if_eq rfl (fun c9 => ?_) (fun c9 => ?_)
        · skip
          skip
          have FN : ¬ mayP V hu w.toInt.toNat h.toInt.toNat := by rcases p20 with h9 | h9; omega; exact h9.2
          refine qw_const rfl ?_
          refine qw_iiE rfl (fun x10 tx10 => ?_)
          have t34 := tx10
          refine qw_istore (lo' := [some (.inr (.inr (some 0))), some (.inl q), some (.inl w), some (.inl x10), some (.inl h)]) rfl rfl ?_
          refine qw_iinc (lo' := fun z9 => [some (.inr (.inr (some 0))), some (.inl q), some (.inl w), some (.inl x10), some (.inl z9)]) rfl rfl (fun _ => rfl) (by omega) (fun x11 tx11 => ?_)
          exact qw_gotoD rfl (ih5 x10 x11 a7 (FR.tr (hF5) (FR.sub fa7.1 (by decide))) (by omega) (SB.n hs (fun h9 => FN (pBq_iff.mp h9)) t34 (by omega)))
        · skip
          skip
          have FY : mayP V hu w.toInt.toNat h.toInt.toNat := by rcases p20 with h9 | h9; exact h9.2; omega
          refine qw_const rfl ?_
          refine qw_iload rfl rfl ?_
          refine qw_iiE rfl (fun x12 tx12 => ?_)
          have t29 := tx12
          refine qw_goto rfl ?_
          refine qw_iiE rfl (fun x13 tx13 => ?_)
          have t34 := tx13
          refine qw_istore (lo' := [some (.inr (.inr (some 0))), some (.inl q), some (.inl w), some (.inl x13), some (.inl h)]) rfl rfl ?_
          refine qw_iinc (lo' := fun z9 => [some (.inr (.inr (some 0))), some (.inl q), some (.inl w), some (.inl x13), some (.inl z9)]) rfl rfl (fun _ => rfl) (by omega) (fun x14 tx14 => ?_)
          exact qw_gotoD rfl (ih5 x13 x14 a7 (FR.tr (hF5) (FR.sub fa7.1 (by decide))) (by omega) (SB.y hs (by omega) (pBq_iff.mpr FY) (by omega) t29 t34 (by omega)))
  exact loop5 _ 0 0 a (FR.rf) (by omega) (rfl)
set_option maxRecDepth 4000 in
theorem y_starts_1 {d : Nat} (a : Nat → Nat → Int32) (b : Nat → Nat → Int64) (q : Int32) (hq : q.toInt = 1260) : f_pc mtM d 38 [.inr (.inr (some 0)), .inl q] (mH a b) (fun v9 h' => ∃ (a' : Nat → Nat → Int32), h' = mH a' b ∧ (FR [15] a a' ∧ HUS 1260 (fun _ => -1) a') ∧ v9 = none) := by
  refine f_pc_of rfl (fun d0 fu hd => ?_)
  show f_pq _ _ (0, [some (.inr (.inr (some 0))), some (.inl q), none], [], mH a b) _
  have lm1 : (-1 : Int32).toInt = -1 := rfl
  have l0 : (0 : Int32).toInt = 0 := rfl
  have l1 : (1 : Int32).toInt = 1 := rfl
  have l6 : (6 : Int32).toInt = 6 := rfl
  have l7 : (7 : Int32).toInt = 7 := rfl
  have l13 : (13 : Int32).toInt = 13 := rfl
  refine qw_aload rfl rfl ?_
  refine qw_getR (v := .inr (.inr (some 15))) rfl rfl rfl rfl rfl ?_
  refine qw_iload rfl rfl ?_
  refine qw_const rfl ?_
  first | refine qw_iadd rfl (by omega) (fun x1 tx1 => ?_) | refine qw_iiU rfl (fun x1 tx1 => ?_)
  refine qw_const rfl ?_
  refine qm_iast rfl rfl (fun ja2 a2 ea2 => ?_)
  refine qw_const rfl ?_
  refine qw_istore (lo' := [some (.inr (.inr (some 0))), some (.inl q), some (.inl 0)]) rfl rfl ?_
  have loop11 : ∀ (fu11 : Nat) (k : Int32) (a11 : Nat → Nat → Int32) ,  FR [15] a a11 →(0 ≤ k.toInt ∧ k.toInt ≤ 6) → (∀ i, i < k.toInt.toNat → a11 15 (1260 + 1 + i) = -1) → f_pq (f_code (t_X13_starts (f_ev mtM d0))) fu11 (11, [some (.inr (.inr (some 0))), some (.inl q), some (.inl k)], [], mH a11 b) (fun v9 h' => ∃ (a' : Nat → Nat → Int32), h' = mH a' b ∧ (FR [15] a a' ∧ HUS 1260 (fun _ => -1) a') ∧ v9 = none) := by
    intro fu11
    induction fu11 with
    | zero => intros; exact pq_0
    | succ fu11 ih11 =>
      intro k a11  hF11 hk hz
      refine qw_iload rfl rfl ?_
      refine qw_const rfl ?_
      refine qw_ic_ge rfl (fun c3 => ?_) (fun c3 => ?_)
      · skip
        exact qw_ret rfl ⟨a11, rfl, ⟨hF11, fun r hr => by rw [hz r (by omega)]; rfl⟩, rfl⟩
      · skip
        refine qw_aload rfl rfl ?_
        refine qw_getR (v := .inr (.inr (some 15))) rfl rfl rfl rfl rfl ?_
        refine qw_iload rfl rfl ?_
        refine qw_const rfl ?_
        first | refine qw_iadd rfl (by omega) (fun x4 tx4 => ?_) | refine qw_iiU rfl (fun x4 tx4 => ?_)
        refine qw_iload rfl rfl ?_
        first | refine qw_iadd rfl (by omega) (fun x5 tx5 => ?_) | refine qw_iiU rfl (fun x5 tx5 => ?_)
        refine qw_const rfl ?_
        refine qm_iast rfl rfl (fun ja6 a6 ea6 => ?_)
        refine qw_aload rfl rfl ?_
        refine qw_getR (v := .inr (.inr (some 15))) rfl rfl rfl rfl rfl ?_
        refine qw_iload rfl rfl ?_
        refine qw_const rfl ?_
        first | refine qw_iadd rfl (by omega) (fun x7 tx7 => ?_) | refine qw_iiU rfl (fun x7 tx7 => ?_)
        refine qw_iload rfl rfl ?_
        first | refine qw_iadd rfl (by omega) (fun x8 tx8 => ?_) | refine qw_iiU rfl (fun x8 tx8 => ?_)
        refine qw_const rfl ?_
        refine qm_iast rfl rfl (fun ja9 a9 ea9 => ?_)
        refine qw_aload rfl rfl ?_
        refine qw_getR (v := .inr (.inr (some 15))) rfl rfl rfl rfl rfl ?_
        refine qw_iload rfl rfl ?_
        refine qw_const rfl ?_
        first | refine qw_iadd rfl (by omega) (fun x10 tx10 => ?_) | refine qw_iiU rfl (fun x10 tx10 => ?_)
        refine qw_iload rfl rfl ?_
        first | refine qw_iadd rfl (by omega) (fun x11 tx11 => ?_) | refine qw_iiU rfl (fun x11 tx11 => ?_)
        refine qw_const rfl ?_
        refine qm_iast rfl rfl (fun ja12 a12 ea12 => ?_)
        refine qw_iinc (lo' := fun z9 => [some (.inr (.inr (some 0))), some (.inl q), some (.inl z9)]) rfl rfl (fun _ => rfl) (by omega) (fun x13 tx13 => ?_)
        exact qw_gotoD rfl (ih11 x13 a12 (FR.up (FR.up (FR.up (hF11) (by decide) ea6) (by decide) ea9) (by decide) ea12) (by omega) (fun i hi => by rw [ea12, mU_slot (by omega), ea9, mU_slot (by omega), ea6]; by_cases h : i = k.toInt.toNat; (rw [show 1260 + 1 + i = (x5).toInt.toNat from by omega, mU_same]); (rw [mU_slot (by omega)]; exact hz i (by omega))))
  exact loop11 _ 0 a2 (FR.up (FR.rf) (by decide) ea2) (by omega) (fun i hi => absurd hi (by omega))
set_option maxHeartbeats 1000000 in
set_option maxRecDepth 4000 in
theorem y_ends {d : Nat} (a : Nat → Nat → Int32) (b : Nat → Nat → Int64) (V : Nat → Int) (hV : LRL V a) (hG : GV V) : f_pc mtM d 70 [.inr (.inr (some 0))] (mH a b) (fun v9 h' => ∃ (a' : Nat → Nat → Int32), h' = mH a' b ∧ (FR [0, 15, 17] a a' ∧ True) ∧ ∃ x : Int32, v9 = some (.inl x) ∧ (ENDR V x)) := by
  refine f_pc_of rfl (fun d0 fu hd => ?_)
  show f_pq _ _ (0, [some (.inr (.inr (some 0))), none, none, none], [], mH a b) _
  have lm1 : (-1 : Int32).toInt = -1 := rfl
  have l0 : (0 : Int32).toInt = 0 := rfl
  have l1 : (1 : Int32).toInt = 1 := rfl
  have l1260 : (1260 : Int32).toInt = 1260 := rfl
  have g0 := hG.1
  refine qw_aload rfl rfl ?_
  refine qw_const rfl ?_
  refine qm_putI (z := false) rfl rfl rfl rfl (by first | (intro h9; cases h9; done) | (intro _; first | exact Or.inl rfl | exact Or.inr rfl | assumption)) (fun a1 ea1 => ?_)
  have ua1_0 : a1 0 0 = (0 : Int32) := by rw [ea1, mU_same]
  have wa1_0 := congrArg Int32.toInt ua1_0
  refine qw_aload rfl rfl ?_
  refine qw_const rfl ?_
  refine qw_invV (rest := []) rfl rfl rfl rfl rfl (Nat.le_of_ble_eq_true rfl) rfl (y_starts_1 (d := d0) a1 b  1260 (rfl)) (fun v2 h9 hq3 => ?_)
  obtain ⟨a4, rfl, fa4, rfl⟩ := hq3
  show f_pq _ _ (12, [some (.inr (.inr (some 0))), none, none, none], [], mH a4 b) _
  refine qw_const rfl ?_
  refine qw_istore (lo' := [some (.inr (.inr (some 0))), some (.inl 0), none, none]) rfl rfl ?_
  refine qw_const rfl ?_
  refine qw_istore (lo' := [some (.inr (.inr (some 0))), some (.inl 0), some (.inl 0), none]) rfl rfl ?_
  have loop16 : ∀ (fu16 : Nat) (k : Int32) (r : Int32) (a16 : Nat → Nat → Int32) (o3_16 : Option f_V),  FR [0, 15, 17] a a16 →(0 ≤ r.toInt ∧ r.toInt ≤ V 0) → (k = nI (wdN (FF V) r.toInt.toNat)) → (HUS 1260 (fun _ => -1) a16) → f_pq (f_code (t_X13_ends (f_ev mtM d0))) fu16 (16, [some (.inr (.inr (some 0))), some (.inl k), some (.inl r), o3_16], [], mH a16 b) (fun v9 h' => ∃ (a' : Nat → Nat → Int32), h' = mH a' b ∧ (FR [0, 15, 17] a a' ∧ True) ∧ ∃ x : Int32, v9 = some (.inl x) ∧ (ENDR V x)) := by
    intro fu16
    induction fu16 with
    | zero => intros; exact pq_0
    | succ fu16 ih16 =>
      intro k r a16 o3_16 hF16 hr hk hU
      have hV16 := hV.same (a' := a16) (fun _ _ => by rw [hF16 6 (by decide)])
      refine qw_iload rfl rfl ?_
      refine qw_aload rfl rfl ?_
      refine qw_invV (rest := [.inl r]) rfl rfl rfl rfl rfl (Nat.le_of_ble_eq_true rfl) rfl (y_rivers (d := d0) a16 b V  (hV16)) (fun v5 h9 hq6 => ?_)
      obtain ⟨rfl, x7, rfl, px7⟩ := hq6
      show f_pq _ _ (21, [some (.inr (.inr (some 0))), some (.inl k), some (.inl r), o3_16], [.inl x7, .inl r], mH a16 b) _
      refine qw_ic_ge rfl (fun c8 => ?_) (fun c8 => ?_)
      · skip
        refine qw_const rfl ?_
        refine qw_aload rfl rfl ?_
        refine qw_invV (rest := [.inl 1]) rfl rfl rfl rfl rfl (Nat.le_of_ble_eq_true rfl) rfl (y_rivers (d := d0) a16 b V  (hV16)) (fun v9 h9 hq10 => ?_)
        obtain ⟨rfl, x11, rfl, px11⟩ := hq10
        show f_pq _ _ (60, [some (.inr (.inr (some 0))), some (.inl k), some (.inl r), o3_16], [.inl x11, .inl 1], mH a16 b) _
        have p57 := px11
        refine qw_iiE rfl (fun x12 tx12 => ?_)
        have t60 := tx12
        refine qw_const rfl ?_
        refine qw_iiE rfl (fun x13 tx13 => ?_)
        have t62 := tx13
        refine qw_iload rfl rfl ?_
        refine qw_const rfl ?_
        refine qw_iiE rfl (fun x14 tx14 => ?_)
        have t65 := tx14
        refine qw_iiE rfl (fun x15 tx15 => ?_)
        have t66 := tx15
        exact qwp_iret (z := false) rfl (fun h9 => by cases h9) ⟨a16, rfl, ⟨hF16, trivial⟩, ⟨_, rfl, ENDR.mk hG p57 (by rw [show (V 0).toNat = r.toInt.toNat from by omega]; exact hk) t60 t62 t65 t66⟩⟩
      · skip
        refine qw_aload rfl rfl ?_
        refine qw_const rfl ?_
        refine qw_iload rfl rfl ?_
        refine qw_invV (rest := []) rfl rfl rfl rfl rfl (Nat.le_of_ble_eq_true rfl) rfl (y_mayOf (d := d0) a16 b V 1260 (fun _ => -1) 1260 r (rfl) (by decide) (hU) (fun _ => ⟨Int.le_refl _, by show (-1 : Int) < V 0; omega⟩) (hV16) (by omega) (by omega)) (fun v16 h9 hq17 => ?_)
        obtain ⟨a18, rfl, fa18, x19, rfl, px19⟩ := hq17
        show f_pq _ _ (32, [some (.inr (.inr (some 0))), some (.inl k), some (.inl r), o3_16], [.inl x19], mH a18 b) _
        have x29 : x19 = nI (FF V r.toInt.toNat) := (px19).trans (congrArg nI MB_none)
        refine qw_istore (lo' := [some (.inr (.inr (some 0))), some (.inl k), some (.inl r), some (.inl x19)]) rfl rfl ?_
        refine qw_iload rfl rfl ?_
        refine qw_iload rfl rfl ?_
        refine qw_if_ne rfl (fun c20 => ?_) (fun c20 => ?_)
        · skip
          skip
          have c35 := c20
          refine qw_const rfl ?_
          refine qw_goto rfl ?_
          refine qw_iiE rfl (fun x21 tx21 => ?_)
          have t47 := tx21
          refine qw_istore (lo' := [some (.inr (.inr (some 0))), some (.inl x21), some (.inl r), some (.inl x19)]) rfl rfl ?_
          refine qw_iinc (lo' := fun z9 => [some (.inr (.inr (some 0))), some (.inl x21), some (.inl z9), some (.inl x19)]) rfl rfl (fun _ => rfl) (by omega) (fun x22 tx22 => ?_)
          exact qw_gotoD rfl (ih16 x21 x22 a18 (some (.inl x19)) (FR.tr (hF16) (FR.sub fa18.1 (by decide))) (by omega) (wd_z hk (FF_64 hG _) x29 c35 t47 (by omega)) (hU.same (fun _ _ => by rw [fa18.1 15 (by decide)])))
        · skip
          skip
          have c35 := c20
          refine qw_iload rfl rfl ?_
          refine qw_const rfl ?_
          refine qw_iload rfl rfl ?_
          refine qw_iiE rfl (fun x23 tx23 => ?_)
          have t45 := tx23
          refine qw_iiE rfl (fun x24 tx24 => ?_)
          have t46 := tx24
          refine qw_iiE rfl (fun x25 tx25 => ?_)
          have t47 := tx25
          refine qw_istore (lo' := [some (.inr (.inr (some 0))), some (.inl x25), some (.inl r), some (.inl x19)]) rfl rfl ?_
          refine qw_iinc (lo' := fun z9 => [some (.inr (.inr (some 0))), some (.inl x25), some (.inl z9), some (.inl x19)]) rfl rfl (fun _ => rfl) (by omega) (fun x26 tx26 => ?_)
          exact qw_gotoD rfl (ih16 x25 x26 a18 (some (.inl x19)) (FR.tr (hF16) (FR.sub fa18.1 (by decide))) (by omega) (wd_y hk (FF_64 hG) (by omega) x29 c35 (by omega) t45 t46 t47 (by omega)) (hU.same (fun _ _ => by rw [fa18.1 15 (by decide)])))
  exact loop16 _ 0 0 a4 none (FR.tr (FR.up (FR.rf) (by decide) ea1) (FR.sub fa4.1 (by decide))) (by omega) (rfl) (fa4.2)
