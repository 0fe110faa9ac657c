set_option maxHeartbeats 1000000 in
set_option maxRecDepth 4000 in
theorem y_X3_kinSteps_1 {d : Nat} (a : Nat → Nat → Int32) (b : Nat → Nat → Int64) (v : Nat → Option Nat) (V : Nat → Int) (L : Nat) (i : Int32) (j : Int32) (hL : L = 22 ∨ L = 46) (hC : CLI L V a) (hG : GV V) (hi : (0 ≤ i.toInt ∧ i.toInt < V 0)) (hj : (0 ≤ j.toInt ∧ j.toInt < V 0)) : f_pc mtC d 21 [.inr (.inr (some L)), .inl i, .inl j] (cH a b v) (fun v9 h' => h' = cH a b v ∧ ∃ x : Int32, v9 = some (.inl x) ∧ (KSR V i.toInt j.toInt x.toInt)) := by
  refine f_pc_of rfl (fun d0 fu hd => ?_)
  show f_pq _ _ (0, [some (.inr (.inr (some L))), some (.inl i), some (.inl j), none, none, none, none], [], cH a b v) _
  have lm1 : (-1 : Int32).toInt = -1 := rfl
  have l0 : (0 : Int32).toInt = 0 := rfl
  have l1 : (1 : Int32).toInt = 1 := rfl
  have l6 : (6 : Int32).toInt = 6 := rfl
  have l99 : (99 : Int32).toInt = 99 := rfl
  have r0 := hC.1
  have r1 := hC.2.1
  have g0 := hG.1
  have g1 := hG.2.1
  refine qw_iload rfl rfl ?_
  refine qw_istore (lo' := [some (.inr (.inr (some L))), some (.inl i), some (.inl j), some (.inl i), none, none, none]) rfl rfl ?_
  refine qw_const rfl ?_
  refine qw_istore (lo' := [some (.inr (.inr (some L))), some (.inl i), some (.inl j), some (.inl i), some (.inl 0), none, none]) rfl rfl ?_
  have loop5 : ∀ (fu5 : Nat) (u : Int32) (m : Int32) (o5_5 : Option f_V) (o6_5 : Option f_V),  (0 ≤ m.toInt ∧ m.toInt ≤ 6) → (u.toInt = anc V i.toInt m.toInt.toNat) → (∀ q, q < 6 * m.toInt.toNat → ¬ mtc V i.toInt j.toInt q) → f_pq (f_code (t_X3_kinSteps (f_ev mtC d0))) fu5 (5, [some (.inr (.inr (some L))), some (.inl i), some (.inl j), some (.inl u), some (.inl m), o5_5, o6_5], [], cH a b v) (fun v9 h' => h' = cH a b v ∧ ∃ x : Int32, v9 = some (.inl x) ∧ (KSR V i.toInt j.toInt x.toInt)) := by
    intro fu5
    induction fu5 with
    | zero => intros; exact pq_0
    | succ fu5 ih5 =>
      intro u m o5_5 o6_5 hm hu hn
      have ru := anc_r hG (i := i.toInt) (by omega) m.toInt.toNat
      refine qw_iload rfl rfl ?_
      refine qw_const rfl ?_
      refine qw_ic_ge rfl (fun c1 => ?_) (fun c1 => ?_)
      · skip
        have NY : ∀ q, q < 36 → ¬ mtc V i.toInt j.toInt q := fun q hq => hn q (by omega)
        refine qw_const rfl ?_
        exact qwp_iret (z := false) rfl (fun h9 => by cases h9) ⟨rfl, ⟨_, rfl, Or.inr ⟨rfl, NY⟩⟩⟩
      · skip
        refine qw_iload rfl rfl ?_
        refine qw_const rfl ?_
        refine qw_ic_eq rfl (fun c2 => ?_) (fun c2 => ?_)
        · skip
          have NY : ∀ q, q < 36 → ¬ mtc V i.toInt j.toInt q := fun q h9 hh => by rcases (by omega : q < 6 * m.toInt.toNat ∨ m.toInt.toNat ≤ q / 6) with h | h; exact hn q h hh; exact hh.1 (anc_none (V := V) (i := i.toInt) (n := m.toInt.toNat) (by omega) (q / 6) h)
          refine qw_const rfl ?_
          exact qwp_iret (z := false) rfl (fun h9 => by cases h9) ⟨rfl, ⟨_, rfl, Or.inr ⟨rfl, NY⟩⟩⟩
        · skip
          refine qw_iload rfl rfl ?_
          refine qw_istore (lo' := [some (.inr (.inr (some L))), some (.inl i), some (.inl j), some (.inl u), some (.inl m), some (.inl j), o6_5]) rfl rfl ?_
          refine qw_const rfl ?_
          refine qw_istore (lo' := [some (.inr (.inr (some L))), some (.inl i), some (.inl j), some (.inl u), some (.inl m), some (.inl j), some (.inl 0)]) rfl rfl ?_
          have loop23 : ∀ (fu23 : Nat), fu23 ≤ (fu5 + 1) → ∀ (w : Int32) (k : Int32) ,  (0 ≤ k.toInt ∧ k.toInt ≤ 6) → (w.toInt = anc V j.toInt k.toInt.toNat) → (∀ q, q < 6 * m.toInt.toNat + k.toInt.toNat → ¬ mtc V i.toInt j.toInt q) → f_pq (f_code (t_X3_kinSteps (f_ev mtC d0))) fu23 (23, [some (.inr (.inr (some L))), some (.inl i), some (.inl j), some (.inl u), some (.inl m), some (.inl w), some (.inl k)], [], cH a b v) (fun v9 h' => h' = cH a b v ∧ ∃ x : Int32, v9 = some (.inl x) ∧ (KSR V i.toInt j.toInt x.toInt)) := by
            intro fu23
            induction fu23 with
            | zero => intros; exact pq_0
            | succ fu23 ih23 =>
              intro hle23
              intro w k  hk hw hq
              have hq0 := hq
              have rw_ := anc_r hG (i := j.toInt) (by omega) k.toInt.toNat
              refine qw_iload rfl rfl ?_
              refine qw_const rfl ?_
              refine qw_ic_ge rfl (fun c3 => ?_) (fun c3 => ?_)
              · skip
                have NX : ∀ q, q < 6 * (m.toInt.toNat + 1) → ¬ mtc V i.toInt j.toInt q := fun q hq => hq0 q (by omega)
                refine qw_aload rfl rfl ?_
                refine qc_getR (t := some (L + 1)) rfl (sh_land (by omega)) rfl rfl (rC_land0 (by omega)) ?_
                refine qw_iload rfl rfl ?_
                refine qc_aald5 (t := some ((L + 1) + 11 + 2 * u.toInt.toNat)) rfl (sh_row (by omega)) (rC_row (by omega)) (fun jr71 => ?_)
                refine qc_getI rfl (sh_riv (by omega)) rfl rfl ?_
                have mo1 : (a ((L + 1) + 11 + 2 * u.toInt.toNat) 11).toInt = V (7 + 14 * u.toInt.toNat + 12) := (hC.2.2.2.2 u.toInt.toNat (by omega)).2.2.2.2.2.2.2
                refine qw_istore (lo' := [some (.inr (.inr (some L))), some (.inl i), some (.inl j), some (.inl (a ((L + 1) + 11 + 2 * u.toInt.toNat) 11)), some (.inl m), some (.inl w), some (.inl k)]) rfl rfl ?_
                refine qw_iinc (lo' := fun z9 => [some (.inr (.inr (some L))), some (.inl i), some (.inl j), some (.inl (a ((L + 1) + 11 + 2 * u.toInt.toNat) 11)), some (.inl z9), some (.inl w), some (.inl k)]) rfl rfl (fun _ => rfl) (by omega) (fun x4 tx4 => ?_)
                exact qw_gotoD rfl (pq_le (by omega) (ih5 (a ((L + 1) + 11 + 2 * u.toInt.toNat) 11) x4 (some (.inl w)) (some (.inl k))  (by omega) (by rw [show (x4).toInt.toNat = m.toInt.toNat + 1 from by omega, anc_y (by omega), ← hu]; exact mo1) (by rw [show (x4).toInt.toNat = m.toInt.toNat + 1 from by omega]; exact NX)))
              · skip
                refine qw_iload rfl rfl ?_
                refine qw_const rfl ?_
                refine qw_ic_eq rfl (fun c5 => ?_) (fun c5 => ?_)
                · skip
                  have NX : ∀ q, q < 6 * (m.toInt.toNat + 1) → ¬ mtc V i.toInt j.toInt q := fun q h9 hh => by rcases (by omega : q < 6 * m.toInt.toNat + k.toInt.toNat ∨ (q / 6 = m.toInt.toNat ∧ k.toInt.toNat ≤ q % 6)) with h | h; exact hq0 q h hh; (have h1 := anc_none (V := V) (i := j.toInt) (n := k.toInt.toNat) (by omega) (q % 6) h.2; have h2 := hh.2; have h3 := hh.1; rw [h1] at h2; exact h3 h2)
                  refine qw_aload rfl rfl ?_
                  refine qc_getR (t := some (L + 1)) rfl (sh_land (by omega)) rfl rfl (rC_land0 (by omega)) ?_
                  refine qw_iload rfl rfl ?_
                  refine qc_aald5 (t := some ((L + 1) + 11 + 2 * u.toInt.toNat)) rfl (sh_row (by omega)) (rC_row (by omega)) (fun jr71 => ?_)
                  refine qc_getI rfl (sh_riv (by omega)) rfl rfl ?_
                  have mo1 : (a ((L + 1) + 11 + 2 * u.toInt.toNat) 11).toInt = V (7 + 14 * u.toInt.toNat + 12) := (hC.2.2.2.2 u.toInt.toNat (by omega)).2.2.2.2.2.2.2
                  refine qw_istore (lo' := [some (.inr (.inr (some L))), some (.inl i), some (.inl j), some (.inl (a ((L + 1) + 11 + 2 * u.toInt.toNat) 11)), some (.inl m), some (.inl w), some (.inl k)]) rfl rfl ?_
                  refine qw_iinc (lo' := fun z9 => [some (.inr (.inr (some L))), some (.inl i), some (.inl j), some (.inl (a ((L + 1) + 11 + 2 * u.toInt.toNat) 11)), some (.inl z9), some (.inl w), some (.inl k)]) rfl rfl (fun _ => rfl) (by omega) (fun x6 tx6 => ?_)
                  exact qw_gotoD rfl (pq_le (by omega) (ih5 (a ((L + 1) + 11 + 2 * u.toInt.toNat) 11) x6 (some (.inl w)) (some (.inl k))  (by omega) (by rw [show (x6).toInt.toNat = m.toInt.toNat + 1 from by omega, anc_y (by omega), ← hu]; exact mo1) (by rw [show (x6).toInt.toNat = m.toInt.toNat + 1 from by omega]; exact NX)))
                · skip
                  refine qw_iload rfl rfl ?_
                  refine qw_iload rfl rfl ?_
                  refine qw_ic_ne rfl (fun c7 => ?_) (fun c7 => ?_)
                  · skip
                    refine qw_iload rfl rfl ?_
                    refine qw_iload rfl rfl ?_
                    first | refine qw_iadd rfl (by omega) (fun x8 tx8 => ?_) | refine qw_iiU rfl (fun x8 tx8 => ?_)
                    exact qwp_iret (z := false) rfl (fun h9 => by cases h9) ⟨rfl, ⟨_, rfl, Or.inl ⟨6 * m.toInt.toNat + k.toInt.toNat, by omega, ⟨by rw [show (6 * m.toInt.toNat + k.toInt.toNat) / 6 = m.toInt.toNat from by omega]; omega, by rw [show (6 * m.toInt.toNat + k.toInt.toNat) / 6 = m.toInt.toNat from by omega, show (6 * m.toInt.toNat + k.toInt.toNat) % 6 = k.toInt.toNat from by omega]; omega⟩, by omega, hq0⟩⟩⟩
                  · skip
                    refine qw_aload rfl rfl ?_
                    refine qc_getR (t := some (L + 1)) rfl (sh_land (by omega)) rfl rfl (rC_land0 (by omega)) ?_
                    refine qw_iload rfl rfl ?_
                    refine qc_aald5 (t := some ((L + 1) + 11 + 2 * w.toInt.toNat)) rfl (sh_row (by omega)) (rC_row (by omega)) (fun jr54 => ?_)
                    refine qc_getI rfl (sh_riv (by omega)) rfl rfl ?_
                    have mo2 : (a ((L + 1) + 11 + 2 * w.toInt.toNat) 11).toInt = V (7 + 14 * w.toInt.toNat + 12) := (hC.2.2.2.2 w.toInt.toNat (by omega)).2.2.2.2.2.2.2
                    refine qw_istore (lo' := [some (.inr (.inr (some L))), some (.inl i), some (.inl j), some (.inl u), some (.inl m), some (.inl (a ((L + 1) + 11 + 2 * w.toInt.toNat) 11)), some (.inl k)]) rfl rfl ?_
                    refine qw_iinc (lo' := fun z9 => [some (.inr (.inr (some L))), some (.inl i), some (.inl j), some (.inl u), some (.inl m), some (.inl (a ((L + 1) + 11 + 2 * w.toInt.toNat) 11)), some (.inl z9)]) rfl rfl (fun _ => rfl) (by omega) (fun x9 tx9 => ?_)
                    exact qw_gotoD rfl (ih23 (by omega) (a ((L + 1) + 11 + 2 * w.toInt.toNat) 11) x9  (by omega) (by rw [show (x9).toInt.toNat = k.toInt.toNat + 1 from by omega, anc_y (by omega), ← hw]; exact mo2) (fun q hq => by rcases (by omega : q < 6 * m.toInt.toNat + k.toInt.toNat ∨ q = 6 * m.toInt.toNat + k.toInt.toNat) with h | h; exact hq0 q h; (rw [h]; intro hh; have h1 := hh.2; rw [show (6 * m.toInt.toNat + k.toInt.toNat) / 6 = m.toInt.toNat from by omega, show (6 * m.toInt.toNat + k.toInt.toNat) % 6 = k.toInt.toNat from by omega, ← hu, ← hw] at h1; omega)))
          exact loop23 _ (Nat.le_refl _) j 0  (by omega) (rfl) (fun q hq => hn q (by omega))
  exact loop5 _ i 0 none none  (by omega) (rfl) (fun q hq => absurd hq (by omega))
set_option maxHeartbeats 1000000 in
set_option maxRecDepth 4000 in
theorem y_X3_isFit_1 {d : Nat} (a : Nat → Nat → Int32) (b : Nat → Nat → Int64) (v : Nat → Option Nat) (V : Nat → Int) (L : Nat) (i : Int32) (j : Int32) (hL : L = 22 ∨ L = 46) (hC : CLI L V a) (hG : GV V) (hi : (0 ≤ i.toInt ∧ i.toInt < V 0)) (hj : (0 ≤ j.toInt ∧ j.toInt < V 0)) : f_pc mtC d 16 [.inr (.inr (some L)), .inl i, .inl j] (cH a b v) (fun v9 h' => h' = cH a b v ∧ ∃ x : Int32, v9 = some (.inl x) ∧ ((x.toInt = 1 ∧ fitP V i.toInt.toNat j.toInt.toNat) ∨ (x.toInt = 0 ∧ ¬ fitP V i.toInt.toNat j.toInt.toNat))) := by
  refine f_pc_of rfl (fun d0 fu hd => ?_)
  show f_pq _ _ (0, [some (.inr (.inr (some L))), some (.inl i), some (.inl j), none, none], [], cH a b v) _
  have l0 : (0 : Int32).toInt = 0 := rfl
  have l1 : (1 : Int32).toInt = 1 := rfl
  have l3 : (3 : Int32).toInt = 3 := rfl
  have r0 := hC.1
  have r1 := hC.2.1
  have g0 := hG.1
  have g1 := hG.2.1
  have ki : (a (L + 1 + 11 + 2 * i.toInt.toNat) 3).toInt = V (7 + 14 * i.toInt.toNat + 0) := (hC.2.2.2.2 i.toInt.toNat (by omega)).1
  have si : (a (L + 1 + 11 + 2 * i.toInt.toNat) 4).toInt = V (7 + 14 * i.toInt.toNat + 1) := (hC.2.2.2.2 i.toInt.toNat (by omega)).2.1
  have mi : (a (L + 1 + 11 + 2 * i.toInt.toNat) 5).toInt = V (7 + 14 * i.toInt.toNat + 2) := (hC.2.2.2.2 i.toInt.toNat (by omega)).2.2.1
  have kj : (a (L + 1 + 11 + 2 * j.toInt.toNat) 3).toInt = V (7 + 14 * j.toInt.toNat + 0) := (hC.2.2.2.2 j.toInt.toNat (by omega)).1
  have sj : (a (L + 1 + 11 + 2 * j.toInt.toNat) 4).toInt = V (7 + 14 * j.toInt.toNat + 1) := (hC.2.2.2.2 j.toInt.toNat (by omega)).2.1
  have mj : (a (L + 1 + 11 + 2 * j.toInt.toNat) 5).toInt = V (7 + 14 * j.toInt.toNat + 2) := (hC.2.2.2.2 j.toInt.toNat (by omega)).2.2.1
  have kn := hC.2.2.1.1
  refine qw_aload rfl rfl ?_
  refine qc_getR (t := some (L + 1)) rfl (sh_land (by omega)) rfl rfl (rC_land0 (by omega)) ?_
  refine qw_iload rfl rfl ?_
  refine qc_aald5 (t := some ((L + 1) + 11 + 2 * i.toInt.toNat)) rfl (sh_row (by omega)) (rC_row (by omega)) (fun jr5 => ?_)
  refine qw_astore (lo' := [some (.inr (.inr (some L))), some (.inl i), some (.inl j), some (.inr (.inr (some ((L + 1) + 11 + 2 * i.toInt.toNat)))), none]) rfl rfl ?_
  refine qw_aload rfl rfl ?_
  refine qc_getR (t := some (L + 1)) rfl (sh_land (by omega)) rfl rfl (rC_land0 (by omega)) ?_
  refine qw_iload rfl rfl ?_
  refine qc_aald5 (t := some ((L + 1) + 11 + 2 * j.toInt.toNat)) rfl (sh_row (by omega)) (rC_row (by omega)) (fun jr12 => ?_)
  refine qw_astore (lo' := [some (.inr (.inr (some L))), some (.inl i), some (.inl j), some (.inr (.inr (some ((L + 1) + 11 + 2 * i.toInt.toNat)))), some (.inr (.inr (some ((L + 1) + 11 + 2 * j.toInt.toNat))))]) rfl rfl ?_
  refine qw_iload rfl rfl ?_
  refine qw_iload rfl rfl ?_
  refine qw_ic_eq rfl (fun c1 => ?_) (fun c1 => ?_)
  · skip
    refine qw_const rfl ?_
    exact qwp_iret (z := true) rfl (fun _ => by first | exact Or.inl rfl | exact Or.inr rfl | (rcases (by omega : (0 : Int32).toInt = 0 ∨ (0 : Int32).toInt = 1) with h8 | h8; exact Or.inl (ti_eq h8); exact Or.inr (ti_eq h8))) ⟨rfl, ⟨_, rfl, by unfold fitP; first | exact Or.inl ⟨rfl, by omega⟩ | exact Or.inr ⟨rfl, by omega⟩⟩⟩
  · skip
    refine qw_aload rfl rfl ?_
    refine qc_getI rfl (sh_riv (by omega)) rfl rfl ?_
    refine qw_const rfl ?_
    refine qw_ic_eq rfl (fun c2 => ?_) (fun c2 => ?_)
    · skip
      refine qw_const rfl ?_
      exact qwp_iret (z := true) rfl (fun _ => by first | exact Or.inl rfl | exact Or.inr rfl | (rcases (by omega : (0 : Int32).toInt = 0 ∨ (0 : Int32).toInt = 1) with h8 | h8; exact Or.inl (ti_eq h8); exact Or.inr (ti_eq h8))) ⟨rfl, ⟨_, rfl, by unfold fitP; first | exact Or.inl ⟨rfl, by omega⟩ | exact Or.inr ⟨rfl, by omega⟩⟩⟩
    · skip
      refine qw_aload rfl rfl ?_
      refine qc_getI rfl (sh_riv (by omega)) rfl rfl ?_
      refine qw_const rfl ?_
      refine qw_ic_eq rfl (fun c3 => ?_) (fun c3 => ?_)
      · skip
        refine qw_const rfl ?_
        exact qwp_iret (z := true) rfl (fun _ => by first | exact Or.inl rfl | exact Or.inr rfl | (rcases (by omega : (0 : Int32).toInt = 0 ∨ (0 : Int32).toInt = 1) with h8 | h8; exact Or.inl (ti_eq h8); exact Or.inr (ti_eq h8))) ⟨rfl, ⟨_, rfl, by unfold fitP; first | exact Or.inl ⟨rfl, by omega⟩ | exact Or.inr ⟨rfl, by omega⟩⟩⟩
      · skip
        refine qw_aload rfl rfl ?_
        refine qc_getI rfl (sh_riv (by omega)) rfl rfl ?_
        refine qw_aload rfl rfl ?_
        refine qc_getI rfl (sh_riv (by omega)) rfl rfl ?_
        refine qw_ic_lt rfl (fun c4 => ?_) (fun c4 => ?_)
        · skip
          refine qw_const rfl ?_
          exact qwp_iret (z := true) rfl (fun _ => by first | exact Or.inl rfl | exact Or.inr rfl | (rcases (by omega : (0 : Int32).toInt = 0 ∨ (0 : Int32).toInt = 1) with h8 | h8; exact Or.inl (ti_eq h8); exact Or.inr (ti_eq h8))) ⟨rfl, ⟨_, rfl, by unfold fitP; first | exact Or.inl ⟨rfl, by omega⟩ | exact Or.inr ⟨rfl, by omega⟩⟩⟩
        · skip
          refine qw_aload rfl rfl ?_
          refine qc_getI rfl (sh_riv (by omega)) rfl rfl ?_
          refine qw_aload rfl rfl ?_
          refine qc_getI rfl (sh_riv (by omega)) rfl rfl ?_
          refine qw_ic_le rfl (fun c5 => ?_) (fun c5 => ?_)
          · skip
            refine qw_const rfl ?_
            exact qwp_iret (z := true) rfl (fun _ => by first | exact Or.inl rfl | exact Or.inr rfl | (rcases (by omega : (0 : Int32).toInt = 0 ∨ (0 : Int32).toInt = 1) with h8 | h8; exact Or.inl (ti_eq h8); exact Or.inr (ti_eq h8))) ⟨rfl, ⟨_, rfl, by unfold fitP; first | exact Or.inl ⟨rfl, by omega⟩ | exact Or.inr ⟨rfl, by omega⟩⟩⟩
          · skip
            refine qw_aload rfl rfl ?_
            refine qw_iload rfl rfl ?_
            refine qw_iload rfl rfl ?_
            refine qw_invV (rest := []) rfl rfl (sh_land (by omega)) rfl rfl (Nat.le_of_ble_eq_true rfl) rfl (y_X3_kinSteps_1 (d := d0) a b v V L i j (hL) (hC) (hG) (hi) (hj)) (fun z6 h9 hq7 => ?_)
            obtain ⟨rfl, x8, rfl, px8⟩ := hq7
            show f_pq _ _ (67, [some (.inr (.inr (some L))), some (.inl i), some (.inl j), some (.inr (.inr (some ((L + 1) + 11 + 2 * i.toInt.toNat)))), some (.inr (.inr (some ((L + 1) + 11 + 2 * j.toInt.toNat))))], [.inl x8], cH a b v) _
            have F9 := ks_fw2 hG hi hj px8
            refine qw_aload rfl rfl ?_
            refine qc_getI rfl (sh_land (by omega)) rfl rfl ?_
            refine qw_ic_le rfl (fun c9 => ?_) (fun c9 => ?_)
            · skip
              refine qw_const rfl ?_
              exact qwp_iret (z := true) rfl (fun _ => by first | exact Or.inl rfl | exact Or.inr rfl | (rcases (by omega : (0 : Int32).toInt = 0 ∨ (0 : Int32).toInt = 1) with h8 | h8; exact Or.inl (ti_eq h8); exact Or.inr (ti_eq h8))) ⟨rfl, ⟨_, rfl, by unfold fitP; first | exact Or.inl ⟨rfl, by omega⟩ | exact Or.inr ⟨rfl, by omega⟩⟩⟩
            · skip
              refine qw_const rfl ?_
              refine qw_goto rfl ?_
              exact qwp_iret (z := true) rfl (fun _ => by first | exact Or.inl rfl | exact Or.inr rfl | (rcases (by omega : (1 : Int32).toInt = 0 ∨ (1 : Int32).toInt = 1) with h8 | h8; exact Or.inl (ti_eq h8); exact Or.inr (ti_eq h8))) ⟨rfl, ⟨_, rfl, by unfold fitP; first | exact Or.inl ⟨rfl, by omega⟩ | exact Or.inr ⟨rfl, by omega⟩⟩⟩
set_option maxRecDepth 4000 in
theorem y_X3_sumUp {d : Nat} (a : Nat → Nat → Int32) (b : Nat → Nat → Int64) (v : Nat → Option Nat) (L : Nat) (i : Int32) (hL : L = 22 ∨ L = 46) : f_pc mtC d 17 [.inr (.inr (some L)), .inl i] (cH a b v) (fun v9 h' => ∃ (a' : Nat → Nat → Int32), h' = cH a' b v ∧ (FR [L + 11] a a' ∧ True) ∧ v9 = none) := by
  refine f_pc_of rfl (fun d0 fu hd => ?_)
  show f_pq _ _ (0, [some (.inr (.inr (some L))), some (.inl i), none, none, none, none, none, none], [], cH a b v) _
  have l0 : (0 : Int32).toInt = 0 := rfl
  have l1 : (1 : Int32).toInt = 1 := rfl
  have l2 : (2 : Int32).toInt = 2 := rfl
  have l4 : (4 : Int32).toInt = 4 := rfl
  have l64 : (64 : Int32).toInt = 64 := rfl
  refine qw_iload rfl rfl ?_
  refine qw_const rfl ?_
  first | refine qw_imulR rfl (c := 64) rfl (by omega) (fun x1 tx1 => ?_) | refine qw_iiU rfl (fun x1 tx1 => ?_)
  refine qw_istore (lo' := [some (.inr (.inr (some L))), some (.inl i), some (.inl x1), none, none, none, none, none]) rfl rfl ?_
  refine qw_iload rfl rfl ?_
  refine qw_const rfl ?_
  first | refine qw_iadd rfl (by omega) (fun x2 tx2 => ?_) | refine qw_iiU rfl (fun x2 tx2 => ?_)
  refine qw_const rfl ?_
  first | refine qw_imulR rfl (c := 64) rfl (by omega) (fun x3 tx3 => ?_) | refine qw_iiU rfl (fun x3 tx3 => ?_)
  refine qw_istore (lo' := [some (.inr (.inr (some L))), some (.inl i), some (.inl x1), some (.inl x3), none, none, none, none]) rfl rfl ?_
  refine qw_aload rfl rfl ?_
  refine qc_getR (t := some (L + 11)) rfl (sh_land (by omega)) rfl rfl (rC_land6 (by omega)) ?_
  refine qw_iload rfl rfl ?_
  refine qw_const rfl ?_
  refine qc_iast rfl (sh_sums (by omega)) (fun ja4 a4 ea4 => ?_)
  refine qw_aload rfl rfl ?_
  refine qc_getR (t := some (L + 11)) rfl (sh_land (by omega)) rfl rfl (rC_land6 (by omega)) ?_
  refine qw_iload rfl rfl ?_
  refine qw_const rfl ?_
  refine qc_iast rfl (sh_sums (by omega)) (fun ja5 a5 ea5 => ?_)
  refine qw_const rfl ?_
  refine qw_istore (lo' := [some (.inr (.inr (some L))), some (.inl i), some (.inl x1), some (.inl x3), some (.inl 0), none, none, none]) rfl rfl ?_
  have loop29 : ∀ (fu29 : Nat) (r : Int32) (a29 : Nat → Nat → Int32) (o5_29 : Option f_V) (o6_29 : Option f_V) (o7_29 : Option f_V),  FR [L + 11] a a29 →  f_pq (f_code (t_X3_sumUp (f_ev mtC d0))) fu29 (29, [some (.inr (.inr (some L))), some (.inl i), some (.inl x1), some (.inl x3), some (.inl r), o5_29, o6_29, o7_29], [], cH a29 b v) (fun v9 h' => ∃ (a' : Nat → Nat → Int32), h' = cH a' b v ∧ (FR [L + 11] a a' ∧ True) ∧ v9 = none) := by
    intro fu29
    induction fu29 with
    | zero => intros; exact pq_0
    | succ fu29 ih29 =>
      intro r a29 o5_29 o6_29 o7_29 hF29 
      refine qw_iload rfl rfl ?_
      refine qw_aload rfl rfl ?_
      refine qc_getI rfl (sh_land (by omega)) rfl rfl ?_
      refine qw_ic_ge rfl (fun c6 => ?_) (fun c6 => ?_)
      · skip
        exact qw_ret rfl ⟨a29, rfl, ⟨hF29, trivial⟩, rfl⟩
      · skip
        refine qw_aload rfl rfl ?_
        refine qc_getR (t := some (L + 1)) rfl (sh_land (by omega)) rfl rfl (rC_land0 (by omega)) ?_
        refine qw_iload rfl rfl ?_
        refine qc_aald5 (t := some ((L + 1) + 11 + 2 * r.toInt.toNat)) rfl (sh_row (by omega)) (rC_row (by omega)) (fun jr44 => ?_)
        refine qc_getR (t := some (((L + 1) + 11 + 2 * r.toInt.toNat) + 1)) rfl (sh_riv (by omega)) rfl rfl (rC_riv0 (by omega)) ?_
        refine qw_iload rfl rfl ?_
        refine qc_iald rfl (sh_wat (by omega)) (fun jx7 x7 ex7 => ?_)
        refine qw_istore (lo' := [some (.inr (.inr (some L))), some (.inl i), some (.inl x1), some (.inl x3), some (.inl r), some (.inl x7), o6_29, o7_29]) rfl rfl ?_
        refine qw_const rfl ?_
        refine qw_istore (lo' := [some (.inr (.inr (some L))), some (.inl i), some (.inl x1), some (.inl x3), some (.inl r), some (.inl x7), some (.inl 0), o7_29]) rfl rfl ?_
        have loop55 : ∀ (fu55 : Nat), fu55 ≤ (fu29 + 1) → ∀ (m : Int32) (a55 : Nat → Nat → Int32) (o7_55 : Option f_V),  FR [L + 11] a a55 →  f_pq (f_code (t_X3_sumUp (f_ev mtC d0))) fu55 (55, [some (.inr (.inr (some L))), some (.inl i), some (.inl x1), some (.inl x3), some (.inl r), some (.inl x7), some (.inl m), o7_55], [], cH a55 b v) (fun v9 h' => ∃ (a' : Nat → Nat → Int32), h' = cH a' b v ∧ (FR [L + 11] a a' ∧ True) ∧ v9 = none) := by
          intro fu55
          induction fu55 with
          | zero => intros; exact pq_0
          | succ fu55 ih55 =>
            intro hle55
            intro m a55 o7_55 hF55 
            refine qw_iload rfl rfl ?_
            refine qw_const rfl ?_
            refine qw_iload rfl rfl ?_
            refine qw_iiE rfl (fun x8 tx8 => ?_)
            refine qw_ic_ge rfl (fun c9 => ?_) (fun c9 => ?_)
            · skip
              refine qw_iincU (lo' := fun z9 => [some (.inr (.inr (some L))), some (.inl i), some (.inl x1), some (.inl x3), some (.inl z9), some (.inl x7), some (.inl m), o7_55]) rfl rfl (fun _ => rfl) (fun x10 tx10 => ?_)
              exact qw_gotoD rfl (pq_le (by omega) (ih29 x10 a55 (some (.inl x7)) (some (.inl m)) o7_55 (hF55) ))
            · skip
              refine qw_iload rfl rfl ?_
              refine qw_const rfl ?_
              refine qw_iload rfl rfl ?_
              refine qw_iiE rfl (fun x11 tx11 => ?_)
              refine qw_iiE rfl (fun x12 tx12 => ?_)
              refine qw_istore (lo' := [some (.inr (.inr (some L))), some (.inl i), some (.inl x1), some (.inl x3), some (.inl r), some (.inl x7), some (.inl m), some (.inl x12)]) rfl rfl ?_
              refine qw_aload rfl rfl ?_
              refine qc_getR (t := some (L + 11)) rfl (sh_land (by omega)) rfl rfl (rC_land6 (by omega)) ?_
              refine qw_iload rfl rfl ?_
              refine qw_iload rfl rfl ?_
              first | refine qw_iadd rfl (by omega) (fun x13 tx13 => ?_) | refine qw_iiU rfl (fun x13 tx13 => ?_)
              refine qw_aload rfl rfl ?_
              refine qc_getR (t := some (L + 11)) rfl (sh_land (by omega)) rfl rfl (rC_land6 (by omega)) ?_
              refine qw_iload rfl rfl ?_
              refine qw_iload rfl rfl ?_
              first | refine qw_iadd rfl (by omega) (fun x14 tx14 => ?_) | refine qw_iiU rfl (fun x14 tx14 => ?_)
              refine qc_iald rfl (sh_sums (by omega)) (fun jx15 x15 ex15 => ?_)
              refine qw_iload rfl rfl ?_
              first | refine qw_iadd rfl (by omega) (fun x16 tx16 => ?_) | refine qw_iiU rfl (fun x16 tx16 => ?_)
              refine qc_iast rfl (sh_sums (by omega)) (fun ja17 a17 ea17 => ?_)
              refine qw_aload rfl rfl ?_
              refine qc_getR (t := some (L + 11)) rfl (sh_land (by omega)) rfl rfl (rC_land6 (by omega)) ?_
              refine qw_iload rfl rfl ?_
              refine qw_iload rfl rfl ?_
              first | refine qw_iadd rfl (by omega) (fun x18 tx18 => ?_) | refine qw_iiU rfl (fun x18 tx18 => ?_)
              refine qw_aload rfl rfl ?_
              refine qc_getR (t := some (L + 11)) rfl (sh_land (by omega)) rfl rfl (rC_land6 (by omega)) ?_
              refine qw_iload rfl rfl ?_
              refine qw_iload rfl rfl ?_
              first | refine qw_iadd rfl (by omega) (fun x19 tx19 => ?_) | refine qw_iiU rfl (fun x19 tx19 => ?_)
              refine qc_iald rfl (sh_sums (by omega)) (fun jx20 x20 ex20 => ?_)
              refine qw_iload rfl rfl ?_
              refine qw_const rfl ?_
              first | refine qw_idiv (c := 2) rfl rfl (by decide) (by omega) (fun x21 tx21 => ?_) | refine qw_iidE rfl (by omega) (fun x21 tx21 => ?_)
              first | refine qw_iadd rfl (by omega) (fun x22 tx22 => ?_) | refine qw_iiU rfl (fun x22 tx22 => ?_)
              refine qc_iast rfl (sh_sums (by omega)) (fun ja23 a23 ea23 => ?_)
              refine qw_iincU (lo' := fun z9 => [some (.inr (.inr (some L))), some (.inl i), some (.inl x1), some (.inl x3), some (.inl r), some (.inl x7), some (.inl z9), some (.inl x12)]) rfl rfl (fun _ => rfl) (fun x24 tx24 => ?_)
              exact qw_gotoD rfl (ih55 (by omega) x24 a23 (some (.inl x12)) (FR.up (FR.up (hF55) (by first | decide | (simp; done) | exact cA_mem (by omega) | exact cB_mem (by omega)) ea17) (by first | decide | (simp; done) | exact cA_mem (by omega) | exact cB_mem (by omega)) ea23) )
        exact loop55 _ (Nat.le_refl _) 0 a29 o7_29 (hF29) 
  exact loop29 _ 0 a5 none none none (FR.up (FR.up (FR.rf) (by first | decide | (simp; done) | exact cA_mem (by omega) | exact cB_mem (by omega)) ea4) (by first | decide | (simp; done) | exact cA_mem (by omega) | exact cB_mem (by omega)) ea5) 
set_option maxRecDepth 4000 in
theorem y_X3_compareSeasons {d : Nat} (a : Nat → Nat → Int32) (b : Nat → Nat → Int64) (v : Nat → Option Nat) (L : Nat) (hL : L = 22 ∨ L = 46) : f_pc mtC d 18 [.inr (.inr (some L))] (cH a b v) (fun v9 h' => ∃ (a' : Nat → Nat → Int32), h' = cH a' b v ∧ (FR [L + 11] a a' ∧ True) ∧ v9 = none) := by
  refine f_pc_of rfl (fun d0 fu hd => ?_)
  show f_pq _ _ (0, [some (.inr (.inr (some L))), none, none, none, none], [], cH a b v) _
  have l0 : (0 : Int32).toInt = 0 := rfl
  have l1 : (1 : Int32).toInt = 1 := rfl
  have l4 : (4 : Int32).toInt = 4 := rfl
  have l64 : (64 : Int32).toInt = 64 := rfl
  have l512 : (512 : Int32).toInt = 512 := rfl
  have l576 : (576 : Int32).toInt = 576 := rfl
  refine qw_const rfl ?_
  refine qw_istore (lo' := [some (.inr (.inr (some L))), some (.inl 0), none, none, none]) rfl rfl ?_
  have loop2 : ∀ (fu2 : Nat) (m : Int32) (a2 : Nat → Nat → Int32) (o2_2 : Option f_V) (o3_2 : Option f_V) (o4_2 : Option f_V),  FR [L + 11] a a2 →  f_pq (f_code (t_X3_compareSeasons (f_ev mtC d0))) fu2 (2, [some (.inr (.inr (some L))), some (.inl m), o2_2, o3_2, o4_2], [], cH a2 b v) (fun v9 h' => ∃ (a' : Nat → Nat → Int32), h' = cH a' b v ∧ (FR [L + 11] a a' ∧ True) ∧ v9 = none) := by
    intro fu2
    induction fu2 with
    | zero => intros; exact pq_0
    | succ fu2 ih2 =>
      intro m a2 o2_2 o3_2 o4_2 hF2 
      refine qw_iload rfl rfl ?_
      refine qw_const rfl ?_
      refine qw_aload rfl rfl ?_
      refine qc_getI rfl (sh_land (by omega)) rfl rfl ?_
      refine qw_iiE rfl (fun x1 tx1 => ?_)
      refine qw_ic_ge rfl (fun c2 => ?_) (fun c2 => ?_)
      · skip
        exact qw_ret rfl ⟨a2, rfl, ⟨hF2, trivial⟩, rfl⟩
      · skip
        refine qw_aload rfl rfl ?_
        refine qc_getR (t := some (L + 11)) rfl (sh_land (by omega)) rfl rfl (rC_land6 (by omega)) ?_
        refine qw_iload rfl rfl ?_
        refine qc_iald rfl (sh_sums (by omega)) (fun jx3 x3 ex3 => ?_)
        refine qw_istore (lo' := [some (.inr (.inr (some L))), some (.inl m), some (.inl x3), o3_2, o4_2]) rfl rfl ?_
        refine qw_aload rfl rfl ?_
        refine qc_getR (t := some (L + 11)) rfl (sh_land (by omega)) rfl rfl (rC_land6 (by omega)) ?_
        refine qw_iload rfl rfl ?_
        refine qc_iald rfl (sh_sums (by omega)) (fun jx4 x4 ex4 => ?_)
        refine qw_istore (lo' := [some (.inr (.inr (some L))), some (.inl m), some (.inl x3), some (.inl x4), o4_2]) rfl rfl ?_
        refine qw_const rfl ?_
        refine qw_istore (lo' := [some (.inr (.inr (some L))), some (.inl m), some (.inl x3), some (.inl x4), some (.inl 1)]) rfl rfl ?_
        have loop29 : ∀ (fu29 : Nat), fu29 ≤ (fu2 + 1) → ∀ (lo9 : Int32) (hi9 : Int32) (k : Int32) ,   f_pq (f_code (t_X3_compareSeasons (f_ev mtC d0))) fu29 (29, [some (.inr (.inr (some L))), some (.inl m), some (.inl lo9), some (.inl hi9), some (.inl k)], [], cH a2 b v) (fun v9 h' => ∃ (a' : Nat → Nat → Int32), h' = cH a' b v ∧ (FR [L + 11] a a' ∧ True) ∧ v9 = none) := by
          intro fu29
          induction fu29 with
          | zero => intros; exact pq_0
          | succ fu29 ih29 =>
            intro hle29
            intro lo9 hi9 k  
            refine qw_iload rfl rfl ?_
            refine qw_const rfl ?_
            refine qw_ic_ge rfl (fun c5 => ?_) (fun c5 => ?_)
            · skip
              refine qw_aload rfl rfl ?_
              refine qc_getR (t := some (L + 11)) rfl (sh_land (by omega)) rfl rfl (rC_land6 (by omega)) ?_
              refine qw_const rfl ?_
              refine qw_iload rfl rfl ?_
              first | refine qw_iadd rfl (by omega) (fun x6 tx6 => ?_) | refine qw_iiU rfl (fun x6 tx6 => ?_)
              refine qw_iload rfl rfl ?_
              refine qc_iast rfl (sh_sums (by omega)) (fun ja7 a7 ea7 => ?_)
              have ra7_57 : (a7 L 7).toInt = (a2 L 7).toInt := by rw [ea7, mU_cell (by omega)]
              refine qw_aload rfl rfl ?_
              refine qc_getR (t := some (L + 11)) rfl (sh_land (by omega)) rfl rfl (rC_land6 (by omega)) ?_
              refine qw_const rfl ?_
              refine qw_iload rfl rfl ?_
              first | refine qw_iadd rfl (by omega) (fun x8 tx8 => ?_) | refine qw_iiU rfl (fun x8 tx8 => ?_)
              refine qw_iload rfl rfl ?_
              refine qc_iast rfl (sh_sums (by omega)) (fun ja9 a9 ea9 => ?_)
              have ra9_65 : (a9 L 7).toInt = (a7 L 7).toInt := by rw [ea9, mU_cell (by omega)]
              refine qw_iincU (lo' := fun z9 => [some (.inr (.inr (some L))), some (.inl z9), some (.inl lo9), some (.inl hi9), some (.inl k)]) rfl rfl (fun _ => rfl) (fun x10 tx10 => ?_)
              exact qw_gotoD rfl (pq_le (by omega) (ih2 x10 a9 (some (.inl lo9)) (some (.inl hi9)) (some (.inl k)) (FR.up (FR.up (hF2) (by first | decide | (simp; done) | exact cA_mem (by omega) | exact cB_mem (by omega)) ea7) (by first | decide | (simp; done) | exact cA_mem (by omega) | exact cB_mem (by omega)) ea9) ))
            · skip
              refine qw_iload rfl rfl ?_
              refine qw_aload rfl rfl ?_
              refine qc_getR (t := some (L + 11)) rfl (sh_land (by omega)) rfl rfl (rC_land6 (by omega)) ?_
              refine qw_iload rfl rfl ?_
              refine qw_const rfl ?_
              first | refine qw_imulR rfl (c := 64) rfl (by omega) (fun x11 tx11 => ?_) | refine qw_iiU rfl (fun x11 tx11 => ?_)
              refine qw_iload rfl rfl ?_
              first | refine qw_iadd rfl (by omega) (fun x12 tx12 => ?_) | refine qw_iiU rfl (fun x12 tx12 => ?_)
              refine qc_iald rfl (sh_sums (by omega)) (fun jx13 x13 ex13 => ?_)
              refine qc_mmin rfl (Nat.le_of_ble_eq_true rfl) (fun x14 tx14 => ?_)
              refine qw_istore (lo' := [some (.inr (.inr (some L))), some (.inl m), some (.inl x14), some (.inl hi9), some (.inl k)]) rfl rfl ?_
              refine qw_iload rfl rfl ?_
              refine qw_aload rfl rfl ?_
              refine qc_getR (t := some (L + 11)) rfl (sh_land (by omega)) rfl rfl (rC_land6 (by omega)) ?_
              refine qw_iload rfl rfl ?_
              refine qw_const rfl ?_
              first | refine qw_imulR rfl (c := 64) rfl (by omega) (fun x15 tx15 => ?_) | refine qw_iiU rfl (fun x15 tx15 => ?_)
              refine qw_iload rfl rfl ?_
              first | refine qw_iadd rfl (by omega) (fun x16 tx16 => ?_) | refine qw_iiU rfl (fun x16 tx16 => ?_)
              refine qc_iald rfl (sh_sums (by omega)) (fun jx17 x17 ex17 => ?_)
              refine qc_mmax rfl (Nat.le_of_ble_eq_true rfl) (fun x18 tx18 => ?_)
              refine qw_istore (lo' := [some (.inr (.inr (some L))), some (.inl m), some (.inl x14), some (.inl x18), some (.inl k)]) rfl rfl ?_
              refine qw_iincU (lo' := fun z9 => [some (.inr (.inr (some L))), some (.inl m), some (.inl x14), some (.inl x18), some (.inl z9)]) rfl rfl (fun _ => rfl) (fun x19 tx19 => ?_)
              exact qw_gotoD rfl (ih29 (by omega) x14 x18 x19  )
        exact loop29 _ (Nat.le_refl _) x3 x4 1  
  exact loop2 _ 0 a none none none (FR.rf) 
set_option maxHeartbeats 1000000 in
set_option maxRecDepth 4000 in
theorem y_X3_settle_1 {d : Nat} (a : Nat → Nat → Int32) (b : Nat → Nat → Int64) (v : Nat → Option Nat) (V : Nat → Int) (L : Nat) (hL : L = 22 ∨ L = 46) (hC : CLI L V a) (hG : GV V) : f_pc mtC d 15 [.inr (.inr (some L))] (cH a b v) (fun v9 h' => ∃ (a' : Nat → Nat → Int32), h' = cH a' b v ∧ (FR [L + 10, L + 11] a a' ∧ (FIT L V a')) ∧ v9 = none) := by
  refine f_pc_of rfl (fun d0 fu hd => ?_)
  show f_pq _ _ (0, [some (.inr (.inr (some L))), none, none], [], cH a b v) _
  have l0 : (0 : Int32).toInt = 0 := rfl
  have l1 : (1 : Int32).toInt = 1 := rfl
  have l4 : (4 : Int32).toInt = 4 := rfl
  have g0 := hG.1
  refine qw_const rfl ?_
  refine qw_istore (lo' := [some (.inr (.inr (some L))), some (.inl 0), none]) rfl rfl ?_
  have loop2 : ∀ (fu2 : Nat) (r : Int32) (a2 : Nat → Nat → Int32) (o2_2 : Option f_V),  FR [L + 10, L + 11] a a2 → (0 ≤ r.toInt ∧ r.toInt ≤ V 0) → (∀ w, w < r.toInt.toNat → a2 (L + 10) w = nI (FF V w)) → f_pq (f_code (t_X3_settle (f_ev mtC d0))) fu2 (2, [some (.inr (.inr (some L))), some (.inl r), o2_2], [], cH a2 b v) (fun v9 h' => ∃ (a' : Nat → Nat → Int32), h' = cH a' b v ∧ (FR [L + 10, L + 11] a a' ∧ (FIT L V a')) ∧ v9 = none) := by
    intro fu2
    induction fu2 with
    | zero => intros; exact pq_0
    | succ fu2 ih2 =>
      intro r a2 o2_2 hF2 hr q2
      have hC2 := hC.same (fun i9 h9 => hF2 i9 (by simp only [List.mem_cons, List.not_mem_nil, or_false, not_or]; omega)) hG
      have r2 := hC2.1
      refine qw_iload rfl rfl ?_
      refine qw_aload rfl rfl ?_
      refine qc_getI rfl (sh_land (by omega)) rfl rfl ?_
      refine qw_ic_ge rfl (fun c1 => ?_) (fun c1 => ?_)
      · skip
        refine qw_const rfl ?_
        refine qw_istore (lo' := [some (.inr (.inr (some L))), some (.inl 0), o2_2]) rfl rfl ?_
        have loop62 : ∀ (fu62 : Nat) (u : Int32) (a62 : Nat → Nat → Int32) ,  FR [L + 10, L + 11] a a62 → (FIT L V a62) → f_pq (f_code (t_X3_settle (f_ev mtC d0))) fu62 (62, [some (.inr (.inr (some L))), some (.inl u), o2_2], [], cH a62 b v) (fun v9 h' => ∃ (a' : Nat → Nat → Int32), h' = cH a' b v ∧ (FR [L + 10, L + 11] a a' ∧ (FIT L V a')) ∧ v9 = none) := by
          intro fu62
          induction fu62 with
          | zero => intros; exact pq_0
          | succ fu62 ih62 =>
            intro u a62  hF62 q62
            refine qw_iload rfl rfl ?_
            refine qw_const rfl ?_
            refine qw_ic_ge rfl (fun c2 => ?_) (fun c2 => ?_)
            · skip
              refine qw_aload rfl rfl ?_
              refine qw_invV (rest := []) rfl rfl (sh_land (by omega)) rfl rfl (Nat.le_of_ble_eq_true rfl) rfl (y_X3_compareSeasons (d := d0) a62 b v  L (by omega)) (fun z3 h9 hq4 => ?_)
              obtain ⟨a5, rfl, fa5, rfl⟩ := hq4
              show f_pq _ _ (82, [some (.inr (.inr (some L))), some (.inl u), o2_2], [], cH a5 b v) _
              exact qw_ret rfl ⟨a5, rfl, ⟨FR.tr (hF62) (FR.sub fa5.1 (by first | exact (fun _ h9 => h9) | decide | (intro c9 h9; simp only [List.mem_cons, List.not_mem_nil, or_false] at h9 ⊢; omega) | (intro c9 h9; simp only [List.mem_cons, List.not_mem_nil, or_false] at h9; exact cA_mem (by omega)) | (intro c9 h9; simp only [List.mem_cons, List.not_mem_nil, or_false] at h9; exact cB_mem (by omega)) | exact cA_sub)), q62.same (fa5.1 (L + 10) (by simp only [List.mem_cons, List.not_mem_nil, or_false, not_or]; omega))⟩, rfl⟩
            · skip
              refine qw_aload rfl rfl ?_
              refine qw_iload rfl rfl ?_
              refine qw_invV (rest := []) rfl rfl (sh_land (by omega)) rfl rfl (Nat.le_of_ble_eq_true rfl) rfl (y_X3_sumUp (d := d0) a62 b v  L u (by omega)) (fun z6 h9 hq7 => ?_)
              obtain ⟨a8, rfl, fa8, rfl⟩ := hq7
              show f_pq _ _ (72, [some (.inr (.inr (some L))), some (.inl u), o2_2], [], cH a8 b v) _
              refine qw_iincU (lo' := fun z9 => [some (.inr (.inr (some L))), some (.inl z9), o2_2]) rfl rfl (fun _ => rfl) (fun x9 tx9 => ?_)
              exact qw_gotoD rfl (ih62 x9 a8 (FR.tr (hF62) (FR.sub fa8.1 (by first | exact (fun _ h9 => h9) | decide | (intro c9 h9; simp only [List.mem_cons, List.not_mem_nil, or_false] at h9 ⊢; omega) | (intro c9 h9; simp only [List.mem_cons, List.not_mem_nil, or_false] at h9; exact cA_mem (by omega)) | (intro c9 h9; simp only [List.mem_cons, List.not_mem_nil, or_false] at h9; exact cB_mem (by omega)) | exact cA_sub))) (q62.same (fa8.1 (L + 10) (by simp only [List.mem_cons, List.not_mem_nil, or_false, not_or]; omega))))
        exact loop62 _ 0 a2 (hF2) (fun w hw => q2 w (by omega))
      · skip
        refine qw_aload rfl rfl ?_
        refine qc_getR (t := some (L + 10)) rfl (sh_land (by omega)) rfl rfl (rC_land5 (by omega)) ?_
        refine qw_iload rfl rfl ?_
        refine qw_const rfl ?_
        refine qc_iast rfl (sh_fits (by omega)) (fun ja10 a10 ea10 => ?_)
        have ra10_56 : (a10 L 7).toInt = (a2 L 7).toInt := by rw [ea10, mU_cell (by omega)]
        refine qw_const rfl ?_
        refine qw_istore (lo' := [some (.inr (.inr (some L))), some (.inl r), some (.inl 0)]) rfl rfl ?_
        have loop19 : ∀ (fu19 : Nat), fu19 ≤ (fu2 + 1) → ∀ (m : Int32) (a19 : Nat → Nat → Int32) ,  FR [L + 10, L + 11] a a19 → (0 ≤ m.toInt ∧ m.toInt ≤ V 0) → (∀ w, w < r.toInt.toNat → a19 (L + 10) w = nI (FF V w)) → (a19 (L + 10) r.toInt.toNat = nI (fb (fun h => pBq (fitP V r.toInt.toNat h)) m.toInt.toNat)) → f_pq (f_code (t_X3_settle (f_ev mtC d0))) fu19 (19, [some (.inr (.inr (some L))), some (.inl r), some (.inl m)], [], cH a19 b v) (fun v9 h' => ∃ (a' : Nat → Nat → Int32), h' = cH a' b v ∧ (FR [L + 10, L + 11] a a' ∧ (FIT L V a')) ∧ v9 = none) := by
          intro fu19
          induction fu19 with
          | zero => intros; exact pq_0
          | succ fu19 ih19 =>
            intro hle19
            intro m a19  hF19 hm q19 hB
            have hC19 := hC.same (fun i9 h9 => hF19 i9 (by simp only [List.mem_cons, List.not_mem_nil, or_false, not_or]; omega)) hG
            have r19 := hC19.1
            refine qw_iload rfl rfl ?_
            refine qw_aload rfl rfl ?_
            refine qc_getI rfl (sh_land (by omega)) rfl rfl ?_
            refine qw_ic_ge rfl (fun c11 => ?_) (fun c11 => ?_)
            · skip
              refine qw_iinc (lo' := fun z9 => [some (.inr (.inr (some L))), some (.inl z9), some (.inl m)]) rfl rfl (fun _ => rfl) (by omega) (fun x12 tx12 => ?_)
              exact qw_gotoD rfl (pq_le (by omega) (ih2 x12 a19 (some (.inl m)) (hF19) (by omega) (fun w hw => by rcases (by omega : w < r.toInt.toNat ∨ w = r.toInt.toNat) with h | h; exact q19 w h; (rw [h, hB]; unfold FF; rw [show (V 0).toNat = m.toInt.toNat from by omega]))))
            · skip
              refine qw_aload rfl rfl ?_
              refine qw_iload rfl rfl ?_
              refine qw_iload rfl rfl ?_
              refine qw_invV (rest := []) rfl rfl (sh_land (by omega)) rfl rfl (Nat.le_of_ble_eq_true rfl) rfl (y_X3_isFit_1 (d := d0) a19 b v V L r m (hL) (hC19) (hG) (by omega) (by omega)) (fun z13 h9 hq14 => ?_)
              obtain ⟨rfl, x15, rfl, px15⟩ := hq14
              show f_pq _ _ (33, [some (.inr (.inr (some L))), some (.inl r), some (.inl m)], [.inl x15], cH a19 b v) _
              have q30 := px15
              refine qw_if_eq rfl (fun c16 => ?_) (fun c16 => ?_)
              · skip
                have FN : ¬ fitP V r.toInt.toNat m.toInt.toNat := by rcases q30 with h | h; omega; exact h.2
                refine qw_iinc (lo' := fun z9 => [some (.inr (.inr (some L))), some (.inl r), some (.inl z9)]) rfl rfl (fun _ => rfl) (by omega) (fun x17 tx17 => ?_)
                exact qw_gotoD rfl (ih19 (by omega) x17 a19 (hF19) (by omega) (q19) (SB.k hB (fun h => FN (pBq_iff.mp h)) (by omega)))
              · skip
                have FY : fitP V r.toInt.toNat m.toInt.toNat := by rcases q30 with h | h; exact h.2; omega
                refine qw_aload rfl rfl ?_
                refine qc_getR (t := some (L + 10)) rfl (sh_land (by omega)) rfl rfl (rC_land5 (by omega)) ?_
                refine qw_iload rfl rfl ?_
                refine qw_dup2 rfl ⟨rfl, rfl⟩ ?_
                refine qc_iald rfl (sh_fits (by omega)) (fun jx18 x18 ex18 => ?_)
                have x42 := ex18
                refine qw_const rfl ?_
                refine qw_iload rfl rfl ?_
                refine qw_iiE rfl (fun x19 tx19 => ?_)
                have t45 := tx19
                refine qw_iiE rfl (fun x20 tx20 => ?_)
                have t46 := tx20
                refine qc_iast rfl (sh_fits (by omega)) (fun ja21 a21 ea21 => ?_)
                have ra21_103 : (a21 L 7).toInt = (a19 L 7).toInt := by rw [ea21, mU_cell (by omega)]
                refine qw_iinc (lo' := fun z9 => [some (.inr (.inr (some L))), some (.inl r), some (.inl z9)]) rfl rfl (fun _ => rfl) (by omega) (fun x22 tx22 => ?_)
                exact qw_gotoD rfl (ih19 (by omega) x22 a21 (FR.up (hF19) (by first | decide | (simp; done) | exact cA_mem (by omega) | exact cB_mem (by omega)) ea21) (by omega) (fun w hw => by rw [ea21, mU_slot (by omega)]; exact q19 w hw) (by rw [ea21, mU_same]; exact SB.y (x42.trans hB) (by omega) (pBq_iff.mpr FY) (by omega) t45 t46 (by omega)))
        exact loop19 _ (Nat.le_refl _) 0 a10 (FR.up (hF2) (by first | decide | (simp; done) | exact cA_mem (by omega) | exact cB_mem (by omega)) ea10) (by omega) (fun w hw => by rw [ea10, mU_slot (by omega)]; exact q2 w hw) (by rw [ea10, mU_same]; rfl)
  exact loop2 _ 0 a none (FR.rf) (by omega) (fun w hw => absurd hw (by omega))
