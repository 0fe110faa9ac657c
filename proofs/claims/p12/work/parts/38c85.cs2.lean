theorem i_7 {r : Int32} (h : 0 ≤ r.toInt ∧ r.toInt ≤ 6) : r = 0 ∨ r = 1 ∨ r = 2 ∨ r = 3 ∨ r = 4 ∨ r = 5 ∨ r = 6 := by
  have e : r.toInt = 0 ∨ r.toInt = 1 ∨ r.toInt = 2 ∨ r.toInt = 3 ∨ r.toInt = 4 ∨ r.toInt = 5 ∨ r.toInt = 6 := by omega
  rcases e with e | e | e | e | e | e | e
  · exact Or.inl (ti_eq e)
  · exact Or.inr (Or.inl (ti_eq e))
  · exact Or.inr (Or.inr (Or.inl (ti_eq e)))
  · exact Or.inr (Or.inr (Or.inr (Or.inl (ti_eq e))))
  · exact Or.inr (Or.inr (Or.inr (Or.inr (Or.inl (ti_eq e)))))
  · exact Or.inr (Or.inr (Or.inr (Or.inr (Or.inr (Or.inl (ti_eq e))))))
  · exact Or.inr (Or.inr (Or.inr (Or.inr (Or.inr (Or.inr (ti_eq e))))))
theorem sh1 {r x : Int32} (h : 0 ≤ r.toInt ∧ r.toInt ≤ 6) (hx : x = 1 <<< (r &&& 31)) : 1 ≤ x.toInt ∧ x.toInt ≤ 64 ∧ (r.toInt ≤ 5 → x.toInt ≤ 32) := by
  rcases i_7 h with rfl | rfl | rfl | rfl | rfl | rfl | rfl <;> (subst hx; decide)
theorem nI_64 {x : Int32} (h : 0 ≤ x.toInt ∧ x.toInt ≤ 63) : ∃ n, n < 64 ∧ x = nI n := ⟨x.toInt.toNat, by omega, ti_nI h.1⟩
theorem or63 {x y z : Int32} (hx : 0 ≤ x.toInt ∧ x.toInt ≤ 63) (hy : 0 ≤ y.toInt ∧ y.toInt ≤ 63) (hz : z = x ||| y) : 0 ≤ z.toInt ∧ z.toInt ≤ 63 := by
  obtain ⟨n, hn, rfl⟩ := nI_64 hx
  obtain ⟨m, hm, rfl⟩ := nI_64 hy
  subst hz
  exact (by decide +kernel : ∀ n, n < 64 → ∀ m, m < 64 → 0 ≤ (nI n ||| nI m).toInt ∧ (nI n ||| nI m).toInt ≤ 63) n hn m hm
theorem and63 {x y z : Int32} (hx : 0 ≤ x.toInt ∧ x.toInt ≤ 63) (hz : z = x &&& y) : 0 ≤ z.toInt ∧ z.toInt ≤ 63 := by
  obtain ⟨n, hn, rfl⟩ := nI_64 hx
  have e : nI n = nI n &&& 63 := (by decide +kernel : ∀ n, n < 64 → nI n = nI n &&& 63) n hn
  rw [hz, e, Int32.and_assoc, Int32.and_comm 63 y, ← Int32.and_assoc]
  exact ti_and63 _
set_option maxRecDepth 4000 in
theorem s_X3_all_1 {K : Nat} (a : Nat → Nat → Int32) (b : Nat → Nat → Int64) (v : Nat → Option Nat) (L : Nat) (hR : RC K a) (hL : L = 22 ∨ L = 46) : f_call mtC 1 19 [.inr (.inr (some L))] (cH a b v) (fun v9 h' => h' = cH a b v ∧ ∃ x : Int32, v9 = some (.inl x) ∧ (0 ≤ x.toInt ∧ x.toInt ≤ 63)) := by
  refine f_call_of (d0 := 0) rfl (Nat.le_of_ble_eq_true rfl) (fun d hd => ?_)
  show f_wp _ (0, [some (.inr (.inr (some L)))], [], cH a b v) _
  have l1 : (1 : Int32).toInt = 1 := rfl
  refine w_const rfl ?_
  refine w_aload rfl rfl ?_
  refine c_getI rfl (sh_land (by omega)) rfl rfl ?_
  have q1 : 0 ≤ (a L 7).toInt ∧ (a L 7).toInt ≤ 6 := RC.riv hR (by omega)
  refine w_iiE rfl (fun x2 tx2 => ?_)
  have ux2 := sh1 (by omega) tx2
  refine w_const rfl ?_
  first | refine w_isub rfl (by omega) (fun x3 tx3 => ?_) | refine w_iiU rfl (fun x3 tx3 => ?_)
  exact wp_iret (z := false) rfl (fun h9 => by cases h9) ⟨rfl, ⟨_, rfl, by omega⟩⟩
set_option maxRecDepth 4000 in
theorem s_X3_clear {K : Nat} (a : Nat → Nat → Int32) (b : Nat → Nat → Int64) (v : Nat → Option Nat) (L : Nat) (hR : RC K a) (hL : L = 22 ∨ L = 46) : f_call mtC 2 12 [.inr (.inr (some L))] (cH a b v) (fun v9 h' => ∃ (a' : Nat → Nat → Int32), h' = cH a' b v ∧ RC K a' ∧ (FR [L, L + 4, L + 5, L + 7, L + 8] a a' ∧ True) ∧ v9 = none) := by
  refine f_call_of (d0 := 1) rfl (Nat.le_of_ble_eq_true rfl) (fun d hd => ?_)
  show f_wp _ (0, [some (.inr (.inr (some L)))], [], cH a b v) _
  have l0 : (0 : Int32).toInt = 0 := rfl
  have l1 : (1 : Int32).toInt = 1 := rfl
  refine w_aload rfl rfl ?_
  refine w_const rfl ?_
  refine c_putI (z := false) rfl (sh_land (by omega)) rfl rfl (by first | (intro h9; cases h9; done) | (intro _; first | exact Or.inl rfl | exact Or.inr rfl | assumption | (rcases (by omega : (0 : Int32).toInt = 0 ∨ (0 : Int32).toInt = 1) with h8 | h8; exact Or.inl (ti_eq h8); exact Or.inr (ti_eq h8)))) (fun a1 ea1 => ?_)
  have ha1 : RC K a1 := RC.up hR ea1 (lc_riv (by omega) (by omega))
  have ua1 : a1 L 7 = (0 : Int32) := by rw [ea1, mU_same]
  have wa1 := congrArg Int32.toInt ua1
  refine w_aload rfl rfl ?_
  refine w_const rfl ?_
  refine c_putI (z := false) rfl (sh_land (by omega)) rfl rfl (by first | (intro h9; cases h9; done) | (intro _; first | exact Or.inl rfl | exact Or.inr rfl | assumption | (rcases (by omega : (0 : Int32).toInt = 0 ∨ (0 : Int32).toInt = 1) with h8 | h8; exact Or.inl (ti_eq h8); exact Or.inr (ti_eq h8)))) (fun a2 ea2 => ?_)
  have ha2 : RC K a2 := RC.up ha1 ea2 (lc_ran (by omega) (by omega))
  have ua2 : a2 L 8 = (0 : Int32) := by rw [ea2, mU_same]
  have wa2 := congrArg Int32.toInt ua2
  refine w_aload rfl rfl ?_
  refine w_const rfl ?_
  refine c_putI (z := false) rfl (sh_land (by omega)) rfl rfl (by first | (intro h9; cases h9; done) | (intro _; first | exact Or.inl rfl | exact Or.inr rfl | assumption | (rcases (by omega : (0 : Int32).toInt = 0 ∨ (0 : Int32).toInt = 1) with h8 | h8; exact Or.inl (ti_eq h8); exact Or.inr (ti_eq h8)))) (fun a3 ea3 => ?_)
  have ha3 : RC K a3 := RC.up ha2 ea3 (lc_any _ (by omega))
  have ua3 : a3 L 9 = (0 : Int32) := by rw [ea3, mU_same]
  have wa3 := congrArg Int32.toInt ua3
  refine w_aload rfl rfl ?_
  refine w_const rfl ?_
  refine c_putI (z := false) rfl (sh_land (by omega)) rfl rfl (by first | (intro h9; cases h9; done) | (intro _; first | exact Or.inl rfl | exact Or.inr rfl | assumption | (rcases (by omega : (0 : Int32).toInt = 0 ∨ (0 : Int32).toInt = 1) with h8 | h8; exact Or.inl (ti_eq h8); exact Or.inr (ti_eq h8)))) (fun a4 ea4 => ?_)
  have ha4 : RC K a4 := RC.up ha3 ea4 (lc_any _ (by omega))
  have ua4 : a4 L 10 = (0 : Int32) := by rw [ea4, mU_same]
  have wa4 := congrArg Int32.toInt ua4
  refine w_aload rfl rfl ?_
  refine w_const rfl ?_
  refine c_putI (z := false) rfl (sh_land (by omega)) rfl rfl (by first | (intro h9; cases h9; done) | (intro _; first | exact Or.inl rfl | exact Or.inr rfl | assumption | (rcases (by omega : (0 : Int32).toInt = 0 ∨ (0 : Int32).toInt = 1) with h8 | h8; exact Or.inl (ti_eq h8); exact Or.inr (ti_eq h8)))) (fun a5 ea5 => ?_)
  have ha5 : RC K a5 := RC.up ha4 ea5 (lc_any _ (by omega))
  have ua5 : a5 L 11 = (0 : Int32) := by rw [ea5, mU_same]
  have wa5 := congrArg Int32.toInt ua5
  refine w_aload rfl rfl ?_
  refine c_getR (t := some (L + 4)) rfl (sh_land (by omega)) rfl rfl (rC_land3 (by omega)) ?_
  refine w_invV (rest := []) rfl rfl (sh_form (by omega)) rfl rfl (Nat.le_of_ble_eq_true rfl) rfl (by omega) (s_X2_clear (K := K) a5 b v  (L + 4) ha5  (by omega)) (fun z6 h9 hq7 => ?_)
  obtain ⟨a8, rfl, ha8, fa8, rfl⟩ := hq7
  show f_wp _ (32, [some (.inr (.inr (some L)))], [], cH a8 b v) _
  refine w_aload rfl rfl ?_
  refine c_getR (t := some (L + 4)) rfl (sh_land (by omega)) rfl rfl (rC_land3 (by omega)) ?_
  refine w_const rfl ?_
  refine w_invV (rest := []) rfl rfl (sh_form (by omega)) rfl rfl (Nat.le_of_ble_eq_true rfl) rfl (by omega) (s_X2_add (K := K) a8 b v  (L + 4) 1 ha8  (by omega)) (fun z9 h9 hq10 => ?_)
  obtain ⟨a11, rfl, ha11, fa11, rfl⟩ := hq10
  show f_wp _ (40, [some (.inr (.inr (some L)))], [], cH a11 b v) _
  refine w_aload rfl rfl ?_
  refine c_getR (t := some (L + 7)) rfl (sh_land (by omega)) rfl rfl (rC_land4 (by omega)) ?_
  refine w_invV (rest := []) rfl rfl (sh_form (by omega)) rfl rfl (Nat.le_of_ble_eq_true rfl) rfl (by omega) (s_X2_clear (K := K) a11 b v  (L + 7) ha11  (by omega)) (fun z12 h9 hq13 => ?_)
  obtain ⟨a14, rfl, ha14, fa14, rfl⟩ := hq13
  show f_wp _ (47, [some (.inr (.inr (some L)))], [], cH a14 b v) _
  refine w_aload rfl rfl ?_
  refine c_getR (t := some (L + 7)) rfl (sh_land (by omega)) rfl rfl (rC_land4 (by omega)) ?_
  refine w_const rfl ?_
  refine w_invV (rest := []) rfl rfl (sh_form (by omega)) rfl rfl (Nat.le_of_ble_eq_true rfl) rfl (by omega) (s_X2_add (K := K) a14 b v  (L + 7) 0 ha14  (by omega)) (fun z15 h9 hq16 => ?_)
  obtain ⟨a17, rfl, ha17, fa17, rfl⟩ := hq16
  show f_wp _ (55, [some (.inr (.inr (some L)))], [], cH a17 b v) _
  exact w_ret rfl ⟨a17, rfl, ha17, ⟨FR.tr (FR.tr (FR.tr (FR.tr (FR.up (FR.up (FR.up (FR.up (FR.up (FR.rf) (by first | decide | simp | (simp [cA]; omega) | (simp [cB]; omega)) ea1) (by first | decide | simp | (simp [cA]; omega) | (simp [cB]; omega)) ea2) (by first | decide | simp | (simp [cA]; omega) | (simp [cB]; omega)) ea3) (by first | decide | simp | (simp [cA]; omega) | (simp [cB]; omega)) ea4) (by first | decide | simp | (simp [cA]; omega) | (simp [cB]; omega)) ea5) (FR.sub fa8.1 (by first | exact (fun _ h9 => h9) | decide | (intro c9 h9; simp only [List.mem_cons, List.not_mem_nil, or_false] at h9 ⊢; omega) | (intro c9 h9; simp at h9; simp [cA]; omega) | (intro c9 h9; simp at h9; simp [cB]; omega) | (intro c9 h9; simp [cA] at h9; simp [cB]; omega)))) (FR.sub fa11.1 (by first | exact (fun _ h9 => h9) | decide | (intro c9 h9; simp only [List.mem_cons, List.not_mem_nil, or_false] at h9 ⊢; omega) | (intro c9 h9; simp at h9; simp [cA]; omega) | (intro c9 h9; simp at h9; simp [cB]; omega) | (intro c9 h9; simp [cA] at h9; simp [cB]; omega)))) (FR.sub fa14.1 (by first | exact (fun _ h9 => h9) | decide | (intro c9 h9; simp only [List.mem_cons, List.not_mem_nil, or_false] at h9 ⊢; omega) | (intro c9 h9; simp at h9; simp [cA]; omega) | (intro c9 h9; simp at h9; simp [cB]; omega) | (intro c9 h9; simp [cA] at h9; simp [cB]; omega)))) (FR.sub fa17.1 (by first | exact (fun _ h9 => h9) | decide | (intro c9 h9; simp only [List.mem_cons, List.not_mem_nil, or_false] at h9 ⊢; omega) | (intro c9 h9; simp at h9; simp [cA]; omega) | (intro c9 h9; simp at h9; simp [cB]; omega) | (intro c9 h9; simp [cA] at h9; simp [cB]; omega))), trivial⟩, rfl⟩
set_option maxRecDepth 4000 in
theorem s_X3_kinSteps {K : Nat} (a : Nat → Nat → Int32) (b : Nat → Nat → Int64) (v : Nat → Option Nat) (L : Nat) (i : Int32) (j : Int32) (hR : RC K a) (hL : L = 22 ∨ L = 46) (hi : 0 ≤ i.toInt ∧ i.toInt ≤ 5) (hj : 0 ≤ j.toInt ∧ j.toInt ≤ 5) : f_call mtC 1 21 [.inr (.inr (some L)), .inl i, .inl j] (cH a b v) (fun v9 h' => h' = cH a b v ∧ ∃ x : Int32, v9 = some (.inl x) ∧ True) := by
  refine f_call_of (d0 := 0) rfl (Nat.le_of_ble_eq_true rfl) (fun d hd => ?_)
  show f_wp _ (0, [some (.inr (.inr (some L))), some (.inl i), some (.inl j), none, none, none, none], [], cH a b v) _
  have lm1 : (-1 : Int32).toInt = -1 := rfl
  have l0 : (0 : Int32).toInt = 0 := rfl
  have l1 : (1 : Int32).toInt = 1 := rfl
  have l6 : (6 : Int32).toInt = 6 := rfl
  have l99 : (99 : Int32).toInt = 99 := rfl
  refine w_iload rfl rfl ?_
  refine w_istore (lo' := [some (.inr (.inr (some L))), some (.inl i), some (.inl j), some (.inl i), none, none, none]) rfl rfl ?_
  refine w_const rfl ?_
  refine w_istore (lo' := [some (.inr (.inr (some L))), some (.inl i), some (.inl j), some (.inl i), some (.inl 0), none, none]) rfl rfl ?_
  have loop5 : ∀ (ms9 : Nat) (u : Int32) (m : Int32) (o5_5 : Option f_V) (o6_5 : Option f_V), (6 - m.toInt).toNat = ms9 → (-1 ≤ u.toInt ∧ u.toInt ≤ 5) → (0 ≤ m.toInt ∧ m.toInt ≤ 6) → f_wp (f_code (t_X3_kinSteps (f_ev mtC d))) (5, [some (.inr (.inr (some L))), some (.inl i), some (.inl j), some (.inl u), some (.inl m), o5_5, o6_5], [], cH a b v) (fun v9 h' => h' = cH a b v ∧ ∃ x : Int32, v9 = some (.inl x) ∧ True) := by
    intro ms9
    induction ms9 using Nat.strongRecOn with
    | _ ms5 ih5 =>
      intro u m o5_5 o6_5 hm5 hu hm
      refine w_iload rfl rfl ?_
      refine w_const rfl ?_
      refine w_ic_ge rfl (fun c1 => ?_) (fun c1 => ?_)
      · skip
        refine w_const rfl ?_
        exact wp_iret (z := false) rfl (fun h9 => by cases h9) ⟨rfl, ⟨_, rfl, trivial⟩⟩
      · skip
        refine w_iload rfl rfl ?_
        refine w_const rfl ?_
        refine w_ic_eq rfl (fun c2 => ?_) (fun c2 => ?_)
        · skip
          refine w_const rfl ?_
          exact wp_iret (z := false) rfl (fun h9 => by cases h9) ⟨rfl, ⟨_, rfl, trivial⟩⟩
        · skip
          refine w_iload rfl rfl ?_
          refine w_istore (lo' := [some (.inr (.inr (some L))), some (.inl i), some (.inl j), some (.inl u), some (.inl m), some (.inl j), o6_5]) rfl rfl ?_
          refine w_const rfl ?_
          refine w_istore (lo' := [some (.inr (.inr (some L))), some (.inl i), some (.inl j), some (.inl u), some (.inl m), some (.inl j), some (.inl 0)]) rfl rfl ?_
          have loop23 : ∀ (ms9 : Nat) (w : Int32) (k : Int32) , (6 - k.toInt).toNat = ms9 → (-1 ≤ w.toInt ∧ w.toInt ≤ 5) → (0 ≤ k.toInt ∧ k.toInt ≤ 6) → f_wp (f_code (t_X3_kinSteps (f_ev mtC d))) (23, [some (.inr (.inr (some L))), some (.inl i), some (.inl j), some (.inl u), some (.inl m), some (.inl w), some (.inl k)], [], cH a b v) (fun v9 h' => h' = cH a b v ∧ ∃ x : Int32, v9 = some (.inl x) ∧ True) := by
            intro ms9
            induction ms9 using Nat.strongRecOn with
            | _ ms23 ih23 =>
              intro w k  hm23 hw hk
              refine w_iload rfl rfl ?_
              refine w_const rfl ?_
              refine w_ic_ge rfl (fun c3 => ?_) (fun c3 => ?_)
              · skip
                refine w_aload rfl rfl ?_
                refine c_getR (t := some (L + 1)) rfl (sh_land (by omega)) rfl rfl (rC_land0 (by omega)) ?_
                refine w_iload rfl rfl ?_
                refine c_aald5 (t := some ((L + 1) + 11 + 2 * u.toInt.toNat)) rfl (sh_row (by omega)) (by omega) (rC_row (by omega)) ?_
                refine c_getI rfl (sh_riv (by omega)) rfl rfl ?_
                have q4 : -1 ≤ (a ((L + 1) + 11 + 2 * u.toInt.toNat) 11).toInt ∧ (a ((L + 1) + 11 + 2 * u.toInt.toNat) 11).toInt ≤ 5 := RC.mot hR (by omega)
                refine w_istore (lo' := [some (.inr (.inr (some L))), some (.inl i), some (.inl j), some (.inl (a ((L + 1) + 11 + 2 * u.toInt.toNat) 11)), some (.inl m), some (.inl w), some (.inl k)]) rfl rfl ?_
                refine w_iinc (lo' := fun z9 => [some (.inr (.inr (some L))), some (.inl i), some (.inl j), some (.inl (a ((L + 1) + 11 + 2 * u.toInt.toNat) 11)), some (.inl z9), some (.inl w), some (.inl k)]) rfl rfl (fun _ => rfl) (by omega) (fun x5 tx5 => ?_)
                refine w_goto rfl ?_
                exact ih5 (6 - x5.toInt).toNat (by omega) (a ((L + 1) + 11 + 2 * u.toInt.toNat) 11) x5 (some (.inl w)) (some (.inl k)) rfl  (by omega) (by omega)
              · skip
                refine w_iload rfl rfl ?_
                refine w_const rfl ?_
                refine w_ic_eq rfl (fun c6 => ?_) (fun c6 => ?_)
                · skip
                  refine w_aload rfl rfl ?_
                  refine c_getR (t := some (L + 1)) rfl (sh_land (by omega)) rfl rfl (rC_land0 (by omega)) ?_
                  refine w_iload rfl rfl ?_
                  refine c_aald5 (t := some ((L + 1) + 11 + 2 * u.toInt.toNat)) rfl (sh_row (by omega)) (by omega) (rC_row (by omega)) ?_
                  refine c_getI rfl (sh_riv (by omega)) rfl rfl ?_
                  have q7 : -1 ≤ (a ((L + 1) + 11 + 2 * u.toInt.toNat) 11).toInt ∧ (a ((L + 1) + 11 + 2 * u.toInt.toNat) 11).toInt ≤ 5 := RC.mot hR (by omega)
                  refine w_istore (lo' := [some (.inr (.inr (some L))), some (.inl i), some (.inl j), some (.inl (a ((L + 1) + 11 + 2 * u.toInt.toNat) 11)), some (.inl m), some (.inl w), some (.inl k)]) rfl rfl ?_
                  refine w_iinc (lo' := fun z9 => [some (.inr (.inr (some L))), some (.inl i), some (.inl j), some (.inl (a ((L + 1) + 11 + 2 * u.toInt.toNat) 11)), some (.inl z9), some (.inl w), some (.inl k)]) rfl rfl (fun _ => rfl) (by omega) (fun x8 tx8 => ?_)
                  refine w_goto rfl ?_
                  exact ih5 (6 - x8.toInt).toNat (by omega) (a ((L + 1) + 11 + 2 * u.toInt.toNat) 11) x8 (some (.inl w)) (some (.inl k)) rfl  (by omega) (by omega)
                · skip
                  refine w_iload rfl rfl ?_
                  refine w_iload rfl rfl ?_
                  refine w_ic_ne rfl (fun c9 => ?_) (fun c9 => ?_)
                  · skip
                    refine w_iload rfl rfl ?_
                    refine w_iload rfl rfl ?_
                    first | refine w_iadd rfl (by omega) (fun x10 tx10 => ?_) | refine w_iiU rfl (fun x10 tx10 => ?_)
                    exact wp_iret (z := false) rfl (fun h9 => by cases h9) ⟨rfl, ⟨_, rfl, trivial⟩⟩
                  · skip
                    refine w_aload rfl rfl ?_
                    refine c_getR (t := some (L + 1)) rfl (sh_land (by omega)) rfl rfl (rC_land0 (by omega)) ?_
                    refine w_iload rfl rfl ?_
                    refine c_aald5 (t := some ((L + 1) + 11 + 2 * w.toInt.toNat)) rfl (sh_row (by omega)) (by omega) (rC_row (by omega)) ?_
                    refine c_getI rfl (sh_riv (by omega)) rfl rfl ?_
                    have q11 : -1 ≤ (a ((L + 1) + 11 + 2 * w.toInt.toNat) 11).toInt ∧ (a ((L + 1) + 11 + 2 * w.toInt.toNat) 11).toInt ≤ 5 := RC.mot hR (by omega)
                    refine w_istore (lo' := [some (.inr (.inr (some L))), some (.inl i), some (.inl j), some (.inl u), some (.inl m), some (.inl (a ((L + 1) + 11 + 2 * w.toInt.toNat) 11)), some (.inl k)]) rfl rfl ?_
                    refine w_iinc (lo' := fun z9 => [some (.inr (.inr (some L))), some (.inl i), some (.inl j), some (.inl u), some (.inl m), some (.inl (a ((L + 1) + 11 + 2 * w.toInt.toNat) 11)), some (.inl z9)]) rfl rfl (fun _ => rfl) (by omega) (fun x12 tx12 => ?_)
                    refine w_goto rfl ?_
                    exact ih23 (6 - x12.toInt).toNat (by omega) (a ((L + 1) + 11 + 2 * w.toInt.toNat) 11) x12 rfl  (by omega) (by omega)
          exact loop23 _ j 0 rfl  (by omega) (by omega)
  exact loop5 _ i 0 none none rfl  (by omega) (by omega)
set_option maxRecDepth 4000 in
theorem s_X3_thickness {K : Nat} (a : Nat → Nat → Int32) (b : Nat → Nat → Int64) (v : Nat → Option Nat) (L : Nat) (i : Int32) (j : Int32) (hR : RC K a) (hL : L = 22 ∨ L = 46) (hi : 0 ≤ i.toInt ∧ i.toInt ≤ 5) (hj : 0 ≤ j.toInt ∧ j.toInt ≤ 5) : f_call mtC 2 22 [.inr (.inr (some L)), .inl i, .inl j] (cH a b v) (fun v9 h' => h' = cH a b v ∧ ∃ x : Int32, v9 = some (.inl x) ∧ True) := by
  refine f_call_of (d0 := 1) rfl (Nat.le_of_ble_eq_true rfl) (fun d hd => ?_)
  show f_wp _ (0, [some (.inr (.inr (some L))), some (.inl i), some (.inl j), none, none, none, none], [], cH a b v) _
  have l0 : (0 : Int32).toInt = 0 := rfl
  have l1 : (1 : Int32).toInt = 1 := rfl
  refine w_aload rfl rfl ?_
  refine c_getR (t := some (L + 1)) rfl (sh_land (by omega)) rfl rfl (rC_land0 (by omega)) ?_
  refine w_iload rfl rfl ?_
  refine c_aald5 (t := some ((L + 1) + 11 + 2 * i.toInt.toNat)) rfl (sh_row (by omega)) (by omega) (rC_row (by omega)) ?_
  refine c_getI rfl (sh_riv (by omega)) rfl rfl ?_
  refine w_aload rfl rfl ?_
  refine c_getR (t := some (L + 1)) rfl (sh_land (by omega)) rfl rfl (rC_land0 (by omega)) ?_
  refine w_iload rfl rfl ?_
  refine c_aald5 (t := some ((L + 1) + 11 + 2 * j.toInt.toNat)) rfl (sh_row (by omega)) (by omega) (rC_row (by omega)) ?_
  refine c_getI rfl (sh_riv (by omega)) rfl rfl ?_
  refine c_mmin rfl (Nat.le_of_ble_eq_true rfl) (fun x1 tx1 => ?_)
  refine w_istore (lo' := [some (.inr (.inr (some L))), some (.inl i), some (.inl j), some (.inl x1), none, none, none]) rfl rfl ?_
  refine w_aload rfl rfl ?_
  refine c_getR (t := some (L + 1)) rfl (sh_land (by omega)) rfl rfl (rC_land0 (by omega)) ?_
  refine w_iload rfl rfl ?_
  refine c_aald5 (t := some ((L + 1) + 11 + 2 * i.toInt.toNat)) rfl (sh_row (by omega)) (by omega) (rC_row (by omega)) ?_
  refine c_getI rfl (sh_riv (by omega)) rfl rfl ?_
  refine w_aload rfl rfl ?_
  refine c_getR (t := some (L + 1)) rfl (sh_land (by omega)) rfl rfl (rC_land0 (by omega)) ?_
  refine w_iload rfl rfl ?_
  refine c_aald5 (t := some ((L + 1) + 11 + 2 * j.toInt.toNat)) rfl (sh_row (by omega)) (by omega) (rC_row (by omega)) ?_
  refine c_getI rfl (sh_riv (by omega)) rfl rfl ?_
  refine c_mmax rfl (Nat.le_of_ble_eq_true rfl) (fun x2 tx2 => ?_)
  refine w_istore (lo' := [some (.inr (.inr (some L))), some (.inl i), some (.inl j), some (.inl x1), some (.inl x2), none, none]) rfl rfl ?_
  refine w_const rfl ?_
  refine w_istore (lo' := [some (.inr (.inr (some L))), some (.inl i), some (.inl j), some (.inl x1), some (.inl x2), some (.inl 0), none]) rfl rfl ?_
  refine w_const rfl ?_
  refine w_istore (lo' := [some (.inr (.inr (some L))), some (.inl i), some (.inl j), some (.inl x1), some (.inl x2), some (.inl 0), some (.inl 0)]) rfl rfl ?_
  have loop51 : ∀ (ms9 : Nat) (th : Int32) (k : Int32) , (4 - k.toInt).toNat = ms9 → (0 ≤ k.toInt ∧ k.toInt ≤ 4) → f_wp (f_code (t_X3_thickness (f_ev mtC d))) (51, [some (.inr (.inr (some L))), some (.inl i), some (.inl j), some (.inl x1), some (.inl x2), some (.inl th), some (.inl k)], [], cH a b v) (fun v9 h' => h' = cH a b v ∧ ∃ x : Int32, v9 = some (.inl x) ∧ True) := by
    intro ms9
    induction ms9 using Nat.strongRecOn with
    | _ ms51 ih51 =>
      intro th k  hm51 hk
      refine w_iload rfl rfl ?_
      refine w_aload rfl rfl ?_
      refine c_getI rfl (sh_land (by omega)) rfl rfl ?_
      have q3 : 0 ≤ (a L 8).toInt ∧ (a L 8).toInt ≤ 4 := RC.ran hR (by omega)
      refine w_ic_ge rfl (fun c4 => ?_) (fun c4 => ?_)
      · skip
        refine w_iload rfl rfl ?_
        exact wp_iret (z := false) rfl (fun h9 => by cases h9) ⟨rfl, ⟨_, rfl, trivial⟩⟩
      · skip
        refine w_aload rfl rfl ?_
        refine c_getR (t := some (L + 2)) rfl (sh_land (by omega)) rfl rfl (rC_land1 (by omega)) ?_
        refine w_iload rfl rfl ?_
        refine c_iald rfl (sh_rng (by omega)) (by omega) (fun x5 ex5 => ?_)
        refine w_iload rfl rfl ?_
        refine w_ic_le rfl (fun c6 => ?_) (fun c6 => ?_)
        · skip
          refine w_iinc (lo' := fun z9 => [some (.inr (.inr (some L))), some (.inl i), some (.inl j), some (.inl x1), some (.inl x2), some (.inl th), some (.inl z9)]) rfl rfl (fun _ => rfl) (by omega) (fun x7 tx7 => ?_)
          refine w_goto rfl ?_
          exact ih51 (4 - x7.toInt).toNat (by omega) th x7 rfl  (by omega)
        · skip
          refine w_aload rfl rfl ?_
          refine c_getR (t := some (L + 2)) rfl (sh_land (by omega)) rfl rfl (rC_land1 (by omega)) ?_
          refine w_iload rfl rfl ?_
          refine c_iald rfl (sh_rng (by omega)) (by omega) (fun x8 ex8 => ?_)
          refine w_iload rfl rfl ?_
          refine w_ic_ge rfl (fun c9 => ?_) (fun c9 => ?_)
          · skip
            refine w_iinc (lo' := fun z9 => [some (.inr (.inr (some L))), some (.inl i), some (.inl j), some (.inl x1), some (.inl x2), some (.inl th), some (.inl z9)]) rfl rfl (fun _ => rfl) (by omega) (fun x10 tx10 => ?_)
            refine w_goto rfl ?_
            exact ih51 (4 - x10.toInt).toNat (by omega) th x10 rfl  (by omega)
          · skip
            refine w_iload rfl rfl ?_
            refine w_aload rfl rfl ?_
            refine c_getR (t := some (L + 3)) rfl (sh_land (by omega)) rfl rfl (rC_land2 (by omega)) ?_
            refine w_iload rfl rfl ?_
            refine c_iald rfl (sh_rng (by omega)) (by omega) (fun x11 ex11 => ?_)
            first | refine w_iadd rfl (by omega) (fun x12 tx12 => ?_) | refine w_iiU rfl (fun x12 tx12 => ?_)
            refine w_istore (lo' := [some (.inr (.inr (some L))), some (.inl i), some (.inl j), some (.inl x1), some (.inl x2), some (.inl x12), some (.inl k)]) rfl rfl ?_
            refine w_iinc (lo' := fun z9 => [some (.inr (.inr (some L))), some (.inl i), some (.inl j), some (.inl x1), some (.inl x2), some (.inl x12), some (.inl z9)]) rfl rfl (fun _ => rfl) (by omega) (fun x13 tx13 => ?_)
            refine w_goto rfl ?_
            exact ih51 (4 - x13.toInt).toNat (by omega) x12 x13 rfl  (by omega)
  exact loop51 _ 0 0 rfl  (by omega)
set_option maxRecDepth 4000 in
theorem s_X3_digging {K : Nat} (a : Nat → Nat → Int32) (b : Nat → Nat → Int64) (v : Nat → Option Nat) (L : Nat) (i : Int32) (j : Int32) (hR : RC K a) (hL : L = 22 ∨ L = 46) (hi : 0 ≤ i.toInt ∧ i.toInt ≤ 5) (hj : 0 ≤ j.toInt ∧ j.toInt ≤ 5) : f_call mtC 3 23 [.inr (.inr (some L)), .inl i, .inl j] (cH a b v) (fun v9 h' => h' = cH a b v ∧ ∃ x : Int32, v9 = some (.inl x) ∧ True) := by
  refine f_call_of (d0 := 2) rfl (Nat.le_of_ble_eq_true rfl) (fun d hd => ?_)
  show f_wp _ (0, [some (.inr (.inr (some L))), some (.inl i), some (.inl j)], [], cH a b v) _
  refine w_aload rfl rfl ?_
  refine c_getR (t := some (L + 1)) rfl (sh_land (by omega)) rfl rfl (rC_land0 (by omega)) ?_
  refine w_iload rfl rfl ?_
  refine c_aald5 (t := some ((L + 1) + 11 + 2 * i.toInt.toNat)) rfl (sh_row (by omega)) (by omega) (rC_row (by omega)) ?_
  refine c_getI rfl (sh_riv (by omega)) rfl rfl ?_
  refine w_aload rfl rfl ?_
  refine c_getR (t := some (L + 1)) rfl (sh_land (by omega)) rfl rfl (rC_land0 (by omega)) ?_
  refine w_iload rfl rfl ?_
  refine c_aald5 (t := some ((L + 1) + 11 + 2 * j.toInt.toNat)) rfl (sh_row (by omega)) (by omega) (rC_row (by omega)) ?_
  refine c_getI rfl (sh_riv (by omega)) rfl rfl ?_
  first | refine w_isub rfl (by omega) (fun x1 tx1 => ?_) | refine w_iiU rfl (fun x1 tx1 => ?_)
  refine c_mabs rfl (Nat.le_of_ble_eq_true rfl) (fun x2 tx2 => ?_)
  refine w_aload rfl rfl ?_
  refine w_iload rfl rfl ?_
  refine w_iload rfl rfl ?_
  refine w_invV (rest := [.inl x2]) rfl rfl (sh_land (by omega)) rfl rfl (Nat.le_of_ble_eq_true rfl) rfl (by omega) (s_X3_thickness (K := K) a b v  L i j hR  (by omega) (by omega) (by omega)) (fun z3 h9 hq4 => ?_)
  obtain ⟨rfl, x5, rfl, px5⟩ := hq4
  show f_wp _ (28, [some (.inr (.inr (some L))), some (.inl i), some (.inl j)], [.inl x5, .inl x2], cH a b v) _
  first | refine w_iadd rfl (by omega) (fun x6 tx6 => ?_) | refine w_iiU rfl (fun x6 tx6 => ?_)
  exact wp_iret (z := false) rfl (fun h9 => by cases h9) ⟨rfl, ⟨_, rfl, trivial⟩⟩
set_option maxRecDepth 4000 in
theorem s_X3_isFit {K : Nat} (a : Nat → Nat → Int32) (b : Nat → Nat → Int64) (v : Nat → Option Nat) (L : Nat) (i : Int32) (j : Int32) (hR : RC K a) (hL : L = 22 ∨ L = 46) (hi : 0 ≤ i.toInt ∧ i.toInt ≤ 5) (hj : 0 ≤ j.toInt ∧ j.toInt ≤ 5) : f_call mtC 2 16 [.inr (.inr (some L)), .inl i, .inl j] (cH a b v) (fun v9 h' => h' = cH a b v ∧ ∃ x : Int32, v9 = some (.inl x) ∧ (x.toInt = 0 ∨ x.toInt = 1)) := by
  refine f_call_of (d0 := 1) rfl (Nat.le_of_ble_eq_true rfl) (fun d hd => ?_)
  show f_wp _ (0, [some (.inr (.inr (some L))), some (.inl i), some (.inl j), none, none], [], cH a b v) _
  have l0 : (0 : Int32).toInt = 0 := rfl
  have l1 : (1 : Int32).toInt = 1 := rfl
  have l3 : (3 : Int32).toInt = 3 := rfl
  refine w_aload rfl rfl ?_
  refine c_getR (t := some (L + 1)) rfl (sh_land (by omega)) rfl rfl (rC_land0 (by omega)) ?_
  refine w_iload rfl rfl ?_
  refine c_aald5 (t := some ((L + 1) + 11 + 2 * i.toInt.toNat)) rfl (sh_row (by omega)) (by omega) (rC_row (by omega)) ?_
  refine w_astore (lo' := [some (.inr (.inr (some L))), some (.inl i), some (.inl j), some (.inr (.inr (some ((L + 1) + 11 + 2 * i.toInt.toNat)))), none]) rfl rfl ?_
  refine w_aload rfl rfl ?_
  refine c_getR (t := some (L + 1)) rfl (sh_land (by omega)) rfl rfl (rC_land0 (by omega)) ?_
  refine w_iload rfl rfl ?_
  refine c_aald5 (t := some ((L + 1) + 11 + 2 * j.toInt.toNat)) rfl (sh_row (by omega)) (by omega) (rC_row (by omega)) ?_
  refine w_astore (lo' := [some (.inr (.inr (some L))), some (.inl i), some (.inl j), some (.inr (.inr (some ((L + 1) + 11 + 2 * i.toInt.toNat)))), some (.inr (.inr (some ((L + 1) + 11 + 2 * j.toInt.toNat))))]) rfl rfl ?_
  refine w_iload rfl rfl ?_
  refine w_iload rfl rfl ?_
  refine w_ic_eq rfl (fun c1 => ?_) (fun c1 => ?_)
  · skip
    refine w_const rfl ?_
    exact wp_iret (z := true) rfl (fun _ => by first | exact Or.inl rfl | exact Or.inr rfl | (rcases (by omega : (0 : Int32).toInt = 0 ∨ (0 : Int32).toInt = 1) with h8 | h8; exact Or.inl (ti_eq h8); exact Or.inr (ti_eq h8))) ⟨rfl, ⟨_, rfl, by omega⟩⟩
  · skip
    refine w_aload rfl rfl ?_
    refine c_getI rfl (sh_riv (by omega)) rfl rfl ?_
    refine w_const rfl ?_
    refine w_ic_eq rfl (fun c2 => ?_) (fun c2 => ?_)
    · skip
      refine w_const rfl ?_
      exact wp_iret (z := true) rfl (fun _ => by first | exact Or.inl rfl | exact Or.inr rfl | (rcases (by omega : (0 : Int32).toInt = 0 ∨ (0 : Int32).toInt = 1) with h8 | h8; exact Or.inl (ti_eq h8); exact Or.inr (ti_eq h8))) ⟨rfl, ⟨_, rfl, by omega⟩⟩
    · skip
      refine w_aload rfl rfl ?_
      refine c_getI rfl (sh_riv (by omega)) rfl rfl ?_
      refine w_const rfl ?_
      refine w_ic_eq rfl (fun c3 => ?_) (fun c3 => ?_)
      · skip
        refine w_const rfl ?_
        exact wp_iret (z := true) rfl (fun _ => by first | exact Or.inl rfl | exact Or.inr rfl | (rcases (by omega : (0 : Int32).toInt = 0 ∨ (0 : Int32).toInt = 1) with h8 | h8; exact Or.inl (ti_eq h8); exact Or.inr (ti_eq h8))) ⟨rfl, ⟨_, rfl, by omega⟩⟩
      · skip
        refine w_aload rfl rfl ?_
        refine c_getI rfl (sh_riv (by omega)) rfl rfl ?_
        refine w_aload rfl rfl ?_
        refine c_getI rfl (sh_riv (by omega)) rfl rfl ?_
        refine w_ic_lt rfl (fun c4 => ?_) (fun c4 => ?_)
        · skip
          refine w_const rfl ?_
          exact wp_iret (z := true) rfl (fun _ => by first | exact Or.inl rfl | exact Or.inr rfl | (rcases (by omega : (0 : Int32).toInt = 0 ∨ (0 : Int32).toInt = 1) with h8 | h8; exact Or.inl (ti_eq h8); exact Or.inr (ti_eq h8))) ⟨rfl, ⟨_, rfl, by omega⟩⟩
        · skip
          refine w_aload rfl rfl ?_
          refine c_getI rfl (sh_riv (by omega)) rfl rfl ?_
          refine w_aload rfl rfl ?_
          refine c_getI rfl (sh_riv (by omega)) rfl rfl ?_
          refine w_ic_le rfl (fun c5 => ?_) (fun c5 => ?_)
          · skip
            refine w_const rfl ?_
            exact wp_iret (z := true) rfl (fun _ => by first | exact Or.inl rfl | exact Or.inr rfl | (rcases (by omega : (0 : Int32).toInt = 0 ∨ (0 : Int32).toInt = 1) with h8 | h8; exact Or.inl (ti_eq h8); exact Or.inr (ti_eq h8))) ⟨rfl, ⟨_, rfl, by omega⟩⟩
          · skip
            refine w_aload rfl rfl ?_
            refine w_iload rfl rfl ?_
            refine w_iload rfl rfl ?_
            refine w_invV (rest := []) rfl rfl (sh_land (by omega)) rfl rfl (Nat.le_of_ble_eq_true rfl) rfl (by omega) (s_X3_kinSteps (K := K) a b v  L i j hR  (by omega) (by omega) (by omega)) (fun z6 h9 hq7 => ?_)
            obtain ⟨rfl, x8, rfl, px8⟩ := hq7
            show f_wp _ (67, [some (.inr (.inr (some L))), some (.inl i), some (.inl j), some (.inr (.inr (some ((L + 1) + 11 + 2 * i.toInt.toNat)))), some (.inr (.inr (some ((L + 1) + 11 + 2 * j.toInt.toNat))))], [.inl x8], cH a b v) _
            refine w_aload rfl rfl ?_
            refine c_getI rfl (sh_land (by omega)) rfl rfl ?_
            refine w_ic_le rfl (fun c9 => ?_) (fun c9 => ?_)
            · skip
              refine w_const rfl ?_
              exact wp_iret (z := true) rfl (fun _ => by first | exact Or.inl rfl | exact Or.inr rfl | (rcases (by omega : (0 : Int32).toInt = 0 ∨ (0 : Int32).toInt = 1) with h8 | h8; exact Or.inl (ti_eq h8); exact Or.inr (ti_eq h8))) ⟨rfl, ⟨_, rfl, by omega⟩⟩
            · skip
              refine w_const rfl ?_
              refine w_goto rfl ?_
              exact wp_iret (z := true) rfl (fun _ => by first | exact Or.inl rfl | exact Or.inr rfl | (rcases (by omega : (1 : Int32).toInt = 0 ∨ (1 : Int32).toInt = 1) with h8 | h8; exact Or.inl (ti_eq h8); exact Or.inr (ti_eq h8))) ⟨rfl, ⟨_, rfl, by omega⟩⟩
set_option maxRecDepth 4000 in
theorem s_X3_chanceOf {K : Nat} (a : Nat → Nat → Int32) (b : Nat → Nat → Int64) (v : Nat → Option Nat) (L : Nat) (i : Int32) (j : Int32) (hR : RC K a) (hL : L = 22 ∨ L = 46) (hi : 0 ≤ i.toInt ∧ i.toInt ≤ 100) : f_call mtC 1 25 [.inr (.inr (some L)), .inl i, .inl j] (cH a b v) (fun v9 h' => h' = cH a b v ∧ ∃ x : Int32, v9 = some (.inl x) ∧ True) := by
  refine f_call_of (d0 := 0) rfl (Nat.le_of_ble_eq_true rfl) (fun d hd => ?_)
  show f_wp _ (0, [some (.inr (.inr (some L))), some (.inl i), some (.inl j), none, none, none], [], cH a b v) _
  have l0 : (0 : Int32).toInt = 0 := rfl
  have l1 : (1 : Int32).toInt = 1 := rfl
  have l6 : (6 : Int32).toInt = 6 := rfl
  have l10 : (10 : Int32).toInt = 10 := rfl
  refine w_const rfl ?_
  refine w_istore (lo' := [some (.inr (.inr (some L))), some (.inl i), some (.inl j), some (.inl 1), none, none]) rfl rfl ?_
  refine w_const rfl ?_
  refine w_istore (lo' := [some (.inr (.inr (some L))), some (.inl i), some (.inl j), some (.inl 1), some (.inl 0), none]) rfl rfl ?_
  have loop5 : ∀ (ms9 : Nat) (pr : Int32) (k : Int32) , (100 - k.toInt).toNat = ms9 → (0 ≤ k.toInt ∧ k.toInt ≤ 100) → f_wp (f_code (t_X3_chanceOf (f_ev mtC d))) (5, [some (.inr (.inr (some L))), some (.inl i), some (.inl j), some (.inl pr), some (.inl k), none], [], cH a b v) (fun v9 h' => h' = cH a b v ∧ ∃ x : Int32, v9 = some (.inl x) ∧ True) := by
    intro ms9
    induction ms9 using Nat.strongRecOn with
    | _ ms5 ih5 =>
      intro pr k  hm5 hk
      refine w_iload rfl rfl ?_
      refine w_iload rfl rfl ?_
      refine w_ic_ge rfl (fun c1 => ?_) (fun c1 => ?_)
      · skip
        refine w_const rfl ?_
        refine w_istore (lo' := [some (.inr (.inr (some L))), some (.inl i), some (.inl j), some (.inl pr), some (.inl 0), none]) rfl rfl ?_
        have loop32 : ∀ (ms9 : Nat) (pr : Int32) (m : Int32) (o5_32 : Option f_V), (6 - m.toInt).toNat = ms9 → (0 ≤ m.toInt ∧ m.toInt ≤ 6) → f_wp (f_code (t_X3_chanceOf (f_ev mtC d))) (32, [some (.inr (.inr (some L))), some (.inl i), some (.inl j), some (.inl pr), some (.inl m), o5_32], [], cH a b v) (fun v9 h' => h' = cH a b v ∧ ∃ x : Int32, v9 = some (.inl x) ∧ True) := by
          intro ms9
          induction ms9 using Nat.strongRecOn with
          | _ ms32 ih32 =>
            intro pr m o5_32 hm32 hm
            refine w_iload rfl rfl ?_
            refine w_const rfl ?_
            refine w_ic_ge rfl (fun c2 => ?_) (fun c2 => ?_)
            · skip
              refine w_iload rfl rfl ?_
              exact wp_iret (z := false) rfl (fun h9 => by cases h9) ⟨rfl, ⟨_, rfl, trivial⟩⟩
            · skip
              refine w_iload rfl rfl ?_
              refine w_iload rfl rfl ?_
              refine w_ic_ge rfl (fun c3 => ?_) (fun c3 => ?_)
              · skip
                refine w_const rfl ?_
                refine w_aload rfl rfl ?_
                refine c_getI rfl (sh_land (by omega)) rfl rfl ?_
                first | refine w_isub rfl (by omega) (fun x4 tx4 => ?_) | refine w_iiU rfl (fun x4 tx4 => ?_)
                refine w_istore (lo' := [some (.inr (.inr (some L))), some (.inl i), some (.inl j), some (.inl pr), some (.inl m), some (.inl x4)]) rfl rfl ?_
                refine w_iload rfl rfl ?_
                refine w_iload rfl rfl ?_
                refine w_iload rfl rfl ?_
                refine w_ic_ge rfl (fun c5 => ?_) (fun c5 => ?_)
                · skip
                  refine w_const rfl ?_
                  first | refine w_imulR rfl (c := 10) rfl (by omega) (fun x6 tx6 => ?_) | refine w_iiU rfl (fun x6 tx6 => ?_)
                  refine w_istore (lo' := [some (.inr (.inr (some L))), some (.inl i), some (.inl j), some (.inl x6), some (.inl m), some (.inl x4)]) rfl rfl ?_
                  refine w_iinc (lo' := fun z9 => [some (.inr (.inr (some L))), some (.inl i), some (.inl j), some (.inl x6), some (.inl z9), some (.inl x4)]) rfl rfl (fun _ => rfl) (by omega) (fun x7 tx7 => ?_)
                  refine w_goto rfl ?_
                  exact ih32 (6 - x7.toInt).toNat (by omega) x6 x7 (some (.inl x4)) rfl  (by omega)
                · skip
                  refine w_iload rfl rfl ?_
                  refine w_goto rfl ?_
                  refine w_iiU rfl (fun x8 tx8 => ?_)
                  refine w_istore (lo' := [some (.inr (.inr (some L))), some (.inl i), some (.inl j), some (.inl x8), some (.inl m), some (.inl x4)]) rfl rfl ?_
                  refine w_iinc (lo' := fun z9 => [some (.inr (.inr (some L))), some (.inl i), some (.inl j), some (.inl x8), some (.inl z9), some (.inl x4)]) rfl rfl (fun _ => rfl) (by omega) (fun x9 tx9 => ?_)
                  refine w_goto rfl ?_
                  exact ih32 (6 - x9.toInt).toNat (by omega) x8 x9 (some (.inl x4)) rfl  (by omega)
              · skip
                refine w_aload rfl rfl ?_
                refine c_getI rfl (sh_land (by omega)) rfl rfl ?_
                refine w_goto rfl ?_
                refine w_istore (lo' := [some (.inr (.inr (some L))), some (.inl i), some (.inl j), some (.inl pr), some (.inl m), some (.inl (a L 10))]) rfl rfl ?_
                refine w_iload rfl rfl ?_
                refine w_iload rfl rfl ?_
                refine w_iload rfl rfl ?_
                refine w_ic_ge rfl (fun c10 => ?_) (fun c10 => ?_)
                · skip
                  refine w_const rfl ?_
                  first | refine w_imulR rfl (c := 10) rfl (by omega) (fun x11 tx11 => ?_) | refine w_iiU rfl (fun x11 tx11 => ?_)
                  refine w_istore (lo' := [some (.inr (.inr (some L))), some (.inl i), some (.inl j), some (.inl x11), some (.inl m), some (.inl (a L 10))]) rfl rfl ?_
                  refine w_iinc (lo' := fun z9 => [some (.inr (.inr (some L))), some (.inl i), some (.inl j), some (.inl x11), some (.inl z9), some (.inl (a L 10))]) rfl rfl (fun _ => rfl) (by omega) (fun x12 tx12 => ?_)
                  refine w_goto rfl ?_
                  exact ih32 (6 - x12.toInt).toNat (by omega) x11 x12 (some (.inl (a L 10))) rfl  (by omega)
                · skip
                  refine w_iload rfl rfl ?_
                  refine w_goto rfl ?_
                  refine w_iiU rfl (fun x13 tx13 => ?_)
                  refine w_istore (lo' := [some (.inr (.inr (some L))), some (.inl i), some (.inl j), some (.inl x13), some (.inl m), some (.inl (a L 10))]) rfl rfl ?_
                  refine w_iinc (lo' := fun z9 => [some (.inr (.inr (some L))), some (.inl i), some (.inl j), some (.inl x13), some (.inl z9), some (.inl (a L 10))]) rfl rfl (fun _ => rfl) (by omega) (fun x14 tx14 => ?_)
                  refine w_goto rfl ?_
                  exact ih32 (6 - x14.toInt).toNat (by omega) x13 x14 (some (.inl (a L 10))) rfl  (by omega)
        exact loop32 _ pr 0 none rfl  (by omega)
      · skip
        refine w_iload rfl rfl ?_
        refine w_iload rfl rfl ?_
        refine w_iload rfl rfl ?_
        first | refine w_isub rfl (by omega) (fun x15 tx15 => ?_) | refine w_iiU rfl (fun x15 tx15 => ?_)
        refine w_iiU rfl (fun x16 tx16 => ?_)
        refine w_iload rfl rfl ?_
        refine w_const rfl ?_
        first | refine w_iadd rfl (by omega) (fun x17 tx17 => ?_) | refine w_iiU rfl (fun x17 tx17 => ?_)
        refine w_iidE rfl (by omega) (fun x18 tx18 => ?_)
        refine w_istore (lo' := [some (.inr (.inr (some L))), some (.inl i), some (.inl j), some (.inl x18), some (.inl k), none]) rfl rfl ?_
        refine w_iinc (lo' := fun z9 => [some (.inr (.inr (some L))), some (.inl i), some (.inl j), some (.inl x18), some (.inl z9), none]) rfl rfl (fun _ => rfl) (by omega) (fun x19 tx19 => ?_)
        refine w_goto rfl ?_
        exact ih5 (100 - x19.toInt).toNat (by omega) x18 x19 rfl  (by omega)
  exact loop5 _ 1 0 rfl  (by omega)
set_option maxRecDepth 4000 in
theorem s_X3_floodChance {K : Nat} (a : Nat → Nat → Int32) (b : Nat → Nat → Int64) (v : Nat → Option Nat) (L : Nat) (i : Int32) (j : Int32) (k : Int32) (hR : RC K a) (hL : L = 22 ∨ L = 46) : f_call mtC 2 24 [.inr (.inr (some L)), .inl i, .inl j, .inl k] (cH a b v) (fun v9 h' => h' = cH a b v ∧ ∃ x : Int32, v9 = some (.inl x) ∧ True) := by
  refine f_call_of (d0 := 1) rfl (Nat.le_of_ble_eq_true rfl) (fun d hd => ?_)
  show f_wp _ (0, [some (.inr (.inr (some L))), some (.inl i), some (.inl j), some (.inl k), none, none, none, none], [], cH a b v) _
  have l0 : (0 : Int32).toInt = 0 := rfl
  have l1 : (1 : Int32).toInt = 1 := rfl
  refine w_iload rfl rfl ?_
  refine w_invS (rest := []) rfl (Nat.le_of_ble_eq_true rfl) rfl (Nat.le_of_ble_eq_true rfl) rfl (by omega) (s_J6_bitCount_0f7a4 (K := K) a b v  i   ) (fun z1 h9 hq2 => ?_)
  obtain ⟨rfl, x3, rfl, px3⟩ := hq2
  show f_wp _ (4, [some (.inr (.inr (some L))), some (.inl i), some (.inl j), some (.inl k), none, none, none, none], [.inl x3], cH a b v) _
  have b9 := px3
  refine w_istore (lo' := [some (.inr (.inr (some L))), some (.inl i), some (.inl j), some (.inl k), some (.inl x3), none, none, none]) rfl rfl ?_
  refine w_aload rfl rfl ?_
  refine w_iload rfl rfl ?_
  refine w_iload rfl rfl ?_
  refine w_invV (rest := []) rfl rfl (sh_land (by omega)) rfl rfl (Nat.le_of_ble_eq_true rfl) rfl (by omega) (s_X3_water (K := K) a b v  L i j hR  (by omega)) (fun z4 h9 hq5 => ?_)
  obtain ⟨rfl, x6, rfl, px6⟩ := hq5
  show f_wp _ (12, [some (.inr (.inr (some L))), some (.inl i), some (.inl j), some (.inl k), some (.inl x3), none, none, none], [.inl x6], cH a b v) _
  refine w_istore (lo' := [some (.inr (.inr (some L))), some (.inl i), some (.inl j), some (.inl k), some (.inl x3), some (.inl x6), none, none]) rfl rfl ?_
  refine w_const rfl ?_
  refine w_istore (lo' := [some (.inr (.inr (some L))), some (.inl i), some (.inl j), some (.inl k), some (.inl x3), some (.inl x6), some (.inl 0), none]) rfl rfl ?_
  refine w_const rfl ?_
  refine w_istore (lo' := [some (.inr (.inr (some L))), some (.inl i), some (.inl j), some (.inl k), some (.inl x3), some (.inl x6), some (.inl 0), some (.inl 0)]) rfl rfl ?_
  have loop20 : ∀ (ms9 : Nat) (su : Int32) (m : Int32) , (64 - m.toInt).toNat = ms9 → (0 ≤ m.toInt ∧ m.toInt ≤ 64) → f_wp (f_code (t_X3_floodChance (f_ev mtC d))) (20, [some (.inr (.inr (some L))), some (.inl i), some (.inl j), some (.inl k), some (.inl x3), some (.inl x6), some (.inl su), some (.inl m)], [], cH a b v) (fun v9 h' => h' = cH a b v ∧ ∃ x : Int32, v9 = some (.inl x) ∧ True) := by
    intro ms9
    induction ms9 using Nat.strongRecOn with
    | _ ms20 ih20 =>
      intro su m  hm20 hm
      refine w_iload rfl rfl ?_
      refine w_iload rfl rfl ?_
      refine w_ic_gt rfl (fun c7 => ?_) (fun c7 => ?_)
      · skip
        refine w_iload rfl rfl ?_
        exact wp_iret (z := false) rfl (fun h9 => by cases h9) ⟨rfl, ⟨_, rfl, trivial⟩⟩
      · skip
        refine w_iload rfl rfl ?_
        refine w_iload rfl rfl ?_
        refine w_aload rfl rfl ?_
        refine c_getI rfl (sh_land (by omega)) rfl rfl ?_
        refine w_iiU rfl (fun x8 tx8 => ?_)
        first | refine w_iadd rfl (by omega) (fun x9 tx9 => ?_) | refine w_iiU rfl (fun x9 tx9 => ?_)
        refine w_iload rfl rfl ?_
        refine w_ic_le rfl (fun c10 => ?_) (fun c10 => ?_)
        · skip
          refine w_iinc (lo' := fun z9 => [some (.inr (.inr (some L))), some (.inl i), some (.inl j), some (.inl k), some (.inl x3), some (.inl x6), some (.inl su), some (.inl z9)]) rfl rfl (fun _ => rfl) (by omega) (fun x11 tx11 => ?_)
          refine w_goto rfl ?_
          exact ih20 (64 - x11.toInt).toNat (by omega) su x11 rfl  (by omega)
        · skip
          refine w_iload rfl rfl ?_
          refine w_aload rfl rfl ?_
          refine w_iload rfl rfl ?_
          refine w_iload rfl rfl ?_
          refine w_invV (rest := [.inl su]) rfl rfl (sh_land (by omega)) rfl rfl (Nat.le_of_ble_eq_true rfl) rfl (by omega) (s_X3_chanceOf (K := K) a b v  L m x3 hR  (by omega) (by omega)) (fun z12 h9 hq13 => ?_)
          obtain ⟨rfl, x14, rfl, px14⟩ := hq13
          show f_wp _ (51, [some (.inr (.inr (some L))), some (.inl i), some (.inl j), some (.inl k), some (.inl x3), some (.inl x6), some (.inl su), some (.inl m)], [.inl x14, .inl su], cH a b v) _
          first | refine w_iadd rfl (by omega) (fun x15 tx15 => ?_) | refine w_iiU rfl (fun x15 tx15 => ?_)
          refine w_istore (lo' := [some (.inr (.inr (some L))), some (.inl i), some (.inl j), some (.inl k), some (.inl x3), some (.inl x6), some (.inl x15), some (.inl m)]) rfl rfl ?_
          refine w_iinc (lo' := fun z9 => [some (.inr (.inr (some L))), some (.inl i), some (.inl j), some (.inl k), some (.inl x3), some (.inl x6), some (.inl x15), some (.inl z9)]) rfl rfl (fun _ => rfl) (by omega) (fun x16 tx16 => ?_)
          refine w_goto rfl ?_
          exact ih20 (64 - x16.toInt).toNat (by omega) x15 x16 rfl  (by omega)
  exact loop20 _ 0 0 rfl  (by omega)
set_option maxRecDepth 4000 in
theorem s_X3_sumUp {K : Nat} (a : Nat → Nat → Int32) (b : Nat → Nat → Int64) (v : Nat → Option Nat) (L : Nat) (i : Int32) (hR : RC K a) (hL : L = 22 ∨ L = 46) (hi : 0 ≤ i.toInt ∧ i.toInt ≤ 3) : f_call mtC 1 17 [.inr (.inr (some L)), .inl i] (cH a b v) (fun v9 h' => ∃ (a' : Nat → Nat → Int32), h' = cH a' b v ∧ RC K a' ∧ (FR [L + 11] a a' ∧ True) ∧ v9 = none) := by
  refine f_call_of (d0 := 0) rfl (Nat.le_of_ble_eq_true rfl) (fun d hd => ?_)
  show f_wp _ (0, [some (.inr (.inr (some L))), some (.inl i), none, none, none, none, none, none], [], cH a b v) _
  have l0 : (0 : Int32).toInt = 0 := rfl
  have l1 : (1 : Int32).toInt = 1 := rfl
  have l2 : (2 : Int32).toInt = 2 := rfl
  have l4 : (4 : Int32).toInt = 4 := rfl
  have l64 : (64 : Int32).toInt = 64 := rfl
  refine w_iload rfl rfl ?_
  refine w_const rfl ?_
  first | refine w_imulR rfl (c := 64) rfl (by omega) (fun x1 tx1 => ?_) | refine w_iiU rfl (fun x1 tx1 => ?_)
  refine w_istore (lo' := [some (.inr (.inr (some L))), some (.inl i), some (.inl x1), none, none, none, none, none]) rfl rfl ?_
  refine w_iload rfl rfl ?_
  refine w_const rfl ?_
  first | refine w_iadd rfl (by omega) (fun x2 tx2 => ?_) | refine w_iiU rfl (fun x2 tx2 => ?_)
  refine w_const rfl ?_
  first | refine w_imulR rfl (c := 64) rfl (by omega) (fun x3 tx3 => ?_) | refine w_iiU rfl (fun x3 tx3 => ?_)
  refine w_istore (lo' := [some (.inr (.inr (some L))), some (.inl i), some (.inl x1), some (.inl x3), none, none, none, none]) rfl rfl ?_
  refine w_aload rfl rfl ?_
  refine c_getR (t := some (L + 11)) rfl (sh_land (by omega)) rfl rfl (rC_land6 (by omega)) ?_
  refine w_iload rfl rfl ?_
  refine w_const rfl ?_
  refine c_iast rfl (sh_sums (by omega)) (by omega) (fun a4 ea4 => ?_)
  have ha4 : RC K a4 := RC.up hR ea4 (lc_any _ (by omega))
  refine w_aload rfl rfl ?_
  refine c_getR (t := some (L + 11)) rfl (sh_land (by omega)) rfl rfl (rC_land6 (by omega)) ?_
  refine w_iload rfl rfl ?_
  refine w_const rfl ?_
  refine c_iast rfl (sh_sums (by omega)) (by omega) (fun a5 ea5 => ?_)
  have ha5 : RC K a5 := RC.up ha4 ea5 (lc_any _ (by omega))
  refine w_const rfl ?_
  refine w_istore (lo' := [some (.inr (.inr (some L))), some (.inl i), some (.inl x1), some (.inl x3), some (.inl 0), none, none, none]) rfl rfl ?_
  have loop29 : ∀ (ms9 : Nat) (r : Int32) (a29 : Nat → Nat → Int32) (o5_29 : Option f_V) (o6_29 : Option f_V) (o7_29 : Option f_V), (6 - r.toInt).toNat = ms9 → RC K a29 → FR [L + 11] a a29 → (0 ≤ r.toInt ∧ r.toInt ≤ 6) → f_wp (f_code (t_X3_sumUp (f_ev mtC d))) (29, [some (.inr (.inr (some L))), some (.inl i), some (.inl x1), some (.inl x3), some (.inl r), o5_29, o6_29, o7_29], [], cH a29 b v) (fun v9 h' => ∃ (a' : Nat → Nat → Int32), h' = cH a' b v ∧ RC K a' ∧ (FR [L + 11] a a' ∧ True) ∧ v9 = none) := by
    intro ms9
    induction ms9 using Nat.strongRecOn with
    | _ ms29 ih29 =>
      intro r a29 o5_29 o6_29 o7_29 hm29 hR29 hF29 hr
      refine w_iload rfl rfl ?_
      refine w_aload rfl rfl ?_
      refine c_getI rfl (sh_land (by omega)) rfl rfl ?_
      have q6 : 0 ≤ (a29 L 7).toInt ∧ (a29 L 7).toInt ≤ 6 := RC.riv hR29 (by omega)
      refine w_ic_ge rfl (fun c7 => ?_) (fun c7 => ?_)
      · skip
        exact w_ret rfl ⟨a29, rfl, hR29, ⟨hF29, trivial⟩, rfl⟩
      · skip
        refine w_aload rfl rfl ?_
        refine c_getR (t := some (L + 1)) rfl (sh_land (by omega)) rfl rfl (rC_land0 (by omega)) ?_
        refine w_iload rfl rfl ?_
        refine c_aald5 (t := some ((L + 1) + 11 + 2 * r.toInt.toNat)) rfl (sh_row (by omega)) (by omega) (rC_row (by omega)) ?_
        refine c_getR (t := some (((L + 1) + 11 + 2 * r.toInt.toNat) + 1)) rfl (sh_riv (by omega)) rfl rfl (rC_riv0 (by omega)) ?_
        refine w_iload rfl rfl ?_
        refine c_iald rfl (sh_wat (by omega)) (by omega) (fun x8 ex8 => ?_)
        refine w_istore (lo' := [some (.inr (.inr (some L))), some (.inl i), some (.inl x1), some (.inl x3), some (.inl r), some (.inl x8), o6_29, o7_29]) rfl rfl ?_
        refine w_const rfl ?_
        refine w_istore (lo' := [some (.inr (.inr (some L))), some (.inl i), some (.inl x1), some (.inl x3), some (.inl r), some (.inl x8), some (.inl 0), o7_29]) rfl rfl ?_
        have loop55 : ∀ (ms9 : Nat) (m : Int32) (a55 : Nat → Nat → Int32) (o7_55 : Option f_V), (32 - m.toInt).toNat = ms9 → RC K a55 → FR [L + 11] a a55 → (0 ≤ m.toInt ∧ m.toInt ≤ 32) → f_wp (f_code (t_X3_sumUp (f_ev mtC d))) (55, [some (.inr (.inr (some L))), some (.inl i), some (.inl x1), some (.inl x3), some (.inl r), some (.inl x8), some (.inl m), o7_55], [], cH a55 b v) (fun v9 h' => ∃ (a' : Nat → Nat → Int32), h' = cH a' b v ∧ RC K a' ∧ (FR [L + 11] a a' ∧ True) ∧ v9 = none) := by
          intro ms9
          induction ms9 using Nat.strongRecOn with
          | _ ms55 ih55 =>
            intro m a55 o7_55 hm55 hR55 hF55 hm
            refine w_iload rfl rfl ?_
            refine w_const rfl ?_
            refine w_iload rfl rfl ?_
            refine w_iiE rfl (fun x9 tx9 => ?_)
            have ux9 := sh1 (by omega) tx9
            refine w_ic_ge rfl (fun c10 => ?_) (fun c10 => ?_)
            · skip
              refine w_iinc (lo' := fun z9 => [some (.inr (.inr (some L))), some (.inl i), some (.inl x1), some (.inl x3), some (.inl z9), some (.inl x8), some (.inl m), o7_55]) rfl rfl (fun _ => rfl) (by omega) (fun x11 tx11 => ?_)
              refine w_goto rfl ?_
              exact ih29 (6 - x11.toInt).toNat (by omega) x11 a55 (some (.inl x8)) (some (.inl m)) o7_55 rfl hR55 (hF55) (by omega)
            · skip
              refine w_iload rfl rfl ?_
              refine w_const rfl ?_
              refine w_iload rfl rfl ?_
              refine w_iiE rfl (fun x12 tx12 => ?_)
              have ux12 := sh1 (by omega) tx12
              refine w_iiE rfl (fun x13 tx13 => ?_)
              have o9 := or63 (by omega) (by omega) tx13
              refine w_istore (lo' := [some (.inr (.inr (some L))), some (.inl i), some (.inl x1), some (.inl x3), some (.inl r), some (.inl x8), some (.inl m), some (.inl x13)]) rfl rfl ?_
              refine w_aload rfl rfl ?_
              refine c_getR (t := some (L + 11)) rfl (sh_land (by omega)) rfl rfl (rC_land6 (by omega)) ?_
              refine w_iload rfl rfl ?_
              refine w_iload rfl rfl ?_
              first | refine w_iadd rfl (by omega) (fun x14 tx14 => ?_) | refine w_iiU rfl (fun x14 tx14 => ?_)
              refine w_aload rfl rfl ?_
              refine c_getR (t := some (L + 11)) rfl (sh_land (by omega)) rfl rfl (rC_land6 (by omega)) ?_
              refine w_iload rfl rfl ?_
              refine w_iload rfl rfl ?_
              first | refine w_iadd rfl (by omega) (fun x15 tx15 => ?_) | refine w_iiU rfl (fun x15 tx15 => ?_)
              refine c_iald rfl (sh_sums (by omega)) (by omega) (fun x16 ex16 => ?_)
              refine w_iload rfl rfl ?_
              first | refine w_iadd rfl (by omega) (fun x17 tx17 => ?_) | refine w_iiU rfl (fun x17 tx17 => ?_)
              refine c_iast rfl (sh_sums (by omega)) (by omega) (fun a18 ea18 => ?_)
              have ha18 : RC K a18 := RC.up hR55 ea18 (lc_any _ (by omega))
              refine w_aload rfl rfl ?_
              refine c_getR (t := some (L + 11)) rfl (sh_land (by omega)) rfl rfl (rC_land6 (by omega)) ?_
              refine w_iload rfl rfl ?_
              refine w_iload rfl rfl ?_
              first | refine w_iadd rfl (by omega) (fun x19 tx19 => ?_) | refine w_iiU rfl (fun x19 tx19 => ?_)
              refine w_aload rfl rfl ?_
              refine c_getR (t := some (L + 11)) rfl (sh_land (by omega)) rfl rfl (rC_land6 (by omega)) ?_
              refine w_iload rfl rfl ?_
              refine w_iload rfl rfl ?_
              first | refine w_iadd rfl (by omega) (fun x20 tx20 => ?_) | refine w_iiU rfl (fun x20 tx20 => ?_)
              refine c_iald rfl (sh_sums (by omega)) (by omega) (fun x21 ex21 => ?_)
              refine w_iload rfl rfl ?_
              refine w_const rfl ?_
              first | refine w_idiv (c := 2) rfl rfl (by decide) (by omega) (fun x22 tx22 => ?_) | refine w_iidE rfl (by omega) (fun x22 tx22 => ?_)
              first | refine w_iadd rfl (by omega) (fun x23 tx23 => ?_) | refine w_iiU rfl (fun x23 tx23 => ?_)
              refine c_iast rfl (sh_sums (by omega)) (by omega) (fun a24 ea24 => ?_)
              have ha24 : RC K a24 := RC.up ha18 ea24 (lc_any _ (by omega))
              refine w_iinc (lo' := fun z9 => [some (.inr (.inr (some L))), some (.inl i), some (.inl x1), some (.inl x3), some (.inl r), some (.inl x8), some (.inl z9), some (.inl x13)]) rfl rfl (fun _ => rfl) (by omega) (fun x25 tx25 => ?_)
              refine w_goto rfl ?_
              exact ih55 (32 - x25.toInt).toNat (by omega) x25 a24 (some (.inl x13)) rfl ha24 (FR.up (FR.up (hF55) (by first | decide | simp | (simp [cA]; omega) | (simp [cB]; omega)) ea18) (by first | decide | simp | (simp [cA]; omega) | (simp [cB]; omega)) ea24) (by omega)
        exact loop55 _ 0 a29 o7_29 rfl hR29 (hF29) (by omega)
  exact loop29 _ 0 a5 none none none rfl ha5 (FR.up (FR.up (FR.rf) (by first | decide | simp | (simp [cA]; omega) | (simp [cB]; omega)) ea4) (by first | decide | simp | (simp [cA]; omega) | (simp [cB]; omega)) ea5) (by omega)
set_option maxRecDepth 4000 in
theorem s_X3_compareSeasons {K : Nat} (a : Nat → Nat → Int32) (b : Nat → Nat → Int64) (v : Nat → Option Nat) (L : Nat) (hR : RC K a) (hL : L = 22 ∨ L = 46) : f_call mtC 2 18 [.inr (.inr (some L))] (cH a b v) (fun v9 h' => ∃ (a' : Nat → Nat → Int32), h' = cH a' b v ∧ RC K a' ∧ (FR [L + 11] a a' ∧ True) ∧ v9 = none) := by
  refine f_call_of (d0 := 1) rfl (Nat.le_of_ble_eq_true rfl) (fun d hd => ?_)
  show f_wp _ (0, [some (.inr (.inr (some L))), none, none, none, none], [], cH a b v) _
  have l0 : (0 : Int32).toInt = 0 := rfl
  have l1 : (1 : Int32).toInt = 1 := rfl
  have l4 : (4 : Int32).toInt = 4 := rfl
  have l64 : (64 : Int32).toInt = 64 := rfl
  have l512 : (512 : Int32).toInt = 512 := rfl
  have l576 : (576 : Int32).toInt = 576 := rfl
  refine w_const rfl ?_
  refine w_istore (lo' := [some (.inr (.inr (some L))), some (.inl 0), none, none, none]) rfl rfl ?_
  have loop2 : ∀ (ms9 : Nat) (m : Int32) (a2 : Nat → Nat → Int32) (o2_2 : Option f_V) (o3_2 : Option f_V) (o4_2 : Option f_V), (64 - m.toInt).toNat = ms9 → RC K a2 → FR [L + 11] a a2 → (0 ≤ m.toInt ∧ m.toInt ≤ 64) → f_wp (f_code (t_X3_compareSeasons (f_ev mtC d))) (2, [some (.inr (.inr (some L))), some (.inl m), o2_2, o3_2, o4_2], [], cH a2 b v) (fun v9 h' => ∃ (a' : Nat → Nat → Int32), h' = cH a' b v ∧ RC K a' ∧ (FR [L + 11] a a' ∧ True) ∧ v9 = none) := by
    intro ms9
    induction ms9 using Nat.strongRecOn with
    | _ ms2 ih2 =>
      intro m a2 o2_2 o3_2 o4_2 hm2 hR2 hF2 hm
      refine w_iload rfl rfl ?_
      refine w_const rfl ?_
      refine w_aload rfl rfl ?_
      refine c_getI rfl (sh_land (by omega)) rfl rfl ?_
      have q1 : 0 ≤ (a2 L 7).toInt ∧ (a2 L 7).toInt ≤ 6 := RC.riv hR2 (by omega)
      refine w_iiE rfl (fun x2 tx2 => ?_)
      have ux2 := sh1 (by omega) tx2
      refine w_ic_ge rfl (fun c3 => ?_) (fun c3 => ?_)
      · skip
        exact w_ret rfl ⟨a2, rfl, hR2, ⟨hF2, trivial⟩, rfl⟩
      · skip
        refine w_aload rfl rfl ?_
        refine c_getR (t := some (L + 11)) rfl (sh_land (by omega)) rfl rfl (rC_land6 (by omega)) ?_
        refine w_iload rfl rfl ?_
        refine c_iald rfl (sh_sums (by omega)) (by omega) (fun x4 ex4 => ?_)
        refine w_istore (lo' := [some (.inr (.inr (some L))), some (.inl m), some (.inl x4), o3_2, o4_2]) rfl rfl ?_
        refine w_aload rfl rfl ?_
        refine c_getR (t := some (L + 11)) rfl (sh_land (by omega)) rfl rfl (rC_land6 (by omega)) ?_
        refine w_iload rfl rfl ?_
        refine c_iald rfl (sh_sums (by omega)) (by omega) (fun x5 ex5 => ?_)
        refine w_istore (lo' := [some (.inr (.inr (some L))), some (.inl m), some (.inl x4), some (.inl x5), o4_2]) rfl rfl ?_
        refine w_const rfl ?_
        refine w_istore (lo' := [some (.inr (.inr (some L))), some (.inl m), some (.inl x4), some (.inl x5), some (.inl 1)]) rfl rfl ?_
        have loop29 : ∀ (ms9 : Nat) (lo9 : Int32) (hi9 : Int32) (k : Int32) , (4 - k.toInt).toNat = ms9 → (0 ≤ k.toInt ∧ k.toInt ≤ 4) → f_wp (f_code (t_X3_compareSeasons (f_ev mtC d))) (29, [some (.inr (.inr (some L))), some (.inl m), some (.inl lo9), some (.inl hi9), some (.inl k)], [], cH a2 b v) (fun v9 h' => ∃ (a' : Nat → Nat → Int32), h' = cH a' b v ∧ RC K a' ∧ (FR [L + 11] a a' ∧ True) ∧ v9 = none) := by
          intro ms9
          induction ms9 using Nat.strongRecOn with
          | _ ms29 ih29 =>
            intro lo9 hi9 k  hm29 hk
            refine w_iload rfl rfl ?_
            refine w_const rfl ?_
            refine w_ic_ge rfl (fun c6 => ?_) (fun c6 => ?_)
            · skip
              refine w_aload rfl rfl ?_
              refine c_getR (t := some (L + 11)) rfl (sh_land (by omega)) rfl rfl (rC_land6 (by omega)) ?_
              refine w_const rfl ?_
              refine w_iload rfl rfl ?_
              first | refine w_iadd rfl (by omega) (fun x7 tx7 => ?_) | refine w_iiU rfl (fun x7 tx7 => ?_)
              refine w_iload rfl rfl ?_
              refine c_iast rfl (sh_sums (by omega)) (by omega) (fun a8 ea8 => ?_)
              have ha8 : RC K a8 := RC.up hR2 ea8 (lc_any _ (by omega))
              have ra8_57 : (a8 L 7).toInt = (a2 L 7).toInt := by rw [ea8, mU_cell (by omega)]
              refine w_aload rfl rfl ?_
              refine c_getR (t := some (L + 11)) rfl (sh_land (by omega)) rfl rfl (rC_land6 (by omega)) ?_
              refine w_const rfl ?_
              refine w_iload rfl rfl ?_
              first | refine w_iadd rfl (by omega) (fun x9 tx9 => ?_) | refine w_iiU rfl (fun x9 tx9 => ?_)
              refine w_iload rfl rfl ?_
              refine c_iast rfl (sh_sums (by omega)) (by omega) (fun a10 ea10 => ?_)
              have ha10 : RC K a10 := RC.up ha8 ea10 (lc_any _ (by omega))
              have ra10_66 : (a10 L 7).toInt = (a8 L 7).toInt := by rw [ea10, mU_cell (by omega)]
              refine w_iinc (lo' := fun z9 => [some (.inr (.inr (some L))), some (.inl z9), some (.inl lo9), some (.inl hi9), some (.inl k)]) rfl rfl (fun _ => rfl) (by omega) (fun x11 tx11 => ?_)
              refine w_goto rfl ?_
              exact ih2 (64 - x11.toInt).toNat (by omega) x11 a10 (some (.inl lo9)) (some (.inl hi9)) (some (.inl k)) rfl ha10 (FR.up (FR.up (hF2) (by first | decide | simp | (simp [cA]; omega) | (simp [cB]; omega)) ea8) (by first | decide | simp | (simp [cA]; omega) | (simp [cB]; omega)) ea10) (by omega)
            · skip
              refine w_iload rfl rfl ?_
              refine w_aload rfl rfl ?_
              refine c_getR (t := some (L + 11)) rfl (sh_land (by omega)) rfl rfl (rC_land6 (by omega)) ?_
              refine w_iload rfl rfl ?_
              refine w_const rfl ?_
              first | refine w_imulR rfl (c := 64) rfl (by omega) (fun x12 tx12 => ?_) | refine w_iiU rfl (fun x12 tx12 => ?_)
              refine w_iload rfl rfl ?_
              first | refine w_iadd rfl (by omega) (fun x13 tx13 => ?_) | refine w_iiU rfl (fun x13 tx13 => ?_)
              refine c_iald rfl (sh_sums (by omega)) (by omega) (fun x14 ex14 => ?_)
              refine c_mmin rfl (Nat.le_of_ble_eq_true rfl) (fun x15 tx15 => ?_)
              refine w_istore (lo' := [some (.inr (.inr (some L))), some (.inl m), some (.inl x15), some (.inl hi9), some (.inl k)]) rfl rfl ?_
              refine w_iload rfl rfl ?_
              refine w_aload rfl rfl ?_
              refine c_getR (t := some (L + 11)) rfl (sh_land (by omega)) rfl rfl (rC_land6 (by omega)) ?_
              refine w_iload rfl rfl ?_
              refine w_const rfl ?_
              first | refine w_imulR rfl (c := 64) rfl (by omega) (fun x16 tx16 => ?_) | refine w_iiU rfl (fun x16 tx16 => ?_)
              refine w_iload rfl rfl ?_
              first | refine w_iadd rfl (by omega) (fun x17 tx17 => ?_) | refine w_iiU rfl (fun x17 tx17 => ?_)
              refine c_iald rfl (sh_sums (by omega)) (by omega) (fun x18 ex18 => ?_)
              refine c_mmax rfl (Nat.le_of_ble_eq_true rfl) (fun x19 tx19 => ?_)
              refine w_istore (lo' := [some (.inr (.inr (some L))), some (.inl m), some (.inl x15), some (.inl x19), some (.inl k)]) rfl rfl ?_
              refine w_iinc (lo' := fun z9 => [some (.inr (.inr (some L))), some (.inl m), some (.inl x15), some (.inl x19), some (.inl z9)]) rfl rfl (fun _ => rfl) (by omega) (fun x20 tx20 => ?_)
              refine w_goto rfl ?_
              exact ih29 (4 - x20.toInt).toNat (by omega) x15 x19 x20 rfl  (by omega)
        exact loop29 _ x4 x5 1 rfl  (by omega)
  exact loop2 _ 0 a none none none rfl hR (FR.rf) (by omega)
set_option maxRecDepth 4000 in
theorem s_X3_settle {K : Nat} (a : Nat → Nat → Int32) (b : Nat → Nat → Int64) (v : Nat → Option Nat) (L : Nat) (hR : RC K a) (hL : L = 22 ∨ L = 46) : f_call mtC 3 15 [.inr (.inr (some L))] (cH a b v) (fun v9 h' => ∃ (a' : Nat → Nat → Int32), h' = cH a' b v ∧ RC K a' ∧ (FR [L + 10, L + 11] a a' ∧ True) ∧ v9 = none) := by
  refine f_call_of (d0 := 2) rfl (Nat.le_of_ble_eq_true rfl) (fun d hd => ?_)
  show f_wp _ (0, [some (.inr (.inr (some L))), none, none], [], cH a b v) _
  have l0 : (0 : Int32).toInt = 0 := rfl
  have l1 : (1 : Int32).toInt = 1 := rfl
  have l4 : (4 : Int32).toInt = 4 := rfl
  refine w_const rfl ?_
  refine w_istore (lo' := [some (.inr (.inr (some L))), some (.inl 0), none]) rfl rfl ?_
  have loop2 : ∀ (ms9 : Nat) (r : Int32) (a2 : Nat → Nat → Int32) (o2_2 : Option f_V), (6 - r.toInt).toNat = ms9 → RC K a2 → FR [L + 10, L + 11] a a2 → (0 ≤ r.toInt ∧ r.toInt ≤ 6) → f_wp (f_code (t_X3_settle (f_ev mtC d))) (2, [some (.inr (.inr (some L))), some (.inl r), o2_2], [], cH a2 b v) (fun v9 h' => ∃ (a' : Nat → Nat → Int32), h' = cH a' b v ∧ RC K a' ∧ (FR [L + 10, L + 11] a a' ∧ True) ∧ v9 = none) := by
    intro ms9
    induction ms9 using Nat.strongRecOn with
    | _ ms2 ih2 =>
      intro r a2 o2_2 hm2 hR2 hF2 hr
      refine w_iload rfl rfl ?_
      refine w_aload rfl rfl ?_
      refine c_getI rfl (sh_land (by omega)) rfl rfl ?_
      have q1 : 0 ≤ (a2 L 7).toInt ∧ (a2 L 7).toInt ≤ 6 := RC.riv hR2 (by omega)
      refine w_ic_ge rfl (fun c2 => ?_) (fun c2 => ?_)
      · skip
        refine w_const rfl ?_
        refine w_istore (lo' := [some (.inr (.inr (some L))), some (.inl 0), o2_2]) rfl rfl ?_
        have loop62 : ∀ (ms9 : Nat) (r : Int32) (a62 : Nat → Nat → Int32) , (4 - r.toInt).toNat = ms9 → RC K a62 → FR [L + 10, L + 11] a a62 → (0 ≤ r.toInt ∧ r.toInt ≤ 4) → f_wp (f_code (t_X3_settle (f_ev mtC d))) (62, [some (.inr (.inr (some L))), some (.inl r), o2_2], [], cH a62 b v) (fun v9 h' => ∃ (a' : Nat → Nat → Int32), h' = cH a' b v ∧ RC K a' ∧ (FR [L + 10, L + 11] a a' ∧ True) ∧ v9 = none) := by
          intro ms9
          induction ms9 using Nat.strongRecOn with
          | _ ms62 ih62 =>
            intro r a62  hm62 hR62 hF62 hr
            refine w_iload rfl rfl ?_
            refine w_const rfl ?_
            refine w_ic_ge rfl (fun c3 => ?_) (fun c3 => ?_)
            · skip
              refine w_aload rfl rfl ?_
              refine w_invV (rest := []) rfl rfl (sh_land (by omega)) rfl rfl (Nat.le_of_ble_eq_true rfl) rfl (by omega) (s_X3_compareSeasons (K := K) a62 b v  L hR62  (by omega)) (fun z4 h9 hq5 => ?_)
              obtain ⟨a6, rfl, ha6, fa6, rfl⟩ := hq5
              show f_wp _ (82, [some (.inr (.inr (some L))), some (.inl r), o2_2], [], cH a6 b v) _
              exact w_ret rfl ⟨a6, rfl, ha6, ⟨FR.tr (hF62) (FR.sub fa6.1 (by first | exact (fun _ h9 => h9) | decide | (intro c9 h9; simp only [List.mem_cons, List.not_mem_nil, or_false] at h9 ⊢; omega) | (intro c9 h9; simp at h9; simp [cA]; omega) | (intro c9 h9; simp at h9; simp [cB]; omega) | (intro c9 h9; simp [cA] at h9; simp [cB]; omega))), trivial⟩, rfl⟩
            · skip
              refine w_aload rfl rfl ?_
              refine w_iload rfl rfl ?_
              refine w_invV (rest := []) rfl rfl (sh_land (by omega)) rfl rfl (Nat.le_of_ble_eq_true rfl) rfl (by omega) (s_X3_sumUp (K := K) a62 b v  L r hR62  (by omega) (by omega)) (fun z7 h9 hq8 => ?_)
              obtain ⟨a9, rfl, ha9, fa9, rfl⟩ := hq8
              show f_wp _ (72, [some (.inr (.inr (some L))), some (.inl r), o2_2], [], cH a9 b v) _
              refine w_iinc (lo' := fun z9 => [some (.inr (.inr (some L))), some (.inl z9), o2_2]) rfl rfl (fun _ => rfl) (by omega) (fun x10 tx10 => ?_)
              refine w_goto rfl ?_
              exact ih62 (4 - x10.toInt).toNat (by omega) x10 a9 rfl ha9 (FR.tr (hF62) (FR.sub fa9.1 (by first | exact (fun _ h9 => h9) | decide | (intro c9 h9; simp only [List.mem_cons, List.not_mem_nil, or_false] at h9 ⊢; omega) | (intro c9 h9; simp at h9; simp [cA]; omega) | (intro c9 h9; simp at h9; simp [cB]; omega) | (intro c9 h9; simp [cA] at h9; simp [cB]; omega)))) (by omega)
        exact loop62 _ 0 a2 rfl hR2 (hF2) (by omega)
      · skip
        refine w_aload rfl rfl ?_
        refine c_getR (t := some (L + 10)) rfl (sh_land (by omega)) rfl rfl (rC_land5 (by omega)) ?_
        refine w_iload rfl rfl ?_
        refine w_const rfl ?_
        refine c_iast rfl (sh_fits (by omega)) (by omega) (fun a11 ea11 => ?_)
        have ha11 : RC K a11 := RC.up hR2 ea11 (lc_any _ (by omega))
        have ra11_53 : (a11 L 7).toInt = (a2 L 7).toInt := by rw [ea11, mU_cell (by omega)]
        refine w_const rfl ?_
        refine w_istore (lo' := [some (.inr (.inr (some L))), some (.inl r), some (.inl 0)]) rfl rfl ?_
        have loop19 : ∀ (ms9 : Nat) (m : Int32) (a19 : Nat → Nat → Int32) , (6 - m.toInt).toNat = ms9 → RC K a19 → FR [L + 10, L + 11] a a19 → (0 ≤ m.toInt ∧ m.toInt ≤ 6) → f_wp (f_code (t_X3_settle (f_ev mtC d))) (19, [some (.inr (.inr (some L))), some (.inl r), some (.inl m)], [], cH a19 b v) (fun v9 h' => ∃ (a' : Nat → Nat → Int32), h' = cH a' b v ∧ RC K a' ∧ (FR [L + 10, L + 11] a a' ∧ True) ∧ v9 = none) := by
          intro ms9
          induction ms9 using Nat.strongRecOn with
          | _ ms19 ih19 =>
            intro m a19  hm19 hR19 hF19 hm
            refine w_iload rfl rfl ?_
            refine w_aload rfl rfl ?_
            refine c_getI rfl (sh_land (by omega)) rfl rfl ?_
            have q12 : 0 ≤ (a19 L 7).toInt ∧ (a19 L 7).toInt ≤ 6 := RC.riv hR19 (by omega)
            refine w_ic_ge rfl (fun c13 => ?_) (fun c13 => ?_)
            · skip
              refine w_iinc (lo' := fun z9 => [some (.inr (.inr (some L))), some (.inl z9), some (.inl m)]) rfl rfl (fun _ => rfl) (by omega) (fun x14 tx14 => ?_)
              refine w_goto rfl ?_
              exact ih2 (6 - x14.toInt).toNat (by omega) x14 a19 (some (.inl m)) rfl hR19 (hF19) (by omega)
            · skip
              refine w_aload rfl rfl ?_
              refine w_iload rfl rfl ?_
              refine w_iload rfl rfl ?_
              refine w_invV (rest := []) rfl rfl (sh_land (by omega)) rfl rfl (Nat.le_of_ble_eq_true rfl) rfl (by omega) (s_X3_isFit (K := K) a19 b v  L r m hR19  (by omega) (by omega) (by omega)) (fun z15 h9 hq16 => ?_)
              obtain ⟨rfl, x17, rfl, px17⟩ := hq16
              show f_wp _ (33, [some (.inr (.inr (some L))), some (.inl r), some (.inl m)], [.inl x17], cH a19 b v) _
              refine w_if_eq rfl (fun c18 => ?_) (fun c18 => ?_)
              · skip
                refine w_iinc (lo' := fun z9 => [some (.inr (.inr (some L))), some (.inl r), some (.inl z9)]) rfl rfl (fun _ => rfl) (by omega) (fun x19 tx19 => ?_)
                refine w_goto rfl ?_
                exact ih19 (6 - x19.toInt).toNat (by omega) x19 a19 rfl hR19 (hF19) (by omega)
              · skip
                refine w_aload rfl rfl ?_
                refine c_getR (t := some (L + 10)) rfl (sh_land (by omega)) rfl rfl (rC_land5 (by omega)) ?_
                refine w_iload rfl rfl ?_
                refine w_dup2 rfl ⟨rfl, rfl⟩ ?_
                refine c_iald rfl (sh_fits (by omega)) (by omega) (fun x20 ex20 => ?_)
                refine w_const rfl ?_
                refine w_iload rfl rfl ?_
                refine w_iiE rfl (fun x21 tx21 => ?_)
                refine w_iiE rfl (fun x22 tx22 => ?_)
                refine c_iast rfl (sh_fits (by omega)) (by omega) (fun a23 ea23 => ?_)
                have ha23 : RC K a23 := RC.up hR19 ea23 (lc_any _ (by omega))
                have ra23_94 : (a23 L 7).toInt = (a19 L 7).toInt := by rw [ea23, mU_cell (by omega)]
                refine w_iinc (lo' := fun z9 => [some (.inr (.inr (some L))), some (.inl r), some (.inl z9)]) rfl rfl (fun _ => rfl) (by omega) (fun x24 tx24 => ?_)
                refine w_goto rfl ?_
                exact ih19 (6 - x24.toInt).toNat (by omega) x24 a23 rfl ha23 (FR.up (hF19) (by first | decide | simp | (simp [cA]; omega) | (simp [cB]; omega)) ea23) (by omega)
        exact loop19 _ 0 a11 rfl ha11 (FR.up (hF2) (by first | decide | simp | (simp [cA]; omega) | (simp [cB]; omega)) ea11) (by omega)
  exact loop2 _ 0 a none rfl hR (FR.rf) (by omega)
set_option maxRecDepth 4000 in
theorem s_X2_value {K : Nat} (a : Nat → Nat → Int32) (b : Nat → Nat → Int64) (v : Nat → Option Nat) (F : Nat) (p : Int32) (q : Int32) (r : Int32) (s : Int32) (hR : RC K a) (hF : F = 26 ∨ F = 29 ∨ F = 50 ∨ F = 53) : f_call mtC 3 8 [.inr (.inr (some F)), .inl p, .inl q, .inl r, .inl s] (cH a b v) (fun v9 h' => ∃ (a' : Nat → Nat → Int32), h' = cH a' b v ∧ RC K a' ∧ (FR [F + 2] a a' ∧ True) ∧ ∃ x : Int32, v9 = some (.inl x) ∧ True) := by
  refine f_call_of (d0 := 2) rfl (Nat.le_of_ble_eq_true rfl) (fun d hd => ?_)
  show f_wp _ (0, [some (.inr (.inr (some F))), some (.inl p), some (.inl q), some (.inl r), some (.inl s), none, none, none], [], cH a b v) _
  have lm5 : (-5 : Int32).toInt = -5 := rfl
  have lm4 : (-4 : Int32).toInt = -4 := rfl
  have lm1 : (-1 : Int32).toInt = -1 := rfl
  have l0 : (0 : Int32).toInt = 0 := rfl
  have l1 : (1 : Int32).toInt = 1 := rfl
  have l2 : (2 : Int32).toInt = 2 := rfl
  have l32 : (32 : Int32).toInt = 32 := rfl
  refine w_const rfl ?_
  refine w_istore (lo' := [some (.inr (.inr (some F))), some (.inl p), some (.inl q), some (.inl r), some (.inl s), some (.inl 0), none, none]) rfl rfl ?_
  refine w_const rfl ?_
  refine w_istore (lo' := [some (.inr (.inr (some F))), some (.inl p), some (.inl q), some (.inl r), some (.inl s), some (.inl 0), some (.inl 0), none]) rfl rfl ?_
  have loop6 : ∀ (ms9 : Nat) (t : Int32) (k : Int32) (a6 : Nat → Nat → Int32) (o7_6 : Option f_V), (1000 - k.toInt).toNat = ms9 → RC K a6 → FR [F + 2] a a6 → (0 ≤ t.toInt ∧ t.toInt ≤ 32) → (0 ≤ k.toInt ∧ k.toInt ≤ 1000) → f_wp (f_code (t_X2_value (f_ev mtC d))) (6, [some (.inr (.inr (some F))), some (.inl p), some (.inl q), some (.inl r), some (.inl s), some (.inl t), some (.inl k), o7_6], [], cH a6 b v) (fun v9 h' => ∃ (a' : Nat → Nat → Int32), h' = cH a' b v ∧ RC K a' ∧ (FR [F + 2] a a' ∧ True) ∧ ∃ x : Int32, v9 = some (.inl x) ∧ True) := by
    intro ms9
    induction ms9 using Nat.strongRecOn with
    | _ ms6 ih6 =>
      intro t k a6 o7_6 hm6 hR6 hF6 ht hk
      refine w_iload rfl rfl ?_
      refine w_aload rfl rfl ?_
      refine c_getI rfl (sh_form (by omega)) rfl rfl ?_
      have q1 : 0 ≤ (a6 F 2).toInt ∧ (a6 F 2).toInt ≤ 1000 := RC.len hR6 (by omega)
      refine w_ic_ge rfl (fun c2 => ?_) (fun c2 => ?_)
      · skip
        refine w_iload rfl rfl ?_
        refine w_if_le rfl (fun c3 => ?_) (fun c3 => ?_)
        · skip
          refine w_const rfl ?_
          exact wp_iret (z := false) rfl (fun h9 => by cases h9) ⟨a6, rfl, hR6, ⟨hF6, trivial⟩, ⟨_, rfl, trivial⟩⟩
        · skip
          refine w_aload rfl rfl ?_
          refine c_getR (t := some (F + 2)) rfl (sh_form (by omega)) rfl rfl (rC_form1 (by omega)) ?_
          refine w_iload rfl rfl ?_
          refine w_const rfl ?_
          first | refine w_isub rfl (by omega) (fun x4 tx4 => ?_) | refine w_iiU rfl (fun x4 tx4 => ?_)
          refine c_iald rfl (sh_stack (by omega)) (by omega) (fun x5 ex5 => ?_)
          refine w_goto rfl ?_
          exact wp_iret (z := false) rfl (fun h9 => by cases h9) ⟨a6, rfl, hR6, ⟨hF6, trivial⟩, ⟨_, rfl, trivial⟩⟩
      · skip
        refine w_aload rfl rfl ?_
        refine c_getR (t := some (F + 1)) rfl (sh_form (by omega)) rfl rfl (rC_form0 (by omega)) ?_
        refine w_iload rfl rfl ?_
        refine c_iald rfl (sh_steps (by omega)) (by omega) (fun x6 ex6 => ?_)
        refine w_istore (lo' := [some (.inr (.inr (some F))), some (.inl p), some (.inl q), some (.inl r), some (.inl s), some (.inl t), some (.inl k), some (.inl x6)]) rfl rfl ?_
        have loop151 : ∀ (ms9 : Nat) (t1 : Int32) (a151 : Nat → Nat → Int32) , ((0 : Int)).toNat = ms9 → RC K a151 → FR [F + 2] a a151 → (0 ≤ t1.toInt ∧ t1.toInt ≤ 32) → f_wp (f_code (t_X2_value (f_ev mtC d))) (151, [some (.inr (.inr (some F))), some (.inl p), some (.inl q), some (.inl r), some (.inl s), some (.inl t1), some (.inl k), some (.inl x6)], [], cH a151 b v) (fun v9 h' => ∃ (a' : Nat → Nat → Int32), h' = cH a' b v ∧ RC K a' ∧ (FR [F + 2] a a' ∧ True) ∧ ∃ x : Int32, v9 = some (.inl x) ∧ True) := by
          intro ms9
          induction ms9 using Nat.strongRecOn with
          | _ ms151 ih151 =>
            intro t1 a151  hm151 hR151 hF151 ht1
            refine w_iinc (lo' := fun z9 => [some (.inr (.inr (some F))), some (.inl p), some (.inl q), some (.inl r), some (.inl s), some (.inl t1), some (.inl z9), some (.inl x6)]) rfl rfl (fun _ => rfl) (by omega) (fun x7 tx7 => ?_)
            refine w_goto rfl ?_
            exact ih6 (1000 - x7.toInt).toNat (by omega) t1 x7 a151 (some (.inl x6)) rfl hR151 (hF151) (by omega) (by omega)
        refine w_iload rfl rfl ?_
        refine w_const rfl ?_
        refine w_ic_lt rfl (fun c8 => ?_) (fun c8 => ?_)
        · skip
          refine w_iload rfl rfl ?_
          refine w_const rfl ?_
          refine w_ic_ne rfl (fun c9 => ?_) (fun c9 => ?_)
          · skip
            refine w_iload rfl rfl ?_
            refine w_const rfl ?_
            refine w_ic_ge rfl (fun c10 => ?_) (fun c10 => ?_)
            · skip
              refine w_aload rfl rfl ?_
              refine c_getR (t := some (F + 2)) rfl (sh_form (by omega)) rfl rfl (rC_form1 (by omega)) ?_
              refine w_iload rfl rfl ?_
              refine w_const rfl ?_
              first | refine w_isub rfl (by omega) (fun x11 tx11 => ?_) | refine w_iiU rfl (fun x11 tx11 => ?_)
              refine w_aload rfl rfl ?_
              refine c_getR (t := some (F + 2)) rfl (sh_form (by omega)) rfl rfl (rC_form1 (by omega)) ?_
              refine w_iload rfl rfl ?_
              refine w_const rfl ?_
              first | refine w_isub rfl (by omega) (fun x12 tx12 => ?_) | refine w_iiU rfl (fun x12 tx12 => ?_)
              refine c_iald rfl (sh_stack (by omega)) (by omega) (fun x13 ex13 => ?_)
              refine w_if_ne rfl (fun c14 => ?_) (fun c14 => ?_)
              · skip
                refine w_const rfl ?_
                refine w_goto rfl ?_
                refine w_invS (rest := [.inl x11, .inr (.inr (some (F + 2)))]) rfl (Nat.le_of_ble_eq_true rfl) rfl (Nat.le_of_ble_eq_true rfl) rfl (by omega) (s_X2_bit (K := K) a6 b v  1   ) (fun z15 h9 hq16 => ?_)
                obtain ⟨rfl, x17, rfl, px17⟩ := hq16
                show f_wp _ (106, [some (.inr (.inr (some F))), some (.inl p), some (.inl q), some (.inl r), some (.inl s), some (.inl t), some (.inl k), some (.inl x6)], [.inl x17, .inl x11, .inr (.inr (some (F + 2)))], cH a6 b v) _
                refine c_iast rfl (sh_stack (by omega)) (by omega) (fun a18 ea18 => ?_)
                have ha18 : RC K a18 := RC.up hR6 ea18 (lc_any _ (by omega))
                have ra18_86 : (a18 F 2).toInt = (a6 F 2).toInt := by rw [ea18, mU_cell (by omega)]
                refine w_goto rfl ?_
                exact loop151 _ t a18 rfl ha18 (FR.up (hF6) (by first | decide | simp | (simp [cA]; omega) | (simp [cB]; omega)) ea18) (by omega)
              · skip
                refine w_const rfl ?_
                refine w_invS (rest := [.inl x11, .inr (.inr (some (F + 2)))]) rfl (Nat.le_of_ble_eq_true rfl) rfl (Nat.le_of_ble_eq_true rfl) rfl (by omega) (s_X2_bit (K := K) a6 b v  0   ) (fun z19 h9 hq20 => ?_)
                obtain ⟨rfl, x21, rfl, px21⟩ := hq20
                show f_wp _ (106, [some (.inr (.inr (some F))), some (.inl p), some (.inl q), some (.inl r), some (.inl s), some (.inl t), some (.inl k), some (.inl x6)], [.inl x21, .inl x11, .inr (.inr (some (F + 2)))], cH a6 b v) _
                refine c_iast rfl (sh_stack (by omega)) (by omega) (fun a22 ea22 => ?_)
                have ha22 : RC K a22 := RC.up hR6 ea22 (lc_any _ (by omega))
                have ra22_96 : (a22 F 2).toInt = (a6 F 2).toInt := by rw [ea22, mU_cell (by omega)]
                refine w_goto rfl ?_
                exact loop151 _ t a22 rfl ha22 (FR.up (hF6) (by first | decide | simp | (simp [cA]; omega) | (simp [cB]; omega)) ea22) (by omega)
            · skip
              refine w_const rfl ?_
              exact wp_iret (z := false) rfl (fun h9 => by cases h9) ⟨a6, rfl, hR6, ⟨hF6, trivial⟩, ⟨_, rfl, trivial⟩⟩
          · skip
            refine w_iload rfl rfl ?_
            refine w_const rfl ?_
            refine w_ic_ge rfl (fun c23 => ?_) (fun c23 => ?_)
            · skip
              refine w_iinc (lo' := fun z9 => [some (.inr (.inr (some F))), some (.inl p), some (.inl q), some (.inl r), some (.inl s), some (.inl z9), some (.inl k), some (.inl x6)]) rfl rfl (fun _ => rfl) (by omega) (fun x24 tx24 => ?_)
              refine w_aload rfl rfl ?_
              refine c_getR (t := some (F + 2)) rfl (sh_form (by omega)) rfl rfl (rC_form1 (by omega)) ?_
              refine w_iload rfl rfl ?_
              refine w_const rfl ?_
              first | refine w_isub rfl (by omega) (fun x25 tx25 => ?_) | refine w_iiU rfl (fun x25 tx25 => ?_)
              refine w_iload rfl rfl ?_
              refine w_aload rfl rfl ?_
              refine c_getR (t := some (F + 2)) rfl (sh_form (by omega)) rfl rfl (rC_form1 (by omega)) ?_
              refine w_iload rfl rfl ?_
              refine w_const rfl ?_
              first | refine w_isub rfl (by omega) (fun x26 tx26 => ?_) | refine w_iiU rfl (fun x26 tx26 => ?_)
              refine c_iald rfl (sh_stack (by omega)) (by omega) (fun x27 ex27 => ?_)
              refine w_aload rfl rfl ?_
              refine c_getR (t := some (F + 2)) rfl (sh_form (by omega)) rfl rfl (rC_form1 (by omega)) ?_
              refine w_iload rfl rfl ?_
              refine c_iald rfl (sh_stack (by omega)) (by omega) (fun x28 ex28 => ?_)
              refine w_invS (rest := [.inl x25, .inr (.inr (some (F + 2)))]) rfl (Nat.le_of_ble_eq_true rfl) rfl (Nat.le_of_ble_eq_true rfl) rfl (by omega) (s_X2_joined (K := K) a6 b v  x6 x27 x28   ) (fun z29 h9 hq30 => ?_)
              obtain ⟨rfl, x31, rfl, px31⟩ := hq30
              show f_wp _ (150, [some (.inr (.inr (some F))), some (.inl p), some (.inl q), some (.inl r), some (.inl s), some (.inl x24), some (.inl k), some (.inl x6)], [.inl x31, .inl x25, .inr (.inr (some (F + 2)))], cH a6 b v) _
              refine c_iast rfl (sh_stack (by omega)) (by omega) (fun a32 ea32 => ?_)
              have ha32 : RC K a32 := RC.up hR6 ea32 (lc_any _ (by omega))
              have ra32_129 : (a32 F 2).toInt = (a6 F 2).toInt := by rw [ea32, mU_cell (by omega)]
              exact loop151 _ x24 a32 rfl ha32 (FR.up (hF6) (by first | decide | simp | (simp [cA]; omega) | (simp [cB]; omega)) ea32) (by omega)
            · skip
              refine w_const rfl ?_
              exact wp_iret (z := false) rfl (fun h9 => by cases h9) ⟨a6, rfl, hR6, ⟨hF6, trivial⟩, ⟨_, rfl, trivial⟩⟩
        · skip
          refine w_iload rfl rfl ?_
          refine w_const rfl ?_
          refine w_ic_lt rfl (fun c33 => ?_) (fun c33 => ?_)
          · skip
            refine w_aload rfl rfl ?_
            refine c_getR (t := some (F + 2)) rfl (sh_form (by omega)) rfl rfl (rC_form1 (by omega)) ?_
            refine w_iload rfl rfl ?_
            refine w_iload rfl rfl ?_
            refine w_iload rfl rfl ?_
            refine w_iload rfl rfl ?_
            refine w_iload rfl rfl ?_
            refine w_iload rfl rfl ?_
            refine w_invS (rest := [.inl t, .inr (.inr (some (F + 2)))]) rfl (Nat.le_of_ble_eq_true rfl) rfl (Nat.le_of_ble_eq_true rfl) rfl (by omega) (s_X2_fact (K := K) a6 b v  x6 p q r s   ) (fun z34 h9 hq35 => ?_)
            obtain ⟨rfl, x36, rfl, px36⟩ := hq35
            show f_wp _ (56, [some (.inr (.inr (some F))), some (.inl p), some (.inl q), some (.inl r), some (.inl s), some (.inl t), some (.inl k), some (.inl x6)], [.inl x36, .inl t, .inr (.inr (some (F + 2)))], cH a6 b v) _
            refine c_iast rfl (sh_stack (by omega)) (by omega) (fun a37 ea37 => ?_)
            have ha37 : RC K a37 := RC.up hR6 ea37 (lc_any _ (by omega))
            have ra37_152 : (a37 F 2).toInt = (a6 F 2).toInt := by rw [ea37, mU_cell (by omega)]
            refine w_iinc (lo' := fun z9 => [some (.inr (.inr (some F))), some (.inl p), some (.inl q), some (.inl r), some (.inl s), some (.inl z9), some (.inl k), some (.inl x6)]) rfl rfl (fun _ => rfl) (by omega) (fun x38 tx38 => ?_)
            refine w_goto rfl ?_
            exact loop151 _ x38 a37 rfl ha37 (FR.up (hF6) (by first | decide | simp | (simp [cA]; omega) | (simp [cB]; omega)) ea37) (by omega)
          · skip
            refine w_const rfl ?_
            exact wp_iret (z := false) rfl (fun h9 => by cases h9) ⟨a6, rfl, hR6, ⟨hF6, trivial⟩, ⟨_, rfl, trivial⟩⟩
  exact loop6 _ 0 0 a none rfl hR (FR.rf) (by omega) (by omega)
set_option maxRecDepth 4000 in
theorem s_X2_held {K : Nat} (a : Nat → Nat → Int32) (b : Nat → Nat → Int64) (v : Nat → Option Nat) (F : Nat) (p : Int32) (q : Int32) (r : Int32) (s : Int32) (hR : RC K a) (hF : F = 26 ∨ F = 29 ∨ F = 50 ∨ F = 53) : f_call mtC 4 7 [.inr (.inr (some F)), .inl p, .inl q, .inl r, .inl s] (cH a b v) (fun v9 h' => ∃ (a' : Nat → Nat → Int32), h' = cH a' b v ∧ RC K a' ∧ (FR [F + 2] a a' ∧ True) ∧ ∃ x : Int32, v9 = some (.inl x) ∧ True) := by
  refine f_call_of (d0 := 3) rfl (Nat.le_of_ble_eq_true rfl) (fun d hd => ?_)
  show f_wp _ (0, [some (.inr (.inr (some F))), some (.inl p), some (.inl q), some (.inl r), some (.inl s), none], [], cH a b v) _
  have l0 : (0 : Int32).toInt = 0 := rfl
  have l99 : (99 : Int32).toInt = 99 := rfl
  refine w_aload rfl rfl ?_
  refine w_iload rfl rfl ?_
  refine w_iload rfl rfl ?_
  refine w_iload rfl rfl ?_
  refine w_iload rfl rfl ?_
  refine w_invV (rest := []) rfl rfl (sh_form (by omega)) rfl rfl (Nat.le_of_ble_eq_true rfl) rfl (by omega) (s_X2_value (K := K) a b v  F p q r s hR  (by omega)) (fun z1 h9 hq2 => ?_)
  obtain ⟨a3, rfl, ha3, fa3, x4, rfl, px4⟩ := hq2
  show f_wp _ (9, [some (.inr (.inr (some F))), some (.inl p), some (.inl q), some (.inl r), some (.inl s), none], [.inl x4], cH a3 b v) _
  refine w_istore (lo' := [some (.inr (.inr (some F))), some (.inl p), some (.inl q), some (.inl r), some (.inl s), some (.inl x4)]) rfl rfl ?_
  refine w_const rfl ?_
  refine w_const rfl ?_
  refine w_iload rfl rfl ?_
  refine c_mmin rfl (Nat.le_of_ble_eq_true rfl) (fun x5 tx5 => ?_)
  refine c_mmax rfl (Nat.le_of_ble_eq_true rfl) (fun x6 tx6 => ?_)
  exact wp_iret (z := false) rfl (fun h9 => by cases h9) ⟨a3, rfl, ha3, ⟨FR.tr (FR.rf) (FR.sub fa3.1 (by first | exact (fun _ h9 => h9) | decide | (intro c9 h9; simp only [List.mem_cons, List.not_mem_nil, or_false] at h9 ⊢; omega) | (intro c9 h9; simp at h9; simp [cA]; omega) | (intro c9 h9; simp at h9; simp [cB]; omega) | (intro c9 h9; simp [cA] at h9; simp [cB]; omega))), trivial⟩, ⟨_, rfl, trivial⟩⟩
