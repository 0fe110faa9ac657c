theorem lc_ge {K c j : Nat} : -2147483648 ≤ lcC c j ∧ hcC K c j ≤ 2147483647 := by
  unfold lcC hcC
  constructor <;> (repeat' split) <;> omega
theorem RC.cps {K x y N : Nat} {a a1 : Nat → Nat → Int32} (h : RC K a) (n : ∀ c, c ≠ y → a1 c = a c) (m : ∀ j, j < N → a1 y j = a x j) (o : ∀ j, ¬ j < N → a1 y j = a y j) (hx : 70 ≤ x ∧ 70 ≤ y ∧ x % 8 = y % 8) : RC K a1 := h.cp n m o (fun j => by
  unfold lcC hcC
  rw [if_pos hx.1, if_pos hx.2.1, if_pos hx.1, if_pos hx.2.1, hx.2.2]
  exact ⟨Int.le_refl _, Int.le_refl _⟩)
theorem RC.cpa {K x y N : Nat} {a a1 : Nat → Nat → Int32} (h : RC K a) (n : ∀ c, c ≠ y → a1 c = a c) (m : ∀ j, j < N → a1 y j = a x j) (o : ∀ j, ¬ j < N → a1 y j = a y j) (hy : ∀ j, lcC y j = -2147483648 ∧ hcC K y j = 2147483647) : RC K a1 := h.cp n m o (fun j => by
  have g := lc_ge (K := K) (c := x) (j := j)
  rw [(hy j).1, (hy j).2]
  exact g)
set_option maxRecDepth 4000 in
theorem s_X5_clear {K : Nat} (a : Nat → Nat → Int32) (b : Nat → Nat → Int64) (v : Nat → Option Nat) (L : Nat) (hR : RC K a) (hL : L = 22 ∨ L = 46) : f_call mtC 1 29 [.inr (.inr (some 9)), .inr (.inr (some L))] (cH a b v) (fun v9 h' => ∃ (a' : Nat → Nat → Int32) (v' : Nat → Option Nat), h' = cH a' b v' ∧ RC K a' ∧ (FR [10, 11] a a' ∧ ((∀ i, i ∉ [5] → v' i = v i) ∧ v' 5 = some L) ∧ True) ∧ v9 = none) := by
  refine f_call_of (d0 := 0) rfl (Nat.le_of_ble_eq_true rfl) (fun d hd => ?_)
  show f_wp _ (0, [some (.inr (.inr (some 9))), some (.inr (.inr (some L))), none], [], cH a b v) _
  have lm1 : (-1 : Int32).toInt = -1 := rfl
  have l0 : (0 : Int32).toInt = 0 := rfl
  have l1 : (1 : Int32).toInt = 1 := rfl
  have l6 : (6 : Int32).toInt = 6 := rfl
  refine w_aload rfl rfl ?_
  refine w_aload rfl rfl ?_
  refine c_putR rfl rfl rfl rfl rC_put5 (fun v1 ev1 => ?_)
  refine w_const rfl ?_
  refine w_istore (lo' := [some (.inr (.inr (some 9))), some (.inr (.inr (some L))), some (.inl 0)]) rfl rfl ?_
  have loop7 : ∀ (ms9 : Nat) (r : Int32) (a7 : Nat → Nat → Int32) , (6 - r.toInt).toNat = ms9 → RC K a7 → FR [10, 11] a a7 → (0 ≤ r.toInt ∧ r.toInt ≤ 6) → f_wp (f_code (t_X5_clear (f_ev mtC d))) (7, [some (.inr (.inr (some 9))), some (.inr (.inr (some L))), some (.inl r)], [], cH a7 b v1) (fun v9 h' => ∃ (a' : Nat → Nat → Int32) (v' : Nat → Option Nat), h' = cH a' b v' ∧ RC K a' ∧ (FR [10, 11] a a' ∧ ((∀ i, i ∉ [5] → v' i = v i) ∧ v' 5 = some L) ∧ True) ∧ v9 = none) := by
    intro ms9
    induction ms9 using Nat.strongRecOn with
    | _ ms7 ih7 =>
      intro r a7  hm7 hR7 hF7 hr
      refine w_iload rfl rfl ?_
      refine w_const rfl ?_
      refine w_ic_ge rfl (fun c2 => ?_) (fun c2 => ?_)
      · skip
        exact w_ret rfl ⟨a7, v1, rfl, hR7, ⟨hF7, ⟨fun i9 h9 => (show v1 i9 = v i9 from by rw [ev1]; exact vU_ne (fun z9 => h9 (by rw [z9]; decide))).trans ((show ∀ i9, i9 ∉ [5] → v i9 = v i9 from (fun _ _ => rfl)) i9 h9), (show v1 5 = some L from by rw [ev1]; exact vU_same)⟩, trivial⟩, rfl⟩
      · skip
        refine w_aload rfl rfl ?_
        refine c_getR (t := some 10) rfl rfl rfl rfl rfl ?_
        refine w_iload rfl rfl ?_
        refine w_const rfl ?_
        refine c_iast rfl rfl (by omega) (fun a3 ea3 => ?_)
        have ha3 : RC K a3 := RC.up hR7 ea3 (lc_any _ (by omega))
        refine w_aload rfl rfl ?_
        refine c_getR (t := some 11) rfl rfl rfl rfl rfl ?_
        refine w_iload rfl rfl ?_
        refine w_const rfl ?_
        refine w_iload rfl rfl ?_
        refine w_iiE rfl (fun x4 tx4 => ?_)
        have ux4 := sh1 (by omega) tx4
        refine c_iast rfl rfl (by omega) (fun a5 ea5 => ?_)
        have ha5 : RC K a5 := RC.up ha3 ea5 (show (0 : Int) ≤ _ ∧ _ ≤ (63 : Int) from by omega)
        refine w_iinc (lo' := fun z9 => [some (.inr (.inr (some 9))), some (.inr (.inr (some L))), some (.inl z9)]) rfl rfl (fun _ => rfl) (by omega) (fun x6 tx6 => ?_)
        refine w_goto rfl ?_
        exact ih7 (6 - x6.toInt).toNat (by omega) x6 a5 rfl ha5 (FR.up (FR.up (hF7) (by first | decide | simp | (simp [cA]; omega) | (simp [cB]; omega)) ea3) (by first | decide | simp | (simp [cA]; omega) | (simp [cB]; omega)) ea5) (by omega)
  exact loop7 _ 0 a rfl hR (FR.rf) (by omega)
set_option maxRecDepth 4000 in
theorem s_X5_knows {K : Nat} (a : Nat → Nat → Int32) (b : Nat → Nat → Int64) (v : Nat → Option Nat) (L : Nat) (i : Int32) (hR : RC K a) (hn : v 5 = some L) (hL : L = 22 ∨ L = 46) : f_call mtC 1 31 [.inr (.inr (some 9)), .inl i] (cH a b v) (fun v9 h' => h' = cH a b v ∧ ∃ x : Int32, v9 = some (.inl x) ∧ ((x.toInt = 1 ∧ (0 ≤ i.toInt ∧ i.toInt < (a L 7).toInt ∧ (a L 7).toInt ≤ 6)) ∨ (x.toInt = 0 ∧ ¬ (0 ≤ i.toInt ∧ i.toInt < (a L 7).toInt ∧ (a L 7).toInt ≤ 6)))) := by
  refine f_call_of (d0 := 0) rfl (Nat.le_of_ble_eq_true rfl) (fun d hd => ?_)
  show f_wp _ (0, [some (.inr (.inr (some 9))), some (.inl i)], [], cH a b v) _
  have l0 : (0 : Int32).toInt = 0 := rfl
  have l1 : (1 : Int32).toInt = 1 := rfl
  refine w_iload rfl rfl ?_
  refine w_if_lt rfl (fun c1 => ?_) (fun c1 => ?_)
  · skip
    refine w_const rfl ?_
    exact wp_iret (z := true) rfl (fun _ => by first | exact Or.inl rfl | exact Or.inr rfl | (rcases (by omega : (0 : Int32).toInt = 0 ∨ (0 : Int32).toInt = 1) with h8 | h8; exact Or.inl (ti_eq h8); exact Or.inr (ti_eq h8))) ⟨rfl, ⟨_, rfl, by omega⟩⟩
  · skip
    refine w_iload rfl rfl ?_
    refine w_aload rfl rfl ?_
    refine c_getR (t := some L) rfl rfl rfl rfl hn ?_
    refine c_getI rfl (sh_land (by omega)) rfl rfl ?_
    have q2 : 0 ≤ (a L 7).toInt ∧ (a L 7).toInt ≤ 6 := RC.riv hR (by omega)
    refine w_ic_ge rfl (fun c3 => ?_) (fun c3 => ?_)
    · skip
      refine w_const rfl ?_
      exact wp_iret (z := true) rfl (fun _ => by first | exact Or.inl rfl | exact Or.inr rfl | (rcases (by omega : (0 : Int32).toInt = 0 ∨ (0 : Int32).toInt = 1) with h8 | h8; exact Or.inl (ti_eq h8); exact Or.inr (ti_eq h8))) ⟨rfl, ⟨_, rfl, by omega⟩⟩
    · skip
      refine w_const rfl ?_
      refine w_goto rfl ?_
      exact wp_iret (z := true) rfl (fun _ => by first | exact Or.inl rfl | exact Or.inr rfl | (rcases (by omega : (1 : Int32).toInt = 0 ∨ (1 : Int32).toInt = 1) with h8 | h8; exact Or.inl (ti_eq h8); exact Or.inr (ti_eq h8))) ⟨rfl, ⟨_, rfl, by omega⟩⟩
set_option maxRecDepth 4000 in
theorem s_X5_allows {K : Nat} (a : Nat → Nat → Int32) (b : Nat → Nat → Int64) (v : Nat → Option Nat) (L : Nat) (i : Int32) (j : Int32) (hR : RC K a) (hn : v 5 = some L) (hL : L = 22 ∨ L = 46) : f_call mtC 2 32 [.inr (.inr (some 9)), .inl i, .inl j] (cH a b v) (fun v9 h' => h' = cH a b v ∧ ∃ x : Int32, v9 = some (.inl x) ∧ ((x.toInt = 1 ∧ 0 ≤ i.toInt ∧ i.toInt ≤ 5 ∧ 0 ≤ j.toInt ∧ j.toInt ≤ 5) ∨ x.toInt = 0)) := by
  refine f_call_of (d0 := 1) rfl (Nat.le_of_ble_eq_true rfl) (fun d hd => ?_)
  show f_wp _ (0, [some (.inr (.inr (some 9))), some (.inl i), some (.inl j), none, none, none], [], cH a b v) _
  have lm1 : (-1 : Int32).toInt = -1 := rfl
  have l0 : (0 : Int32).toInt = 0 := rfl
  have l1 : (1 : Int32).toInt = 1 := rfl
  refine w_aload rfl rfl ?_
  refine w_iload rfl rfl ?_
  refine w_invV (rest := []) rfl rfl rfl rfl rfl (Nat.le_of_ble_eq_true rfl) rfl (by omega) (s_X5_knows (K := K) a b v L i hR  (hn) (by omega)) (fun z1 h9 hq2 => ?_)
  obtain ⟨rfl, x3, rfl, px3⟩ := hq2
  show f_wp _ (5, [some (.inr (.inr (some 9))), some (.inl i), some (.inl j), none, none, none], [.inl x3], cH a b v) _
  refine w_if_eq rfl (fun c4 => ?_) (fun c4 => ?_)
  · skip
    refine w_const rfl ?_
    exact wp_iret (z := true) rfl (fun _ => by first | exact Or.inl rfl | exact Or.inr rfl | (rcases (by omega : (0 : Int32).toInt = 0 ∨ (0 : Int32).toInt = 1) with h8 | h8; exact Or.inl (ti_eq h8); exact Or.inr (ti_eq h8))) ⟨rfl, ⟨_, rfl, by omega⟩⟩
  · skip
    refine w_aload rfl rfl ?_
    refine w_iload rfl rfl ?_
    refine w_invV (rest := []) rfl rfl rfl rfl rfl (Nat.le_of_ble_eq_true rfl) rfl (by omega) (s_X5_knows (K := K) a b v L j hR  (hn) (by omega)) (fun z5 h9 hq6 => ?_)
    obtain ⟨rfl, x7, rfl, px7⟩ := hq6
    show f_wp _ (13, [some (.inr (.inr (some 9))), some (.inl i), some (.inl j), none, none, none], [.inl x7], cH a b v) _
    refine w_if_eq rfl (fun c8 => ?_) (fun c8 => ?_)
    · skip
      refine w_const rfl ?_
      exact wp_iret (z := true) rfl (fun _ => by first | exact Or.inl rfl | exact Or.inr rfl | (rcases (by omega : (0 : Int32).toInt = 0 ∨ (0 : Int32).toInt = 1) with h8 | h8; exact Or.inl (ti_eq h8); exact Or.inr (ti_eq h8))) ⟨rfl, ⟨_, rfl, by omega⟩⟩
    · skip
      refine w_aload rfl rfl ?_
      refine c_getR (t := some 10) rfl rfl rfl rfl rfl ?_
      refine w_iload rfl rfl ?_
      refine c_iald rfl rfl (by omega) (fun x9 ex9 => ?_)
      refine w_const rfl ?_
      refine w_ic_eq rfl (fun c10 => ?_) (fun c10 => ?_)
      · skip
        refine w_aload rfl rfl ?_
        refine c_getR (t := some L) rfl rfl rfl rfl hn ?_
        refine c_getR (t := some (L + 10)) rfl (sh_land (by omega)) rfl rfl (rC_land5 (by omega)) ?_
        refine w_iload rfl rfl ?_
        refine c_iald rfl (sh_fits (by omega)) (by omega) (fun x11 ex11 => ?_)
        refine w_iload rfl rfl ?_
        refine w_iiE rfl (fun x12 tx12 => ?_)
        refine w_const rfl ?_
        refine w_iiE rfl (fun x13 tx13 => ?_)
        refine w_if_eq rfl (fun c14 => ?_) (fun c14 => ?_)
        · skip
          refine w_const rfl ?_
          refine w_istore (lo' := [some (.inr (.inr (some 9))), some (.inl i), some (.inl j), some (.inl 0), none, none]) rfl rfl ?_
          refine w_aload rfl rfl ?_
          refine c_getR (t := some 11) rfl rfl rfl rfl rfl ?_
          refine w_iload rfl rfl ?_
          refine c_iald rfl rfl (by omega) (fun x15 ex15 => ?_)
          have qx15 : 0 ≤ x15.toInt ∧ x15.toInt ≤ 63 := by rw [ex15]; exact RC.who hR _
          refine w_iload rfl rfl ?_
          refine w_iiE rfl (fun x16 tx16 => ?_)
          refine w_const rfl ?_
          refine w_iiE rfl (fun x17 tx17 => ?_)
          refine w_if_eq rfl (fun c18 => ?_) (fun c18 => ?_)
          · skip
            refine w_const rfl ?_
            refine w_istore (lo' := [some (.inr (.inr (some 9))), some (.inl i), some (.inl j), some (.inl 0), some (.inl 0), none]) rfl rfl ?_
            refine w_aload rfl rfl ?_
            refine c_getR (t := some L) rfl rfl rfl rfl hn ?_
            refine c_getR (t := some (L + 1)) rfl (sh_land (by omega)) rfl rfl (rC_land0 (by omega)) ?_
            refine w_iload rfl rfl ?_
            refine c_aald5 (t := some ((L + 1) + 11 + 2 * j.toInt.toNat)) rfl (sh_row (by omega)) (by omega) (rC_row (by omega)) ?_
            refine c_getI rfl (sh_riv (by omega)) rfl rfl ?_
            refine w_const rfl ?_
            refine w_ic_ne rfl (fun c19 => ?_) (fun c19 => ?_)
            · skip
              refine w_aload rfl rfl ?_
              refine c_getR (t := some 11) rfl rfl rfl rfl rfl ?_
              refine w_iload rfl rfl ?_
              refine c_iald rfl rfl (by omega) (fun x20 ex20 => ?_)
              have qx20 : 0 ≤ x20.toInt ∧ x20.toInt ≤ 63 := by rw [ex20]; exact RC.who hR _
              refine w_const rfl ?_
              refine w_iload rfl rfl ?_
              refine w_iiE rfl (fun x21 tx21 => ?_)
              refine w_ic_eq rfl (fun c22 => ?_) (fun c22 => ?_)
              · skip
                refine w_const rfl ?_
                refine w_istore (lo' := [some (.inr (.inr (some 9))), some (.inl i), some (.inl j), some (.inl 0), some (.inl 0), some (.inl 0)]) rfl rfl ?_
                refine w_iload rfl rfl ?_
                refine w_if_eq rfl (fun c23 => ?_) (fun c23 => ?_)
                · skip
                  refine w_const rfl ?_
                  exact wp_iret (z := true) rfl (fun _ => by first | exact Or.inl rfl | exact Or.inr rfl | (rcases (by omega : (0 : Int32).toInt = 0 ∨ (0 : Int32).toInt = 1) with h8 | h8; exact Or.inl (ti_eq h8); exact Or.inr (ti_eq h8))) ⟨rfl, ⟨_, rfl, by omega⟩⟩
                · exfalso; omega
              · skip
                refine w_const rfl ?_
                refine w_goto rfl ?_
                refine w_istore (lo' := [some (.inr (.inr (some 9))), some (.inl i), some (.inl j), some (.inl 0), some (.inl 0), some (.inl 1)]) rfl rfl ?_
                refine w_iload rfl rfl ?_
                refine w_if_eq rfl (fun c24 => ?_) (fun c24 => ?_)
                · skip
                  refine w_const rfl ?_
                  exact wp_iret (z := true) rfl (fun _ => by first | exact Or.inl rfl | exact Or.inr rfl | (rcases (by omega : (0 : Int32).toInt = 0 ∨ (0 : Int32).toInt = 1) with h8 | h8; exact Or.inl (ti_eq h8); exact Or.inr (ti_eq h8))) ⟨rfl, ⟨_, rfl, by omega⟩⟩
                · exfalso; omega
            · skip
              refine w_const rfl ?_
              refine w_istore (lo' := [some (.inr (.inr (some 9))), some (.inl i), some (.inl j), some (.inl 0), some (.inl 0), some (.inl 0)]) rfl rfl ?_
              refine w_iload rfl rfl ?_
              refine w_if_eq rfl (fun c25 => ?_) (fun c25 => ?_)
              · skip
                refine w_const rfl ?_
                exact wp_iret (z := true) rfl (fun _ => by first | exact Or.inl rfl | exact Or.inr rfl | (rcases (by omega : (0 : Int32).toInt = 0 ∨ (0 : Int32).toInt = 1) with h8 | h8; exact Or.inl (ti_eq h8); exact Or.inr (ti_eq h8))) ⟨rfl, ⟨_, rfl, by omega⟩⟩
              · exfalso; omega
          · skip
            refine w_const rfl ?_
            refine w_goto rfl ?_
            refine w_istore (lo' := [some (.inr (.inr (some 9))), some (.inl i), some (.inl j), some (.inl 0), some (.inl 1), none]) rfl rfl ?_
            refine w_aload rfl rfl ?_
            refine c_getR (t := some L) rfl rfl rfl rfl hn ?_
            refine c_getR (t := some (L + 1)) rfl (sh_land (by omega)) rfl rfl (rC_land0 (by omega)) ?_
            refine w_iload rfl rfl ?_
            refine c_aald5 (t := some ((L + 1) + 11 + 2 * j.toInt.toNat)) rfl (sh_row (by omega)) (by omega) (rC_row (by omega)) ?_
            refine c_getI rfl (sh_riv (by omega)) rfl rfl ?_
            refine w_const rfl ?_
            refine w_ic_ne rfl (fun c26 => ?_) (fun c26 => ?_)
            · skip
              refine w_aload rfl rfl ?_
              refine c_getR (t := some 11) rfl rfl rfl rfl rfl ?_
              refine w_iload rfl rfl ?_
              refine c_iald rfl rfl (by omega) (fun x27 ex27 => ?_)
              have qx27 : 0 ≤ x27.toInt ∧ x27.toInt ≤ 63 := by rw [ex27]; exact RC.who hR _
              refine w_const rfl ?_
              refine w_iload rfl rfl ?_
              refine w_iiE rfl (fun x28 tx28 => ?_)
              refine w_ic_eq rfl (fun c29 => ?_) (fun c29 => ?_)
              · skip
                refine w_const rfl ?_
                refine w_istore (lo' := [some (.inr (.inr (some 9))), some (.inl i), some (.inl j), some (.inl 0), some (.inl 1), some (.inl 0)]) rfl rfl ?_
                refine w_iload rfl rfl ?_
                refine w_if_eq rfl (fun c30 => ?_) (fun c30 => ?_)
                · skip
                  refine w_const rfl ?_
                  exact wp_iret (z := true) rfl (fun _ => by first | exact Or.inl rfl | exact Or.inr rfl | (rcases (by omega : (0 : Int32).toInt = 0 ∨ (0 : Int32).toInt = 1) with h8 | h8; exact Or.inl (ti_eq h8); exact Or.inr (ti_eq h8))) ⟨rfl, ⟨_, rfl, by omega⟩⟩
                · exfalso; omega
              · skip
                refine w_const rfl ?_
                refine w_goto rfl ?_
                refine w_istore (lo' := [some (.inr (.inr (some 9))), some (.inl i), some (.inl j), some (.inl 0), some (.inl 1), some (.inl 1)]) rfl rfl ?_
                refine w_iload rfl rfl ?_
                refine w_if_eq rfl (fun c31 => ?_) (fun c31 => ?_)
                · skip
                  refine w_const rfl ?_
                  exact wp_iret (z := true) rfl (fun _ => by first | exact Or.inl rfl | exact Or.inr rfl | (rcases (by omega : (0 : Int32).toInt = 0 ∨ (0 : Int32).toInt = 1) with h8 | h8; exact Or.inl (ti_eq h8); exact Or.inr (ti_eq h8))) ⟨rfl, ⟨_, rfl, by omega⟩⟩
                · exfalso; omega
            · skip
              refine w_const rfl ?_
              refine w_istore (lo' := [some (.inr (.inr (some 9))), some (.inl i), some (.inl j), some (.inl 0), some (.inl 1), some (.inl 0)]) rfl rfl ?_
              refine w_iload rfl rfl ?_
              refine w_if_eq rfl (fun c32 => ?_) (fun c32 => ?_)
              · skip
                refine w_const rfl ?_
                exact wp_iret (z := true) rfl (fun _ => by first | exact Or.inl rfl | exact Or.inr rfl | (rcases (by omega : (0 : Int32).toInt = 0 ∨ (0 : Int32).toInt = 1) with h8 | h8; exact Or.inl (ti_eq h8); exact Or.inr (ti_eq h8))) ⟨rfl, ⟨_, rfl, by omega⟩⟩
              · exfalso; omega
        · skip
          refine w_const rfl ?_
          refine w_goto rfl ?_
          refine w_istore (lo' := [some (.inr (.inr (some 9))), some (.inl i), some (.inl j), some (.inl 1), none, none]) rfl rfl ?_
          refine w_aload rfl rfl ?_
          refine c_getR (t := some 11) rfl rfl rfl rfl rfl ?_
          refine w_iload rfl rfl ?_
          refine c_iald rfl rfl (by omega) (fun x33 ex33 => ?_)
          have qx33 : 0 ≤ x33.toInt ∧ x33.toInt ≤ 63 := by rw [ex33]; exact RC.who hR _
          refine w_iload rfl rfl ?_
          refine w_iiE rfl (fun x34 tx34 => ?_)
          refine w_const rfl ?_
          refine w_iiE rfl (fun x35 tx35 => ?_)
          refine w_if_eq rfl (fun c36 => ?_) (fun c36 => ?_)
          · skip
            refine w_const rfl ?_
            refine w_istore (lo' := [some (.inr (.inr (some 9))), some (.inl i), some (.inl j), some (.inl 1), some (.inl 0), none]) rfl rfl ?_
            refine w_aload rfl rfl ?_
            refine c_getR (t := some L) rfl rfl rfl rfl hn ?_
            refine c_getR (t := some (L + 1)) rfl (sh_land (by omega)) rfl rfl (rC_land0 (by omega)) ?_
            refine w_iload rfl rfl ?_
            refine c_aald5 (t := some ((L + 1) + 11 + 2 * j.toInt.toNat)) rfl (sh_row (by omega)) (by omega) (rC_row (by omega)) ?_
            refine c_getI rfl (sh_riv (by omega)) rfl rfl ?_
            refine w_const rfl ?_
            refine w_ic_ne rfl (fun c37 => ?_) (fun c37 => ?_)
            · skip
              refine w_aload rfl rfl ?_
              refine c_getR (t := some 11) rfl rfl rfl rfl rfl ?_
              refine w_iload rfl rfl ?_
              refine c_iald rfl rfl (by omega) (fun x38 ex38 => ?_)
              have qx38 : 0 ≤ x38.toInt ∧ x38.toInt ≤ 63 := by rw [ex38]; exact RC.who hR _
              refine w_const rfl ?_
              refine w_iload rfl rfl ?_
              refine w_iiE rfl (fun x39 tx39 => ?_)
              refine w_ic_eq rfl (fun c40 => ?_) (fun c40 => ?_)
              · skip
                refine w_const rfl ?_
                refine w_istore (lo' := [some (.inr (.inr (some 9))), some (.inl i), some (.inl j), some (.inl 1), some (.inl 0), some (.inl 0)]) rfl rfl ?_
                refine w_iload rfl rfl ?_
                refine w_if_eq rfl (fun c41 => ?_) (fun c41 => ?_)
                · exfalso; omega
                · skip
                  refine w_iload rfl rfl ?_
                  refine w_if_ne rfl (fun c42 => ?_) (fun c42 => ?_)
                  · skip
                    refine w_iload rfl rfl ?_
                    refine w_if_ne rfl (fun c43 => ?_) (fun c43 => ?_)
                    · skip
                      refine w_const rfl ?_
                      refine w_goto rfl ?_
                      exact wp_iret (z := true) rfl (fun _ => by first | exact Or.inl rfl | exact Or.inr rfl | (rcases (by omega : (1 : Int32).toInt = 0 ∨ (1 : Int32).toInt = 1) with h8 | h8; exact Or.inl (ti_eq h8); exact Or.inr (ti_eq h8))) ⟨rfl, ⟨_, rfl, by omega⟩⟩
                    · exfalso; omega
                  · exfalso; omega
              · skip
                refine w_const rfl ?_
                refine w_goto rfl ?_
                refine w_istore (lo' := [some (.inr (.inr (some 9))), some (.inl i), some (.inl j), some (.inl 1), some (.inl 0), some (.inl 1)]) rfl rfl ?_
                refine w_iload rfl rfl ?_
                refine w_if_eq rfl (fun c44 => ?_) (fun c44 => ?_)
                · exfalso; omega
                · skip
                  refine w_iload rfl rfl ?_
                  refine w_if_ne rfl (fun c45 => ?_) (fun c45 => ?_)
                  · skip
                    refine w_iload rfl rfl ?_
                    refine w_if_ne rfl (fun c46 => ?_) (fun c46 => ?_)
                    · exfalso; omega
                    · skip
                      refine w_const rfl ?_
                      exact wp_iret (z := true) rfl (fun _ => by first | exact Or.inl rfl | exact Or.inr rfl | (rcases (by omega : (0 : Int32).toInt = 0 ∨ (0 : Int32).toInt = 1) with h8 | h8; exact Or.inl (ti_eq h8); exact Or.inr (ti_eq h8))) ⟨rfl, ⟨_, rfl, by omega⟩⟩
                  · exfalso; omega
            · skip
              refine w_const rfl ?_
              refine w_istore (lo' := [some (.inr (.inr (some 9))), some (.inl i), some (.inl j), some (.inl 1), some (.inl 0), some (.inl 0)]) rfl rfl ?_
              refine w_iload rfl rfl ?_
              refine w_if_eq rfl (fun c47 => ?_) (fun c47 => ?_)
              · exfalso; omega
              · skip
                refine w_iload rfl rfl ?_
                refine w_if_ne rfl (fun c48 => ?_) (fun c48 => ?_)
                · skip
                  refine w_iload rfl rfl ?_
                  refine w_if_ne rfl (fun c49 => ?_) (fun c49 => ?_)
                  · skip
                    refine w_const rfl ?_
                    refine w_goto rfl ?_
                    exact wp_iret (z := true) rfl (fun _ => by first | exact Or.inl rfl | exact Or.inr rfl | (rcases (by omega : (1 : Int32).toInt = 0 ∨ (1 : Int32).toInt = 1) with h8 | h8; exact Or.inl (ti_eq h8); exact Or.inr (ti_eq h8))) ⟨rfl, ⟨_, rfl, by omega⟩⟩
                  · exfalso; omega
                · exfalso; omega
          · skip
            refine w_const rfl ?_
            refine w_goto rfl ?_
            refine w_istore (lo' := [some (.inr (.inr (some 9))), some (.inl i), some (.inl j), some (.inl 1), some (.inl 1), none]) rfl rfl ?_
            refine w_aload rfl rfl ?_
            refine c_getR (t := some L) rfl rfl rfl rfl hn ?_
            refine c_getR (t := some (L + 1)) rfl (sh_land (by omega)) rfl rfl (rC_land0 (by omega)) ?_
            refine w_iload rfl rfl ?_
            refine c_aald5 (t := some ((L + 1) + 11 + 2 * j.toInt.toNat)) rfl (sh_row (by omega)) (by omega) (rC_row (by omega)) ?_
            refine c_getI rfl (sh_riv (by omega)) rfl rfl ?_
            refine w_const rfl ?_
            refine w_ic_ne rfl (fun c50 => ?_) (fun c50 => ?_)
            · skip
              refine w_aload rfl rfl ?_
              refine c_getR (t := some 11) rfl rfl rfl rfl rfl ?_
              refine w_iload rfl rfl ?_
              refine c_iald rfl rfl (by omega) (fun x51 ex51 => ?_)
              have qx51 : 0 ≤ x51.toInt ∧ x51.toInt ≤ 63 := by rw [ex51]; exact RC.who hR _
              refine w_const rfl ?_
              refine w_iload rfl rfl ?_
              refine w_iiE rfl (fun x52 tx52 => ?_)
              refine w_ic_eq rfl (fun c53 => ?_) (fun c53 => ?_)
              · skip
                refine w_const rfl ?_
                refine w_istore (lo' := [some (.inr (.inr (some 9))), some (.inl i), some (.inl j), some (.inl 1), some (.inl 1), some (.inl 0)]) rfl rfl ?_
                refine w_iload rfl rfl ?_
                refine w_if_eq rfl (fun c54 => ?_) (fun c54 => ?_)
                · exfalso; omega
                · skip
                  refine w_iload rfl rfl ?_
                  refine w_if_ne rfl (fun c55 => ?_) (fun c55 => ?_)
                  · exfalso; omega
                  · skip
                    refine w_const rfl ?_
                    exact wp_iret (z := true) rfl (fun _ => by first | exact Or.inl rfl | exact Or.inr rfl | (rcases (by omega : (0 : Int32).toInt = 0 ∨ (0 : Int32).toInt = 1) with h8 | h8; exact Or.inl (ti_eq h8); exact Or.inr (ti_eq h8))) ⟨rfl, ⟨_, rfl, by omega⟩⟩
              · skip
                refine w_const rfl ?_
                refine w_goto rfl ?_
                refine w_istore (lo' := [some (.inr (.inr (some 9))), some (.inl i), some (.inl j), some (.inl 1), some (.inl 1), some (.inl 1)]) rfl rfl ?_
                refine w_iload rfl rfl ?_
                refine w_if_eq rfl (fun c56 => ?_) (fun c56 => ?_)
                · exfalso; omega
                · skip
                  refine w_iload rfl rfl ?_
                  refine w_if_ne rfl (fun c57 => ?_) (fun c57 => ?_)
                  · exfalso; omega
                  · skip
                    refine w_const rfl ?_
                    exact wp_iret (z := true) rfl (fun _ => by first | exact Or.inl rfl | exact Or.inr rfl | (rcases (by omega : (0 : Int32).toInt = 0 ∨ (0 : Int32).toInt = 1) with h8 | h8; exact Or.inl (ti_eq h8); exact Or.inr (ti_eq h8))) ⟨rfl, ⟨_, rfl, by omega⟩⟩
            · skip
              refine w_const rfl ?_
              refine w_istore (lo' := [some (.inr (.inr (some 9))), some (.inl i), some (.inl j), some (.inl 1), some (.inl 1), some (.inl 0)]) rfl rfl ?_
              refine w_iload rfl rfl ?_
              refine w_if_eq rfl (fun c58 => ?_) (fun c58 => ?_)
              · exfalso; omega
              · skip
                refine w_iload rfl rfl ?_
                refine w_if_ne rfl (fun c59 => ?_) (fun c59 => ?_)
                · exfalso; omega
                · skip
                  refine w_const rfl ?_
                  exact wp_iret (z := true) rfl (fun _ => by first | exact Or.inl rfl | exact Or.inr rfl | (rcases (by omega : (0 : Int32).toInt = 0 ∨ (0 : Int32).toInt = 1) with h8 | h8; exact Or.inl (ti_eq h8); exact Or.inr (ti_eq h8))) ⟨rfl, ⟨_, rfl, by omega⟩⟩
      · skip
        refine w_const rfl ?_
        exact wp_iret (z := true) rfl (fun _ => by first | exact Or.inl rfl | exact Or.inr rfl | (rcases (by omega : (0 : Int32).toInt = 0 ∨ (0 : Int32).toInt = 1) with h8 | h8; exact Or.inl (ti_eq h8); exact Or.inr (ti_eq h8))) ⟨rfl, ⟨_, rfl, by omega⟩⟩
set_option maxRecDepth 4000 in
theorem s_X5_join {K : Nat} (a : Nat → Nat → Int32) (b : Nat → Nat → Int64) (v : Nat → Option Nat) (L : Nat) (i : Int32) (j : Int32) (hR : RC K a) (hn : v 5 = some L) (hL : L = 22 ∨ L = 46) : f_call mtC 2 33 [.inr (.inr (some 9)), .inl i, .inl j] (cH a b v) (fun v9 h' => ∃ (a' : Nat → Nat → Int32), h' = cH a' b v ∧ RC K a' ∧ (FR [10, 11] a a' ∧ True) ∧ v9 = none) := by
  refine f_call_of (d0 := 1) rfl (Nat.le_of_ble_eq_true rfl) (fun d hd => ?_)
  show f_wp _ (0, [some (.inr (.inr (some 9))), some (.inl i), some (.inl j), none, none], [], cH a b v) _
  have l0 : (0 : Int32).toInt = 0 := rfl
  have l1 : (1 : Int32).toInt = 1 := rfl
  have l6 : (6 : Int32).toInt = 6 := rfl
  refine w_aload rfl rfl ?_
  refine w_iload rfl rfl ?_
  refine w_invV (rest := []) rfl rfl rfl rfl rfl (Nat.le_of_ble_eq_true rfl) rfl (by omega) (s_X5_knows (K := K) a b v L i hR  (hn) (by omega)) (fun z1 h9 hq2 => ?_)
  obtain ⟨rfl, x3, rfl, px3⟩ := hq2
  show f_wp _ (5, [some (.inr (.inr (some 9))), some (.inl i), some (.inl j), none, none], [.inl x3], cH a b v) _
  refine w_if_ne rfl (fun c4 => ?_) (fun c4 => ?_)
  · skip
    exact w_ret rfl ⟨a, rfl, hR, ⟨FR.rf, trivial⟩, rfl⟩
  · skip
    refine w_aload rfl rfl ?_
    refine c_getR (t := some 10) rfl rfl rfl rfl rfl ?_
    refine w_iload rfl rfl ?_
    refine w_iload rfl rfl ?_
    refine c_iast rfl rfl (by omega) (fun a5 ea5 => ?_)
    have ha5 : RC K a5 := RC.up hR ea5 (lc_any _ (by omega))
    refine w_iload rfl rfl ?_
    refine w_istore (lo' := [some (.inr (.inr (some 9))), some (.inl i), some (.inl j), some (.inl j), none]) rfl rfl ?_
    refine w_const rfl ?_
    refine w_istore (lo' := [some (.inr (.inr (some 9))), some (.inl i), some (.inl j), some (.inl j), some (.inl 0)]) rfl rfl ?_
    have loop21 : ∀ (ms9 : Nat) (u : Int32) (k : Int32) (a21 : Nat → Nat → Int32) , (6 - k.toInt).toNat = ms9 → RC K a21 → FR [10, 11] a a21 → (0 ≤ k.toInt ∧ k.toInt ≤ 6) → f_wp (f_code (t_X5_join (f_ev mtC d))) (21, [some (.inr (.inr (some 9))), some (.inl i), some (.inl j), some (.inl u), some (.inl k)], [], cH a21 b v) (fun v9 h' => ∃ (a' : Nat → Nat → Int32), h' = cH a' b v ∧ RC K a' ∧ (FR [10, 11] a a' ∧ True) ∧ v9 = none) := by
      intro ms9
      induction ms9 using Nat.strongRecOn with
      | _ ms21 ih21 =>
        intro u k a21  hm21 hR21 hF21 hk
        refine w_iload rfl rfl ?_
        refine w_const rfl ?_
        refine w_ic_ge rfl (fun c6 => ?_) (fun c6 => ?_)
        · skip
          exact w_ret rfl ⟨a21, rfl, hR21, ⟨hF21, trivial⟩, rfl⟩
        · skip
          refine w_aload rfl rfl ?_
          refine w_iload rfl rfl ?_
          refine w_invV (rest := []) rfl rfl rfl rfl rfl (Nat.le_of_ble_eq_true rfl) rfl (by omega) (s_X5_knows (K := K) a21 b v L u hR21  (hn) (by omega)) (fun z7 h9 hq8 => ?_)
          obtain ⟨rfl, x9, rfl, px9⟩ := hq8
          show f_wp _ (33, [some (.inr (.inr (some 9))), some (.inl i), some (.inl j), some (.inl u), some (.inl k)], [.inl x9], cH a21 b v) _
          refine w_if_eq rfl (fun c10 => ?_) (fun c10 => ?_)
          · skip
            exact w_ret rfl ⟨a21, rfl, hR21, ⟨hF21, trivial⟩, rfl⟩
          · skip
            refine w_aload rfl rfl ?_
            refine c_getR (t := some 11) rfl rfl rfl rfl rfl ?_
            refine w_iload rfl rfl ?_
            refine w_dup2 rfl ⟨rfl, rfl⟩ ?_
            refine c_iald rfl rfl (by omega) (fun x11 ex11 => ?_)
            have qx11 : 0 ≤ x11.toInt ∧ x11.toInt ≤ 63 := by rw [ex11]; exact RC.who hR21 _
            refine w_aload rfl rfl ?_
            refine c_getR (t := some 11) rfl rfl rfl rfl rfl ?_
            refine w_iload rfl rfl ?_
            refine c_iald rfl rfl (by omega) (fun x12 ex12 => ?_)
            have qx12 : 0 ≤ x12.toInt ∧ x12.toInt ≤ 63 := by rw [ex12]; exact RC.who hR21 _
            refine w_iiE rfl (fun x13 tx13 => ?_)
            have o9 := or63 (by omega) (by omega) tx13
            refine c_iast rfl rfl (by omega) (fun a14 ea14 => ?_)
            have ha14 : RC K a14 := RC.up hR21 ea14 (show (0 : Int) ≤ _ ∧ _ ≤ (63 : Int) from by omega)
            refine w_aload rfl rfl ?_
            refine c_getR (t := some 10) rfl rfl rfl rfl rfl ?_
            refine w_iload rfl rfl ?_
            refine c_iald rfl rfl (by omega) (fun x15 ex15 => ?_)
            refine w_istore (lo' := [some (.inr (.inr (some 9))), some (.inl i), some (.inl j), some (.inl x15), some (.inl k)]) rfl rfl ?_
            refine w_iinc (lo' := fun z9 => [some (.inr (.inr (some 9))), some (.inl i), some (.inl j), some (.inl x15), some (.inl z9)]) rfl rfl (fun _ => rfl) (by omega) (fun x16 tx16 => ?_)
            refine w_goto rfl ?_
            exact ih21 (6 - x16.toInt).toNat (by omega) x15 x16 a14 rfl ha14 (FR.up (hF21) (by first | decide | simp | (simp [cA]; omega) | (simp [cB]; omega)) ea14) (by omega)
    exact loop21 _ j 0 a5 rfl ha5 (FR.up (FR.rf) (by first | decide | simp | (simp [cA]; omega) | (simp [cB]; omega)) ea5) (by omega)
set_option maxRecDepth 4000 in
theorem s_X5_release {K : Nat} (a : Nat → Nat → Int32) (b : Nat → Nat → Int64) (v : Nat → Option Nat) (L : Nat) (i : Int32) (hR : RC K a) (hn : v 5 = some L) (hL : L = 22 ∨ L = 46) : f_call mtC 2 34 [.inr (.inr (some 9)), .inl i] (cH a b v) (fun v9 h' => ∃ (a' : Nat → Nat → Int32), h' = cH a' b v ∧ RC K a' ∧ (FR [10, 11] a a' ∧ True) ∧ ∃ x : Int32, v9 = some (.inl x) ∧ (x.toInt = 0 ∨ x.toInt = 1)) := by
  refine f_call_of (d0 := 1) rfl (Nat.le_of_ble_eq_true rfl) (fun d hd => ?_)
  show f_wp _ (0, [some (.inr (.inr (some 9))), some (.inl i), none, none], [], cH a b v) _
  have lm1 : (-1 : Int32).toInt = -1 := rfl
  have l0 : (0 : Int32).toInt = 0 := rfl
  have l1 : (1 : Int32).toInt = 1 := rfl
  have l6 : (6 : Int32).toInt = 6 := rfl
  refine w_aload rfl rfl ?_
  refine w_iload rfl rfl ?_
  refine w_invV (rest := []) rfl rfl rfl rfl rfl (Nat.le_of_ble_eq_true rfl) rfl (by omega) (s_X5_knows (K := K) a b v L i hR  (hn) (by omega)) (fun z1 h9 hq2 => ?_)
  obtain ⟨rfl, x3, rfl, px3⟩ := hq2
  show f_wp _ (5, [some (.inr (.inr (some 9))), some (.inl i), none, none], [.inl x3], cH a b v) _
  refine w_if_eq rfl (fun c4 => ?_) (fun c4 => ?_)
  · skip
    refine w_const rfl ?_
    exact wp_iret (z := true) rfl (fun _ => by first | exact Or.inl rfl | exact Or.inr rfl | (rcases (by omega : (0 : Int32).toInt = 0 ∨ (0 : Int32).toInt = 1) with h8 | h8; exact Or.inl (ti_eq h8); exact Or.inr (ti_eq h8))) ⟨a, rfl, hR, ⟨FR.rf, trivial⟩, ⟨_, rfl, by omega⟩⟩
  · skip
    refine w_aload rfl rfl ?_
    refine c_getR (t := some 10) rfl rfl rfl rfl rfl ?_
    refine w_iload rfl rfl ?_
    refine c_iald rfl rfl (by omega) (fun x5 ex5 => ?_)
    refine w_const rfl ?_
    refine w_ic_ne rfl (fun c6 => ?_) (fun c6 => ?_)
    · skip
      refine w_const rfl ?_
      exact wp_iret (z := true) rfl (fun _ => by first | exact Or.inl rfl | exact Or.inr rfl | (rcases (by omega : (0 : Int32).toInt = 0 ∨ (0 : Int32).toInt = 1) with h8 | h8; exact Or.inl (ti_eq h8); exact Or.inr (ti_eq h8))) ⟨a, rfl, hR, ⟨FR.rf, trivial⟩, ⟨_, rfl, by omega⟩⟩
    · skip
      refine w_aload rfl rfl ?_
      refine c_getR (t := some 10) rfl rfl rfl rfl rfl ?_
      refine w_iload rfl rfl ?_
      refine c_iald rfl rfl (by omega) (fun x7 ex7 => ?_)
      refine w_istore (lo' := [some (.inr (.inr (some 9))), some (.inl i), some (.inl x7), none]) rfl rfl ?_
      refine w_const rfl ?_
      refine w_istore (lo' := [some (.inr (.inr (some 9))), some (.inl i), some (.inl x7), some (.inl 0)]) rfl rfl ?_
      have loop29 : ∀ (ms9 : Nat) (u : Int32) (k : Int32) (a29 : Nat → Nat → Int32) , (6 - k.toInt).toNat = ms9 → RC K a29 → FR [10, 11] a a29 → (0 ≤ k.toInt ∧ k.toInt ≤ 6) → f_wp (f_code (t_X5_release (f_ev mtC d))) (29, [some (.inr (.inr (some 9))), some (.inl i), some (.inl u), some (.inl k)], [], cH a29 b v) (fun v9 h' => ∃ (a' : Nat → Nat → Int32), h' = cH a' b v ∧ RC K a' ∧ (FR [10, 11] a a' ∧ True) ∧ ∃ x : Int32, v9 = some (.inl x) ∧ (x.toInt = 0 ∨ x.toInt = 1)) := by
        intro ms9
        induction ms9 using Nat.strongRecOn with
        | _ ms29 ih29 =>
          intro u k a29  hm29 hR29 hF29 hk
          refine w_iload rfl rfl ?_
          refine w_const rfl ?_
          refine w_ic_ge rfl (fun c8 => ?_) (fun c8 => ?_)
          · skip
            refine w_aload rfl rfl ?_
            refine c_getR (t := some 10) rfl rfl rfl rfl rfl ?_
            refine w_iload rfl rfl ?_
            refine w_const rfl ?_
            refine c_iast rfl rfl (by omega) (fun a9 ea9 => ?_)
            have ha9 : RC K a9 := RC.up hR29 ea9 (lc_any _ (by omega))
            refine w_const rfl ?_
            exact wp_iret (z := true) rfl (fun _ => by first | exact Or.inl rfl | exact Or.inr rfl | (rcases (by omega : (1 : Int32).toInt = 0 ∨ (1 : Int32).toInt = 1) with h8 | h8; exact Or.inl (ti_eq h8); exact Or.inr (ti_eq h8))) ⟨a9, rfl, ha9, ⟨FR.up (hF29) (by first | decide | simp | (simp [cA]; omega) | (simp [cB]; omega)) ea9, trivial⟩, ⟨_, rfl, by omega⟩⟩
          · skip
            refine w_aload rfl rfl ?_
            refine w_iload rfl rfl ?_
            refine w_invV (rest := []) rfl rfl rfl rfl rfl (Nat.le_of_ble_eq_true rfl) rfl (by omega) (s_X5_knows (K := K) a29 b v L u hR29  (hn) (by omega)) (fun z10 h9 hq11 => ?_)
            obtain ⟨rfl, x12, rfl, px12⟩ := hq11
            show f_wp _ (40, [some (.inr (.inr (some 9))), some (.inl i), some (.inl u), some (.inl k)], [.inl x12], cH a29 b v) _
            refine w_if_eq rfl (fun c13 => ?_) (fun c13 => ?_)
            · skip
              refine w_aload rfl rfl ?_
              refine c_getR (t := some 10) rfl rfl rfl rfl rfl ?_
              refine w_iload rfl rfl ?_
              refine w_const rfl ?_
              refine c_iast rfl rfl (by omega) (fun a14 ea14 => ?_)
              have ha14 : RC K a14 := RC.up hR29 ea14 (lc_any _ (by omega))
              refine w_const rfl ?_
              exact wp_iret (z := true) rfl (fun _ => by first | exact Or.inl rfl | exact Or.inr rfl | (rcases (by omega : (1 : Int32).toInt = 0 ∨ (1 : Int32).toInt = 1) with h8 | h8; exact Or.inl (ti_eq h8); exact Or.inr (ti_eq h8))) ⟨a14, rfl, ha14, ⟨FR.up (hF29) (by first | decide | simp | (simp [cA]; omega) | (simp [cB]; omega)) ea14, trivial⟩, ⟨_, rfl, by omega⟩⟩
            · skip
              refine w_aload rfl rfl ?_
              refine c_getR (t := some 11) rfl rfl rfl rfl rfl ?_
              refine w_iload rfl rfl ?_
              refine w_dup2 rfl ⟨rfl, rfl⟩ ?_
              refine c_iald rfl rfl (by omega) (fun x15 ex15 => ?_)
              have qx15 : 0 ≤ x15.toInt ∧ x15.toInt ≤ 63 := by rw [ex15]; exact RC.who hR29 _
              refine w_aload rfl rfl ?_
              refine c_getR (t := some 11) rfl rfl rfl rfl rfl ?_
              refine w_iload rfl rfl ?_
              refine c_iald rfl rfl (by omega) (fun x16 ex16 => ?_)
              have qx16 : 0 ≤ x16.toInt ∧ x16.toInt ≤ 63 := by rw [ex16]; exact RC.who hR29 _
              refine w_const rfl ?_
              refine w_iiE rfl (fun x17 tx17 => ?_)
              refine w_iiE rfl (fun x18 tx18 => ?_)
              have o9 := and63 (by omega) tx18
              refine c_iast rfl rfl (by omega) (fun a19 ea19 => ?_)
              have ha19 : RC K a19 := RC.up hR29 ea19 (show (0 : Int) ≤ _ ∧ _ ≤ (63 : Int) from by omega)
              refine w_aload rfl rfl ?_
              refine c_getR (t := some 10) rfl rfl rfl rfl rfl ?_
              refine w_iload rfl rfl ?_
              refine c_iald rfl rfl (by omega) (fun x20 ex20 => ?_)
              refine w_istore (lo' := [some (.inr (.inr (some 9))), some (.inl i), some (.inl x20), some (.inl k)]) rfl rfl ?_
              refine w_iinc (lo' := fun z9 => [some (.inr (.inr (some 9))), some (.inl i), some (.inl x20), some (.inl z9)]) rfl rfl (fun _ => rfl) (by omega) (fun x21 tx21 => ?_)
              refine w_goto rfl ?_
              exact ih29 (6 - x21.toInt).toNat (by omega) x20 x21 a19 rfl ha19 (FR.up (hF29) (by first | decide | simp | (simp [cA]; omega) | (simp [cB]; omega)) ea19) (by omega)
      exact loop29 _ x7 0 a rfl hR (FR.rf) (by omega)
set_option maxRecDepth 4000 in
theorem s_X5_wives {K : Nat} (a : Nat → Nat → Int32) (b : Nat → Nat → Int64) (v : Nat → Option Nat) (L : Nat) (i : Int32) (hR : RC K a) (hn : v 5 = some L) (hL : L = 22 ∨ L = 46) : f_call mtC 1 35 [.inr (.inr (some 9)), .inl i] (cH a b v) (fun v9 h' => h' = cH a b v ∧ ∃ x : Int32, v9 = some (.inl x) ∧ True) := by
  refine f_call_of (d0 := 0) rfl (Nat.le_of_ble_eq_true rfl) (fun d hd => ?_)
  show f_wp _ (0, [some (.inr (.inr (some 9))), some (.inl i), none, none], [], cH a b v) _
  have l0 : (0 : Int32).toInt = 0 := rfl
  have l1 : (1 : Int32).toInt = 1 := rfl
  refine w_const rfl ?_
  refine w_istore (lo' := [some (.inr (.inr (some 9))), some (.inl i), some (.inl 0), none]) rfl rfl ?_
  refine w_const rfl ?_
  refine w_istore (lo' := [some (.inr (.inr (some 9))), some (.inl i), some (.inl 0), some (.inl 0)]) rfl rfl ?_
  have loop4 : ∀ (ms9 : Nat) (se : Int32) (r : Int32) , (6 - r.toInt).toNat = ms9 → (0 ≤ r.toInt ∧ r.toInt ≤ 6) → f_wp (f_code (t_X5_wives (f_ev mtC d))) (4, [some (.inr (.inr (some 9))), some (.inl i), some (.inl se), some (.inl r)], [], cH a b v) (fun v9 h' => h' = cH a b v ∧ ∃ x : Int32, v9 = some (.inl x) ∧ True) := by
    intro ms9
    induction ms9 using Nat.strongRecOn with
    | _ ms4 ih4 =>
      intro se r  hm4 hr
      refine w_iload rfl rfl ?_
      refine w_aload rfl rfl ?_
      refine c_getR (t := some L) rfl rfl rfl rfl hn ?_
      refine c_getI rfl (sh_land (by omega)) rfl rfl ?_
      have q1 : 0 ≤ (a L 7).toInt ∧ (a L 7).toInt ≤ 6 := RC.riv hR (by omega)
      refine w_ic_ge rfl (fun c2 => ?_) (fun c2 => ?_)
      · skip
        refine w_iload rfl rfl ?_
        exact wp_iret (z := false) rfl (fun h9 => by cases h9) ⟨rfl, ⟨_, rfl, trivial⟩⟩
      · skip
        refine w_aload rfl rfl ?_
        refine c_getR (t := some 10) rfl rfl rfl rfl rfl ?_
        refine w_iload rfl rfl ?_
        refine c_iald rfl rfl (by omega) (fun x3 ex3 => ?_)
        refine w_iload rfl rfl ?_
        refine w_ic_ne rfl (fun c4 => ?_) (fun c4 => ?_)
        · skip
          refine w_iload rfl rfl ?_
          refine w_const rfl ?_
          refine w_iload rfl rfl ?_
          refine w_iiE rfl (fun x5 tx5 => ?_)
          refine w_iiE rfl (fun x6 tx6 => ?_)
          refine w_istore (lo' := [some (.inr (.inr (some 9))), some (.inl i), some (.inl x6), some (.inl r)]) rfl rfl ?_
          refine w_iinc (lo' := fun z9 => [some (.inr (.inr (some 9))), some (.inl i), some (.inl x6), some (.inl z9)]) rfl rfl (fun _ => rfl) (by omega) (fun x7 tx7 => ?_)
          refine w_goto rfl ?_
          exact ih4 (6 - x7.toInt).toNat (by omega) x6 x7 rfl  (by omega)
        · skip
          refine w_iinc (lo' := fun z9 => [some (.inr (.inr (some 9))), some (.inl i), some (.inl se), some (.inl z9)]) rfl rfl (fun _ => rfl) (by omega) (fun x8 tx8 => ?_)
          refine w_goto rfl ?_
          exact ih4 (6 - x8.toInt).toNat (by omega) se x8 rfl  (by omega)
  exact loop4 _ 0 0 rfl  (by omega)
set_option maxRecDepth 4000 in
theorem s_X5_weddings {K : Nat} (a : Nat → Nat → Int32) (b : Nat → Nat → Int64) (v : Nat → Option Nat) (L : Nat)  (hR : RC K a) (hn : v 5 = some L) (hL : L = 22 ∨ L = 46) : f_call mtC 1 36 [.inr (.inr (some 9))] (cH a b v) (fun v9 h' => h' = cH a b v ∧ ∃ x : Int32, v9 = some (.inl x) ∧ True) := by
  refine f_call_of (d0 := 0) rfl (Nat.le_of_ble_eq_true rfl) (fun d hd => ?_)
  show f_wp _ (0, [some (.inr (.inr (some 9))), none, none], [], cH a b v) _
  have lm1 : (-1 : Int32).toInt = -1 := rfl
  have l0 : (0 : Int32).toInt = 0 := rfl
  have l1 : (1 : Int32).toInt = 1 := rfl
  refine w_const rfl ?_
  refine w_istore (lo' := [some (.inr (.inr (some 9))), some (.inl 0), none]) rfl rfl ?_
  refine w_const rfl ?_
  refine w_istore (lo' := [some (.inr (.inr (some 9))), some (.inl 0), some (.inl 0)]) rfl rfl ?_
  have loop4 : ∀ (ms9 : Nat) (m : Int32) (r : Int32) , (6 - r.toInt).toNat = ms9 → (0 ≤ m.toInt ∧ m.toInt ≤ 6) → (0 ≤ r.toInt ∧ r.toInt ≤ 6) → (m.toInt ≤ r.toInt) → f_wp (f_code (t_X5_weddings (f_ev mtC d))) (4, [some (.inr (.inr (some 9))), some (.inl m), some (.inl r)], [], cH a b v) (fun v9 h' => h' = cH a b v ∧ ∃ x : Int32, v9 = some (.inl x) ∧ True) := by
    intro ms9
    induction ms9 using Nat.strongRecOn with
    | _ ms4 ih4 =>
      intro m r  hm4 hm hr hmr
      refine w_iload rfl rfl ?_
      refine w_aload rfl rfl ?_
      refine c_getR (t := some L) rfl rfl rfl rfl hn ?_
      refine c_getI rfl (sh_land (by omega)) rfl rfl ?_
      have q1 : 0 ≤ (a L 7).toInt ∧ (a L 7).toInt ≤ 6 := RC.riv hR (by omega)
      refine w_ic_ge rfl (fun c2 => ?_) (fun c2 => ?_)
      · skip
        refine w_iload rfl rfl ?_
        exact wp_iret (z := false) rfl (fun h9 => by cases h9) ⟨rfl, ⟨_, rfl, trivial⟩⟩
      · skip
        refine w_aload rfl rfl ?_
        refine c_getR (t := some 10) rfl rfl rfl rfl rfl ?_
        refine w_iload rfl rfl ?_
        refine c_iald rfl rfl (by omega) (fun x3 ex3 => ?_)
        refine w_const rfl ?_
        refine w_ic_eq rfl (fun c4 => ?_) (fun c4 => ?_)
        · skip
          refine w_iinc (lo' := fun z9 => [some (.inr (.inr (some 9))), some (.inl m), some (.inl z9)]) rfl rfl (fun _ => rfl) (by omega) (fun x5 tx5 => ?_)
          refine w_goto rfl ?_
          exact ih4 (6 - x5.toInt).toNat (by omega) m x5 rfl  (by omega) (by omega) (by omega)
        · skip
          refine w_iinc (lo' := fun z9 => [some (.inr (.inr (some 9))), some (.inl z9), some (.inl r)]) rfl rfl (fun _ => rfl) (by omega) (fun x6 tx6 => ?_)
          refine w_iinc (lo' := fun z9 => [some (.inr (.inr (some 9))), some (.inl x6), some (.inl z9)]) rfl rfl (fun _ => rfl) (by omega) (fun x7 tx7 => ?_)
          refine w_goto rfl ?_
          exact ih4 (6 - x7.toInt).toNat (by omega) x6 x7 rfl  (by omega) (by omega) (by omega)
  exact loop4 _ 0 0 rfl  (by omega) (by omega) (by omega)
set_option maxRecDepth 4000 in
theorem s_X5_waters {K : Nat} (a : Nat → Nat → Int32) (b : Nat → Nat → Int64) (v : Nat → Option Nat) (L : Nat) (i : Int32) (j : Int32) (hR : RC K a) (hn : v 5 = some L) (hL : L = 22 ∨ L = 46) (hi : 0 ≤ i.toInt ∧ i.toInt ≤ 5) : f_call mtC 1 37 [.inr (.inr (some 9)), .inl i, .inl j] (cH a b v) (fun v9 h' => h' = cH a b v ∧ ∃ x : Int32, v9 = some (.inl x) ∧ True) := by
  refine f_call_of (d0 := 0) rfl (Nat.le_of_ble_eq_true rfl) (fun d hd => ?_)
  show f_wp _ (0, [some (.inr (.inr (some 9))), some (.inl i), some (.inl j), none, none, none], [], cH a b v) _
  have l0 : (0 : Int32).toInt = 0 := rfl
  have l1 : (1 : Int32).toInt = 1 := rfl
  have l2 : (2 : Int32).toInt = 2 := rfl
  refine w_const rfl ?_
  refine w_iload rfl rfl ?_
  refine w_iiE rfl (fun x1 tx1 => ?_)
  refine w_istore (lo' := [some (.inr (.inr (some 9))), some (.inl i), some (.inl j), some (.inl x1), none, none]) rfl rfl ?_
  refine w_aload rfl rfl ?_
  refine c_getR (t := some L) rfl rfl rfl rfl hn ?_
  refine c_getR (t := some (L + 1)) rfl (sh_land (by omega)) rfl rfl (rC_land0 (by omega)) ?_
  refine w_iload rfl rfl ?_
  refine c_aald5 (t := some ((L + 1) + 11 + 2 * i.toInt.toNat)) rfl (sh_row (by omega)) (by omega) (rC_row (by omega)) ?_
  refine w_astore (lo' := [some (.inr (.inr (some 9))), some (.inl i), some (.inl j), some (.inl x1), some (.inr (.inr (some ((L + 1) + 11 + 2 * i.toInt.toNat)))), none]) rfl rfl ?_
  refine w_aload rfl rfl ?_
  refine c_getI rfl (sh_riv (by omega)) rfl rfl ?_
  refine w_const rfl ?_
  refine w_ic_ne rfl (fun c2 => ?_) (fun c2 => ?_)
  · skip
    refine w_iload rfl rfl ?_
    refine w_aload rfl rfl ?_
    refine c_getI rfl (sh_riv (by omega)) rfl rfl ?_
    refine w_ic_le rfl (fun c3 => ?_) (fun c3 => ?_)
    · skip
      refine w_const rfl ?_
      refine w_istore (lo' := [some (.inr (.inr (some 9))), some (.inl i), some (.inl j), some (.inl x1), some (.inr (.inr (some ((L + 1) + 11 + 2 * i.toInt.toNat)))), some (.inl 0)]) rfl rfl ?_
      have loop38 : ∀ (ms9 : Nat) (se : Int32) (r : Int32) , (6 - r.toInt).toNat = ms9 → (0 ≤ r.toInt ∧ r.toInt ≤ 6) → f_wp (f_code (t_X5_waters (f_ev mtC d))) (38, [some (.inr (.inr (some 9))), some (.inl i), some (.inl j), some (.inl se), some (.inr (.inr (some ((L + 1) + 11 + 2 * i.toInt.toNat)))), some (.inl r)], [], cH a b v) (fun v9 h' => h' = cH a b v ∧ ∃ x : Int32, v9 = some (.inl x) ∧ True) := by
        intro ms9
        induction ms9 using Nat.strongRecOn with
        | _ ms38 ih38 =>
          intro se r  hm38 hr
          refine w_iload rfl rfl ?_
          refine w_aload rfl rfl ?_
          refine c_getR (t := some L) rfl rfl rfl rfl hn ?_
          refine c_getI rfl (sh_land (by omega)) rfl rfl ?_
          have q4 : 0 ≤ (a L 7).toInt ∧ (a L 7).toInt ≤ 6 := RC.riv hR (by omega)
          refine w_ic_ge rfl (fun c5 => ?_) (fun c5 => ?_)
          · skip
            refine w_iload rfl rfl ?_
            exact wp_iret (z := false) rfl (fun h9 => by cases h9) ⟨rfl, ⟨_, rfl, trivial⟩⟩
          · skip
            refine w_aload rfl rfl ?_
            refine c_getR (t := some 10) rfl rfl rfl rfl rfl ?_
            refine w_iload rfl rfl ?_
            refine c_iald rfl rfl (by omega) (fun x6 ex6 => ?_)
            refine w_iload rfl rfl ?_
            refine w_ic_ne rfl (fun c7 => ?_) (fun c7 => ?_)
            · skip
              refine w_aload rfl rfl ?_
              refine c_getR (t := some L) rfl rfl rfl rfl hn ?_
              refine c_getR (t := some (L + 1)) rfl (sh_land (by omega)) rfl rfl (rC_land0 (by omega)) ?_
              refine w_iload rfl rfl ?_
              refine c_aald5 (t := some ((L + 1) + 11 + 2 * r.toInt.toNat)) rfl (sh_row (by omega)) (by omega) (rC_row (by omega)) ?_
              refine c_getI rfl (sh_riv (by omega)) rfl rfl ?_
              refine w_iload rfl rfl ?_
              refine w_ic_lt rfl (fun c8 => ?_) (fun c8 => ?_)
              · skip
                refine w_iinc (lo' := fun z9 => [some (.inr (.inr (some 9))), some (.inl i), some (.inl j), some (.inl se), some (.inr (.inr (some ((L + 1) + 11 + 2 * i.toInt.toNat)))), some (.inl z9)]) rfl rfl (fun _ => rfl) (by omega) (fun x9 tx9 => ?_)
                refine w_goto rfl ?_
                exact ih38 (6 - x9.toInt).toNat (by omega) se x9 rfl  (by omega)
              · skip
                refine w_iload rfl rfl ?_
                refine w_aload rfl rfl ?_
                refine c_getR (t := some 11) rfl rfl rfl rfl rfl ?_
                refine w_iload rfl rfl ?_
                refine c_iald rfl rfl (by omega) (fun x10 ex10 => ?_)
                have qx10 : 0 ≤ x10.toInt ∧ x10.toInt ≤ 63 := by rw [ex10]; exact RC.who hR _
                refine w_iiE rfl (fun x11 tx11 => ?_)
                refine w_istore (lo' := [some (.inr (.inr (some 9))), some (.inl i), some (.inl j), some (.inl x11), some (.inr (.inr (some ((L + 1) + 11 + 2 * i.toInt.toNat)))), some (.inl r)]) rfl rfl ?_
                refine w_iinc (lo' := fun z9 => [some (.inr (.inr (some 9))), some (.inl i), some (.inl j), some (.inl x11), some (.inr (.inr (some ((L + 1) + 11 + 2 * i.toInt.toNat)))), some (.inl z9)]) rfl rfl (fun _ => rfl) (by omega) (fun x12 tx12 => ?_)
                refine w_goto rfl ?_
                exact ih38 (6 - x12.toInt).toNat (by omega) x11 x12 rfl  (by omega)
            · skip
              refine w_iinc (lo' := fun z9 => [some (.inr (.inr (some 9))), some (.inl i), some (.inl j), some (.inl se), some (.inr (.inr (some ((L + 1) + 11 + 2 * i.toInt.toNat)))), some (.inl z9)]) rfl rfl (fun _ => rfl) (by omega) (fun x13 tx13 => ?_)
              refine w_goto rfl ?_
              exact ih38 (6 - x13.toInt).toNat (by omega) se x13 rfl  (by omega)
      exact loop38 _ x1 0 rfl  (by omega)
    · skip
      refine w_iload rfl rfl ?_
      exact wp_iret (z := false) rfl (fun h9 => by cases h9) ⟨rfl, ⟨_, rfl, trivial⟩⟩
  · skip
    refine w_const rfl ?_
    refine w_istore (lo' := [some (.inr (.inr (some 9))), some (.inl i), some (.inl j), some (.inl x1), some (.inr (.inr (some ((L + 1) + 11 + 2 * i.toInt.toNat)))), some (.inl 0)]) rfl rfl ?_
    have loop38 : ∀ (ms9 : Nat) (se : Int32) (r : Int32) , (6 - r.toInt).toNat = ms9 → (0 ≤ r.toInt ∧ r.toInt ≤ 6) → f_wp (f_code (t_X5_waters (f_ev mtC d))) (38, [some (.inr (.inr (some 9))), some (.inl i), some (.inl j), some (.inl se), some (.inr (.inr (some ((L + 1) + 11 + 2 * i.toInt.toNat)))), some (.inl r)], [], cH a b v) (fun v9 h' => h' = cH a b v ∧ ∃ x : Int32, v9 = some (.inl x) ∧ True) := by
      intro ms9
      induction ms9 using Nat.strongRecOn with
      | _ ms38 ih38 =>
        intro se r  hm38 hr
        refine w_iload rfl rfl ?_
        refine w_aload rfl rfl ?_
        refine c_getR (t := some L) rfl rfl rfl rfl hn ?_
        refine c_getI rfl (sh_land (by omega)) rfl rfl ?_
        have q14 : 0 ≤ (a L 7).toInt ∧ (a L 7).toInt ≤ 6 := RC.riv hR (by omega)
        refine w_ic_ge rfl (fun c15 => ?_) (fun c15 => ?_)
        · skip
          refine w_iload rfl rfl ?_
          exact wp_iret (z := false) rfl (fun h9 => by cases h9) ⟨rfl, ⟨_, rfl, trivial⟩⟩
        · skip
          refine w_aload rfl rfl ?_
          refine c_getR (t := some 10) rfl rfl rfl rfl rfl ?_
          refine w_iload rfl rfl ?_
          refine c_iald rfl rfl (by omega) (fun x16 ex16 => ?_)
          refine w_iload rfl rfl ?_
          refine w_ic_ne rfl (fun c17 => ?_) (fun c17 => ?_)
          · skip
            refine w_aload rfl rfl ?_
            refine c_getR (t := some L) rfl rfl rfl rfl hn ?_
            refine c_getR (t := some (L + 1)) rfl (sh_land (by omega)) rfl rfl (rC_land0 (by omega)) ?_
            refine w_iload rfl rfl ?_
            refine c_aald5 (t := some ((L + 1) + 11 + 2 * r.toInt.toNat)) rfl (sh_row (by omega)) (by omega) (rC_row (by omega)) ?_
            refine c_getI rfl (sh_riv (by omega)) rfl rfl ?_
            refine w_iload rfl rfl ?_
            refine w_ic_lt rfl (fun c18 => ?_) (fun c18 => ?_)
            · skip
              refine w_iinc (lo' := fun z9 => [some (.inr (.inr (some 9))), some (.inl i), some (.inl j), some (.inl se), some (.inr (.inr (some ((L + 1) + 11 + 2 * i.toInt.toNat)))), some (.inl z9)]) rfl rfl (fun _ => rfl) (by omega) (fun x19 tx19 => ?_)
              refine w_goto rfl ?_
              exact ih38 (6 - x19.toInt).toNat (by omega) se x19 rfl  (by omega)
            · skip
              refine w_iload rfl rfl ?_
              refine w_aload rfl rfl ?_
              refine c_getR (t := some 11) rfl rfl rfl rfl rfl ?_
              refine w_iload rfl rfl ?_
              refine c_iald rfl rfl (by omega) (fun x20 ex20 => ?_)
              have qx20 : 0 ≤ x20.toInt ∧ x20.toInt ≤ 63 := by rw [ex20]; exact RC.who hR _
              refine w_iiE rfl (fun x21 tx21 => ?_)
              refine w_istore (lo' := [some (.inr (.inr (some 9))), some (.inl i), some (.inl j), some (.inl x21), some (.inr (.inr (some ((L + 1) + 11 + 2 * i.toInt.toNat)))), some (.inl r)]) rfl rfl ?_
              refine w_iinc (lo' := fun z9 => [some (.inr (.inr (some 9))), some (.inl i), some (.inl j), some (.inl x21), some (.inr (.inr (some ((L + 1) + 11 + 2 * i.toInt.toNat)))), some (.inl z9)]) rfl rfl (fun _ => rfl) (by omega) (fun x22 tx22 => ?_)
              refine w_goto rfl ?_
              exact ih38 (6 - x22.toInt).toNat (by omega) x21 x22 rfl  (by omega)
          · skip
            refine w_iinc (lo' := fun z9 => [some (.inr (.inr (some 9))), some (.inl i), some (.inl j), some (.inl se), some (.inr (.inr (some ((L + 1) + 11 + 2 * i.toInt.toNat)))), some (.inl z9)]) rfl rfl (fun _ => rfl) (by omega) (fun x23 tx23 => ?_)
            refine w_goto rfl ?_
            exact ih38 (6 - x23.toInt).toNat (by omega) se x23 rfl  (by omega)
    exact loop38 _ x1 0 rfl  (by omega)
set_option maxRecDepth 4000 in
theorem s_X5_dryMills {K : Nat} (a : Nat → Nat → Int32) (b : Nat → Nat → Int64) (v : Nat → Option Nat) (L : Nat) (i : Int32) (hR : RC K a) (hn : v 5 = some L) (hL : L = 22 ∨ L = 46) : f_call mtC 2 38 [.inr (.inr (some 9)), .inl i] (cH a b v) (fun v9 h' => h' = cH a b v ∧ ∃ x : Int32, v9 = some (.inl x) ∧ True) := by
  refine f_call_of (d0 := 1) rfl (Nat.le_of_ble_eq_true rfl) (fun d hd => ?_)
  show f_wp _ (0, [some (.inr (.inr (some 9))), some (.inl i), none, none, none], [], cH a b v) _
  have lm1 : (-1 : Int32).toInt = -1 := rfl
  have l0 : (0 : Int32).toInt = 0 := rfl
  have l1 : (1 : Int32).toInt = 1 := rfl
  refine w_const rfl ?_
  refine w_istore (lo' := [some (.inr (.inr (some 9))), some (.inl i), some (.inl 0), none, none]) rfl rfl ?_
  refine w_const rfl ?_
  refine w_istore (lo' := [some (.inr (.inr (some 9))), some (.inl i), some (.inl 0), some (.inl 0), none]) rfl rfl ?_
  have loop4 : ∀ (ms9 : Nat) (se : Int32) (r : Int32) (o4_4 : Option f_V), (6 - r.toInt).toNat = ms9 → (0 ≤ r.toInt ∧ r.toInt ≤ 6) → f_wp (f_code (t_X5_dryMills (f_ev mtC d))) (4, [some (.inr (.inr (some 9))), some (.inl i), some (.inl se), some (.inl r), o4_4], [], cH a b v) (fun v9 h' => h' = cH a b v ∧ ∃ x : Int32, v9 = some (.inl x) ∧ True) := by
    intro ms9
    induction ms9 using Nat.strongRecOn with
    | _ ms4 ih4 =>
      intro se r o4_4 hm4 hr
      refine w_iload rfl rfl ?_
      refine w_aload rfl rfl ?_
      refine c_getR (t := some L) rfl rfl rfl rfl hn ?_
      refine c_getI rfl (sh_land (by omega)) rfl rfl ?_
      have q1 : 0 ≤ (a L 7).toInt ∧ (a L 7).toInt ≤ 6 := RC.riv hR (by omega)
      refine w_ic_ge rfl (fun c2 => ?_) (fun c2 => ?_)
      · skip
        refine w_iload rfl rfl ?_
        exact wp_iret (z := false) rfl (fun h9 => by cases h9) ⟨rfl, ⟨_, rfl, trivial⟩⟩
      · skip
        refine w_aload rfl rfl ?_
        refine c_getR (t := some L) rfl rfl rfl rfl hn ?_
        refine c_getR (t := some (L + 1)) rfl (sh_land (by omega)) rfl rfl (rC_land0 (by omega)) ?_
        refine w_iload rfl rfl ?_
        refine c_aald5 (t := some ((L + 1) + 11 + 2 * r.toInt.toNat)) rfl (sh_row (by omega)) (by omega) (rC_row (by omega)) ?_
        refine w_astore (lo' := [some (.inr (.inr (some 9))), some (.inl i), some (.inl se), some (.inl r), some (.inr (.inr (some ((L + 1) + 11 + 2 * r.toInt.toNat))))]) rfl rfl ?_
        refine w_aload rfl rfl ?_
        refine c_getI rfl (sh_riv (by omega)) rfl rfl ?_
        refine w_const rfl ?_
        refine w_ic_eq rfl (fun c3 => ?_) (fun c3 => ?_)
        · skip
          refine w_iinc (lo' := fun z9 => [some (.inr (.inr (some 9))), some (.inl i), some (.inl se), some (.inl z9), some (.inr (.inr (some ((L + 1) + 11 + 2 * r.toInt.toNat))))]) rfl rfl (fun _ => rfl) (by omega) (fun x4 tx4 => ?_)
          refine w_goto rfl ?_
          exact ih4 (6 - x4.toInt).toNat (by omega) se x4 (some (.inr (.inr (some ((L + 1) + 11 + 2 * r.toInt.toNat))))) rfl  (by omega)
        · skip
          refine w_aload rfl rfl ?_
          refine c_getI rfl (sh_riv (by omega)) rfl rfl ?_
          refine w_aload rfl rfl ?_
          refine c_getR (t := some L) rfl rfl rfl rfl hn ?_
          refine w_aload rfl rfl ?_
          refine w_iload rfl rfl ?_
          refine w_aload rfl rfl ?_
          refine c_getI rfl (sh_riv (by omega)) rfl rfl ?_
          refine w_invV (rest := [.inr (.inr (some L)), .inl (a ((L + 1) + 11 + 2 * r.toInt.toNat) 7)]) rfl rfl rfl rfl rfl (Nat.le_of_ble_eq_true rfl) rfl (by omega) (s_X5_waters (K := K) a b v L r (a ((L + 1) + 11 + 2 * r.toInt.toNat) 8) hR  (hn) (by omega) (by omega)) (fun z5 h9 hq6 => ?_)
          obtain ⟨rfl, x7, rfl, px7⟩ := hq6
          show f_wp _ (54, [some (.inr (.inr (some 9))), some (.inl i), some (.inl se), some (.inl r), some (.inr (.inr (some ((L + 1) + 11 + 2 * r.toInt.toNat))))], [.inl x7, .inr (.inr (some L)), .inl (a ((L + 1) + 11 + 2 * r.toInt.toNat) 7)], cH a b v) _
          refine w_iload rfl rfl ?_
          refine w_invV (rest := [.inl (a ((L + 1) + 11 + 2 * r.toInt.toNat) 7)]) rfl rfl (sh_land (by omega)) rfl rfl (Nat.le_of_ble_eq_true rfl) rfl (by omega) (s_X3_water (K := K) a b v  L x7 i hR  (by omega)) (fun z8 h9 hq9 => ?_)
          obtain ⟨rfl, x10, rfl, px10⟩ := hq9
          show f_wp _ (58, [some (.inr (.inr (some 9))), some (.inl i), some (.inl se), some (.inl r), some (.inr (.inr (some ((L + 1) + 11 + 2 * r.toInt.toNat))))], [.inl x10, .inl (a ((L + 1) + 11 + 2 * r.toInt.toNat) 7)], cH a b v) _
          refine w_ic_le rfl (fun c11 => ?_) (fun c11 => ?_)
          · skip
            refine w_iinc (lo' := fun z9 => [some (.inr (.inr (some 9))), some (.inl i), some (.inl se), some (.inl z9), some (.inr (.inr (some ((L + 1) + 11 + 2 * r.toInt.toNat))))]) rfl rfl (fun _ => rfl) (by omega) (fun x12 tx12 => ?_)
            refine w_goto rfl ?_
            exact ih4 (6 - x12.toInt).toNat (by omega) se x12 (some (.inr (.inr (some ((L + 1) + 11 + 2 * r.toInt.toNat))))) rfl  (by omega)
          · skip
            refine w_iload rfl rfl ?_
            refine w_const rfl ?_
            refine w_iload rfl rfl ?_
            refine w_iiE rfl (fun x13 tx13 => ?_)
            refine w_iiE rfl (fun x14 tx14 => ?_)
            refine w_istore (lo' := [some (.inr (.inr (some 9))), some (.inl i), some (.inl x14), some (.inl r), some (.inr (.inr (some ((L + 1) + 11 + 2 * r.toInt.toNat))))]) rfl rfl ?_
            refine w_iinc (lo' := fun z9 => [some (.inr (.inr (some 9))), some (.inl i), some (.inl x14), some (.inl z9), some (.inr (.inr (some ((L + 1) + 11 + 2 * r.toInt.toNat))))]) rfl rfl (fun _ => rfl) (by omega) (fun x15 tx15 => ?_)
            refine w_goto rfl ?_
            exact ih4 (6 - x15.toInt).toNat (by omega) x14 x15 (some (.inr (.inr (some ((L + 1) + 11 + 2 * r.toInt.toNat))))) rfl  (by omega)
  exact loop4 _ 0 0 none rfl  (by omega)
set_option maxRecDepth 4000 in
theorem s_X5_floodedTowns {K : Nat} (a : Nat → Nat → Int32) (b : Nat → Nat → Int64) (v : Nat → Option Nat) (L : Nat) (i : Int32) (hR : RC K a) (hn : v 5 = some L) (hL : L = 22 ∨ L = 46) : f_call mtC 2 39 [.inr (.inr (some 9)), .inl i] (cH a b v) (fun v9 h' => h' = cH a b v ∧ ∃ x : Int32, v9 = some (.inl x) ∧ True) := by
  refine f_call_of (d0 := 1) rfl (Nat.le_of_ble_eq_true rfl) (fun d hd => ?_)
  show f_wp _ (0, [some (.inr (.inr (some 9))), some (.inl i), none, none, none], [], cH a b v) _
  have lm1 : (-1 : Int32).toInt = -1 := rfl
  have l0 : (0 : Int32).toInt = 0 := rfl
  have l1 : (1 : Int32).toInt = 1 := rfl
  refine w_const rfl ?_
  refine w_istore (lo' := [some (.inr (.inr (some 9))), some (.inl i), some (.inl 0), none, none]) rfl rfl ?_
  refine w_const rfl ?_
  refine w_istore (lo' := [some (.inr (.inr (some 9))), some (.inl i), some (.inl 0), some (.inl 0), none]) rfl rfl ?_
  have loop4 : ∀ (ms9 : Nat) (se : Int32) (r : Int32) (o4_4 : Option f_V), (6 - r.toInt).toNat = ms9 → (0 ≤ r.toInt ∧ r.toInt ≤ 6) → f_wp (f_code (t_X5_floodedTowns (f_ev mtC d))) (4, [some (.inr (.inr (some 9))), some (.inl i), some (.inl se), some (.inl r), o4_4], [], cH a b v) (fun v9 h' => h' = cH a b v ∧ ∃ x : Int32, v9 = some (.inl x) ∧ True) := by
    intro ms9
    induction ms9 using Nat.strongRecOn with
    | _ ms4 ih4 =>
      intro se r o4_4 hm4 hr
      refine w_iload rfl rfl ?_
      refine w_aload rfl rfl ?_
      refine c_getR (t := some L) rfl rfl rfl rfl hn ?_
      refine c_getI rfl (sh_land (by omega)) rfl rfl ?_
      have q1 : 0 ≤ (a L 7).toInt ∧ (a L 7).toInt ≤ 6 := RC.riv hR (by omega)
      refine w_ic_ge rfl (fun c2 => ?_) (fun c2 => ?_)
      · skip
        refine w_iload rfl rfl ?_
        exact wp_iret (z := false) rfl (fun h9 => by cases h9) ⟨rfl, ⟨_, rfl, trivial⟩⟩
      · skip
        refine w_aload rfl rfl ?_
        refine c_getR (t := some L) rfl rfl rfl rfl hn ?_
        refine c_getR (t := some (L + 1)) rfl (sh_land (by omega)) rfl rfl (rC_land0 (by omega)) ?_
        refine w_iload rfl rfl ?_
        refine c_aald5 (t := some ((L + 1) + 11 + 2 * r.toInt.toNat)) rfl (sh_row (by omega)) (by omega) (rC_row (by omega)) ?_
        refine w_astore (lo' := [some (.inr (.inr (some 9))), some (.inl i), some (.inl se), some (.inl r), some (.inr (.inr (some ((L + 1) + 11 + 2 * r.toInt.toNat))))]) rfl rfl ?_
        refine w_aload rfl rfl ?_
        refine c_getI rfl (sh_riv (by omega)) rfl rfl ?_
        refine w_const rfl ?_
        refine w_ic_eq rfl (fun c3 => ?_) (fun c3 => ?_)
        · skip
          refine w_iinc (lo' := fun z9 => [some (.inr (.inr (some 9))), some (.inl i), some (.inl se), some (.inl z9), some (.inr (.inr (some ((L + 1) + 11 + 2 * r.toInt.toNat))))]) rfl rfl (fun _ => rfl) (by omega) (fun x4 tx4 => ?_)
          refine w_goto rfl ?_
          exact ih4 (6 - x4.toInt).toNat (by omega) se x4 (some (.inr (.inr (some ((L + 1) + 11 + 2 * r.toInt.toNat))))) rfl  (by omega)
        · skip
          refine w_aload rfl rfl ?_
          refine c_getI rfl (sh_riv (by omega)) rfl rfl ?_
          refine w_aload rfl rfl ?_
          refine c_getR (t := some L) rfl rfl rfl rfl hn ?_
          refine w_aload rfl rfl ?_
          refine w_iload rfl rfl ?_
          refine w_aload rfl rfl ?_
          refine c_getI rfl (sh_riv (by omega)) rfl rfl ?_
          refine w_invV (rest := [.inr (.inr (some L)), .inl (a ((L + 1) + 11 + 2 * r.toInt.toNat) 9)]) rfl rfl rfl rfl rfl (Nat.le_of_ble_eq_true rfl) rfl (by omega) (s_X5_waters (K := K) a b v L r (a ((L + 1) + 11 + 2 * r.toInt.toNat) 10) hR  (hn) (by omega) (by omega)) (fun z5 h9 hq6 => ?_)
          obtain ⟨rfl, x7, rfl, px7⟩ := hq6
          show f_wp _ (54, [some (.inr (.inr (some 9))), some (.inl i), some (.inl se), some (.inl r), some (.inr (.inr (some ((L + 1) + 11 + 2 * r.toInt.toNat))))], [.inl x7, .inr (.inr (some L)), .inl (a ((L + 1) + 11 + 2 * r.toInt.toNat) 9)], cH a b v) _
          refine w_iload rfl rfl ?_
          refine w_invV (rest := [.inl (a ((L + 1) + 11 + 2 * r.toInt.toNat) 9)]) rfl rfl (sh_land (by omega)) rfl rfl (Nat.le_of_ble_eq_true rfl) rfl (by omega) (s_X3_water (K := K) a b v  L x7 i hR  (by omega)) (fun z8 h9 hq9 => ?_)
          obtain ⟨rfl, x10, rfl, px10⟩ := hq9
          show f_wp _ (58, [some (.inr (.inr (some 9))), some (.inl i), some (.inl se), some (.inl r), some (.inr (.inr (some ((L + 1) + 11 + 2 * r.toInt.toNat))))], [.inl x10, .inl (a ((L + 1) + 11 + 2 * r.toInt.toNat) 9)], cH a b v) _
          refine w_ic_ge rfl (fun c11 => ?_) (fun c11 => ?_)
          · skip
            refine w_iinc (lo' := fun z9 => [some (.inr (.inr (some 9))), some (.inl i), some (.inl se), some (.inl z9), some (.inr (.inr (some ((L + 1) + 11 + 2 * r.toInt.toNat))))]) rfl rfl (fun _ => rfl) (by omega) (fun x12 tx12 => ?_)
            refine w_goto rfl ?_
            exact ih4 (6 - x12.toInt).toNat (by omega) se x12 (some (.inr (.inr (some ((L + 1) + 11 + 2 * r.toInt.toNat))))) rfl  (by omega)
          · skip
            refine w_iload rfl rfl ?_
            refine w_const rfl ?_
            refine w_iload rfl rfl ?_
            refine w_iiE rfl (fun x13 tx13 => ?_)
            refine w_iiE rfl (fun x14 tx14 => ?_)
            refine w_istore (lo' := [some (.inr (.inr (some 9))), some (.inl i), some (.inl x14), some (.inl r), some (.inr (.inr (some ((L + 1) + 11 + 2 * r.toInt.toNat))))]) rfl rfl ?_
            refine w_iinc (lo' := fun z9 => [some (.inr (.inr (some 9))), some (.inl i), some (.inl x14), some (.inl z9), some (.inr (.inr (some ((L + 1) + 11 + 2 * r.toInt.toNat))))]) rfl rfl (fun _ => rfl) (by omega) (fun x15 tx15 => ?_)
            refine w_goto rfl ?_
            exact ih4 (6 - x15.toInt).toNat (by omega) x14 x15 (some (.inr (.inr (some ((L + 1) + 11 + 2 * r.toInt.toNat))))) rfl  (by omega)
  exact loop4 _ 0 0 none rfl  (by omega)
set_option maxRecDepth 4000 in
theorem s_X5_isNeedy {K : Nat} (a : Nat → Nat → Int32) (b : Nat → Nat → Int64) (v : Nat → Option Nat) (L : Nat) (i : Int32) (hR : RC K a) (hn : v 5 = some L) (hL : L = 22 ∨ L = 46) : f_call mtC 3 40 [.inr (.inr (some 9)), .inl i] (cH a b v) (fun v9 h' => h' = cH a b v ∧ ∃ x : Int32, v9 = some (.inl x) ∧ (x.toInt = 0 ∨ x.toInt = 1)) := by
  refine f_call_of (d0 := 2) rfl (Nat.le_of_ble_eq_true rfl) (fun d hd => ?_)
  show f_wp _ (0, [some (.inr (.inr (some 9))), some (.inl i)], [], cH a b v) _
  have l0 : (0 : Int32).toInt = 0 := rfl
  have l1 : (1 : Int32).toInt = 1 := rfl
  refine w_aload rfl rfl ?_
  refine w_iload rfl rfl ?_
  refine w_invV (rest := []) rfl rfl rfl rfl rfl (Nat.le_of_ble_eq_true rfl) rfl (by omega) (s_X5_dryMills (K := K) a b v L i hR  (hn) (by omega)) (fun z1 h9 hq2 => ?_)
  obtain ⟨rfl, x3, rfl, px3⟩ := hq2
  show f_wp _ (5, [some (.inr (.inr (some 9))), some (.inl i)], [.inl x3], cH a b v) _
  refine w_if_ne rfl (fun c4 => ?_) (fun c4 => ?_)
  · skip
    refine w_aload rfl rfl ?_
    refine w_iload rfl rfl ?_
    refine w_invV (rest := []) rfl rfl rfl rfl rfl (Nat.le_of_ble_eq_true rfl) rfl (by omega) (s_X5_floodedTowns (K := K) a b v L i hR  (hn) (by omega)) (fun z5 h9 hq6 => ?_)
    obtain ⟨rfl, x7, rfl, px7⟩ := hq6
    show f_wp _ (13, [some (.inr (.inr (some 9))), some (.inl i)], [.inl x7], cH a b v) _
    refine w_if_eq rfl (fun c8 => ?_) (fun c8 => ?_)
    · skip
      refine w_const rfl ?_
      exact wp_iret (z := true) rfl (fun _ => by first | exact Or.inl rfl | exact Or.inr rfl | (rcases (by omega : (0 : Int32).toInt = 0 ∨ (0 : Int32).toInt = 1) with h8 | h8; exact Or.inl (ti_eq h8); exact Or.inr (ti_eq h8))) ⟨rfl, ⟨_, rfl, by omega⟩⟩
    · skip
      refine w_const rfl ?_
      refine w_goto rfl ?_
      exact wp_iret (z := true) rfl (fun _ => by first | exact Or.inl rfl | exact Or.inr rfl | (rcases (by omega : (1 : Int32).toInt = 0 ∨ (1 : Int32).toInt = 1) with h8 | h8; exact Or.inl (ti_eq h8); exact Or.inr (ti_eq h8))) ⟨rfl, ⟨_, rfl, by omega⟩⟩
  · skip
    refine w_const rfl ?_
    refine w_goto rfl ?_
    exact wp_iret (z := true) rfl (fun _ => by first | exact Or.inl rfl | exact Or.inr rfl | (rcases (by omega : (1 : Int32).toInt = 0 ∨ (1 : Int32).toInt = 1) with h8 | h8; exact Or.inl (ti_eq h8); exact Or.inr (ti_eq h8))) ⟨rfl, ⟨_, rfl, by omega⟩⟩
set_option maxRecDepth 4000 in
theorem s_X5_lay {K : Nat} (a : Nat → Nat → Int32) (b : Nat → Nat → Int64) (v : Nat → Option Nat) (L : Nat) (s : Nat) (hR : RC K a) (hL : L = 22 ∨ L = 46) (hS : 70 ≤ s ∧ s < 238 ∧ s % 8 = 7) : f_call mtC 3 30 [.inr (.inr (some 9)), .inr (.inr (some L)), .inr (.inr (some s))] (cH a b v) (fun v9 h' => ∃ (a' : Nat → Nat → Int32) (v' : Nat → Option Nat), h' = cH a' b v' ∧ RC K a' ∧ (FR [10, 11] a a' ∧ ((∀ i, i ∉ [5] → v' i = v i) ∧ v' 5 = some L) ∧ True) ∧ v9 = none) := by
  refine f_call_of (d0 := 2) rfl (Nat.le_of_ble_eq_true rfl) (fun d hd => ?_)
  show f_wp _ (0, [some (.inr (.inr (some 9))), some (.inr (.inr (some L))), some (.inr (.inr (some s))), none], [], cH a b v) _
  have lm1 : (-1 : Int32).toInt = -1 := rfl
  have l0 : (0 : Int32).toInt = 0 := rfl
  have l1 : (1 : Int32).toInt = 1 := rfl
  have l4 : (4 : Int32).toInt = 4 := rfl
  have l6 : (6 : Int32).toInt = 6 := rfl
  have l8 : (8 : Int32).toInt = 8 := rfl
  have l16 : (16 : Int32).toInt = 16 := rfl
  have l31 : (31 : Int32).toInt = 31 := rfl
  have l384 : (384 : Int32).toInt = 384 := rfl
  have l1000 : (1000 : Int32).toInt = 1000 := rfl
  refine w_aload rfl rfl ?_
  refine w_aload rfl rfl ?_
  refine w_invV (rest := []) rfl rfl rfl rfl rfl (Nat.le_of_ble_eq_true rfl) rfl (by omega) (s_X5_clear (K := K) a b v  L hR  (by omega)) (fun z1 h9 hq2 => ?_)
  obtain ⟨a3, v4, rfl, ha3, fa3, rfl⟩ := hq2
  show f_wp _ (5, [some (.inr (.inr (some 9))), some (.inr (.inr (some L))), some (.inr (.inr (some s))), none], [], cH a3 b v4) _
  refine w_const rfl ?_
  refine w_istore (lo' := [some (.inr (.inr (some 9))), some (.inr (.inr (some L))), some (.inr (.inr (some s))), some (.inl 0)]) rfl rfl ?_
  have loop7 : ∀ (ms9 : Nat) (r : Int32) (a7 : Nat → Nat → Int32) , (6 - r.toInt).toNat = ms9 → RC K a7 → FR [10, 11] a a7 → (0 ≤ r.toInt ∧ r.toInt ≤ 6) → f_wp (f_code (t_X5_lay (f_ev mtC d))) (7, [some (.inr (.inr (some 9))), some (.inr (.inr (some L))), some (.inr (.inr (some s))), some (.inl r)], [], cH a7 b v4) (fun v9 h' => ∃ (a' : Nat → Nat → Int32) (v' : Nat → Option Nat), h' = cH a' b v' ∧ RC K a' ∧ (FR [10, 11] a a' ∧ ((∀ i, i ∉ [5] → v' i = v i) ∧ v' 5 = some L) ∧ True) ∧ v9 = none) := by
    intro ms9
    induction ms9 using Nat.strongRecOn with
    | _ ms7 ih7 =>
      intro r a7  hm7 hR7 hF7 hr
      refine w_iload rfl rfl ?_
      refine w_aload rfl rfl ?_
      refine c_getI rfl (sh_land (by omega)) rfl rfl ?_
      have q5 : 0 ≤ (a7 L 7).toInt ∧ (a7 L 7).toInt ≤ 6 := RC.riv hR7 (by omega)
      refine w_ic_ge rfl (fun c6 => ?_) (fun c6 => ?_)
      · skip
        exact w_ret rfl ⟨a7, v4, rfl, hR7, ⟨hF7, ⟨fun i9 h9 => (fa3.2.1.1 i9 (fun z9 => h9 (by first | exact z9 | (revert z9; simp; done) | (revert z9; simp; omega)))).trans ((show ∀ i9, i9 ∉ [5] → v i9 = v i9 from (fun _ _ => rfl)) i9 h9), fa3.2.1.2⟩, trivial⟩, rfl⟩
      · skip
        refine w_iload rfl rfl ?_
        refine w_aload rfl rfl ?_
        refine c_alen (N := 6) rfl (sh_sa6 (by omega)) (by decide) ?_
        show f_wp _ (18, [some (.inr (.inr (some 9))), some (.inr (.inr (some L))), some (.inr (.inr (some s))), some (.inl r)], .inl 6 :: [.inl r], cH a7 b v4) _
        refine w_ic_ge rfl (fun c7 => ?_) (fun c7 => ?_)
        · skip
          exact w_ret rfl ⟨a7, v4, rfl, hR7, ⟨hF7, ⟨fun i9 h9 => (fa3.2.1.1 i9 (fun z9 => h9 (by first | exact z9 | (revert z9; simp; done) | (revert z9; simp; omega)))).trans ((show ∀ i9, i9 ∉ [5] → v i9 = v i9 from (fun _ _ => rfl)) i9 h9), fa3.2.1.2⟩, trivial⟩, rfl⟩
        · skip
          refine w_aload rfl rfl ?_
          refine w_iload rfl rfl ?_
          refine c_iald rfl (sh_sa6 (by omega)) (by omega) (fun x8 ex8 => ?_)
          have qx8 : -1 ≤ x8.toInt ∧ x8.toInt ≤ 5 := by rw [ex8]; exact RC.hus hR7 _ (by omega)
          refine w_const rfl ?_
          refine w_ic_eq rfl (fun c9 => ?_) (fun c9 => ?_)
          · skip
            refine w_iinc (lo' := fun z9 => [some (.inr (.inr (some 9))), some (.inr (.inr (some L))), some (.inr (.inr (some s))), some (.inl z9)]) rfl rfl (fun _ => rfl) (by omega) (fun x10 tx10 => ?_)
            refine w_goto rfl ?_
            exact ih7 (6 - x10.toInt).toNat (by omega) x10 a7 rfl hR7 (hF7) (by omega)
          · skip
            refine w_aload rfl rfl ?_
            refine w_iload rfl rfl ?_
            refine w_aload rfl rfl ?_
            refine w_iload rfl rfl ?_
            refine c_iald rfl (sh_sa6 (by omega)) (by omega) (fun x11 ex11 => ?_)
            have qx11 : -1 ≤ x11.toInt ∧ x11.toInt ≤ 5 := by rw [ex11]; exact RC.hus hR7 _ (by omega)
            refine w_invV (rest := []) rfl rfl rfl rfl rfl (Nat.le_of_ble_eq_true rfl) rfl (by omega) (s_X5_join (K := K) a7 b v4 L r x11 hR7  (fa3.2.1.2) (by omega)) (fun z12 h9 hq13 => ?_)
            obtain ⟨a14, rfl, ha14, fa14, rfl⟩ := hq13
            show f_wp _ (36, [some (.inr (.inr (some 9))), some (.inr (.inr (some L))), some (.inr (.inr (some s))), some (.inl r)], [], cH a14 b v4) _
            refine w_iinc (lo' := fun z9 => [some (.inr (.inr (some 9))), some (.inr (.inr (some L))), some (.inr (.inr (some s))), some (.inl z9)]) rfl rfl (fun _ => rfl) (by omega) (fun x15 tx15 => ?_)
            refine w_goto rfl ?_
            exact ih7 (6 - x15.toInt).toNat (by omega) x15 a14 rfl ha14 (FR.tr (hF7) (FR.sub fa14.1 (by first | exact (fun _ h9 => h9) | decide | (intro c9 h9; simp only [List.mem_cons, List.not_mem_nil, or_false] at h9 ⊢; omega) | (intro c9 h9; simp at h9; simp [cA]; omega) | (intro c9 h9; simp at h9; simp [cB]; omega) | (intro c9 h9; simp [cA] at h9; simp [cB]; omega)))) (by omega)
  exact loop7 _ 0 a3 rfl ha3 (FR.tr (FR.rf) (FR.sub fa3.1 (by first | exact (fun _ h9 => h9) | decide | (intro c9 h9; simp only [List.mem_cons, List.not_mem_nil, or_false] at h9 ⊢; omega) | (intro c9 h9; simp at h9; simp [cA]; omega) | (intro c9 h9; simp at h9; simp [cB]; omega) | (intro c9 h9; simp [cA] at h9; simp [cB]; omega)))) (by omega)
set_option maxRecDepth 4000 in
theorem s_X9_clear {K : Nat} (a : Nat → Nat → Int32) (b : Nat → Nat → Int64) (v : Nat → Option Nat) (s : Nat) (hR : RC K a) (hS : 70 ≤ s ∧ s < 238 ∧ s % 8 = 6) : f_call mtC 1 91 [.inr (.inr (some s))] (cH a b v) (fun v9 h' => ∃ (a' : Nat → Nat → Int32), h' = cH a' b v ∧ RC K a' ∧ (FR [s, s + 1, s + 2, s + 3] a a' ∧ True) ∧ v9 = none) := by
  refine f_call_of (d0 := 0) rfl (Nat.le_of_ble_eq_true rfl) (fun d hd => ?_)
  show f_wp _ (0, [some (.inr (.inr (some s))), none], [], cH a b v) _
  have lm1 : (-1 : Int32).toInt = -1 := rfl
  have l0 : (0 : Int32).toInt = 0 := rfl
  have l1 : (1 : Int32).toInt = 1 := rfl
  have l6 : (6 : Int32).toInt = 6 := rfl
  refine w_const rfl ?_
  refine w_istore (lo' := [some (.inr (.inr (some s))), some (.inl 0)]) rfl rfl ?_
  have loop2 : ∀ (ms9 : Nat) (r : Int32) (a2 : Nat → Nat → Int32) , (6 - r.toInt).toNat = ms9 → RC K a2 → FR [s, s + 1, s + 2, s + 3] a a2 → (0 ≤ r.toInt ∧ r.toInt ≤ 6) → f_wp (f_code (t_X9_clear (f_ev mtC d))) (2, [some (.inr (.inr (some s))), some (.inl r)], [], cH a2 b v) (fun v9 h' => ∃ (a' : Nat → Nat → Int32), h' = cH a' b v ∧ RC K a' ∧ (FR [s, s + 1, s + 2, s + 3] a a' ∧ True) ∧ v9 = none) := by
    intro ms9
    induction ms9 using Nat.strongRecOn with
    | _ ms2 ih2 =>
      intro r a2  hm2 hR2 hF2 hr
      refine w_iload rfl rfl ?_
      refine w_const rfl ?_
      refine w_ic_ge rfl (fun c1 => ?_) (fun c1 => ?_)
      · skip
        refine w_aload rfl rfl ?_
        refine w_const rfl ?_
        refine c_putI (z := false) rfl (sh_sta (by omega)) rfl rfl (by first | (intro h9; cases h9; done) | (intro _; first | exact Or.inl rfl | exact Or.inr rfl | assumption | (rcases (by omega : (0 : Int32).toInt = 0 ∨ (0 : Int32).toInt = 1) with h8 | h8; exact Or.inl (ti_eq h8); exact Or.inr (ti_eq h8)))) (fun a2 ea2 => ?_)
        have ha2 : RC K a2 := RC.up hR2 ea2 (lc_pas (by omega) (by omega))
        have ua2 : a2 s 7 = (0 : Int32) := by rw [ea2, mU_same]
        have wa2 := congrArg Int32.toInt ua2
        refine w_aload rfl rfl ?_
        refine w_const rfl ?_
        refine c_putI (z := false) rfl (sh_sta (by omega)) rfl rfl (by first | (intro h9; cases h9; done) | (intro _; first | exact Or.inl rfl | exact Or.inr rfl | assumption | (rcases (by omega : ((-1) : Int32).toInt = 0 ∨ ((-1) : Int32).toInt = 1) with h8 | h8; exact Or.inl (ti_eq h8); exact Or.inr (ti_eq h8)))) (fun a3 ea3 => ?_)
        have ha3 : RC K a3 := RC.up ha2 ea3 (lc_hei (by omega) (by omega))
        have ua3 : a3 s 8 = ((-1) : Int32) := by rw [ea3, mU_same]
        have wa3 := congrArg Int32.toInt ua3
        refine w_aload rfl rfl ?_
        refine w_const rfl ?_
        refine c_putI (z := false) rfl (sh_sta (by omega)) rfl rfl (by first | (intro h9; cases h9; done) | (intro _; first | exact Or.inl rfl | exact Or.inr rfl | assumption | (rcases (by omega : (0 : Int32).toInt = 0 ∨ (0 : Int32).toInt = 1) with h8 | h8; exact Or.inl (ti_eq h8); exact Or.inr (ti_eq h8)))) (fun a4 ea4 => ?_)
        have ha4 : RC K a4 := RC.up ha3 ea4 (lc_tol (by omega) (by omega))
        have ua4 : a4 s 9 = (0 : Int32) := by rw [ea4, mU_same]
        have wa4 := congrArg Int32.toInt ua4
        exact w_ret rfl ⟨a4, rfl, ha4, ⟨FR.up (FR.up (FR.up (hF2) (by first | decide | simp | (simp [cA]; omega) | (simp [cB]; omega)) ea2) (by first | decide | simp | (simp [cA]; omega) | (simp [cB]; omega)) ea3) (by first | decide | simp | (simp [cA]; omega) | (simp [cB]; omega)) ea4, trivial⟩, rfl⟩
      · skip
        refine w_aload rfl rfl ?_
        refine c_getR (t := some (s + 1)) rfl (sh_sta (by omega)) rfl rfl (rC_sta0 (by omega)) ?_
        refine w_iload rfl rfl ?_
        refine w_const rfl ?_
        refine c_iast rfl (sh_sa6 (by omega)) (by omega) (fun a5 ea5 => ?_)
        have ha5 : RC K a5 := RC.up hR2 ea5 (lc_hus (by omega) (by omega))
        refine w_aload rfl rfl ?_
        refine c_getR (t := some (s + 2)) rfl (sh_sta (by omega)) rfl rfl (rC_sta1 (by omega)) ?_
        refine w_iload rfl rfl ?_
        refine w_const rfl ?_
        refine c_iast rfl (sh_sa6 (by omega)) (by omega) (fun a6 ea6 => ?_)
        have ha6 : RC K a6 := RC.up ha5 ea6 (lc_any _ (by omega))
        refine w_aload rfl rfl ?_
        refine c_getR (t := some (s + 3)) rfl (sh_sta (by omega)) rfl rfl (rC_sta2 (by omega)) ?_
        refine w_iload rfl rfl ?_
        refine w_const rfl ?_
        refine c_iast rfl (sh_sa6 (by omega)) (by omega) (fun a7 ea7 => ?_)
        have ha7 : RC K a7 := RC.up ha6 ea7 (lc_any _ (by omega))
        refine w_iinc (lo' := fun z9 => [some (.inr (.inr (some s))), some (.inl z9)]) rfl rfl (fun _ => rfl) (by omega) (fun x8 tx8 => ?_)
        refine w_goto rfl ?_
        exact ih2 (6 - x8.toInt).toNat (by omega) x8 a7 rfl ha7 (FR.up (FR.up (FR.up (hF2) (by first | decide | simp | (simp [cA]; omega) | (simp [cB]; omega)) ea5) (by first | decide | simp | (simp [cA]; omega) | (simp [cB]; omega)) ea6) (by first | decide | simp | (simp [cA]; omega) | (simp [cB]; omega)) ea7) (by omega)
  exact loop2 _ 0 a rfl hR (FR.rf) (by omega)
set_option maxHeartbeats 2000000 in
set_option maxRecDepth 4000 in
theorem s_X9_takeBonds {K : Nat} (a : Nat → Nat → Int32) (b : Nat → Nat → Int64) (v : Nat → Option Nat) (s : Nat) (p : Nat) (hR : RC K a) (hS : 70 ≤ s ∧ s < 238 ∧ s % 8 = 6) (hp : 70 ≤ p ∧ p < 238 ∧ p % 8 = 6) : f_call mtC 1 92 [.inr (.inr (some s)), .inr (.inr (some p))] (cH a b v) (fun v9 h' => ∃ (a' : Nat → Nat → Int32), h' = cH a' b v ∧ RC K a' ∧ (FR [s, s + 1, s + 2, s + 3] a a' ∧ True) ∧ v9 = none) := by
  refine f_call_of (d0 := 0) rfl (Nat.le_of_ble_eq_true rfl) (fun d hd => ?_)
  show f_wp _ (0, [some (.inr (.inr (some s))), some (.inr (.inr (some p)))], [], cH a b v) _
  have l0 : (0 : Int32).toInt = 0 := rfl
  have l6 : (6 : Int32).toInt = 6 := rfl
  refine w_aload rfl rfl ?_
  refine c_getR (t := some (p + 1)) rfl (sh_sta (by omega)) rfl rfl (rC_sta0 (by omega)) ?_
  refine w_const rfl ?_
  refine w_aload rfl rfl ?_
  refine c_getR (t := some (s + 1)) rfl (sh_sta (by omega)) rfl rfl (rC_sta0 (by omega)) ?_
  refine w_const rfl ?_
  refine w_const rfl ?_
  refine c_copy (x := (p + 1)) (y := (s + 1)) rfl (sh_sa6 (by omega)) (sh_sa6 (by omega)) rfl (Nat.le_of_ble_eq_true rfl) (fun a1 na1 ma1 oa1 => ?_)
  have ha1 : RC K a1 := RC.cps hR na1 ma1 oa1 (by omega)
  show f_wp _ (15, [some (.inr (.inr (some s))), some (.inr (.inr (some p)))], [], cH a1 b v) _
  refine w_aload rfl rfl ?_
  refine c_getR (t := some (p + 2)) rfl (sh_sta (by omega)) rfl rfl (rC_sta1 (by omega)) ?_
  refine w_const rfl ?_
  refine w_aload rfl rfl ?_
  refine c_getR (t := some (s + 2)) rfl (sh_sta (by omega)) rfl rfl (rC_sta1 (by omega)) ?_
  refine w_const rfl ?_
  refine w_const rfl ?_
  refine c_copy (x := (p + 2)) (y := (s + 2)) rfl (sh_sa6 (by omega)) (sh_sa6 (by omega)) rfl (Nat.le_of_ble_eq_true rfl) (fun a2 na2 ma2 oa2 => ?_)
  have ha2 : RC K a2 := RC.cps ha1 na2 ma2 oa2 (by omega)
  show f_wp _ (30, [some (.inr (.inr (some s))), some (.inr (.inr (some p)))], [], cH a2 b v) _
  refine w_aload rfl rfl ?_
  refine c_getR (t := some (p + 3)) rfl (sh_sta (by omega)) rfl rfl (rC_sta2 (by omega)) ?_
  refine w_const rfl ?_
  refine w_aload rfl rfl ?_
  refine c_getR (t := some (s + 3)) rfl (sh_sta (by omega)) rfl rfl (rC_sta2 (by omega)) ?_
  refine w_const rfl ?_
  refine w_const rfl ?_
  refine c_copy (x := (p + 3)) (y := (s + 3)) rfl (sh_sa6 (by omega)) (sh_sa6 (by omega)) rfl (Nat.le_of_ble_eq_true rfl) (fun a3 na3 ma3 oa3 => ?_)
  have ha3 : RC K a3 := RC.cps ha2 na3 ma3 oa3 (by omega)
  show f_wp _ (45, [some (.inr (.inr (some s))), some (.inr (.inr (some p)))], [], cH a3 b v) _
  refine w_aload rfl rfl ?_
  refine w_aload rfl rfl ?_
  refine c_getI rfl (sh_sta (by omega)) rfl rfl ?_
  have q4 : 0 ≤ (a3 p 7).toInt ∧ (a3 p 7).toInt ≤ 100 * K ∧ (a3 p 7).toInt ≤ 1000000 := RC.pas ha3 (by omega)
  refine c_putI (z := false) rfl (sh_sta (by omega)) rfl rfl (by first | (intro h9; cases h9; done) | (intro _; first | exact Or.inl rfl | exact Or.inr rfl | assumption | (rcases (by omega : (a3 p 7).toInt = 0 ∨ (a3 p 7).toInt = 1) with h8 | h8; exact Or.inl (ti_eq h8); exact Or.inr (ti_eq h8)))) (fun a5 ea5 => ?_)
  have ha5 : RC K a5 := RC.up ha3 ea5 (lc_pas (by omega) (by omega))
  have ua5 : a5 s 7 = (a3 p 7) := by rw [ea5, mU_same]
  have wa5 := congrArg Int32.toInt ua5
  exact w_ret rfl ⟨a5, rfl, ha5, ⟨FR.up (FR.cp (FR.cp (FR.cp (FR.rf) (by first | decide | simp | (simp [cA]; omega) | (simp [cB]; omega)) na1) (by first | decide | simp | (simp [cA]; omega) | (simp [cB]; omega)) na2) (by first | decide | simp | (simp [cA]; omega) | (simp [cB]; omega)) na3) (by first | decide | simp | (simp [cA]; omega) | (simp [cB]; omega)) ea5, trivial⟩, rfl⟩
set_option maxHeartbeats 2000000 in
set_option maxRecDepth 4000 in
theorem s_X9_takeAll {K : Nat} (a : Nat → Nat → Int32) (b : Nat → Nat → Int64) (v : Nat → Option Nat) (s : Nat) (p : Nat) (hR : RC K a) (hS : 70 ≤ s ∧ s < 238 ∧ s % 8 = 6) (hp : 70 ≤ p ∧ p < 238 ∧ p % 8 = 6) : f_call mtC 2 93 [.inr (.inr (some s)), .inr (.inr (some p))] (cH a b v) (fun v9 h' => ∃ (a' : Nat → Nat → Int32), h' = cH a' b v ∧ RC K a' ∧ (FR [s, s + 1, s + 2, s + 3, s + 4, s + 5, s + 6, s + 7] a a' ∧ True) ∧ v9 = none) := by
  refine f_call_of (d0 := 1) rfl (Nat.le_of_ble_eq_true rfl) (fun d hd => ?_)
  show f_wp _ (0, [some (.inr (.inr (some s))), some (.inr (.inr (some p)))], [], cH a b v) _
  have l0 : (0 : Int32).toInt = 0 := rfl
  have l6 : (6 : Int32).toInt = 6 := rfl
  have l10 : (10 : Int32).toInt = 10 := rfl
  refine w_aload rfl rfl ?_
  refine w_aload rfl rfl ?_
  refine w_invV (rest := []) rfl rfl (sh_sta (by omega)) rfl rfl (Nat.le_of_ble_eq_true rfl) rfl (by omega) (s_X9_takeBonds (K := K) a b v  s p hR  (by omega) (by omega)) (fun z1 h9 hq2 => ?_)
  obtain ⟨a3, rfl, ha3, fa3, rfl⟩ := hq2
  show f_wp _ (5, [some (.inr (.inr (some s))), some (.inr (.inr (some p)))], [], cH a3 b v) _
  refine w_aload rfl rfl ?_
  refine c_getR (t := some (p + 4)) rfl (sh_sta (by omega)) rfl rfl (rC_sta3 (by omega)) ?_
  refine w_const rfl ?_
  refine w_aload rfl rfl ?_
  refine c_getR (t := some (s + 4)) rfl (sh_sta (by omega)) rfl rfl (rC_sta3 (by omega)) ?_
  refine w_const rfl ?_
  refine w_const rfl ?_
  refine c_copy (x := (p + 4)) (y := (s + 4)) rfl (sh_sa6 (by omega)) (sh_sa6 (by omega)) rfl (Nat.le_of_ble_eq_true rfl) (fun a4 na4 ma4 oa4 => ?_)
  have ha4 : RC K a4 := RC.cps ha3 na4 ma4 oa4 (by omega)
  show f_wp _ (20, [some (.inr (.inr (some s))), some (.inr (.inr (some p)))], [], cH a4 b v) _
  refine w_aload rfl rfl ?_
  refine c_getR (t := some (p + 5)) rfl (sh_sta (by omega)) rfl rfl (rC_sta4 (by omega)) ?_
  refine w_const rfl ?_
  refine w_aload rfl rfl ?_
  refine c_getR (t := some (s + 5)) rfl (sh_sta (by omega)) rfl rfl (rC_sta4 (by omega)) ?_
  refine w_const rfl ?_
  refine w_const rfl ?_
  refine c_copy (x := (p + 5)) (y := (s + 5)) rfl (sh_sa10 (by omega)) (sh_sa10 (by omega)) rfl (Nat.le_of_ble_eq_true rfl) (fun a5 na5 ma5 oa5 => ?_)
  have ha5 : RC K a5 := RC.cps ha4 na5 ma5 oa5 (by omega)
  show f_wp _ (35, [some (.inr (.inr (some s))), some (.inr (.inr (some p)))], [], cH a5 b v) _
  refine w_aload rfl rfl ?_
  refine c_getR (t := some (p + 6)) rfl (sh_sta (by omega)) rfl rfl (rC_sta5 (by omega)) ?_
  refine w_const rfl ?_
  refine w_aload rfl rfl ?_
  refine c_getR (t := some (s + 6)) rfl (sh_sta (by omega)) rfl rfl (rC_sta5 (by omega)) ?_
  refine w_const rfl ?_
  refine w_const rfl ?_
  refine c_copy (x := (p + 6)) (y := (s + 6)) rfl (sh_sa10 (by omega)) (sh_sa10 (by omega)) rfl (Nat.le_of_ble_eq_true rfl) (fun a6 na6 ma6 oa6 => ?_)
  have ha6 : RC K a6 := RC.cps ha5 na6 ma6 oa6 (by omega)
  show f_wp _ (50, [some (.inr (.inr (some s))), some (.inr (.inr (some p)))], [], cH a6 b v) _
  refine w_aload rfl rfl ?_
  refine c_getR (t := some (p + 7)) rfl (sh_sta (by omega)) rfl rfl (rC_sta6 (by omega)) ?_
  refine w_const rfl ?_
  refine w_aload rfl rfl ?_
  refine c_getR (t := some (s + 7)) rfl (sh_sta (by omega)) rfl rfl (rC_sta6 (by omega)) ?_
  refine w_const rfl ?_
  refine w_const rfl ?_
  refine c_copy (x := (p + 7)) (y := (s + 7)) rfl (sh_sa10 (by omega)) (sh_sa10 (by omega)) rfl (Nat.le_of_ble_eq_true rfl) (fun a7 na7 ma7 oa7 => ?_)
  have ha7 : RC K a7 := RC.cps ha6 na7 ma7 oa7 (by omega)
  show f_wp _ (65, [some (.inr (.inr (some s))), some (.inr (.inr (some p)))], [], cH a7 b v) _
  refine w_aload rfl rfl ?_
  refine w_aload rfl rfl ?_
  refine c_getI rfl (sh_sta (by omega)) rfl rfl ?_
  have q8 : -1 ≤ (a7 p 8).toInt ∧ (a7 p 8).toInt ≤ 6 := RC.hei ha7 (by omega)
  refine c_putI (z := false) rfl (sh_sta (by omega)) rfl rfl (by first | (intro h9; cases h9; done) | (intro _; first | exact Or.inl rfl | exact Or.inr rfl | assumption | (rcases (by omega : (a7 p 8).toInt = 0 ∨ (a7 p 8).toInt = 1) with h8 | h8; exact Or.inl (ti_eq h8); exact Or.inr (ti_eq h8)))) (fun a9 ea9 => ?_)
  have ha9 : RC K a9 := RC.up ha7 ea9 (lc_hei (by omega) (by omega))
  have ua9 : a9 s 8 = (a7 p 8) := by rw [ea9, mU_same]
  have wa9 := congrArg Int32.toInt ua9
  refine w_aload rfl rfl ?_
  refine w_aload rfl rfl ?_
  refine c_getI rfl (sh_sta (by omega)) rfl rfl ?_
  have q10 : 0 ≤ (a9 p 9).toInt ∧ (a9 p 9).toInt ≤ 10 := RC.tol ha9 (by omega)
  refine c_putI (z := false) rfl (sh_sta (by omega)) rfl rfl (by first | (intro h9; cases h9; done) | (intro _; first | exact Or.inl rfl | exact Or.inr rfl | assumption | (rcases (by omega : (a9 p 9).toInt = 0 ∨ (a9 p 9).toInt = 1) with h8 | h8; exact Or.inl (ti_eq h8); exact Or.inr (ti_eq h8)))) (fun a11 ea11 => ?_)
  have ha11 : RC K a11 := RC.up ha9 ea11 (lc_tol (by omega) (by omega))
  have ua11 : a11 s 9 = (a9 p 9) := by rw [ea11, mU_same]
  have wa11 := congrArg Int32.toInt ua11
  exact w_ret rfl ⟨a11, rfl, ha11, ⟨FR.up (FR.up (FR.cp (FR.cp (FR.cp (FR.cp (FR.tr (FR.rf) (FR.sub fa3.1 (by first | exact (fun _ h9 => h9) | decide | (intro c9 h9; simp only [List.mem_cons, List.not_mem_nil, or_false] at h9 ⊢; omega) | (intro c9 h9; simp at h9; simp [cA]; omega) | (intro c9 h9; simp at h9; simp [cB]; omega) | (intro c9 h9; simp [cA] at h9; simp [cB]; omega)))) (by first | decide | simp | (simp [cA]; omega) | (simp [cB]; omega)) na4) (by first | decide | simp | (simp [cA]; omega) | (simp [cB]; omega)) na5) (by first | decide | simp | (simp [cA]; omega) | (simp [cB]; omega)) na6) (by first | decide | simp | (simp [cA]; omega) | (simp [cB]; omega)) na7) (by first | decide | simp | (simp [cA]; omega) | (simp [cB]; omega)) ea9) (by first | decide | simp | (simp [cA]; omega) | (simp [cB]; omega)) ea11, trivial⟩, rfl⟩
